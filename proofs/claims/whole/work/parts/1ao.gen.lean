def m_X5_wipe (p_len : Int32)  : Option (Int32 × Int32) := some (p_len, (0 : Int32))
theorem ds_X5_wipe : (yX5_wipe).cls ≠ "java/lang/invoke/MethodHandle" ∧ (yX5_wipe).cls ≠ "java/lang/invoke/VarHandle" ∧ (parseMethodDescriptor (yX5_wipe).desc).map (fun d => d.parameters.length) = some 0 := by decide +kernel
set_option maxHeartbeats 4000000 in
set_option maxRecDepth 100000 in
theorem c_X5_wipe (E : En) {as0 ab0 ab1 ab2 ab3 at0 at1 at2 at3 at4 an0 an1 an2 anb0 anb1 ann0 ann1 ap0 ap1 as1 ai0 ai1 ai2 ai3 aj0 aj1 aj2 aj3 : Nat} {s_kept : Int32} {b_points : Int32} {b_near : Int32} {b_loose : Int32} {b_short : Int32} {b_nets : Ar} {b_xs : Ar} {b_ys : Ar} {t_total : Int32} {t_oft : Int32} {t_left : Ar} {t_right : Ar} {t_group : Ar} {t_paired : Ar} {n_total : Int32} {n_planned : Int32} {n_leaps : Ar} {n_onward : Ar} {nb_len : Int32} {nb_sum : Int32} {nb_tries : Ar} {nn_len : Int32} {nn_sum : Int32} {nn_tries : Ar} {p_len : Int32} {p_signs : Ar} {i_points : Int32} {i_near : Int32} {i_loose : Int32} {i_short : Int32} {i_nets : Ar} {i_xs : Ar} {i_ys : Ar} {j_points : Int32} {j_near : Int32} {j_loose : Int32} {j_short : Int32} {j_nets : Ar} {j_xs : Ar} {j_ys : Ar}  {rr : Int32} {q_p_len : Int32} (h : m_X5_wipe p_len = some (rr, q_p_len)) : Ci E yX5_wipe (wU yX5_wipe cX5_wipe 2 (some .int)) (RM 0 0) [.ref as0] (V_S E.2.2 as0 ab0 ab1 ab2 ab3 at0 at1 at2 at3 at4 an0 an1 an2 anb0 anb1 ann0 ann1 ap0 ap1 as1 ai0 ai1 ai2 ai3 aj0 aj1 aj2 aj3 s_kept b_points b_near b_loose b_short b_nets b_xs b_ys t_total t_oft t_left t_right t_group t_paired n_total n_planned n_leaps n_onward nb_len nb_sum nb_tries nn_len nn_sum nn_tries p_len p_signs i_points i_near i_loose i_short i_nets i_xs i_ys j_points j_near j_loose j_short j_nets j_xs j_ys) (V_S E.2.2 as0 ab0 ab1 ab2 ab3 at0 at1 at2 at3 at4 an0 an1 an2 anb0 anb1 ann0 ann1 ap0 ap1 as1 ai0 ai1 ai2 ai3 aj0 aj1 aj2 aj3 s_kept b_points b_near b_loose b_short b_nets b_xs b_ys t_total t_oft t_left t_right t_group t_paired n_total n_planned n_leaps n_onward nb_len nb_sum nb_tries nn_len nn_sum nn_tries q_p_len p_signs i_points i_near i_loose i_short i_nets i_xs i_ys j_points j_near j_loose j_short j_nets j_xs j_ys) rr := by
  refine Ci.of (by decide) (Nat.le_of_ble_eq_true rfl) ?_
  intro x hE C
  subst hE
  have C : CX RX5 cX5_wipe 2 (some .int) x := C
  refine p_locals [0] (lv' := [(0, .ref as0)]) rfl ?_
  unfold m_X5_wipe at h
  refine p_aload_n C dX5_wipe_0 rfl 0 rfl ?_
  refine p_get C dX5_wipe_1 rfl 0 3 inlX5 fl_X5_33 rfl rfl (by decide) rfl rfl ?_
  refine p_getN C dX5_wipe_4 rfl 17 1 inlX3 nf_X5_122 rfl rfl (by decide) rfl rfl ?_
  refine p_istore_n (lv' := [(1, .int p_len), (0, .ref as0)]) C dX5_wipe_7 rfl (by decide) rfl ?_
  refine p_aload_n C dX5_wipe_8 rfl 1 rfl ?_
  refine p_get C dX5_wipe_9 rfl 0 3 inlX5 fl_X5_33 rfl rfl (by decide) rfl rfl ?_
  refine p_iconst (v := (0 : Int32)) C dX5_wipe_12 rfl (by decide) ?_
  refine p_putN (Wd' := (V_S x.1.2.2 as0 ab0 ab1 ab2 ab3 at0 at1 at2 at3 at4 an0 an1 an2 anb0 anb1 ann0 ann1 ap0 ap1 as1 ai0 ai1 ai2 ai3 aj0 aj1 aj2 aj3 s_kept b_points b_near b_loose b_short b_nets b_xs b_ys t_total t_oft t_left t_right t_group t_paired n_total n_planned n_leaps n_onward nb_len nb_sum nb_tries nn_len nn_sum nn_tries ((0 : Int32)) p_signs i_points i_near i_loose i_short i_nets i_xs i_ys j_points j_near j_loose j_short j_nets j_xs j_ys)) (ty := .int) C dX5_wipe_13 rfl 17 1 inlX3 tyX3 tyX3_ok nmX3 nf_X5_122 rfl rfl (by decide) rfl rfl (by decide +kernel) rfl rfl (Nat.le_of_ble_eq_true rfl) rfl ?_
  refine p_iload_n C dX5_wipe_16 rfl 0 rfl ?_
  cases h
  exact p_iret C dX5_wipe_17
def J_X6_addTry_91 (m_tries : Int32) (m_state : Ar) (m_leftOf : Ar) (m_rightOf : Ar) (m_isApart : Ar)  (e0 : Int32) (e1 : Int32) (v3 : Int32) : Option (Int32 × Ar × Ar × Ar) := grd (gI e1 16) (grd (gI m_tries 16) (some (m_tries + ((1 : Int32)), m_leftOf, upd m_rightOf e1.toNatClampNeg e0, upd m_isApart m_tries.toNatClampNeg (vp_nar .boolean v3))))
set_option maxHeartbeats 4000000 in
set_option maxRecDepth 100000 in
theorem tj_X6_addTry_91 {x : Cxt} {am0 am1 am2 am3 am4 am5 am6 am7 am8 am9 am10 am11 am12 am13 am14 : Nat} {m_said : Int32} {m_tries : Int32} {m_state : Ar} {m_images : Ar} {m_isKept : Ar} {m_pad : Ar} {m_leftOf : Ar} {m_rightOf : Ar} {m_isApart : Ar} {m_group : Ar} {m_isPair : Ar} {m_isOne : Ar} {m_order : Ar} {m_rest : Ar} {m_aside : Ar} {m_others : Ar}  {e0 : Int32} {e1 : Int32} {v3 : Int32} {q_m_tries : Int32} {q_m_leftOf : Ar} {q_m_rightOf : Ar} {q_m_isApart : Ar} (C : CX RX6 cX6_addTry 5 none x)  (h : J_X6_addTry_91 m_tries m_state m_leftOf m_rightOf m_isApart e0 e1 v3 = some (q_m_tries, q_m_leftOf, q_m_rightOf, q_m_isApart)) : PT (RM 0 0) 5 x 91 [(0, .ref am0), (3, .int v3)] [.int e0, .int e1, .ref am6] (V_M x.1.2.2 am0 am1 am2 am3 am4 am5 am6 am7 am8 am9 am10 am11 am12 am13 am14 m_said m_tries m_state m_images m_isKept m_pad m_leftOf m_rightOf m_isApart m_group m_isPair m_isOne m_order m_rest m_aside m_others) 0 0 (QV x (V_M x.1.2.2 am0 am1 am2 am3 am4 am5 am6 am7 am8 am9 am10 am11 am12 am13 am14 m_said q_m_tries m_state m_images m_isKept m_pad q_m_leftOf q_m_rightOf q_m_isApart m_group m_isPair m_isOne m_order m_rest m_aside m_others)) := by
  unfold J_X6_addTry_91 at h
  obtain ⟨g1, h⟩ := grd_of h
  refine p_iast (Wd' := (V_M x.1.2.2 am0 am1 am2 am3 am4 am5 am6 am7 am8 am9 am10 am11 am12 am13 am14 m_said m_tries m_state m_images m_isKept m_pad m_leftOf (upd m_rightOf e1.toNatClampNeg e0) m_isApart m_group m_isPair m_isOne m_order m_rest m_aside m_others)) C dX6_addTry_91 rfl 6 rfl g1 rfl ?_
  refine p_aload_n C dX6_addTry_92 rfl 0 rfl ?_
  refine p_get C dX6_addTry_93 rfl 0 7 inlX6 fl_X6_29 rfl rfl (by decide) rfl rfl ?_
  refine p_aload_n C dX6_addTry_96 rfl 0 rfl ?_
  refine p_get C dX6_addTry_97 rfl 0 8 inlX6 fl_X6_72 rfl rfl (by decide) rfl rfl ?_
  refine p_iload_n C dX6_addTry_100 rfl 1 rfl ?_
  obtain ⟨g2, h⟩ := grd_of h
  refine p_zast (Wd' := (V_M x.1.2.2 am0 am1 am2 am3 am4 am5 am6 am7 am8 am9 am10 am11 am12 am13 am14 m_said m_tries m_state m_images m_isKept m_pad m_leftOf (upd m_rightOf e1.toNatClampNeg e0) (upd m_isApart m_tries.toNatClampNeg (vp_nar .boolean v3)) m_group m_isPair m_isOne m_order m_rest m_aside m_others)) C dX6_addTry_101 rfl 7 rfl g2 rfl ?_
  refine p_aload_n C dX6_addTry_102 rfl 0 rfl ?_
  refine p_dup C dX6_addTry_103 rfl rfl ?_
  refine p_get C dX6_addTry_104 rfl 0 8 inlX6 fl_X6_72 rfl rfl (by decide) rfl rfl ?_
  refine p_iconst (v := (1 : Int32)) C dX6_addTry_107 rfl (by decide) ?_
  refine p_iadd C dX6_addTry_108 rfl ?_
  refine p_put (Wd' := (V_M x.1.2.2 am0 am1 am2 am3 am4 am5 am6 am7 am8 am9 am10 am11 am12 am13 am14 m_said (m_tries + ((1 : Int32))) m_state m_images m_isKept m_pad m_leftOf (upd m_rightOf e1.toNatClampNeg e0) (upd m_isApart m_tries.toNatClampNeg (vp_nar .boolean v3)) m_group m_isPair m_isOne m_order m_rest m_aside m_others)) (ty := .int) C dX6_addTry_109 rfl 0 8 inlX6 tyX6 tyX6_ok nmX6 fl_X6_72 rfl rfl (by decide) rfl rfl (by decide +kernel) rfl rfl (Nat.le_of_ble_eq_true rfl) rfl ?_
  cases h
  exact p_vret C dX6_addTry_112
def J_X6_addTry_72 (m_tries : Int32) (m_state : Ar) (m_leftOf : Ar) (m_rightOf : Ar) (m_isApart : Ar)  (e0 : Int32) (e1 : Int32) (v1 : Int32) (v2 : Int32) (v3 : Int32) (v4 : Int32) : Option (Int32 × Ar × Ar × Ar) := grd (gI e1 16) (if v4 = 0 then (J_X6_addTry_91 m_tries m_state (upd m_leftOf e1.toNatClampNeg e0) m_rightOf m_isApart v1 m_tries v3) else (J_X6_addTry_91 m_tries m_state (upd m_leftOf e1.toNatClampNeg e0) m_rightOf m_isApart v2 m_tries v3))
set_option maxHeartbeats 4000000 in
set_option maxRecDepth 100000 in
theorem tj_X6_addTry_72 {x : Cxt} {am0 am1 am2 am3 am4 am5 am6 am7 am8 am9 am10 am11 am12 am13 am14 : Nat} {m_said : Int32} {m_tries : Int32} {m_state : Ar} {m_images : Ar} {m_isKept : Ar} {m_pad : Ar} {m_leftOf : Ar} {m_rightOf : Ar} {m_isApart : Ar} {m_group : Ar} {m_isPair : Ar} {m_isOne : Ar} {m_order : Ar} {m_rest : Ar} {m_aside : Ar} {m_others : Ar}  {e0 : Int32} {e1 : Int32} {v1 : Int32} {v2 : Int32} {v3 : Int32} {v4 : Int32} {q_m_tries : Int32} {q_m_leftOf : Ar} {q_m_rightOf : Ar} {q_m_isApart : Ar} (C : CX RX6 cX6_addTry 5 none x)  (h : J_X6_addTry_72 m_tries m_state m_leftOf m_rightOf m_isApart e0 e1 v1 v2 v3 v4 = some (q_m_tries, q_m_leftOf, q_m_rightOf, q_m_isApart)) : PT (RM 0 0) 5 x 72 [(0, .ref am0), (1, .int v1), (2, .int v2), (3, .int v3), (4, .int v4)] [.int e0, .int e1, .ref am5] (V_M x.1.2.2 am0 am1 am2 am3 am4 am5 am6 am7 am8 am9 am10 am11 am12 am13 am14 m_said m_tries m_state m_images m_isKept m_pad m_leftOf m_rightOf m_isApart m_group m_isPair m_isOne m_order m_rest m_aside m_others) 0 0 (QV x (V_M x.1.2.2 am0 am1 am2 am3 am4 am5 am6 am7 am8 am9 am10 am11 am12 am13 am14 m_said q_m_tries m_state m_images m_isKept m_pad q_m_leftOf q_m_rightOf q_m_isApart m_group m_isPair m_isOne m_order m_rest m_aside m_others)) := by
  unfold J_X6_addTry_72 at h
  obtain ⟨g1, h⟩ := grd_of h
  refine p_iast (Wd' := (V_M x.1.2.2 am0 am1 am2 am3 am4 am5 am6 am7 am8 am9 am10 am11 am12 am13 am14 m_said m_tries m_state m_images m_isKept m_pad (upd m_leftOf e1.toNatClampNeg e0) m_rightOf m_isApart m_group m_isPair m_isOne m_order m_rest m_aside m_others)) C dX6_addTry_72 rfl 5 rfl g1 rfl ?_
  refine p_aload_n C dX6_addTry_73 rfl 0 rfl ?_
  refine p_get C dX6_addTry_74 rfl 0 6 inlX6 fl_X6_26 rfl rfl (by decide) rfl rfl ?_
  refine p_aload_n C dX6_addTry_77 rfl 0 rfl ?_
  refine p_get C dX6_addTry_78 rfl 0 8 inlX6 fl_X6_72 rfl rfl (by decide) rfl rfl ?_
  refine p_iload C dX6_addTry_81 rfl 4 rfl ?_
  refine p_if_eq C dX6_addTry_83 (tgt := 90) (by decide) rfl (fun c2 => ?_) (fun c2 => ?_)
  · have h := if_t c2 h
    refine p_iload_n C dX6_addTry_90 rfl 1 rfl ?_
    refine p_locals [0, 3] (lv' := [(0, .ref am0), (3, .int v3)]) rfl ?_
    exact tj_X6_addTry_91 C  h
  · have h := if_f c2 h
    refine p_iload_n C dX6_addTry_86 rfl 2 rfl ?_
    refine p_goto C dX6_addTry_87 (pc' := 91) (by decide) ?_
    refine p_locals [0, 3] (lv' := [(0, .ref am0), (3, .int v3)]) rfl ?_
    exact tj_X6_addTry_91 C  h
def J_X6_addTry_52 (m_tries : Int32) (m_state : Ar) (m_leftOf : Ar) (m_rightOf : Ar) (m_isApart : Ar)  (e0 : Int32) (v1 : Int32) (v2 : Int32) (v3 : Int32) : Option (Int32 × Ar × Ar × Ar) := if e0 = 0 then (J_X6_addTry_72 m_tries m_state m_leftOf m_rightOf m_isApart v2 m_tries v1 v2 v3 e0) else (J_X6_addTry_72 m_tries m_state m_leftOf m_rightOf m_isApart v1 m_tries v1 v2 v3 e0)
set_option maxHeartbeats 4000000 in
set_option maxRecDepth 100000 in
theorem tj_X6_addTry_52 {x : Cxt} {am0 am1 am2 am3 am4 am5 am6 am7 am8 am9 am10 am11 am12 am13 am14 : Nat} {m_said : Int32} {m_tries : Int32} {m_state : Ar} {m_images : Ar} {m_isKept : Ar} {m_pad : Ar} {m_leftOf : Ar} {m_rightOf : Ar} {m_isApart : Ar} {m_group : Ar} {m_isPair : Ar} {m_isOne : Ar} {m_order : Ar} {m_rest : Ar} {m_aside : Ar} {m_others : Ar}  {e0 : Int32} {v1 : Int32} {v2 : Int32} {v3 : Int32} {q_m_tries : Int32} {q_m_leftOf : Ar} {q_m_rightOf : Ar} {q_m_isApart : Ar} (C : CX RX6 cX6_addTry 5 none x)  (h : J_X6_addTry_52 m_tries m_state m_leftOf m_rightOf m_isApart e0 v1 v2 v3 = some (q_m_tries, q_m_leftOf, q_m_rightOf, q_m_isApart)) : PT (RM 0 0) 5 x 52 [(0, .ref am0), (1, .int v1), (2, .int v2), (3, .int v3)] [.int e0] (V_M x.1.2.2 am0 am1 am2 am3 am4 am5 am6 am7 am8 am9 am10 am11 am12 am13 am14 m_said m_tries m_state m_images m_isKept m_pad m_leftOf m_rightOf m_isApart m_group m_isPair m_isOne m_order m_rest m_aside m_others) 0 0 (QV x (V_M x.1.2.2 am0 am1 am2 am3 am4 am5 am6 am7 am8 am9 am10 am11 am12 am13 am14 m_said q_m_tries m_state m_images m_isKept m_pad q_m_leftOf q_m_rightOf q_m_isApart m_group m_isPair m_isOne m_order m_rest m_aside m_others)) := by
  unfold J_X6_addTry_52 at h
  refine p_istore (lv' := [(4, .int e0), (0, .ref am0), (1, .int v1), (2, .int v2), (3, .int v3)]) C dX6_addTry_52 rfl (by decide) rfl ?_
  refine p_aload_n C dX6_addTry_54 rfl 1 rfl ?_
  refine p_get C dX6_addTry_55 rfl 0 5 inlX6 fl_X6_23 rfl rfl (by decide) rfl rfl ?_
  refine p_aload_n C dX6_addTry_58 rfl 1 rfl ?_
  refine p_get C dX6_addTry_59 rfl 0 8 inlX6 fl_X6_72 rfl rfl (by decide) rfl rfl ?_
  refine p_iload C dX6_addTry_62 rfl 0 rfl ?_
  refine p_if_eq C dX6_addTry_64 (tgt := 71) (by decide) rfl (fun c1 => ?_) (fun c1 => ?_)
  · have h := if_t c1 h
    refine p_iload_n C dX6_addTry_71 rfl 3 rfl ?_
    refine p_locals [1, 2, 3, 4, 0] (lv' := [(0, .ref am0), (1, .int v1), (2, .int v2), (3, .int v3), (4, .int e0)]) rfl ?_
    exact tj_X6_addTry_72 C  h
  · have h := if_f c1 h
    refine p_iload_n C dX6_addTry_67 rfl 2 rfl ?_
    refine p_goto C dX6_addTry_68 (pc' := 72) (by decide) ?_
    refine p_locals [1, 2, 3, 4, 0] (lv' := [(0, .ref am0), (1, .int v1), (2, .int v2), (3, .int v3), (4, .int e0)]) rfl ?_
    exact tj_X6_addTry_72 C  h
def J_X6_addTry_51 (m_tries : Int32) (m_state : Ar) (m_leftOf : Ar) (m_rightOf : Ar) (m_isApart : Ar)   (v1 : Int32) (v2 : Int32) (v3 : Int32) : Option (Int32 × Ar × Ar × Ar) := J_X6_addTry_52 m_tries m_state m_leftOf m_rightOf m_isApart ((0 : Int32)) v1 v2 v3
set_option maxHeartbeats 4000000 in
set_option maxRecDepth 100000 in
theorem tj_X6_addTry_51 {x : Cxt} {am0 am1 am2 am3 am4 am5 am6 am7 am8 am9 am10 am11 am12 am13 am14 : Nat} {m_said : Int32} {m_tries : Int32} {m_state : Ar} {m_images : Ar} {m_isKept : Ar} {m_pad : Ar} {m_leftOf : Ar} {m_rightOf : Ar} {m_isApart : Ar} {m_group : Ar} {m_isPair : Ar} {m_isOne : Ar} {m_order : Ar} {m_rest : Ar} {m_aside : Ar} {m_others : Ar}   {v1 : Int32} {v2 : Int32} {v3 : Int32} {q_m_tries : Int32} {q_m_leftOf : Ar} {q_m_rightOf : Ar} {q_m_isApart : Ar} (C : CX RX6 cX6_addTry 5 none x)  (h : J_X6_addTry_51 m_tries m_state m_leftOf m_rightOf m_isApart v1 v2 v3 = some (q_m_tries, q_m_leftOf, q_m_rightOf, q_m_isApart)) : PT (RM 0 0) 5 x 51 [(0, .ref am0), (1, .int v1), (2, .int v2), (3, .int v3)] [] (V_M x.1.2.2 am0 am1 am2 am3 am4 am5 am6 am7 am8 am9 am10 am11 am12 am13 am14 m_said m_tries m_state m_images m_isKept m_pad m_leftOf m_rightOf m_isApart m_group m_isPair m_isOne m_order m_rest m_aside m_others) 0 0 (QV x (V_M x.1.2.2 am0 am1 am2 am3 am4 am5 am6 am7 am8 am9 am10 am11 am12 am13 am14 m_said q_m_tries m_state m_images m_isKept m_pad q_m_leftOf q_m_rightOf q_m_isApart m_group m_isPair m_isOne m_order m_rest m_aside m_others)) := by
  unfold J_X6_addTry_51 at h
  refine p_iconst (v := (0 : Int32)) C dX6_addTry_51 rfl (by decide) ?_
  refine p_locals [0, 1, 2, 3] (lv' := [(0, .ref am0), (1, .int v1), (2, .int v2), (3, .int v3)]) rfl ?_
  exact tj_X6_addTry_52 C  h
def J_X6_addTry_47 (m_tries : Int32) (m_state : Ar) (m_leftOf : Ar) (m_rightOf : Ar) (m_isApart : Ar)   (v1 : Int32) (v2 : Int32) (v3 : Int32) : Option (Int32 × Ar × Ar × Ar) := J_X6_addTry_52 m_tries m_state m_leftOf m_rightOf m_isApart ((1 : Int32)) v1 v2 v3
set_option maxHeartbeats 4000000 in
set_option maxRecDepth 100000 in
theorem tj_X6_addTry_47 {x : Cxt} {am0 am1 am2 am3 am4 am5 am6 am7 am8 am9 am10 am11 am12 am13 am14 : Nat} {m_said : Int32} {m_tries : Int32} {m_state : Ar} {m_images : Ar} {m_isKept : Ar} {m_pad : Ar} {m_leftOf : Ar} {m_rightOf : Ar} {m_isApart : Ar} {m_group : Ar} {m_isPair : Ar} {m_isOne : Ar} {m_order : Ar} {m_rest : Ar} {m_aside : Ar} {m_others : Ar}   {v1 : Int32} {v2 : Int32} {v3 : Int32} {q_m_tries : Int32} {q_m_leftOf : Ar} {q_m_rightOf : Ar} {q_m_isApart : Ar} (C : CX RX6 cX6_addTry 5 none x)  (h : J_X6_addTry_47 m_tries m_state m_leftOf m_rightOf m_isApart v1 v2 v3 = some (q_m_tries, q_m_leftOf, q_m_rightOf, q_m_isApart)) : PT (RM 0 0) 5 x 47 [(0, .ref am0), (1, .int v1), (2, .int v2), (3, .int v3)] [] (V_M x.1.2.2 am0 am1 am2 am3 am4 am5 am6 am7 am8 am9 am10 am11 am12 am13 am14 m_said m_tries m_state m_images m_isKept m_pad m_leftOf m_rightOf m_isApart m_group m_isPair m_isOne m_order m_rest m_aside m_others) 0 0 (QV x (V_M x.1.2.2 am0 am1 am2 am3 am4 am5 am6 am7 am8 am9 am10 am11 am12 am13 am14 m_said q_m_tries m_state m_images m_isKept m_pad q_m_leftOf q_m_rightOf q_m_isApart m_group m_isPair m_isOne m_order m_rest m_aside m_others)) := by
  unfold J_X6_addTry_47 at h
  refine p_iconst (v := (1 : Int32)) C dX6_addTry_47 rfl (by decide) ?_
  refine p_goto C dX6_addTry_48 (pc' := 52) (by decide) ?_
  refine p_locals [0, 1, 2, 3] (lv' := [(0, .ref am0), (1, .int v1), (2, .int v2), (3, .int v3)]) rfl ?_
  exact tj_X6_addTry_52 C  h
def m_X6_addTry (m_tries : Int32) (m_state : Ar) (m_leftOf : Ar) (m_rightOf : Ar) (m_isApart : Ar) (p1 : Int32) (p2 : Int32) (p3 : Int32) : Option (Int32 × Ar × Ar × Ar) := grd (gI (((9 : Int32)) + p1) 40) (grd (gI (((9 : Int32)) + p2) 40) (if (m_state (((9 : Int32)) + p1).toNatClampNeg) < (m_state (((9 : Int32)) + p2).toNatClampNeg) then (J_X6_addTry_47 m_tries m_state m_leftOf m_rightOf m_isApart p1 p2 p3) else (grd (gI (((9 : Int32)) + p1) 40) (grd (gI (((9 : Int32)) + p2) 40) (if (m_state (((9 : Int32)) + p1).toNatClampNeg) = (m_state (((9 : Int32)) + p2).toNatClampNeg) then (if p2 ≤ p1 then (J_X6_addTry_51 m_tries m_state m_leftOf m_rightOf m_isApart p1 p2 p3) else (J_X6_addTry_47 m_tries m_state m_leftOf m_rightOf m_isApart p1 p2 p3)) else (J_X6_addTry_51 m_tries m_state m_leftOf m_rightOf m_isApart p1 p2 p3))))))
theorem ds_X6_addTry : (yX6_addTry).cls ≠ "java/lang/invoke/MethodHandle" ∧ (yX6_addTry).cls ≠ "java/lang/invoke/VarHandle" ∧ (parseMethodDescriptor (yX6_addTry).desc).map (fun d => d.parameters.length) = some 3 := by decide +kernel
set_option maxHeartbeats 4000000 in
set_option maxRecDepth 100000 in
theorem c_X6_addTry (E : En) {am0 am1 am2 am3 am4 am5 am6 am7 am8 am9 am10 am11 am12 am13 am14 : Nat} {m_said : Int32} {m_tries : Int32} {m_state : Ar} {m_images : Ar} {m_isKept : Ar} {m_pad : Ar} {m_leftOf : Ar} {m_rightOf : Ar} {m_isApart : Ar} {m_group : Ar} {m_isPair : Ar} {m_isOne : Ar} {m_order : Ar} {m_rest : Ar} {m_aside : Ar} {m_others : Ar} {p1 : Int32} {p2 : Int32} {p3 : Int32} {q_m_tries : Int32} {q_m_leftOf : Ar} {q_m_rightOf : Ar} {q_m_isApart : Ar} (h : m_X6_addTry m_tries m_state m_leftOf m_rightOf m_isApart p1 p2 p3 = some (q_m_tries, q_m_leftOf, q_m_rightOf, q_m_isApart)) : Cv E yX6_addTry (wU yX6_addTry cX6_addTry 5 none) (RM 0 0) [.ref am0, .int p1, .int p2, .int p3] (V_M E.2.2 am0 am1 am2 am3 am4 am5 am6 am7 am8 am9 am10 am11 am12 am13 am14 m_said m_tries m_state m_images m_isKept m_pad m_leftOf m_rightOf m_isApart m_group m_isPair m_isOne m_order m_rest m_aside m_others) (V_M E.2.2 am0 am1 am2 am3 am4 am5 am6 am7 am8 am9 am10 am11 am12 am13 am14 m_said q_m_tries m_state m_images m_isKept m_pad q_m_leftOf q_m_rightOf q_m_isApart m_group m_isPair m_isOne m_order m_rest m_aside m_others) := by
  refine Cv.of (by decide) (Nat.le_of_ble_eq_true rfl) ?_
  intro x hE C
  subst hE
  have C : CX RX6 cX6_addTry 5 none x := C
  refine p_locals [0, 1, 2, 3] (lv' := [(0, .ref am0), (1, .int p1), (2, .int p2), (3, .int p3)]) rfl ?_
  unfold m_X6_addTry at h
  refine p_aload_n C dX6_addTry_0 rfl 0 rfl ?_
  refine p_get C dX6_addTry_1 rfl 0 0 inlX6 fl_X6_7 rfl rfl (by decide) rfl rfl ?_
  refine p_bipush (v := (9 : Int32)) C dX6_addTry_4 rfl (by decide) ?_
  refine p_iload_n C dX6_addTry_6 rfl 1 rfl ?_
  refine p_iadd C dX6_addTry_7 rfl ?_
  obtain ⟨g1, h⟩ := grd_of h
  refine p_iald C dX6_addTry_8 rfl 1 rfl g1 ?_
  refine p_aload_n C dX6_addTry_9 rfl 0 rfl ?_
  refine p_get C dX6_addTry_10 rfl 0 0 inlX6 fl_X6_7 rfl rfl (by decide) rfl rfl ?_
  refine p_bipush (v := (9 : Int32)) C dX6_addTry_13 rfl (by decide) ?_
  refine p_iload_n C dX6_addTry_15 rfl 2 rfl ?_
  refine p_iadd C dX6_addTry_16 rfl ?_
  obtain ⟨g2, h⟩ := grd_of h
  refine p_iald C dX6_addTry_17 rfl 1 rfl g2 ?_
  refine p_icmp_lt C dX6_addTry_18 (tgt := 47) (by decide) rfl (fun c3 => ?_) (fun c3 => ?_)
  · have h := if_t c3 h
    refine p_locals [0, 1, 2, 3] (lv' := [(0, .ref am0), (1, .int p1), (2, .int p2), (3, .int p3)]) rfl ?_
    exact tj_X6_addTry_47 C  h
  · have h := if_f c3 h
    refine p_aload_n C dX6_addTry_21 rfl 0 rfl ?_
    refine p_get C dX6_addTry_22 rfl 0 0 inlX6 fl_X6_7 rfl rfl (by decide) rfl rfl ?_
    refine p_bipush (v := (9 : Int32)) C dX6_addTry_25 rfl (by decide) ?_
    refine p_iload_n C dX6_addTry_27 rfl 1 rfl ?_
    refine p_iadd C dX6_addTry_28 rfl ?_
    obtain ⟨g4, h⟩ := grd_of h
    refine p_iald C dX6_addTry_29 rfl 1 rfl g4 ?_
    refine p_aload_n C dX6_addTry_30 rfl 0 rfl ?_
    refine p_get C dX6_addTry_31 rfl 0 0 inlX6 fl_X6_7 rfl rfl (by decide) rfl rfl ?_
    refine p_bipush (v := (9 : Int32)) C dX6_addTry_34 rfl (by decide) ?_
    refine p_iload_n C dX6_addTry_36 rfl 2 rfl ?_
    refine p_iadd C dX6_addTry_37 rfl ?_
    obtain ⟨g5, h⟩ := grd_of h
    refine p_iald C dX6_addTry_38 rfl 1 rfl g5 ?_
    refine p_icmp_ne C dX6_addTry_39 (tgt := 51) (by decide) rfl (fun c6 => ?_) (fun c6 => ?_)
    · have h := if_f c6 h
      refine p_locals [0, 1, 2, 3] (lv' := [(0, .ref am0), (1, .int p1), (2, .int p2), (3, .int p3)]) rfl ?_
      exact tj_X6_addTry_51 C  h
    · have h := if_t c6 h
      refine p_iload_n C dX6_addTry_42 rfl 1 rfl ?_
      refine p_iload_n C dX6_addTry_43 rfl 2 rfl ?_
      refine p_icmp_ge C dX6_addTry_44 (tgt := 51) (by decide) rfl (fun c7 => ?_) (fun c7 => ?_)
      · have h := if_t c7 h
        refine p_locals [0, 1, 2, 3] (lv' := [(0, .ref am0), (1, .int p1), (2, .int p2), (3, .int p3)]) rfl ?_
        exact tj_X6_addTry_51 C  h
      · have h := if_f c7 h
        refine p_locals [0, 1, 2, 3] (lv' := [(0, .ref am0), (1, .int p1), (2, .int p2), (3, .int p3)]) rfl ?_
        exact tj_X6_addTry_47 C  h
def J_X6_apartMany_27 (m_tries : Int32) (m_isApart : Ar) (k4 : Int32 → Int32 → Option (Int32)) (e0 : Int32) (e1 : Int32) (v2 : Int32) : Option (Int32) := k4 (e1 + e0) (v2 + 1)
set_option maxHeartbeats 4000000 in
set_option maxRecDepth 100000 in
theorem tj_X6_apartMany_27 {x : Cxt} {am0 am1 am2 am3 am4 am5 am6 am7 am8 am9 am10 am11 am12 am13 am14 : Nat} {m_said : Int32} {m_tries : Int32} {m_state : Ar} {m_images : Ar} {m_isKept : Ar} {m_pad : Ar} {m_leftOf : Ar} {m_rightOf : Ar} {m_isApart : Ar} {m_group : Ar} {m_isPair : Ar} {m_isOne : Ar} {m_order : Ar} {m_rest : Ar} {m_aside : Ar} {m_others : Ar} {k4 : Int32 → Int32 → Option (Int32)} {e0 : Int32} {e1 : Int32} {v2 : Int32} {rr : Int32} (C : CX RX6 cX6_apartMany 3 (some .int) x) (hk4 : ∀ (w1 : Int32) (w2 : Int32) , k4 w1 w2 = some rr → PT (RM 0 0) 3 x 4 [(0, .ref am0), (1, .int w1), (2, .int w2)] [] (V_M x.1.2.2 am0 am1 am2 am3 am4 am5 am6 am7 am8 am9 am10 am11 am12 am13 am14 m_said m_tries m_state m_images m_isKept m_pad m_leftOf m_rightOf m_isApart m_group m_isPair m_isOne m_order m_rest m_aside m_others) 0 0 (QI x rr (V_M x.1.2.2 am0 am1 am2 am3 am4 am5 am6 am7 am8 am9 am10 am11 am12 am13 am14 m_said m_tries m_state m_images m_isKept m_pad m_leftOf m_rightOf m_isApart m_group m_isPair m_isOne m_order m_rest m_aside m_others))) (h : J_X6_apartMany_27 m_tries m_isApart k4 e0 e1 v2 = some rr) : PT (RM 0 0) 3 x 27 [(0, .ref am0), (2, .int v2)] [.int e0, .int e1] (V_M x.1.2.2 am0 am1 am2 am3 am4 am5 am6 am7 am8 am9 am10 am11 am12 am13 am14 m_said m_tries m_state m_images m_isKept m_pad m_leftOf m_rightOf m_isApart m_group m_isPair m_isOne m_order m_rest m_aside m_others) 0 0 (QI x rr (V_M x.1.2.2 am0 am1 am2 am3 am4 am5 am6 am7 am8 am9 am10 am11 am12 am13 am14 m_said m_tries m_state m_images m_isKept m_pad m_leftOf m_rightOf m_isApart m_group m_isPair m_isOne m_order m_rest m_aside m_others)) := by
  unfold J_X6_apartMany_27 at h
  refine p_iadd C dX6_apartMany_27 rfl ?_
  refine p_istore_n (lv' := [(1, .int (e1 + e0)), (0, .ref am0), (2, .int v2)]) C dX6_apartMany_28 rfl (by decide) rfl ?_
  refine p_iinc (w := v2 + 1) (lv' := [(2, .int (v2 + 1)), (1, .int (e1 + e0)), (0, .ref am0)]) C dX6_apartMany_29 rfl 2 rfl rfl (by decide) rfl ?_
  refine p_goto C dX6_apartMany_32 (pc' := 4) (by decide) ?_
  refine p_locals [2, 1, 0] (lv' := [(0, .ref am0), (1, .int (e1 + e0)), (2, .int (v2 + 1))]) rfl ?_
  exact hk4 _ _ h
def B_X6_apartMany_4 (m_tries : Int32) (m_isApart : Ar)   (kk : Int32 → Int32 → Option (Int32)) (v1 : Int32) (v2 : Int32)  : Option (Int32) := if m_tries ≤ v2 then (some v1) else (grd (gI v2 16) (if (m_isApart v2.toNatClampNeg) = 0 then (J_X6_apartMany_27 m_tries m_isApart (kk) ((0 : Int32)) v1 v2) else (J_X6_apartMany_27 m_tries m_isApart (kk) ((1 : Int32)) v1 v2)))
def L_X6_apartMany_4 (m_tries : Int32) (m_isApart : Ar)   : Nat → Int32 → Int32 → Option (Int32) := lpG (fun _ _ => none) (B_X6_apartMany_4 m_tries m_isApart)
set_option maxHeartbeats 4000000 in
set_option maxRecDepth 100000 in
theorem tl_X6_apartMany_4 {x : Cxt} {am0 am1 am2 am3 am4 am5 am6 am7 am8 am9 am10 am11 am12 am13 am14 : Nat} {m_said : Int32} {m_tries : Int32} {m_state : Ar} {m_images : Ar} {m_isKept : Ar} {m_pad : Ar} {m_leftOf : Ar} {m_rightOf : Ar} {m_isApart : Ar} {m_group : Ar} {m_isPair : Ar} {m_isOne : Ar} {m_order : Ar} {m_rest : Ar} {m_aside : Ar} {m_others : Ar}   {rr : Int32} (C : CX RX6 cX6_apartMany 3 (some .int) x)  : ∀ (n : Nat) (v1 : Int32) (v2 : Int32) , L_X6_apartMany_4 m_tries m_isApart n v1 v2 = some rr → PT (RM 0 0) 3 x 4 [(0, .ref am0), (1, .int v1), (2, .int v2)] [] (V_M x.1.2.2 am0 am1 am2 am3 am4 am5 am6 am7 am8 am9 am10 am11 am12 am13 am14 m_said m_tries m_state m_images m_isKept m_pad m_leftOf m_rightOf m_isApart m_group m_isPair m_isOne m_order m_rest m_aside m_others) 0 0 (QI x rr (V_M x.1.2.2 am0 am1 am2 am3 am4 am5 am6 am7 am8 am9 am10 am11 am12 am13 am14 m_said m_tries m_state m_images m_isKept m_pad m_leftOf m_rightOf m_isApart m_group m_isPair m_isOne m_order m_rest m_aside m_others)) := by
  intro n
  induction n with
  | zero =>
    intro v1 v2 h
    cases h
  | succ n ih =>
    intro v1 v2 h
    have h : B_X6_apartMany_4 m_tries m_isApart (L_X6_apartMany_4 m_tries m_isApart n) v1 v2 = some rr := h
    unfold B_X6_apartMany_4 at h
    refine p_iload_n C dX6_apartMany_4 rfl 2 rfl ?_
    refine p_aload_n C dX6_apartMany_5 rfl 0 rfl ?_
    refine p_get C dX6_apartMany_6 rfl 0 8 inlX6 fl_X6_72 rfl rfl (by decide) rfl rfl ?_
    refine p_icmp_ge C dX6_apartMany_9 (tgt := 35) (by decide) rfl (fun c1 => ?_) (fun c1 => ?_)
    · have h := if_t c1 h
      refine p_iload_n C dX6_apartMany_35 rfl 1 rfl ?_
      cases h
      exact p_iret C dX6_apartMany_36
    · have h := if_f c1 h
      refine p_iload_n C dX6_apartMany_12 rfl 1 rfl ?_
      refine p_aload_n C dX6_apartMany_13 rfl 0 rfl ?_
      refine p_get C dX6_apartMany_14 rfl 0 7 inlX6 fl_X6_29 rfl rfl (by decide) rfl rfl ?_
      refine p_iload_n C dX6_apartMany_17 rfl 2 rfl ?_
      obtain ⟨g2, h⟩ := grd_of h
      refine p_zald C dX6_apartMany_18 rfl 7 rfl g2 ?_
      refine p_if_eq C dX6_apartMany_19 (tgt := 26) (by decide) rfl (fun c3 => ?_) (fun c3 => ?_)
      · have h := if_t c3 h
        refine p_iconst (v := (0 : Int32)) C dX6_apartMany_26 rfl (by decide) ?_
        refine p_locals [0, 2] (lv' := [(0, .ref am0), (2, .int v2)]) rfl ?_
        exact tj_X6_apartMany_27 C (fun u0 u1 h => ih u0 u1 h) h
      · have h := if_f c3 h
        refine p_iconst (v := (1 : Int32)) C dX6_apartMany_22 rfl (by decide) ?_
        refine p_goto C dX6_apartMany_23 (pc' := 27) (by decide) ?_
        refine p_locals [0, 2] (lv' := [(0, .ref am0), (2, .int v2)]) rfl ?_
        exact tj_X6_apartMany_27 C (fun u0 u1 h => ih u0 u1 h) h
def m_X6_apartMany (m_tries : Int32) (m_isApart : Ar)  : Option (Int32) := L_X6_apartMany_4 m_tries m_isApart FU ((0 : Int32)) ((0 : Int32))
theorem ds_X6_apartMany : (yX6_apartMany).cls ≠ "java/lang/invoke/MethodHandle" ∧ (yX6_apartMany).cls ≠ "java/lang/invoke/VarHandle" ∧ (parseMethodDescriptor (yX6_apartMany).desc).map (fun d => d.parameters.length) = some 0 := by decide +kernel
set_option maxHeartbeats 4000000 in
set_option maxRecDepth 100000 in
theorem c_X6_apartMany (E : En) {am0 am1 am2 am3 am4 am5 am6 am7 am8 am9 am10 am11 am12 am13 am14 : Nat} {m_said : Int32} {m_tries : Int32} {m_state : Ar} {m_images : Ar} {m_isKept : Ar} {m_pad : Ar} {m_leftOf : Ar} {m_rightOf : Ar} {m_isApart : Ar} {m_group : Ar} {m_isPair : Ar} {m_isOne : Ar} {m_order : Ar} {m_rest : Ar} {m_aside : Ar} {m_others : Ar}  {rr : Int32} (h : m_X6_apartMany m_tries m_isApart = some rr) : Ci E yX6_apartMany (wU yX6_apartMany cX6_apartMany 3 (some .int)) (RM 0 0) [.ref am0] (V_M E.2.2 am0 am1 am2 am3 am4 am5 am6 am7 am8 am9 am10 am11 am12 am13 am14 m_said m_tries m_state m_images m_isKept m_pad m_leftOf m_rightOf m_isApart m_group m_isPair m_isOne m_order m_rest m_aside m_others) (V_M E.2.2 am0 am1 am2 am3 am4 am5 am6 am7 am8 am9 am10 am11 am12 am13 am14 m_said m_tries m_state m_images m_isKept m_pad m_leftOf m_rightOf m_isApart m_group m_isPair m_isOne m_order m_rest m_aside m_others) rr := by
  refine Ci.of (by decide) (Nat.le_of_ble_eq_true rfl) ?_
  intro x hE C
  subst hE
  have C : CX RX6 cX6_apartMany 3 (some .int) x := C
  refine p_locals [0] (lv' := [(0, .ref am0)]) rfl ?_
  unfold m_X6_apartMany at h
  refine p_iconst (v := (0 : Int32)) C dX6_apartMany_0 rfl (by decide) ?_
  refine p_istore_n (lv' := [(1, .int ((0 : Int32))), (0, .ref am0)]) C dX6_apartMany_1 rfl (by decide) rfl ?_
  refine p_iconst (v := (0 : Int32)) C dX6_apartMany_2 rfl (by decide) ?_
  refine p_istore_n (lv' := [(2, .int ((0 : Int32))), (1, .int ((0 : Int32))), (0, .ref am0)]) C dX6_apartMany_3 rfl (by decide) rfl ?_
  refine p_locals [2, 1, 0] (lv' := [(0, .ref am0), (1, .int ((0 : Int32))), (2, .int ((0 : Int32)))]) rfl ?_
  exact tl_X6_apartMany_4 C  FU _ _ h
def m_X6_conducts (m_state : Ar) (m_leftOf : Ar) (m_rightOf : Ar) (m_isOne : Ar) (p1 : Int32) : Option (Int32) := grd (gI p1 16) (grd (gI p1 16) (grd (gI (((25 : Int32)) + (m_leftOf p1.toNatClampNeg)) 40) (if (m_state (((25 : Int32)) + (m_leftOf p1.toNatClampNeg)).toNatClampNeg) = 0 then (grd (gI (((25 : Int32)) + (m_rightOf p1.toNatClampNeg)) 40) (if (m_state (((25 : Int32)) + (m_rightOf p1.toNatClampNeg)).toNatClampNeg) = 0 then (grd (gI (((1 : Int32)) + (m_leftOf p1.toNatClampNeg)) 40) (grd (gI (((1 : Int32)) + (m_rightOf p1.toNatClampNeg)) 40) (grd (gI ((((4 : Int32)) * (m_state (((1 : Int32)) + (m_leftOf p1.toNatClampNeg)).toNatClampNeg)) + (m_state (((1 : Int32)) + (m_rightOf p1.toNatClampNeg)).toNatClampNeg)) 16) (if (m_isOne ((((4 : Int32)) * (m_state (((1 : Int32)) + (m_leftOf p1.toNatClampNeg)).toNatClampNeg)) + (m_state (((1 : Int32)) + (m_rightOf p1.toNatClampNeg)).toNatClampNeg)).toNatClampNeg) = 0 then (some ((0 : Int32))) else (some ((1 : Int32))))))) else (some ((0 : Int32))))) else (some ((0 : Int32))))))
theorem ds_X6_conducts : (yX6_conducts).cls ≠ "java/lang/invoke/MethodHandle" ∧ (yX6_conducts).cls ≠ "java/lang/invoke/VarHandle" ∧ (parseMethodDescriptor (yX6_conducts).desc).map (fun d => d.parameters.length) = some 1 := by decide +kernel
set_option maxHeartbeats 4000000 in
set_option maxRecDepth 100000 in
theorem c_X6_conducts (E : En) {am0 am1 am2 am3 am4 am5 am6 am7 am8 am9 am10 am11 am12 am13 am14 : Nat} {m_said : Int32} {m_tries : Int32} {m_state : Ar} {m_images : Ar} {m_isKept : Ar} {m_pad : Ar} {m_leftOf : Ar} {m_rightOf : Ar} {m_isApart : Ar} {m_group : Ar} {m_isPair : Ar} {m_isOne : Ar} {m_order : Ar} {m_rest : Ar} {m_aside : Ar} {m_others : Ar} {p1 : Int32} {rr : Int32} (h : m_X6_conducts m_state m_leftOf m_rightOf m_isOne p1 = some rr) : Ci E yX6_conducts (wU yX6_conducts cX6_conducts 4 (some .boolean)) (RM 0 0) [.ref am0, .int p1] (V_M E.2.2 am0 am1 am2 am3 am4 am5 am6 am7 am8 am9 am10 am11 am12 am13 am14 m_said m_tries m_state m_images m_isKept m_pad m_leftOf m_rightOf m_isApart m_group m_isPair m_isOne m_order m_rest m_aside m_others) (V_M E.2.2 am0 am1 am2 am3 am4 am5 am6 am7 am8 am9 am10 am11 am12 am13 am14 m_said m_tries m_state m_images m_isKept m_pad m_leftOf m_rightOf m_isApart m_group m_isPair m_isOne m_order m_rest m_aside m_others) rr := by
  refine Ci.of (by decide) (Nat.le_of_ble_eq_true rfl) ?_
  intro x hE C
  subst hE
  have C : CX RX6 cX6_conducts 4 (some .boolean) x := C
  refine p_locals [0, 1] (lv' := [(0, .ref am0), (1, .int p1)]) rfl ?_
  unfold m_X6_conducts at h
  refine p_aload_n C dX6_conducts_0 rfl 0 rfl ?_
  refine p_get C dX6_conducts_1 rfl 0 5 inlX6 fl_X6_23 rfl rfl (by decide) rfl rfl ?_
  refine p_iload_n C dX6_conducts_4 rfl 1 rfl ?_
  obtain ⟨g1, h⟩ := grd_of h
  refine p_iald C dX6_conducts_5 rfl 5 rfl g1 ?_
  refine p_istore_n (lv' := [(2, .int (m_leftOf p1.toNatClampNeg)), (0, .ref am0), (1, .int p1)]) C dX6_conducts_6 rfl (by decide) rfl ?_
  refine p_aload_n C dX6_conducts_7 rfl 1 rfl ?_
  refine p_get C dX6_conducts_8 rfl 0 6 inlX6 fl_X6_26 rfl rfl (by decide) rfl rfl ?_
  refine p_iload_n C dX6_conducts_11 rfl 2 rfl ?_
  obtain ⟨g2, h⟩ := grd_of h
  refine p_iald C dX6_conducts_12 rfl 6 rfl g2 ?_
  refine p_istore_n (lv' := [(3, .int (m_rightOf p1.toNatClampNeg)), (2, .int (m_leftOf p1.toNatClampNeg)), (0, .ref am0), (1, .int p1)]) C dX6_conducts_13 rfl (by decide) rfl ?_
  refine p_aload_n C dX6_conducts_14 rfl 2 rfl ?_
  refine p_get C dX6_conducts_15 rfl 0 0 inlX6 fl_X6_7 rfl rfl (by decide) rfl rfl ?_
  refine p_bipush (v := (25 : Int32)) C dX6_conducts_18 rfl (by decide) ?_
  refine p_iload_n C dX6_conducts_20 rfl 1 rfl ?_
  refine p_iadd C dX6_conducts_21 rfl ?_
  obtain ⟨g3, h⟩ := grd_of h
  refine p_iald C dX6_conducts_22 rfl 1 rfl g3 ?_
  refine p_if_ne C dX6_conducts_23 (tgt := 69) (by decide) rfl (fun c4 => ?_) (fun c4 => ?_)
  · have h := if_f c4 h
    refine p_iconst (v := (0 : Int32)) C dX6_conducts_69 rfl (by decide) ?_
    cases h
    exact p_zret C dX6_conducts_70 rfl
  · have h := if_t c4 h
    refine p_aload_n C dX6_conducts_26 rfl 2 rfl ?_
    refine p_get C dX6_conducts_27 rfl 0 0 inlX6 fl_X6_7 rfl rfl (by decide) rfl rfl ?_
    refine p_bipush (v := (25 : Int32)) C dX6_conducts_30 rfl (by decide) ?_
    refine p_iload_n C dX6_conducts_32 rfl 0 rfl ?_
    refine p_iadd C dX6_conducts_33 rfl ?_
    obtain ⟨g5, h⟩ := grd_of h
    refine p_iald C dX6_conducts_34 rfl 1 rfl g5 ?_
    refine p_if_ne C dX6_conducts_35 (tgt := 69) (by decide) rfl (fun c6 => ?_) (fun c6 => ?_)
    · have h := if_f c6 h
      refine p_iconst (v := (0 : Int32)) C dX6_conducts_69 rfl (by decide) ?_
      cases h
      exact p_zret C dX6_conducts_70 rfl
    · have h := if_t c6 h
      refine p_aload_n C dX6_conducts_38 rfl 2 rfl ?_
      refine p_get C dX6_conducts_39 rfl 0 11 inlX6 fl_X6_38 rfl rfl (by decide) rfl rfl ?_
      refine p_iconst (v := (4 : Int32)) C dX6_conducts_42 rfl (by decide) ?_
      refine p_aload_n C dX6_conducts_43 rfl 2 rfl ?_
      refine p_get C dX6_conducts_44 rfl 0 0 inlX6 fl_X6_7 rfl rfl (by decide) rfl rfl ?_
      refine p_iconst (v := (1 : Int32)) C dX6_conducts_47 rfl (by decide) ?_
      refine p_iload_n C dX6_conducts_48 rfl 1 rfl ?_
      refine p_iadd C dX6_conducts_49 rfl ?_
      obtain ⟨g7, h⟩ := grd_of h
      refine p_iald C dX6_conducts_50 rfl 1 rfl g7 ?_
      refine p_imul C dX6_conducts_51 rfl ?_
      refine p_aload_n C dX6_conducts_52 rfl 2 rfl ?_
      refine p_get C dX6_conducts_53 rfl 0 0 inlX6 fl_X6_7 rfl rfl (by decide) rfl rfl ?_
      refine p_iconst (v := (1 : Int32)) C dX6_conducts_56 rfl (by decide) ?_
      refine p_iload_n C dX6_conducts_57 rfl 0 rfl ?_
      refine p_iadd C dX6_conducts_58 rfl ?_
      obtain ⟨g8, h⟩ := grd_of h
      refine p_iald C dX6_conducts_59 rfl 1 rfl g8 ?_
      refine p_iadd C dX6_conducts_60 rfl ?_
      obtain ⟨g9, h⟩ := grd_of h
      refine p_zald C dX6_conducts_61 rfl 10 rfl g9 ?_
      refine p_if_eq C dX6_conducts_62 (tgt := 69) (by decide) rfl (fun c10 => ?_) (fun c10 => ?_)
      · have h := if_t c10 h
        refine p_iconst (v := (0 : Int32)) C dX6_conducts_69 rfl (by decide) ?_
        cases h
        exact p_zret C dX6_conducts_70 rfl
      · have h := if_f c10 h
        refine p_iconst (v := (1 : Int32)) C dX6_conducts_65 rfl (by decide) ?_
        refine p_goto C dX6_conducts_66 (pc' := 70) (by decide) ?_
        cases h
        exact p_zret C dX6_conducts_70 rfl
