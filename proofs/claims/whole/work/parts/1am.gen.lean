def m_X5_layTriesAnew (b_points : Int32) (b_near : Int32) (b_nets : Ar) (b_xs : Ar) (b_ys : Ar) (t_total : Int32) (t_oft : Int32) (t_left : Ar) (t_right : Ar) (t_group : Ar) (t_paired : Ar) (n_total : Int32) (n_planned : Int32) (n_leaps : Ar)  : Option (Int32 × Int32 × Ar × Ar × Ar × Ar × Int32 × Int32 × Ar) := bd6 (m_X4_layOut t_total t_oft t_left t_right t_group t_paired b_points b_near b_nets b_xs b_ys) (fun z_total1 z_oft2 z_left3 z_right4 z_group5 z_paired6 => bd3 (m_X1_measure n_total n_planned n_leaps b_xs b_ys z_total1 z_left3 z_right4) (fun z_total8 z_planned9 z_leaps10 => some (z_total1, z_oft2, z_left3, z_right4, z_group5, z_paired6, z_total8, z_planned9, z_leaps10)))
theorem ds_X5_layTriesAnew : (yX5_layTriesAnew).cls ≠ "java/lang/invoke/MethodHandle" ∧ (yX5_layTriesAnew).cls ≠ "java/lang/invoke/VarHandle" ∧ (parseMethodDescriptor (yX5_layTriesAnew).desc).map (fun d => d.parameters.length) = some 0 := by decide +kernel
set_option maxHeartbeats 4000000 in
set_option maxRecDepth 100000 in
theorem c_X5_layTriesAnew (E : En) {as0 ab0 ab1 ab2 ab3 at0 at1 at2 at3 at4 an0 an1 an2 anb0 anb1 ann0 ann1 ap0 ap1 as1 ai0 ai1 ai2 ai3 aj0 aj1 aj2 aj3 : Nat} {s_kept : Int32} {b_points : Int32} {b_near : Int32} {b_loose : Int32} {b_short : Int32} {b_nets : Ar} {b_xs : Ar} {b_ys : Ar} {t_total : Int32} {t_oft : Int32} {t_left : Ar} {t_right : Ar} {t_group : Ar} {t_paired : Ar} {n_total : Int32} {n_planned : Int32} {n_leaps : Ar} {n_onward : Ar} {nb_len : Int32} {nb_sum : Int32} {nb_tries : Ar} {nn_len : Int32} {nn_sum : Int32} {nn_tries : Ar} {p_len : Int32} {p_signs : Ar} {i_points : Int32} {i_near : Int32} {i_loose : Int32} {i_short : Int32} {i_nets : Ar} {i_xs : Ar} {i_ys : Ar} {j_points : Int32} {j_near : Int32} {j_loose : Int32} {j_short : Int32} {j_nets : Ar} {j_xs : Ar} {j_ys : Ar}  {q_t_total : Int32} {q_t_oft : Int32} {q_t_left : Ar} {q_t_right : Ar} {q_t_group : Ar} {q_t_paired : Ar} {q_n_total : Int32} {q_n_planned : Int32} {q_n_leaps : Ar} (h : m_X5_layTriesAnew b_points b_near b_nets b_xs b_ys t_total t_oft t_left t_right t_group t_paired n_total n_planned n_leaps = some (q_t_total, q_t_oft, q_t_left, q_t_right, q_t_group, q_t_paired, q_n_total, q_n_planned, q_n_leaps)) : Cv E yX5_layTriesAnew (wU yX5_layTriesAnew cX5_layTriesAnew 1 none) (RM 5 118) [.ref as0] (V_S E.2.2 as0 ab0 ab1 ab2 ab3 at0 at1 at2 at3 at4 an0 an1 an2 anb0 anb1 ann0 ann1 ap0 ap1 as1 ai0 ai1 ai2 ai3 aj0 aj1 aj2 aj3 s_kept b_points b_near b_loose b_short b_nets b_xs b_ys t_total t_oft t_left t_right t_group t_paired n_total n_planned n_leaps n_onward nb_len nb_sum nb_tries nn_len nn_sum nn_tries p_len p_signs i_points i_near i_loose i_short i_nets i_xs i_ys j_points j_near j_loose j_short j_nets j_xs j_ys) (V_S E.2.2 as0 ab0 ab1 ab2 ab3 at0 at1 at2 at3 at4 an0 an1 an2 anb0 anb1 ann0 ann1 ap0 ap1 as1 ai0 ai1 ai2 ai3 aj0 aj1 aj2 aj3 s_kept b_points b_near b_loose b_short b_nets b_xs b_ys q_t_total q_t_oft q_t_left q_t_right q_t_group q_t_paired q_n_total q_n_planned q_n_leaps n_onward nb_len nb_sum nb_tries nn_len nn_sum nn_tries p_len p_signs i_points i_near i_loose i_short i_nets i_xs i_ys j_points j_near j_loose j_short j_nets j_xs j_ys) := by
  refine Cv.of (by decide) (Nat.le_of_ble_eq_true rfl) ?_
  intro x hE C
  subst hE
  have C : CX RX5 cX5_layTriesAnew 1 none x := C
  refine p_locals [0] (lv' := [(0, .ref as0)]) rfl ?_
  unfold m_X5_layTriesAnew at h
  refine p_aload_n C dX5_layTriesAnew_0 rfl 0 rfl ?_
  refine p_get C dX5_layTriesAnew_1 rfl 0 1 inlX5 fl_X5_19 rfl rfl (by decide) rfl rfl ?_
  refine p_aload_n C dX5_layTriesAnew_4 rfl 0 rfl ?_
  refine p_get C dX5_layTriesAnew_5 rfl 0 0 inlX5 fl_X5_12 rfl rfl (by decide) rfl rfl ?_
  obtain ⟨z_total1, z_oft2, z_left3, z_right4, z_group5, z_paired6, hc7, h⟩ := bd6_of h
  refine p_callVNv (As := [.ref ab0]) (st' := []) (Wd' := (V_S x.1.2.2 as0 ab0 ab1 ab2 ab3 at0 at1 at2 at3 at4 an0 an1 an2 anb0 anb1 ann0 ann1 ap0 ap1 as1 ai0 ai1 ai2 ai3 aj0 aj1 aj2 aj3 s_kept b_points b_near b_loose b_short b_nets b_xs b_ys z_total1 z_oft2 z_left3 z_right4 z_group5 z_paired6 n_total n_planned n_leaps n_onward nb_len nb_sum nb_tries nn_len nn_sum nn_tries p_len p_signs i_points i_near i_loose i_short i_nets i_xs i_ys j_points j_near j_loose j_short j_nets j_xs j_ys)) C (c_X4_layOut x.1 (at0 := at0) (at1 := at1) (at2 := at2) (at3 := at3) (at4 := at4) (ab0 := ab0) (ab1 := ab1) (ab2 := ab2) (ab3 := ab3) (b_loose := b_loose) (b_short := b_short) hc7) dX5_layTriesAnew_8 rfl nm_X5_196 kv_X4_layOut ds_X4_layOut ⟨rfl, rfl, by decide, by decide⟩ 0 rfl rfl [5, 6, 7, 8, 9, 1, 2, 3, 4] rfl rfl rfl rfl (by decide) ⟨by decide, by decide⟩ rfl ?_
  refine p_aload_n C dX5_layTriesAnew_11 rfl 0 rfl ?_
  refine p_get C dX5_layTriesAnew_12 rfl 0 2 inlX5 fl_X5_26 rfl rfl (by decide) rfl rfl ?_
  refine p_aload_n C dX5_layTriesAnew_15 rfl 0 rfl ?_
  refine p_get C dX5_layTriesAnew_16 rfl 0 0 inlX5 fl_X5_12 rfl rfl (by decide) rfl rfl ?_
  refine p_aload_n C dX5_layTriesAnew_19 rfl 0 rfl ?_
  refine p_get C dX5_layTriesAnew_20 rfl 0 1 inlX5 fl_X5_19 rfl rfl (by decide) rfl rfl ?_
  obtain ⟨z_total8, z_planned9, z_leaps10, hc11, h⟩ := bd3_of h
  refine p_callVNv (As := [.ref ab0, .ref at0]) (st' := []) (Wd' := (V_S x.1.2.2 as0 ab0 ab1 ab2 ab3 at0 at1 at2 at3 at4 an0 an1 an2 anb0 anb1 ann0 ann1 ap0 ap1 as1 ai0 ai1 ai2 ai3 aj0 aj1 aj2 aj3 s_kept b_points b_near b_loose b_short b_nets b_xs b_ys z_total1 z_oft2 z_left3 z_right4 z_group5 z_paired6 z_total8 z_planned9 z_leaps10 n_onward nb_len nb_sum nb_tries nn_len nn_sum nn_tries p_len p_signs i_points i_near i_loose i_short i_nets i_xs i_ys j_points j_near j_loose j_short j_nets j_xs j_ys)) C (c_X1_measure x.1 (an0 := an0) (an1 := an1) (an2 := an2) (anb0 := anb0) (anb1 := anb1) (ann0 := ann0) (ann1 := ann1) (ab0 := ab0) (ab1 := ab1) (ab2 := ab2) (ab3 := ab3) (at0 := at0) (at1 := at1) (at2 := at2) (at3 := at3) (at4 := at4) (n_onward := n_onward) (nb_len := nb_len) (nb_sum := nb_sum) (nb_tries := nb_tries) (nn_len := nn_len) (nn_sum := nn_sum) (nn_tries := nn_tries) (b_points := b_points) (b_near := b_near) (b_loose := b_loose) (b_short := b_short) (b_nets := b_nets) (t_oft := z_oft2) (t_group := z_group5) (t_paired := z_paired6) hc11) dX5_layTriesAnew_23 rfl nm_X5_199 kv_X1_measure ds_X1_measure ⟨rfl, rfl, by decide, by decide⟩ 0 rfl rfl [10, 11, 12, 13, 14, 15, 16, 1, 2, 3, 4, 5, 6, 7, 8, 9] rfl rfl rfl rfl (by decide) ⟨by decide, by decide⟩ rfl ?_
  cases h
  exact p_vret C dX5_layTriesAnew_26
def m_X5_loosen (b_points : Int32) (b_loose : Int32) (p1 : Int32) (p2 : Int32) : Option (Int32 × Int32) := bd1 (m_X0_hasPoint b_points p1) (fun r1 => if r1 = 0 then (some ((-1 : Int32), b_loose)) else (bd1 (m_X5_isSwitch p2) (fun r4 => if r4 = 0 then (some ((-2 : Int32), b_loose)) else (bd1 (m_X5_withMember b_loose p1 p2) (fun r7 => bd1 (m_J6_bitCount_0f7a4 r7) (fun r9 => some (r9, r7)))))))
theorem ds_X5_loosen : (yX5_loosen).cls ≠ "java/lang/invoke/MethodHandle" ∧ (yX5_loosen).cls ≠ "java/lang/invoke/VarHandle" ∧ (parseMethodDescriptor (yX5_loosen).desc).map (fun d => d.parameters.length) = some 2 := by decide +kernel
set_option maxHeartbeats 4000000 in
set_option maxRecDepth 100000 in
theorem c_X5_loosen (E : En) {as0 ab0 ab1 ab2 ab3 at0 at1 at2 at3 at4 an0 an1 an2 anb0 anb1 ann0 ann1 ap0 ap1 as1 ai0 ai1 ai2 ai3 aj0 aj1 aj2 aj3 : Nat} {s_kept : Int32} {b_points : Int32} {b_near : Int32} {b_loose : Int32} {b_short : Int32} {b_nets : Ar} {b_xs : Ar} {b_ys : Ar} {t_total : Int32} {t_oft : Int32} {t_left : Ar} {t_right : Ar} {t_group : Ar} {t_paired : Ar} {n_total : Int32} {n_planned : Int32} {n_leaps : Ar} {n_onward : Ar} {nb_len : Int32} {nb_sum : Int32} {nb_tries : Ar} {nn_len : Int32} {nn_sum : Int32} {nn_tries : Ar} {p_len : Int32} {p_signs : Ar} {i_points : Int32} {i_near : Int32} {i_loose : Int32} {i_short : Int32} {i_nets : Ar} {i_xs : Ar} {i_ys : Ar} {j_points : Int32} {j_near : Int32} {j_loose : Int32} {j_short : Int32} {j_nets : Ar} {j_xs : Ar} {j_ys : Ar} {p1 : Int32} {p2 : Int32} {rr : Int32} {q_b_loose : Int32} (h : m_X5_loosen b_points b_loose p1 p2 = some (rr, q_b_loose)) : Ci E yX5_loosen (wU yX5_loosen cX5_loosen 3 (some .int)) (RM 1 22) [.ref as0, .int p1, .int p2] (V_S E.2.2 as0 ab0 ab1 ab2 ab3 at0 at1 at2 at3 at4 an0 an1 an2 anb0 anb1 ann0 ann1 ap0 ap1 as1 ai0 ai1 ai2 ai3 aj0 aj1 aj2 aj3 s_kept b_points b_near b_loose b_short b_nets b_xs b_ys t_total t_oft t_left t_right t_group t_paired n_total n_planned n_leaps n_onward nb_len nb_sum nb_tries nn_len nn_sum nn_tries p_len p_signs i_points i_near i_loose i_short i_nets i_xs i_ys j_points j_near j_loose j_short j_nets j_xs j_ys) (V_S E.2.2 as0 ab0 ab1 ab2 ab3 at0 at1 at2 at3 at4 an0 an1 an2 anb0 anb1 ann0 ann1 ap0 ap1 as1 ai0 ai1 ai2 ai3 aj0 aj1 aj2 aj3 s_kept b_points b_near q_b_loose b_short b_nets b_xs b_ys t_total t_oft t_left t_right t_group t_paired n_total n_planned n_leaps n_onward nb_len nb_sum nb_tries nn_len nn_sum nn_tries p_len p_signs i_points i_near i_loose i_short i_nets i_xs i_ys j_points j_near j_loose j_short j_nets j_xs j_ys) rr := by
  refine Ci.of (by decide) (Nat.le_of_ble_eq_true rfl) ?_
  intro x hE C
  subst hE
  have C : CX RX5 cX5_loosen 3 (some .int) x := C
  refine p_locals [0, 1, 2] (lv' := [(0, .ref as0), (1, .int p1), (2, .int p2)]) rfl ?_
  unfold m_X5_loosen at h
  refine p_aload_n C dX5_loosen_0 rfl 0 rfl ?_
  refine p_get C dX5_loosen_1 rfl 0 0 inlX5 fl_X5_12 rfl rfl (by decide) rfl rfl ?_
  refine p_iload_n C dX5_loosen_4 rfl 1 rfl ?_
  obtain ⟨r1, hc2, h⟩ := bd1_of h
  refine p_callVNi (As := [.int p1]) (st' := []) (Wd' := (V_S x.1.2.2 as0 ab0 ab1 ab2 ab3 at0 at1 at2 at3 at4 an0 an1 an2 anb0 anb1 ann0 ann1 ap0 ap1 as1 ai0 ai1 ai2 ai3 aj0 aj1 aj2 aj3 s_kept b_points b_near b_loose b_short b_nets b_xs b_ys t_total t_oft t_left t_right t_group t_paired n_total n_planned n_leaps n_onward nb_len nb_sum nb_tries nn_len nn_sum nn_tries p_len p_signs i_points i_near i_loose i_short i_nets i_xs i_ys j_points j_near j_loose j_short j_nets j_xs j_ys)) C (c_X0_hasPoint x.1 (ab0 := ab0) (ab1 := ab1) (ab2 := ab2) (ab3 := ab3) (b_near := b_near) (b_loose := b_loose) (b_short := b_short) (b_nets := b_nets) (b_xs := b_xs) (b_ys := b_ys) hc2) dX5_loosen_5 rfl nm_X5_66 kv_X0_hasPoint ds_X0_hasPoint ⟨rfl, rfl, by decide, by decide⟩ 0 rfl rfl [1, 2, 3, 4] rfl rfl rfl rfl (by decide) ⟨by decide, by decide⟩ rfl ?_
  refine p_if_ne C dX5_loosen_8 (tgt := 13) (by decide) rfl (fun c3 => ?_) (fun c3 => ?_)
  · have h := if_f c3 h
    refine p_iload_n C dX5_loosen_13 rfl 2 rfl ?_
    obtain ⟨r4, hc5, h⟩ := bd1_of h
    refine p_callSi (As := [.int p2]) (st' := []) (Wd' := (V_S x.1.2.2 as0 ab0 ab1 ab2 ab3 at0 at1 at2 at3 at4 an0 an1 an2 anb0 anb1 ann0 ann1 ap0 ap1 as1 ai0 ai1 ai2 ai3 aj0 aj1 aj2 aj3 s_kept b_points b_near b_loose b_short b_nets b_xs b_ys t_total t_oft t_left t_right t_group t_paired n_total n_planned n_leaps n_onward nb_len nb_sum nb_tries nn_len nn_sum nn_tries p_len p_signs i_points i_near i_loose i_short i_nets i_xs i_ys j_points j_near j_loose j_short j_nets j_xs j_ys)) C (c_X5_isSwitch x.1 hc5) dX5_loosen_14 rfl ml_X5_157 ks_X5_isSwitch ds_X5_isSwitch ⟨rfl, rfl, by decide, by decide⟩ [] rfl rfl rfl rfl (by decide) ⟨by decide, by decide⟩ rfl ?_
    refine p_if_ne C dX5_loosen_17 (tgt := 23) (by decide) rfl (fun c6 => ?_) (fun c6 => ?_)
    · have h := if_f c6 h
      refine p_aload_n C dX5_loosen_23 rfl 0 rfl ?_
      refine p_get C dX5_loosen_24 rfl 0 0 inlX5 fl_X5_12 rfl rfl (by decide) rfl rfl ?_
      refine p_aload_n C dX5_loosen_27 rfl 0 rfl ?_
      refine p_get C dX5_loosen_28 rfl 0 0 inlX5 fl_X5_12 rfl rfl (by decide) rfl rfl ?_
      refine p_getN C dX5_loosen_31 rfl 1 5 inlX0 nf_X5_82 rfl rfl (by decide) rfl rfl ?_
      refine p_iload_n C dX5_loosen_34 rfl 1 rfl ?_
      refine p_iload_n C dX5_loosen_35 rfl 2 rfl ?_
      obtain ⟨r7, hc8, h⟩ := bd1_of h
      refine p_callSi (As := [.int b_loose, .int p1, .int p2]) (st' := [.ref ab0]) (Wd' := (V_S x.1.2.2 as0 ab0 ab1 ab2 ab3 at0 at1 at2 at3 at4 an0 an1 an2 anb0 anb1 ann0 ann1 ap0 ap1 as1 ai0 ai1 ai2 ai3 aj0 aj1 aj2 aj3 s_kept b_points b_near b_loose b_short b_nets b_xs b_ys t_total t_oft t_left t_right t_group t_paired n_total n_planned n_leaps n_onward nb_len nb_sum nb_tries nn_len nn_sum nn_tries p_len p_signs i_points i_near i_loose i_short i_nets i_xs i_ys j_points j_near j_loose j_short j_nets j_xs j_ys)) C (c_X5_withMember x.1 hc8) dX5_loosen_36 rfl ml_X5_160 ks_X5_withMember ds_X5_withMember ⟨rfl, rfl, by decide, by decide⟩ [] rfl rfl rfl rfl (Nat.le_of_ble_eq_true rfl) ⟨by decide, by decide⟩ rfl ?_
      refine p_putN (Wd' := (V_S x.1.2.2 as0 ab0 ab1 ab2 ab3 at0 at1 at2 at3 at4 an0 an1 an2 anb0 anb1 ann0 ann1 ap0 ap1 as1 ai0 ai1 ai2 ai3 aj0 aj1 aj2 aj3 s_kept b_points b_near r7 b_short b_nets b_xs b_ys t_total t_oft t_left t_right t_group t_paired n_total n_planned n_leaps n_onward nb_len nb_sum nb_tries nn_len nn_sum nn_tries p_len p_signs i_points i_near i_loose i_short i_nets i_xs i_ys j_points j_near j_loose j_short j_nets j_xs j_ys)) (ty := .int) C dX5_loosen_39 rfl 1 5 inlX0 tyX0 tyX0_ok nmX0 nf_X5_82 rfl rfl (by decide) rfl rfl (by decide +kernel) rfl rfl (Nat.le_of_ble_eq_true rfl) rfl ?_
      refine p_aload_n C dX5_loosen_42 rfl 0 rfl ?_
      refine p_get C dX5_loosen_43 rfl 0 0 inlX5 fl_X5_12 rfl rfl (by decide) rfl rfl ?_
      refine p_getN C dX5_loosen_46 rfl 1 5 inlX0 nf_X5_82 rfl rfl (by decide) rfl rfl ?_
      obtain ⟨r9, hc10, h⟩ := bd1_of h
      refine p_callSi (As := [.int r7]) (st' := []) (Wd' := (V_S x.1.2.2 as0 ab0 ab1 ab2 ab3 at0 at1 at2 at3 at4 an0 an1 an2 anb0 anb1 ann0 ann1 ap0 ap1 as1 ai0 ai1 ai2 ai3 aj0 aj1 aj2 aj3 s_kept b_points b_near r7 b_short b_nets b_xs b_ys t_total t_oft t_left t_right t_group t_paired n_total n_planned n_leaps n_onward nb_len nb_sum nb_tries nn_len nn_sum nn_tries p_len p_signs i_points i_near i_loose i_short i_nets i_xs i_ys j_points j_near j_loose j_short j_nets j_xs j_ys)) C (c_J6_bitCount_0f7a4 x.1 hc10) dX5_loosen_49 rfl ml_X5_163 ks_J6_bitCount_0f7a4 ds_J6_bitCount_0f7a4 ⟨rfl, rfl, by decide, by decide⟩ [] rfl rfl rfl rfl (by decide) ⟨by decide, by decide⟩ rfl ?_
      cases h
      exact p_iret C dX5_loosen_52
    · have h := if_t c6 h
      refine p_bipush (v := (-2 : Int32)) C dX5_loosen_20 rfl (by decide) ?_
      cases h
      exact p_iret C dX5_loosen_22
  · have h := if_t c3 h
    refine p_iconst (v := (-1 : Int32)) C dX5_loosen_11 rfl (by decide) ?_
    cases h
    exact p_iret C dX5_loosen_12
def m_X5_move (b_points : Int32) (b_near : Int32) (b_nets : Ar) (b_xs : Ar) (b_ys : Ar) (t_total : Int32) (t_oft : Int32) (t_left : Ar) (t_right : Ar) (t_group : Ar) (t_paired : Ar) (n_total : Int32) (n_planned : Int32) (n_leaps : Ar) (p1 : Int32) (p2 : Int32) (p3 : Int32) : Option (Int32 × Ar × Ar × Int32 × Int32 × Ar × Ar × Ar × Ar × Int32 × Int32 × Ar) := bd1 (m_X0_hasPoint b_points p1) (fun r1 => if r1 = 0 then (some ((-1 : Int32), b_xs, b_ys, t_total, t_oft, t_left, t_right, t_group, t_paired, n_total, n_planned, n_leaps)) else (bd1 (m_X5_isOnBoard p2 p3) (fun r4 => if r4 = 0 then (some ((-2 : Int32), b_xs, b_ys, t_total, t_oft, t_left, t_right, t_group, t_paired, n_total, n_planned, n_leaps)) else (grd (gI p1 8) (grd (gI p1 8) (grd (gI p1 8) (grd (gI p1 8) (bd9 (m_X5_layTriesAnew b_points b_near b_nets (upd b_xs p1.toNatClampNeg p2) (upd b_ys p1.toNatClampNeg p3) t_total t_oft t_left t_right t_group t_paired n_total n_planned n_leaps) (fun z_total11 z_oft12 z_left13 z_right14 z_group15 z_paired16 z_total17 z_planned18 z_leaps19 => some ((((21 : Int32)) * (b_xs p1.toNatClampNeg)) + (b_ys p1.toNatClampNeg), upd b_xs p1.toNatClampNeg p2, upd b_ys p1.toNatClampNeg p3, z_total11, z_oft12, z_left13, z_right14, z_group15, z_paired16, z_total17, z_planned18, z_leaps19))))))))))
theorem ds_X5_move : (yX5_move).cls ≠ "java/lang/invoke/MethodHandle" ∧ (yX5_move).cls ≠ "java/lang/invoke/VarHandle" ∧ (parseMethodDescriptor (yX5_move).desc).map (fun d => d.parameters.length) = some 3 := by decide +kernel
set_option maxHeartbeats 4000000 in
set_option maxRecDepth 100000 in
theorem c_X5_move (E : En) {as0 ab0 ab1 ab2 ab3 at0 at1 at2 at3 at4 an0 an1 an2 anb0 anb1 ann0 ann1 ap0 ap1 as1 ai0 ai1 ai2 ai3 aj0 aj1 aj2 aj3 : Nat} {s_kept : Int32} {b_points : Int32} {b_near : Int32} {b_loose : Int32} {b_short : Int32} {b_nets : Ar} {b_xs : Ar} {b_ys : Ar} {t_total : Int32} {t_oft : Int32} {t_left : Ar} {t_right : Ar} {t_group : Ar} {t_paired : Ar} {n_total : Int32} {n_planned : Int32} {n_leaps : Ar} {n_onward : Ar} {nb_len : Int32} {nb_sum : Int32} {nb_tries : Ar} {nn_len : Int32} {nn_sum : Int32} {nn_tries : Ar} {p_len : Int32} {p_signs : Ar} {i_points : Int32} {i_near : Int32} {i_loose : Int32} {i_short : Int32} {i_nets : Ar} {i_xs : Ar} {i_ys : Ar} {j_points : Int32} {j_near : Int32} {j_loose : Int32} {j_short : Int32} {j_nets : Ar} {j_xs : Ar} {j_ys : Ar} {p1 : Int32} {p2 : Int32} {p3 : Int32} {rr : Int32} {q_b_xs : Ar} {q_b_ys : Ar} {q_t_total : Int32} {q_t_oft : Int32} {q_t_left : Ar} {q_t_right : Ar} {q_t_group : Ar} {q_t_paired : Ar} {q_n_total : Int32} {q_n_planned : Int32} {q_n_leaps : Ar} (h : m_X5_move b_points b_near b_nets b_xs b_ys t_total t_oft t_left t_right t_group t_paired n_total n_planned n_leaps p1 p2 p3 = some (rr, q_b_xs, q_b_ys, q_t_total, q_t_oft, q_t_left, q_t_right, q_t_group, q_t_paired, q_n_total, q_n_planned, q_n_leaps)) : Ci E yX5_move (wU yX5_move cX5_move 5 (some .int)) (RM 6 138) [.ref as0, .int p1, .int p2, .int p3] (V_S E.2.2 as0 ab0 ab1 ab2 ab3 at0 at1 at2 at3 at4 an0 an1 an2 anb0 anb1 ann0 ann1 ap0 ap1 as1 ai0 ai1 ai2 ai3 aj0 aj1 aj2 aj3 s_kept b_points b_near b_loose b_short b_nets b_xs b_ys t_total t_oft t_left t_right t_group t_paired n_total n_planned n_leaps n_onward nb_len nb_sum nb_tries nn_len nn_sum nn_tries p_len p_signs i_points i_near i_loose i_short i_nets i_xs i_ys j_points j_near j_loose j_short j_nets j_xs j_ys) (V_S E.2.2 as0 ab0 ab1 ab2 ab3 at0 at1 at2 at3 at4 an0 an1 an2 anb0 anb1 ann0 ann1 ap0 ap1 as1 ai0 ai1 ai2 ai3 aj0 aj1 aj2 aj3 s_kept b_points b_near b_loose b_short b_nets q_b_xs q_b_ys q_t_total q_t_oft q_t_left q_t_right q_t_group q_t_paired q_n_total q_n_planned q_n_leaps n_onward nb_len nb_sum nb_tries nn_len nn_sum nn_tries p_len p_signs i_points i_near i_loose i_short i_nets i_xs i_ys j_points j_near j_loose j_short j_nets j_xs j_ys) rr := by
  refine Ci.of (by decide) (Nat.le_of_ble_eq_true rfl) ?_
  intro x hE C
  subst hE
  have C : CX RX5 cX5_move 5 (some .int) x := C
  refine p_locals [0, 1, 2, 3] (lv' := [(0, .ref as0), (1, .int p1), (2, .int p2), (3, .int p3)]) rfl ?_
  unfold m_X5_move at h
  refine p_aload_n C dX5_move_0 rfl 0 rfl ?_
  refine p_get C dX5_move_1 rfl 0 0 inlX5 fl_X5_12 rfl rfl (by decide) rfl rfl ?_
  refine p_iload_n C dX5_move_4 rfl 1 rfl ?_
  obtain ⟨r1, hc2, h⟩ := bd1_of h
  refine p_callVNi (As := [.int p1]) (st' := []) (Wd' := (V_S x.1.2.2 as0 ab0 ab1 ab2 ab3 at0 at1 at2 at3 at4 an0 an1 an2 anb0 anb1 ann0 ann1 ap0 ap1 as1 ai0 ai1 ai2 ai3 aj0 aj1 aj2 aj3 s_kept b_points b_near b_loose b_short b_nets b_xs b_ys t_total t_oft t_left t_right t_group t_paired n_total n_planned n_leaps n_onward nb_len nb_sum nb_tries nn_len nn_sum nn_tries p_len p_signs i_points i_near i_loose i_short i_nets i_xs i_ys j_points j_near j_loose j_short j_nets j_xs j_ys)) C (c_X0_hasPoint x.1 (ab0 := ab0) (ab1 := ab1) (ab2 := ab2) (ab3 := ab3) (b_near := b_near) (b_loose := b_loose) (b_short := b_short) (b_nets := b_nets) (b_xs := b_xs) (b_ys := b_ys) hc2) dX5_move_5 rfl nm_X5_66 kv_X0_hasPoint ds_X0_hasPoint ⟨rfl, rfl, by decide, by decide⟩ 0 rfl rfl [1, 2, 3, 4] rfl rfl rfl rfl (by decide) ⟨by decide, by decide⟩ rfl ?_
  refine p_if_ne C dX5_move_8 (tgt := 13) (by decide) rfl (fun c3 => ?_) (fun c3 => ?_)
  · have h := if_f c3 h
    refine p_iload_n C dX5_move_13 rfl 2 rfl ?_
    refine p_iload_n C dX5_move_14 rfl 3 rfl ?_
    obtain ⟨r4, hc5, h⟩ := bd1_of h
    refine p_callSi (As := [.int p2, .int p3]) (st' := []) (Wd' := (V_S x.1.2.2 as0 ab0 ab1 ab2 ab3 at0 at1 at2 at3 at4 an0 an1 an2 anb0 anb1 ann0 ann1 ap0 ap1 as1 ai0 ai1 ai2 ai3 aj0 aj1 aj2 aj3 s_kept b_points b_near b_loose b_short b_nets b_xs b_ys t_total t_oft t_left t_right t_group t_paired n_total n_planned n_leaps n_onward nb_len nb_sum nb_tries nn_len nn_sum nn_tries p_len p_signs i_points i_near i_loose i_short i_nets i_xs i_ys j_points j_near j_loose j_short j_nets j_xs j_ys)) C (c_X5_isOnBoard x.1 hc5) dX5_move_15 rfl ml_X5_49 ks_X5_isOnBoard ds_X5_isOnBoard ⟨rfl, rfl, by decide, by decide⟩ [] rfl rfl rfl rfl (by decide) ⟨by decide, by decide⟩ rfl ?_
    refine p_if_ne C dX5_move_18 (tgt := 24) (by decide) rfl (fun c6 => ?_) (fun c6 => ?_)
    · have h := if_f c6 h
      refine p_bipush (v := (21 : Int32)) C dX5_move_24 rfl (by decide) ?_
      refine p_aload_n C dX5_move_26 rfl 0 rfl ?_
      refine p_get C dX5_move_27 rfl 0 0 inlX5 fl_X5_12 rfl rfl (by decide) rfl rfl ?_
      refine p_getN C dX5_move_30 rfl 1 1 inlX0 nf_X5_69 rfl rfl (by decide) rfl rfl ?_
      refine p_iload_n C dX5_move_33 rfl 1 rfl ?_
      obtain ⟨g7, h⟩ := grd_of h
      refine p_iald C dX5_move_34 rfl 3 rfl g7 ?_
      refine p_imul C dX5_move_35 rfl ?_
      refine p_aload_n C dX5_move_36 rfl 0 rfl ?_
      refine p_get C dX5_move_37 rfl 0 0 inlX5 fl_X5_12 rfl rfl (by decide) rfl rfl ?_
      refine p_getN C dX5_move_40 rfl 1 2 inlX0 nf_X5_73 rfl rfl (by decide) rfl rfl ?_
      refine p_iload_n C dX5_move_43 rfl 1 rfl ?_
      obtain ⟨g8, h⟩ := grd_of h
      refine p_iald C dX5_move_44 rfl 4 rfl g8 ?_
      refine p_iadd C dX5_move_45 rfl ?_
      refine p_istore (lv' := [(4, .int ((((21 : Int32)) * (b_xs p1.toNatClampNeg)) + (b_ys p1.toNatClampNeg))), (0, .ref as0), (1, .int p1), (2, .int p2), (3, .int p3)]) C dX5_move_46 rfl (by decide) rfl ?_
      refine p_aload_n C dX5_move_48 rfl 1 rfl ?_
      refine p_get C dX5_move_49 rfl 0 0 inlX5 fl_X5_12 rfl rfl (by decide) rfl rfl ?_
      refine p_getN C dX5_move_52 rfl 1 1 inlX0 nf_X5_69 rfl rfl (by decide) rfl rfl ?_
      refine p_iload_n C dX5_move_55 rfl 2 rfl ?_
      refine p_iload_n C dX5_move_56 rfl 3 rfl ?_
      obtain ⟨g9, h⟩ := grd_of h
      refine p_iast (Wd' := (V_S x.1.2.2 as0 ab0 ab1 ab2 ab3 at0 at1 at2 at3 at4 an0 an1 an2 anb0 anb1 ann0 ann1 ap0 ap1 as1 ai0 ai1 ai2 ai3 aj0 aj1 aj2 aj3 s_kept b_points b_near b_loose b_short b_nets (upd b_xs p1.toNatClampNeg p2) b_ys t_total t_oft t_left t_right t_group t_paired n_total n_planned n_leaps n_onward nb_len nb_sum nb_tries nn_len nn_sum nn_tries p_len p_signs i_points i_near i_loose i_short i_nets i_xs i_ys j_points j_near j_loose j_short j_nets j_xs j_ys)) C dX5_move_57 rfl 3 rfl g9 rfl ?_
      refine p_aload_n C dX5_move_58 rfl 1 rfl ?_
      refine p_get C dX5_move_59 rfl 0 0 inlX5 fl_X5_12 rfl rfl (by decide) rfl rfl ?_
      refine p_getN C dX5_move_62 rfl 1 2 inlX0 nf_X5_73 rfl rfl (by decide) rfl rfl ?_
      refine p_iload_n C dX5_move_65 rfl 2 rfl ?_
      refine p_iload_n C dX5_move_66 rfl 4 rfl ?_
      obtain ⟨g10, h⟩ := grd_of h
      refine p_iast (Wd' := (V_S x.1.2.2 as0 ab0 ab1 ab2 ab3 at0 at1 at2 at3 at4 an0 an1 an2 anb0 anb1 ann0 ann1 ap0 ap1 as1 ai0 ai1 ai2 ai3 aj0 aj1 aj2 aj3 s_kept b_points b_near b_loose b_short b_nets (upd b_xs p1.toNatClampNeg p2) (upd b_ys p1.toNatClampNeg p3) t_total t_oft t_left t_right t_group t_paired n_total n_planned n_leaps n_onward nb_len nb_sum nb_tries nn_len nn_sum nn_tries p_len p_signs i_points i_near i_loose i_short i_nets i_xs i_ys j_points j_near j_loose j_short j_nets j_xs j_ys)) C dX5_move_67 rfl 4 rfl g10 rfl ?_
      refine p_aload_n C dX5_move_68 rfl 1 rfl ?_
      obtain ⟨z_total11, z_oft12, z_left13, z_right14, z_group15, z_paired16, z_total17, z_planned18, z_leaps19, hc20, h⟩ := bd9_of h
      refine p_callVv_s (As := []) (st' := []) (Wc' := (V_S x.1.2.2 as0 ab0 ab1 ab2 ab3 at0 at1 at2 at3 at4 an0 an1 an2 anb0 anb1 ann0 ann1 ap0 ap1 as1 ai0 ai1 ai2 ai3 aj0 aj1 aj2 aj3 s_kept b_points b_near b_loose b_short b_nets (upd b_xs p1.toNatClampNeg p2) (upd b_ys p1.toNatClampNeg p3) z_total11 z_oft12 z_left13 z_right14 z_group15 z_paired16 z_total17 z_planned18 z_leaps19 n_onward nb_len nb_sum nb_tries nn_len nn_sum nn_tries p_len p_signs i_points i_near i_loose i_short i_nets i_xs i_ys j_points j_near j_loose j_short j_nets j_xs j_ys)) C (c_X5_layTriesAnew x.1 (as0 := as0) (ab0 := ab0) (ab1 := ab1) (ab2 := ab2) (ab3 := ab3) (at0 := at0) (at1 := at1) (at2 := at2) (at3 := at3) (at4 := at4) (an0 := an0) (an1 := an1) (an2 := an2) (anb0 := anb0) (anb1 := anb1) (ann0 := ann0) (ann1 := ann1) (ap0 := ap0) (ap1 := ap1) (as1 := as1) (ai0 := ai0) (ai1 := ai1) (ai2 := ai2) (ai3 := ai3) (aj0 := aj0) (aj1 := aj1) (aj2 := aj2) (aj3 := aj3) (s_kept := s_kept) (b_loose := b_loose) (b_short := b_short) (n_onward := n_onward) (nb_len := nb_len) (nb_sum := nb_sum) (nb_tries := nb_tries) (nn_len := nn_len) (nn_sum := nn_sum) (nn_tries := nn_tries) (p_len := p_len) (p_signs := p_signs) (i_points := i_points) (i_near := i_near) (i_loose := i_loose) (i_short := i_short) (i_nets := i_nets) (i_xs := i_xs) (i_ys := i_ys) (j_points := j_points) (j_near := j_near) (j_loose := j_loose) (j_short := j_short) (j_nets := j_nets) (j_xs := j_xs) (j_ys := j_ys) hc20) dX5_move_69 rfl ml_X5_60 kv_X5_layTriesAnew ds_X5_layTriesAnew ⟨rfl, rfl, by decide, by decide⟩ 0 rfl rfl rfl rfl (by decide) ⟨by decide, by decide⟩ ?_
      refine p_iload C dX5_move_72 rfl 0 rfl ?_
      cases h
      exact p_iret C dX5_move_74
    · have h := if_t c6 h
      refine p_bipush (v := (-2 : Int32)) C dX5_move_21 rfl (by decide) ?_
      cases h
      exact p_iret C dX5_move_23
  · have h := if_t c3 h
    refine p_iconst (v := (-1 : Int32)) C dX5_move_11 rfl (by decide) ?_
    cases h
    exact p_iret C dX5_move_12
def m_X5_near (b_points : Int32) (b_near : Int32) (b_nets : Ar) (b_xs : Ar) (b_ys : Ar) (t_total : Int32) (t_oft : Int32) (t_left : Ar) (t_right : Ar) (t_group : Ar) (t_paired : Ar) (n_total : Int32) (n_planned : Int32) (n_leaps : Ar) (p1 : Int32) : Option (Int32 × Int32 × Int32 × Int32 × Ar × Ar × Ar × Ar × Int32 × Int32 × Ar) := if p1 < 0 then (some ((-2 : Int32), b_near, t_total, t_oft, t_left, t_right, t_group, t_paired, n_total, n_planned, n_leaps)) else (if p1 ≤ ((800 : Int32)) then (bd9 (m_X5_layTriesAnew b_points p1 b_nets b_xs b_ys t_total t_oft t_left t_right t_group t_paired n_total n_planned n_leaps) (fun z_total3 z_oft4 z_left5 z_right6 z_group7 z_paired8 z_total9 z_planned10 z_leaps11 => some (b_near, p1, z_total3, z_oft4, z_left5, z_right6, z_group7, z_paired8, z_total9, z_planned10, z_leaps11))) else (some ((-2 : Int32), b_near, t_total, t_oft, t_left, t_right, t_group, t_paired, n_total, n_planned, n_leaps)))
theorem ds_X5_near : (yX5_near).cls ≠ "java/lang/invoke/MethodHandle" ∧ (yX5_near).cls ≠ "java/lang/invoke/VarHandle" ∧ (parseMethodDescriptor (yX5_near).desc).map (fun d => d.parameters.length) = some 1 := by decide +kernel
set_option maxHeartbeats 4000000 in
set_option maxRecDepth 100000 in
theorem c_X5_near (E : En) {as0 ab0 ab1 ab2 ab3 at0 at1 at2 at3 at4 an0 an1 an2 anb0 anb1 ann0 ann1 ap0 ap1 as1 ai0 ai1 ai2 ai3 aj0 aj1 aj2 aj3 : Nat} {s_kept : Int32} {b_points : Int32} {b_near : Int32} {b_loose : Int32} {b_short : Int32} {b_nets : Ar} {b_xs : Ar} {b_ys : Ar} {t_total : Int32} {t_oft : Int32} {t_left : Ar} {t_right : Ar} {t_group : Ar} {t_paired : Ar} {n_total : Int32} {n_planned : Int32} {n_leaps : Ar} {n_onward : Ar} {nb_len : Int32} {nb_sum : Int32} {nb_tries : Ar} {nn_len : Int32} {nn_sum : Int32} {nn_tries : Ar} {p_len : Int32} {p_signs : Ar} {i_points : Int32} {i_near : Int32} {i_loose : Int32} {i_short : Int32} {i_nets : Ar} {i_xs : Ar} {i_ys : Ar} {j_points : Int32} {j_near : Int32} {j_loose : Int32} {j_short : Int32} {j_nets : Ar} {j_xs : Ar} {j_ys : Ar} {p1 : Int32} {rr : Int32} {q_b_near : Int32} {q_t_total : Int32} {q_t_oft : Int32} {q_t_left : Ar} {q_t_right : Ar} {q_t_group : Ar} {q_t_paired : Ar} {q_n_total : Int32} {q_n_planned : Int32} {q_n_leaps : Ar} (h : m_X5_near b_points b_near b_nets b_xs b_ys t_total t_oft t_left t_right t_group t_paired n_total n_planned n_leaps p1 = some (rr, q_b_near, q_t_total, q_t_oft, q_t_left, q_t_right, q_t_group, q_t_paired, q_n_total, q_n_planned, q_n_leaps)) : Ci E yX5_near (wU yX5_near cX5_near 3 (some .int)) (RM 6 138) [.ref as0, .int p1] (V_S E.2.2 as0 ab0 ab1 ab2 ab3 at0 at1 at2 at3 at4 an0 an1 an2 anb0 anb1 ann0 ann1 ap0 ap1 as1 ai0 ai1 ai2 ai3 aj0 aj1 aj2 aj3 s_kept b_points b_near b_loose b_short b_nets b_xs b_ys t_total t_oft t_left t_right t_group t_paired n_total n_planned n_leaps n_onward nb_len nb_sum nb_tries nn_len nn_sum nn_tries p_len p_signs i_points i_near i_loose i_short i_nets i_xs i_ys j_points j_near j_loose j_short j_nets j_xs j_ys) (V_S E.2.2 as0 ab0 ab1 ab2 ab3 at0 at1 at2 at3 at4 an0 an1 an2 anb0 anb1 ann0 ann1 ap0 ap1 as1 ai0 ai1 ai2 ai3 aj0 aj1 aj2 aj3 s_kept b_points q_b_near b_loose b_short b_nets b_xs b_ys q_t_total q_t_oft q_t_left q_t_right q_t_group q_t_paired q_n_total q_n_planned q_n_leaps n_onward nb_len nb_sum nb_tries nn_len nn_sum nn_tries p_len p_signs i_points i_near i_loose i_short i_nets i_xs i_ys j_points j_near j_loose j_short j_nets j_xs j_ys) rr := by
  refine Ci.of (by decide) (Nat.le_of_ble_eq_true rfl) ?_
  intro x hE C
  subst hE
  have C : CX RX5 cX5_near 3 (some .int) x := C
  refine p_locals [0, 1] (lv' := [(0, .ref as0), (1, .int p1)]) rfl ?_
  unfold m_X5_near at h
  refine p_iload_n C dX5_near_0 rfl 1 rfl ?_
  refine p_if_lt C dX5_near_1 (tgt := 11) (by decide) rfl (fun c1 => ?_) (fun c1 => ?_)
  · have h := if_t c1 h
    refine p_bipush (v := (-2 : Int32)) C dX5_near_11 rfl (by decide) ?_
    cases h
    exact p_iret C dX5_near_13
  · have h := if_f c1 h
    refine p_iload_n C dX5_near_4 rfl 1 rfl ?_
    refine p_sipush (v := (800 : Int32)) C dX5_near_5 rfl (by decide) ?_
    refine p_icmp_le C dX5_near_8 (tgt := 14) (by decide) rfl (fun c2 => ?_) (fun c2 => ?_)
    · have h := if_t c2 h
      refine p_aload_n C dX5_near_14 rfl 0 rfl ?_
      refine p_get C dX5_near_15 rfl 0 0 inlX5 fl_X5_12 rfl rfl (by decide) rfl rfl ?_
      refine p_getN C dX5_near_18 rfl 1 4 inlX0 nf_X5_76 rfl rfl (by decide) rfl rfl ?_
      refine p_istore_n (lv' := [(2, .int b_near), (0, .ref as0), (1, .int p1)]) C dX5_near_21 rfl (by decide) rfl ?_
      refine p_aload_n C dX5_near_22 rfl 1 rfl ?_
      refine p_get C dX5_near_23 rfl 0 0 inlX5 fl_X5_12 rfl rfl (by decide) rfl rfl ?_
      refine p_iload_n C dX5_near_26 rfl 2 rfl ?_
      refine p_putN (Wd' := (V_S x.1.2.2 as0 ab0 ab1 ab2 ab3 at0 at1 at2 at3 at4 an0 an1 an2 anb0 anb1 ann0 ann1 ap0 ap1 as1 ai0 ai1 ai2 ai3 aj0 aj1 aj2 aj3 s_kept b_points p1 b_loose b_short b_nets b_xs b_ys t_total t_oft t_left t_right t_group t_paired n_total n_planned n_leaps n_onward nb_len nb_sum nb_tries nn_len nn_sum nn_tries p_len p_signs i_points i_near i_loose i_short i_nets i_xs i_ys j_points j_near j_loose j_short j_nets j_xs j_ys)) (ty := .int) C dX5_near_27 rfl 1 4 inlX0 tyX0 tyX0_ok nmX0 nf_X5_76 rfl rfl (by decide) rfl rfl (by decide +kernel) rfl rfl (Nat.le_of_ble_eq_true rfl) rfl ?_
      refine p_aload_n C dX5_near_30 rfl 1 rfl ?_
      obtain ⟨z_total3, z_oft4, z_left5, z_right6, z_group7, z_paired8, z_total9, z_planned10, z_leaps11, hc12, h⟩ := bd9_of h
      refine p_callVv_s (As := []) (st' := []) (Wc' := (V_S x.1.2.2 as0 ab0 ab1 ab2 ab3 at0 at1 at2 at3 at4 an0 an1 an2 anb0 anb1 ann0 ann1 ap0 ap1 as1 ai0 ai1 ai2 ai3 aj0 aj1 aj2 aj3 s_kept b_points p1 b_loose b_short b_nets b_xs b_ys z_total3 z_oft4 z_left5 z_right6 z_group7 z_paired8 z_total9 z_planned10 z_leaps11 n_onward nb_len nb_sum nb_tries nn_len nn_sum nn_tries p_len p_signs i_points i_near i_loose i_short i_nets i_xs i_ys j_points j_near j_loose j_short j_nets j_xs j_ys)) C (c_X5_layTriesAnew x.1 (as0 := as0) (ab0 := ab0) (ab1 := ab1) (ab2 := ab2) (ab3 := ab3) (at0 := at0) (at1 := at1) (at2 := at2) (at3 := at3) (at4 := at4) (an0 := an0) (an1 := an1) (an2 := an2) (anb0 := anb0) (anb1 := anb1) (ann0 := ann0) (ann1 := ann1) (ap0 := ap0) (ap1 := ap1) (as1 := as1) (ai0 := ai0) (ai1 := ai1) (ai2 := ai2) (ai3 := ai3) (aj0 := aj0) (aj1 := aj1) (aj2 := aj2) (aj3 := aj3) (s_kept := s_kept) (b_loose := b_loose) (b_short := b_short) (n_onward := n_onward) (nb_len := nb_len) (nb_sum := nb_sum) (nb_tries := nb_tries) (nn_len := nn_len) (nn_sum := nn_sum) (nn_tries := nn_tries) (p_len := p_len) (p_signs := p_signs) (i_points := i_points) (i_near := i_near) (i_loose := i_loose) (i_short := i_short) (i_nets := i_nets) (i_xs := i_xs) (i_ys := i_ys) (j_points := j_points) (j_near := j_near) (j_loose := j_loose) (j_short := j_short) (j_nets := j_nets) (j_xs := j_xs) (j_ys := j_ys) hc12) dX5_near_31 rfl ml_X5_60 kv_X5_layTriesAnew ds_X5_layTriesAnew ⟨rfl, rfl, by decide, by decide⟩ 0 rfl rfl rfl rfl (by decide) ⟨by decide, by decide⟩ ?_
      refine p_iload_n C dX5_near_34 rfl 0 rfl ?_
      cases h
      exact p_iret C dX5_near_35
    · have h := if_f c2 h
      refine p_bipush (v := (-2 : Int32)) C dX5_near_11 rfl (by decide) ?_
      cases h
      exact p_iret C dX5_near_13
def m_X5_nearest (n_total : Int32) (n_leaps : Ar) (n_onward : Ar) (nn_len : Int32) (nn_sum : Int32) (nn_tries : Ar) (p1 : Int32) : Option (Int32 × Int32 × Int32 × Ar) := if ((-1 : Int32)) ≤ p1 then (bd3 (m_X1_planNearest n_total n_leaps n_onward nn_len nn_sum nn_tries) (fun z_len2 z_sum3 z_tries4 => bd1 (m_X2_tell z_len2 z_sum3 z_tries4 p1) (fun r6 => some (r6, z_len2, z_sum3, z_tries4)))) else (some ((-2 : Int32), nn_len, nn_sum, nn_tries))
theorem ds_X5_nearest : (yX5_nearest).cls ≠ "java/lang/invoke/MethodHandle" ∧ (yX5_nearest).cls ≠ "java/lang/invoke/VarHandle" ∧ (parseMethodDescriptor (yX5_nearest).desc).map (fun d => d.parameters.length) = some 1 := by decide +kernel
set_option maxHeartbeats 4000000 in
set_option maxRecDepth 100000 in
theorem c_X5_nearest (E : En) {as0 ab0 ab1 ab2 ab3 at0 at1 at2 at3 at4 an0 an1 an2 anb0 anb1 ann0 ann1 ap0 ap1 as1 ai0 ai1 ai2 ai3 aj0 aj1 aj2 aj3 : Nat} {s_kept : Int32} {b_points : Int32} {b_near : Int32} {b_loose : Int32} {b_short : Int32} {b_nets : Ar} {b_xs : Ar} {b_ys : Ar} {t_total : Int32} {t_oft : Int32} {t_left : Ar} {t_right : Ar} {t_group : Ar} {t_paired : Ar} {n_total : Int32} {n_planned : Int32} {n_leaps : Ar} {n_onward : Ar} {nb_len : Int32} {nb_sum : Int32} {nb_tries : Ar} {nn_len : Int32} {nn_sum : Int32} {nn_tries : Ar} {p_len : Int32} {p_signs : Ar} {i_points : Int32} {i_near : Int32} {i_loose : Int32} {i_short : Int32} {i_nets : Ar} {i_xs : Ar} {i_ys : Ar} {j_points : Int32} {j_near : Int32} {j_loose : Int32} {j_short : Int32} {j_nets : Ar} {j_xs : Ar} {j_ys : Ar} {p1 : Int32} {rr : Int32} {q_nn_len : Int32} {q_nn_sum : Int32} {q_nn_tries : Ar} (h : m_X5_nearest n_total n_leaps n_onward nn_len nn_sum nn_tries p1 = some (rr, q_nn_len, q_nn_sum, q_nn_tries)) : Ci E yX5_nearest (wU yX5_nearest cX5_nearest 2 (some .int)) (RM 4 98) [.ref as0, .int p1] (V_S E.2.2 as0 ab0 ab1 ab2 ab3 at0 at1 at2 at3 at4 an0 an1 an2 anb0 anb1 ann0 ann1 ap0 ap1 as1 ai0 ai1 ai2 ai3 aj0 aj1 aj2 aj3 s_kept b_points b_near b_loose b_short b_nets b_xs b_ys t_total t_oft t_left t_right t_group t_paired n_total n_planned n_leaps n_onward nb_len nb_sum nb_tries nn_len nn_sum nn_tries p_len p_signs i_points i_near i_loose i_short i_nets i_xs i_ys j_points j_near j_loose j_short j_nets j_xs j_ys) (V_S E.2.2 as0 ab0 ab1 ab2 ab3 at0 at1 at2 at3 at4 an0 an1 an2 anb0 anb1 ann0 ann1 ap0 ap1 as1 ai0 ai1 ai2 ai3 aj0 aj1 aj2 aj3 s_kept b_points b_near b_loose b_short b_nets b_xs b_ys t_total t_oft t_left t_right t_group t_paired n_total n_planned n_leaps n_onward nb_len nb_sum nb_tries q_nn_len q_nn_sum q_nn_tries p_len p_signs i_points i_near i_loose i_short i_nets i_xs i_ys j_points j_near j_loose j_short j_nets j_xs j_ys) rr := by
  refine Ci.of (by decide) (Nat.le_of_ble_eq_true rfl) ?_
  intro x hE C
  subst hE
  have C : CX RX5 cX5_nearest 2 (some .int) x := C
  refine p_locals [0, 1] (lv' := [(0, .ref as0), (1, .int p1)]) rfl ?_
  unfold m_X5_nearest at h
  refine p_iload_n C dX5_nearest_0 rfl 1 rfl ?_
  refine p_iconst (v := (-1 : Int32)) C dX5_nearest_1 rfl (by decide) ?_
  refine p_icmp_ge C dX5_nearest_2 (tgt := 8) (by decide) rfl (fun c1 => ?_) (fun c1 => ?_)
  · have h := if_t c1 h
    refine p_aload_n C dX5_nearest_8 rfl 0 rfl ?_
    refine p_get C dX5_nearest_9 rfl 0 2 inlX5 fl_X5_26 rfl rfl (by decide) rfl rfl ?_
    obtain ⟨z_len2, z_sum3, z_tries4, hc5, h⟩ := bd3_of h
    refine p_callVNv (As := []) (st' := []) (Wd' := (V_S x.1.2.2 as0 ab0 ab1 ab2 ab3 at0 at1 at2 at3 at4 an0 an1 an2 anb0 anb1 ann0 ann1 ap0 ap1 as1 ai0 ai1 ai2 ai3 aj0 aj1 aj2 aj3 s_kept b_points b_near b_loose b_short b_nets b_xs b_ys t_total t_oft t_left t_right t_group t_paired n_total n_planned n_leaps n_onward nb_len nb_sum nb_tries z_len2 z_sum3 z_tries4 p_len p_signs i_points i_near i_loose i_short i_nets i_xs i_ys j_points j_near j_loose j_short j_nets j_xs j_ys)) C (c_X1_planNearest x.1 (an0 := an0) (an1 := an1) (an2 := an2) (anb0 := anb0) (anb1 := anb1) (ann0 := ann0) (ann1 := ann1) (n_planned := n_planned) (nb_len := nb_len) (nb_sum := nb_sum) (nb_tries := nb_tries) hc5) dX5_nearest_12 rfl nm_X5_151 kv_X1_planNearest ds_X1_planNearest ⟨rfl, rfl, by decide, by decide⟩ 0 rfl rfl [10, 11, 12, 13, 14, 15, 16] rfl rfl rfl rfl (by decide) ⟨by decide, by decide⟩ rfl ?_
    refine p_aload_n C dX5_nearest_15 rfl 0 rfl ?_
    refine p_get C dX5_nearest_16 rfl 0 2 inlX5 fl_X5_26 rfl rfl (by decide) rfl rfl ?_
    refine p_getN C dX5_nearest_19 rfl 10 4 inlX1 nf_X5_154 rfl rfl (by decide) rfl rfl ?_
    refine p_iload_n C dX5_nearest_22 rfl 1 rfl ?_
    obtain ⟨r6, hc7, h⟩ := bd1_of h
    refine p_callVNi (As := [.int p1]) (st' := []) (Wd' := (V_S x.1.2.2 as0 ab0 ab1 ab2 ab3 at0 at1 at2 at3 at4 an0 an1 an2 anb0 anb1 ann0 ann1 ap0 ap1 as1 ai0 ai1 ai2 ai3 aj0 aj1 aj2 aj3 s_kept b_points b_near b_loose b_short b_nets b_xs b_ys t_total t_oft t_left t_right t_group t_paired n_total n_planned n_leaps n_onward nb_len nb_sum nb_tries z_len2 z_sum3 z_tries4 p_len p_signs i_points i_near i_loose i_short i_nets i_xs i_ys j_points j_near j_loose j_short j_nets j_xs j_ys)) C (c_X2_tell x.1 (ao0 := ann0) (ao1 := ann1) hc7) dX5_nearest_23 rfl nm_X5_146 kv_X2_tell ds_X2_tell ⟨rfl, rfl, by decide, by decide⟩ 0 rfl rfl [15, 16] rfl rfl rfl rfl (by decide) ⟨by decide, by decide⟩ rfl ?_
    cases h
    exact p_iret C dX5_nearest_26
  · have h := if_f c1 h
    refine p_bipush (v := (-2 : Int32)) C dX5_nearest_5 rfl (by decide) ?_
    cases h
    exact p_iret C dX5_nearest_7
def m_X5_of (b_points : Int32) (b_loose : Int32) (b_nets : Ar) (b_xs : Ar) (b_ys : Ar) (p1 : Int32) (p2 : Int32) : Option (Int32) := bd1 (m_X0_hasPoint b_points p1) (fun r1 => if r1 = 0 then (some ((-1 : Int32))) else (if p2 = 0 then (grd (gI p1 8) (some (b_nets p1.toNatClampNeg))) else (if p2 = 1 then (grd (gI p1 8) (some (b_xs p1.toNatClampNeg))) else (if p2 = 2 then (grd (gI p1 8) (some (b_ys p1.toNatClampNeg))) else (if p2 = 3 then (bd1 (m_X5_isIn b_loose p1) (fun r11 => bd1 (m_X5_asNumber r11) (fun r13 => some r13))) else (some ((-2 : Int32))))))))
theorem ds_X5_of : (yX5_of).cls ≠ "java/lang/invoke/MethodHandle" ∧ (yX5_of).cls ≠ "java/lang/invoke/VarHandle" ∧ (parseMethodDescriptor (yX5_of).desc).map (fun d => d.parameters.length) = some 2 := by decide +kernel
set_option maxHeartbeats 4000000 in
set_option maxRecDepth 100000 in
theorem c_X5_of (E : En) {as0 ab0 ab1 ab2 ab3 at0 at1 at2 at3 at4 an0 an1 an2 anb0 anb1 ann0 ann1 ap0 ap1 as1 ai0 ai1 ai2 ai3 aj0 aj1 aj2 aj3 : Nat} {s_kept : Int32} {b_points : Int32} {b_near : Int32} {b_loose : Int32} {b_short : Int32} {b_nets : Ar} {b_xs : Ar} {b_ys : Ar} {t_total : Int32} {t_oft : Int32} {t_left : Ar} {t_right : Ar} {t_group : Ar} {t_paired : Ar} {n_total : Int32} {n_planned : Int32} {n_leaps : Ar} {n_onward : Ar} {nb_len : Int32} {nb_sum : Int32} {nb_tries : Ar} {nn_len : Int32} {nn_sum : Int32} {nn_tries : Ar} {p_len : Int32} {p_signs : Ar} {i_points : Int32} {i_near : Int32} {i_loose : Int32} {i_short : Int32} {i_nets : Ar} {i_xs : Ar} {i_ys : Ar} {j_points : Int32} {j_near : Int32} {j_loose : Int32} {j_short : Int32} {j_nets : Ar} {j_xs : Ar} {j_ys : Ar} {p1 : Int32} {p2 : Int32} {rr : Int32} (h : m_X5_of b_points b_loose b_nets b_xs b_ys p1 p2 = some rr) : Ci E yX5_of (wU yX5_of cX5_of 3 (some .int)) (RM 1 21) [.ref as0, .int p1, .int p2] (V_S E.2.2 as0 ab0 ab1 ab2 ab3 at0 at1 at2 at3 at4 an0 an1 an2 anb0 anb1 ann0 ann1 ap0 ap1 as1 ai0 ai1 ai2 ai3 aj0 aj1 aj2 aj3 s_kept b_points b_near b_loose b_short b_nets b_xs b_ys t_total t_oft t_left t_right t_group t_paired n_total n_planned n_leaps n_onward nb_len nb_sum nb_tries nn_len nn_sum nn_tries p_len p_signs i_points i_near i_loose i_short i_nets i_xs i_ys j_points j_near j_loose j_short j_nets j_xs j_ys) (V_S E.2.2 as0 ab0 ab1 ab2 ab3 at0 at1 at2 at3 at4 an0 an1 an2 anb0 anb1 ann0 ann1 ap0 ap1 as1 ai0 ai1 ai2 ai3 aj0 aj1 aj2 aj3 s_kept b_points b_near b_loose b_short b_nets b_xs b_ys t_total t_oft t_left t_right t_group t_paired n_total n_planned n_leaps n_onward nb_len nb_sum nb_tries nn_len nn_sum nn_tries p_len p_signs i_points i_near i_loose i_short i_nets i_xs i_ys j_points j_near j_loose j_short j_nets j_xs j_ys) rr := by
  refine Ci.of (by decide) (Nat.le_of_ble_eq_true rfl) ?_
  intro x hE C
  subst hE
  have C : CX RX5 cX5_of 3 (some .int) x := C
  refine p_locals [0, 1, 2] (lv' := [(0, .ref as0), (1, .int p1), (2, .int p2)]) rfl ?_
  unfold m_X5_of at h
  refine p_aload_n C dX5_of_0 rfl 0 rfl ?_
  refine p_get C dX5_of_1 rfl 0 0 inlX5 fl_X5_12 rfl rfl (by decide) rfl rfl ?_
  refine p_iload_n C dX5_of_4 rfl 1 rfl ?_
  obtain ⟨r1, hc2, h⟩ := bd1_of h
  refine p_callVNi (As := [.int p1]) (st' := []) (Wd' := (V_S x.1.2.2 as0 ab0 ab1 ab2 ab3 at0 at1 at2 at3 at4 an0 an1 an2 anb0 anb1 ann0 ann1 ap0 ap1 as1 ai0 ai1 ai2 ai3 aj0 aj1 aj2 aj3 s_kept b_points b_near b_loose b_short b_nets b_xs b_ys t_total t_oft t_left t_right t_group t_paired n_total n_planned n_leaps n_onward nb_len nb_sum nb_tries nn_len nn_sum nn_tries p_len p_signs i_points i_near i_loose i_short i_nets i_xs i_ys j_points j_near j_loose j_short j_nets j_xs j_ys)) C (c_X0_hasPoint x.1 (ab0 := ab0) (ab1 := ab1) (ab2 := ab2) (ab3 := ab3) (b_near := b_near) (b_loose := b_loose) (b_short := b_short) (b_nets := b_nets) (b_xs := b_xs) (b_ys := b_ys) hc2) dX5_of_5 rfl nm_X5_66 kv_X0_hasPoint ds_X0_hasPoint ⟨rfl, rfl, by decide, by decide⟩ 0 rfl rfl [1, 2, 3, 4] rfl rfl rfl rfl (by decide) ⟨by decide, by decide⟩ rfl ?_
  refine p_if_ne C dX5_of_8 (tgt := 13) (by decide) rfl (fun c3 => ?_) (fun c3 => ?_)
  · have h := if_f c3 h
    refine p_iload_n C dX5_of_13 rfl 2 rfl ?_
    by_cases c4 : p2 = 0
    · have h := if_t c4 h
      refine p_tabIn C dX5_of_14 (pc' := 44) (off := 30) c4 (by decide +kernel) (by decide +kernel) (by decide +kernel) (by decide) ?_
      refine p_aload_n C dX5_of_44 rfl 0 rfl ?_
      refine p_get C dX5_of_45 rfl 0 0 inlX5 fl_X5_12 rfl rfl (by decide) rfl rfl ?_
      refine p_getN C dX5_of_48 rfl 1 0 inlX0 nf_X5_79 rfl rfl (by decide) rfl rfl ?_
      refine p_iload_n C dX5_of_51 rfl 1 rfl ?_
      obtain ⟨g5, h⟩ := grd_of h
      refine p_iald C dX5_of_52 rfl 2 rfl g5 ?_
      cases h
      exact p_iret C dX5_of_53
    · have h := if_f c4 h
      by_cases c6 : p2 = 1
      · have h := if_t c6 h
        refine p_tabIn C dX5_of_14 (pc' := 54) (off := 40) c6 (by decide +kernel) (by decide +kernel) (by decide +kernel) (by decide) ?_
        refine p_aload_n C dX5_of_54 rfl 0 rfl ?_
        refine p_get C dX5_of_55 rfl 0 0 inlX5 fl_X5_12 rfl rfl (by decide) rfl rfl ?_
        refine p_getN C dX5_of_58 rfl 1 1 inlX0 nf_X5_69 rfl rfl (by decide) rfl rfl ?_
        refine p_iload_n C dX5_of_61 rfl 1 rfl ?_
        obtain ⟨g7, h⟩ := grd_of h
        refine p_iald C dX5_of_62 rfl 3 rfl g7 ?_
        cases h
        exact p_iret C dX5_of_63
      · have h := if_f c6 h
        by_cases c8 : p2 = 2
        · have h := if_t c8 h
          refine p_tabIn C dX5_of_14 (pc' := 64) (off := 50) c8 (by decide +kernel) (by decide +kernel) (by decide +kernel) (by decide) ?_
          refine p_aload_n C dX5_of_64 rfl 0 rfl ?_
          refine p_get C dX5_of_65 rfl 0 0 inlX5 fl_X5_12 rfl rfl (by decide) rfl rfl ?_
          refine p_getN C dX5_of_68 rfl 1 2 inlX0 nf_X5_73 rfl rfl (by decide) rfl rfl ?_
          refine p_iload_n C dX5_of_71 rfl 1 rfl ?_
          obtain ⟨g9, h⟩ := grd_of h
          refine p_iald C dX5_of_72 rfl 4 rfl g9 ?_
          cases h
          exact p_iret C dX5_of_73
        · have h := if_f c8 h
          by_cases c10 : p2 = 3
          · have h := if_t c10 h
            refine p_tabIn C dX5_of_14 (pc' := 74) (off := 60) c10 (by decide +kernel) (by decide +kernel) (by decide +kernel) (by decide) ?_
            refine p_aload_n C dX5_of_74 rfl 0 rfl ?_
            refine p_get C dX5_of_75 rfl 0 0 inlX5 fl_X5_12 rfl rfl (by decide) rfl rfl ?_
            refine p_getN C dX5_of_78 rfl 1 5 inlX0 nf_X5_82 rfl rfl (by decide) rfl rfl ?_
            refine p_iload_n C dX5_of_81 rfl 1 rfl ?_
            obtain ⟨r11, hc12, h⟩ := bd1_of h
            refine p_callSi (As := [.int b_loose, .int p1]) (st' := []) (Wd' := (V_S x.1.2.2 as0 ab0 ab1 ab2 ab3 at0 at1 at2 at3 at4 an0 an1 an2 anb0 anb1 ann0 ann1 ap0 ap1 as1 ai0 ai1 ai2 ai3 aj0 aj1 aj2 aj3 s_kept b_points b_near b_loose b_short b_nets b_xs b_ys t_total t_oft t_left t_right t_group t_paired n_total n_planned n_leaps n_onward nb_len nb_sum nb_tries nn_len nn_sum nn_tries p_len p_signs i_points i_near i_loose i_short i_nets i_xs i_ys j_points j_near j_loose j_short j_nets j_xs j_ys)) C (c_X5_isIn x.1 hc12) dX5_of_82 rfl ml_X5_85 ks_X5_isIn ds_X5_isIn ⟨rfl, rfl, by decide, by decide⟩ [] rfl rfl rfl rfl (by decide) ⟨by decide, by decide⟩ rfl ?_
            obtain ⟨r13, hc14, h⟩ := bd1_of h
            refine p_callSi (As := [.int r11]) (st' := []) (Wd' := (V_S x.1.2.2 as0 ab0 ab1 ab2 ab3 at0 at1 at2 at3 at4 an0 an1 an2 anb0 anb1 ann0 ann1 ap0 ap1 as1 ai0 ai1 ai2 ai3 aj0 aj1 aj2 aj3 s_kept b_points b_near b_loose b_short b_nets b_xs b_ys t_total t_oft t_left t_right t_group t_paired n_total n_planned n_leaps n_onward nb_len nb_sum nb_tries nn_len nn_sum nn_tries p_len p_signs i_points i_near i_loose i_short i_nets i_xs i_ys j_points j_near j_loose j_short j_nets j_xs j_ys)) C (c_X5_asNumber x.1 hc14) dX5_of_85 rfl ml_X5_88 ks_X5_asNumber ds_X5_asNumber ⟨rfl, rfl, by decide, by decide⟩ [] rfl rfl rfl rfl (by decide) ⟨by decide, by decide⟩ rfl ?_
            cases h
            exact p_iret C dX5_of_88
          · have h := if_f c10 h
            refine p_tabOut C dX5_of_14 (pc' := 89) (n := 4) (by decide) (by decide) (by intro k hk; match k, hk with | 0, _ => exact tabne (by decide) c4 | 1, _ => exact tabne (by decide) c6 | 2, _ => exact tabne (by decide) c8 | 3, _ => exact tabne (by decide) c10 | _ + 4, hk => exact absurd hk (by omega)) (by decide) ?_
            refine p_bipush (v := (-2 : Int32)) C dX5_of_89 rfl (by decide) ?_
            cases h
            exact p_iret C dX5_of_91
  · have h := if_t c3 h
    refine p_iconst (v := (-1 : Int32)) C dX5_of_11 rfl (by decide) ?_
    cases h
    exact p_iret C dX5_of_12
