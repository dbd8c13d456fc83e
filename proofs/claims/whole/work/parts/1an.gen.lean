def m_X5_point (b_points : Int32) (b_near : Int32) (b_nets : Ar) (b_xs : Ar) (b_ys : Ar) (t_total : Int32) (t_oft : Int32) (t_left : Ar) (t_right : Ar) (t_group : Ar) (t_paired : Ar) (n_total : Int32) (n_planned : Int32) (n_leaps : Ar) (p1 : Int32) (p2 : Int32) (p3 : Int32) : Option (Int32 × Int32 × Ar × Ar × Ar × Int32 × Int32 × Ar × Ar × Ar × Ar × Int32 × Int32 × Ar) := bd1 (m_X5_isNet p1) (fun r1 => if r1 = 0 then (some ((-1 : Int32), b_points, b_nets, b_xs, b_ys, t_total, t_oft, t_left, t_right, t_group, t_paired, n_total, n_planned, n_leaps)) else (bd1 (m_X5_isOnBoard p2 p3) (fun r4 => if r4 = 0 then (some ((-2 : Int32), b_points, b_nets, b_xs, b_ys, t_total, t_oft, t_left, t_right, t_group, t_paired, n_total, n_planned, n_leaps)) else (if b_points < ((8 : Int32)) then (bd5 (m_X0_addPoint b_points b_nets b_xs b_ys p1 p2 p3) (fun r8 z_points9 z_nets10 z_xs11 z_ys12 => bd9 (m_X5_layTriesAnew z_points9 b_near z_nets10 z_xs11 z_ys12 t_total t_oft t_left t_right t_group t_paired n_total n_planned n_leaps) (fun z_total14 z_oft15 z_left16 z_right17 z_group18 z_paired19 z_total20 z_planned21 z_leaps22 => some (r8, z_points9, z_nets10, z_xs11, z_ys12, z_total14, z_oft15, z_left16, z_right17, z_group18, z_paired19, z_total20, z_planned21, z_leaps22)))) else (some ((-4 : Int32), b_points, b_nets, b_xs, b_ys, t_total, t_oft, t_left, t_right, t_group, t_paired, n_total, n_planned, n_leaps))))))
theorem ds_X5_point : (yX5_point).cls ≠ "java/lang/invoke/MethodHandle" ∧ (yX5_point).cls ≠ "java/lang/invoke/VarHandle" ∧ (parseMethodDescriptor (yX5_point).desc).map (fun d => d.parameters.length) = some 3 := by decide +kernel
set_option maxHeartbeats 4000000 in
set_option maxRecDepth 100000 in
theorem c_X5_point (E : En) {as0 ab0 ab1 ab2 ab3 at0 at1 at2 at3 at4 an0 an1 an2 anb0 anb1 ann0 ann1 ap0 ap1 as1 ai0 ai1 ai2 ai3 aj0 aj1 aj2 aj3 : Nat} {s_kept : Int32} {b_points : Int32} {b_near : Int32} {b_loose : Int32} {b_short : Int32} {b_nets : Ar} {b_xs : Ar} {b_ys : Ar} {t_total : Int32} {t_oft : Int32} {t_left : Ar} {t_right : Ar} {t_group : Ar} {t_paired : Ar} {n_total : Int32} {n_planned : Int32} {n_leaps : Ar} {n_onward : Ar} {nb_len : Int32} {nb_sum : Int32} {nb_tries : Ar} {nn_len : Int32} {nn_sum : Int32} {nn_tries : Ar} {p_len : Int32} {p_signs : Ar} {i_points : Int32} {i_near : Int32} {i_loose : Int32} {i_short : Int32} {i_nets : Ar} {i_xs : Ar} {i_ys : Ar} {j_points : Int32} {j_near : Int32} {j_loose : Int32} {j_short : Int32} {j_nets : Ar} {j_xs : Ar} {j_ys : Ar} {p1 : Int32} {p2 : Int32} {p3 : Int32} {rr : Int32} {q_b_points : Int32} {q_b_nets : Ar} {q_b_xs : Ar} {q_b_ys : Ar} {q_t_total : Int32} {q_t_oft : Int32} {q_t_left : Ar} {q_t_right : Ar} {q_t_group : Ar} {q_t_paired : Ar} {q_n_total : Int32} {q_n_planned : Int32} {q_n_leaps : Ar} (h : m_X5_point b_points b_near b_nets b_xs b_ys t_total t_oft t_left t_right t_group t_paired n_total n_planned n_leaps p1 p2 p3 = some (rr, q_b_points, q_b_nets, q_b_xs, q_b_ys, q_t_total, q_t_oft, q_t_left, q_t_right, q_t_group, q_t_paired, q_n_total, q_n_planned, q_n_leaps)) : Ci E yX5_point (wU yX5_point cX5_point 5 (some .int)) (RM 6 138) [.ref as0, .int p1, .int p2, .int p3] (V_S E.2.2 as0 ab0 ab1 ab2 ab3 at0 at1 at2 at3 at4 an0 an1 an2 anb0 anb1 ann0 ann1 ap0 ap1 as1 ai0 ai1 ai2 ai3 aj0 aj1 aj2 aj3 s_kept b_points b_near b_loose b_short b_nets b_xs b_ys t_total t_oft t_left t_right t_group t_paired n_total n_planned n_leaps n_onward nb_len nb_sum nb_tries nn_len nn_sum nn_tries p_len p_signs i_points i_near i_loose i_short i_nets i_xs i_ys j_points j_near j_loose j_short j_nets j_xs j_ys) (V_S E.2.2 as0 ab0 ab1 ab2 ab3 at0 at1 at2 at3 at4 an0 an1 an2 anb0 anb1 ann0 ann1 ap0 ap1 as1 ai0 ai1 ai2 ai3 aj0 aj1 aj2 aj3 s_kept q_b_points b_near b_loose b_short q_b_nets q_b_xs q_b_ys q_t_total q_t_oft q_t_left q_t_right q_t_group q_t_paired q_n_total q_n_planned q_n_leaps n_onward nb_len nb_sum nb_tries nn_len nn_sum nn_tries p_len p_signs i_points i_near i_loose i_short i_nets i_xs i_ys j_points j_near j_loose j_short j_nets j_xs j_ys) rr := by
  refine Ci.of (by decide) (Nat.le_of_ble_eq_true rfl) ?_
  intro x hE C
  subst hE
  have C : CX RX5 cX5_point 5 (some .int) x := C
  refine p_locals [0, 1, 2, 3] (lv' := [(0, .ref as0), (1, .int p1), (2, .int p2), (3, .int p3)]) rfl ?_
  unfold m_X5_point at h
  refine p_iload_n C dX5_point_0 rfl 1 rfl ?_
  obtain ⟨r1, hc2, h⟩ := bd1_of h
  refine p_callSi (As := [.int p1]) (st' := []) (Wd' := (V_S x.1.2.2 as0 ab0 ab1 ab2 ab3 at0 at1 at2 at3 at4 an0 an1 an2 anb0 anb1 ann0 ann1 ap0 ap1 as1 ai0 ai1 ai2 ai3 aj0 aj1 aj2 aj3 s_kept b_points b_near b_loose b_short b_nets b_xs b_ys t_total t_oft t_left t_right t_group t_paired n_total n_planned n_leaps n_onward nb_len nb_sum nb_tries nn_len nn_sum nn_tries p_len p_signs i_points i_near i_loose i_short i_nets i_xs i_ys j_points j_near j_loose j_short j_nets j_xs j_ys)) C (c_X5_isNet x.1 hc2) dX5_point_1 rfl ml_X5_45 ks_X5_isNet ds_X5_isNet ⟨rfl, rfl, by decide, by decide⟩ [] rfl rfl rfl rfl (by decide) ⟨by decide, by decide⟩ rfl ?_
  refine p_if_ne C dX5_point_4 (tgt := 9) (by decide) rfl (fun c3 => ?_) (fun c3 => ?_)
  · have h := if_f c3 h
    refine p_iload_n C dX5_point_9 rfl 2 rfl ?_
    refine p_iload_n C dX5_point_10 rfl 3 rfl ?_
    obtain ⟨r4, hc5, h⟩ := bd1_of h
    refine p_callSi (As := [.int p2, .int p3]) (st' := []) (Wd' := (V_S x.1.2.2 as0 ab0 ab1 ab2 ab3 at0 at1 at2 at3 at4 an0 an1 an2 anb0 anb1 ann0 ann1 ap0 ap1 as1 ai0 ai1 ai2 ai3 aj0 aj1 aj2 aj3 s_kept b_points b_near b_loose b_short b_nets b_xs b_ys t_total t_oft t_left t_right t_group t_paired n_total n_planned n_leaps n_onward nb_len nb_sum nb_tries nn_len nn_sum nn_tries p_len p_signs i_points i_near i_loose i_short i_nets i_xs i_ys j_points j_near j_loose j_short j_nets j_xs j_ys)) C (c_X5_isOnBoard x.1 hc5) dX5_point_11 rfl ml_X5_49 ks_X5_isOnBoard ds_X5_isOnBoard ⟨rfl, rfl, by decide, by decide⟩ [] rfl rfl rfl rfl (by decide) ⟨by decide, by decide⟩ rfl ?_
    refine p_if_ne C dX5_point_14 (tgt := 20) (by decide) rfl (fun c6 => ?_) (fun c6 => ?_)
    · have h := if_f c6 h
      refine p_aload_n C dX5_point_20 rfl 0 rfl ?_
      refine p_get C dX5_point_21 rfl 0 0 inlX5 fl_X5_12 rfl rfl (by decide) rfl rfl ?_
      refine p_getN C dX5_point_24 rfl 1 3 inlX0 nf_X5_53 rfl rfl (by decide) rfl rfl ?_
      refine p_bipush (v := (8 : Int32)) C dX5_point_27 rfl (by decide) ?_
      refine p_icmp_lt C dX5_point_29 (tgt := 35) (by decide) rfl (fun c7 => ?_) (fun c7 => ?_)
      · have h := if_t c7 h
        refine p_aload_n C dX5_point_35 rfl 0 rfl ?_
        refine p_get C dX5_point_36 rfl 0 0 inlX5 fl_X5_12 rfl rfl (by decide) rfl rfl ?_
        refine p_iload_n C dX5_point_39 rfl 1 rfl ?_
        refine p_iload_n C dX5_point_40 rfl 2 rfl ?_
        refine p_iload_n C dX5_point_41 rfl 3 rfl ?_
        obtain ⟨r8, z_points9, z_nets10, z_xs11, z_ys12, hc13, h⟩ := bd5_of h
        refine p_callVNi (As := [.int p1, .int p2, .int p3]) (st' := []) (Wd' := (V_S x.1.2.2 as0 ab0 ab1 ab2 ab3 at0 at1 at2 at3 at4 an0 an1 an2 anb0 anb1 ann0 ann1 ap0 ap1 as1 ai0 ai1 ai2 ai3 aj0 aj1 aj2 aj3 s_kept z_points9 b_near b_loose b_short z_nets10 z_xs11 z_ys12 t_total t_oft t_left t_right t_group t_paired n_total n_planned n_leaps n_onward nb_len nb_sum nb_tries nn_len nn_sum nn_tries p_len p_signs i_points i_near i_loose i_short i_nets i_xs i_ys j_points j_near j_loose j_short j_nets j_xs j_ys)) C (c_X0_addPoint x.1 (ab0 := ab0) (ab1 := ab1) (ab2 := ab2) (ab3 := ab3) (b_near := b_near) (b_loose := b_loose) (b_short := b_short) hc13) dX5_point_42 rfl nm_X5_56 kv_X0_addPoint ds_X0_addPoint ⟨rfl, rfl, by decide, by decide⟩ 0 rfl rfl [1, 2, 3, 4] rfl rfl rfl rfl (by decide) ⟨by decide, by decide⟩ rfl ?_
        refine p_istore (lv' := [(4, .int r8), (0, .ref as0), (1, .int p1), (2, .int p2), (3, .int p3)]) C dX5_point_45 rfl (by decide) rfl ?_
        refine p_aload_n C dX5_point_47 rfl 1 rfl ?_
        obtain ⟨z_total14, z_oft15, z_left16, z_right17, z_group18, z_paired19, z_total20, z_planned21, z_leaps22, hc23, h⟩ := bd9_of h
        refine p_callVv_s (As := []) (st' := []) (Wc' := (V_S x.1.2.2 as0 ab0 ab1 ab2 ab3 at0 at1 at2 at3 at4 an0 an1 an2 anb0 anb1 ann0 ann1 ap0 ap1 as1 ai0 ai1 ai2 ai3 aj0 aj1 aj2 aj3 s_kept z_points9 b_near b_loose b_short z_nets10 z_xs11 z_ys12 z_total14 z_oft15 z_left16 z_right17 z_group18 z_paired19 z_total20 z_planned21 z_leaps22 n_onward nb_len nb_sum nb_tries nn_len nn_sum nn_tries p_len p_signs i_points i_near i_loose i_short i_nets i_xs i_ys j_points j_near j_loose j_short j_nets j_xs j_ys)) C (c_X5_layTriesAnew x.1 (as0 := as0) (ab0 := ab0) (ab1 := ab1) (ab2 := ab2) (ab3 := ab3) (at0 := at0) (at1 := at1) (at2 := at2) (at3 := at3) (at4 := at4) (an0 := an0) (an1 := an1) (an2 := an2) (anb0 := anb0) (anb1 := anb1) (ann0 := ann0) (ann1 := ann1) (ap0 := ap0) (ap1 := ap1) (as1 := as1) (ai0 := ai0) (ai1 := ai1) (ai2 := ai2) (ai3 := ai3) (aj0 := aj0) (aj1 := aj1) (aj2 := aj2) (aj3 := aj3) (s_kept := s_kept) (b_loose := b_loose) (b_short := b_short) (n_onward := n_onward) (nb_len := nb_len) (nb_sum := nb_sum) (nb_tries := nb_tries) (nn_len := nn_len) (nn_sum := nn_sum) (nn_tries := nn_tries) (p_len := p_len) (p_signs := p_signs) (i_points := i_points) (i_near := i_near) (i_loose := i_loose) (i_short := i_short) (i_nets := i_nets) (i_xs := i_xs) (i_ys := i_ys) (j_points := j_points) (j_near := j_near) (j_loose := j_loose) (j_short := j_short) (j_nets := j_nets) (j_xs := j_xs) (j_ys := j_ys) hc23) dX5_point_48 rfl ml_X5_60 kv_X5_layTriesAnew ds_X5_layTriesAnew ⟨rfl, rfl, by decide, by decide⟩ 0 rfl rfl rfl rfl (by decide) ⟨by decide, by decide⟩ ?_
        refine p_iload C dX5_point_51 rfl 0 rfl ?_
        cases h
        exact p_iret C dX5_point_53
      · have h := if_f c7 h
        refine p_bipush (v := (-4 : Int32)) C dX5_point_32 rfl (by decide) ?_
        cases h
        exact p_iret C dX5_point_34
    · have h := if_t c6 h
      refine p_bipush (v := (-2 : Int32)) C dX5_point_17 rfl (by decide) ?_
      cases h
      exact p_iret C dX5_point_19
  · have h := if_t c3 h
    refine p_iconst (v := (-1 : Int32)) C dX5_point_7 rfl (by decide) ?_
    cases h
    exact p_iret C dX5_point_8
def m_X5_pop (b_points : Int32) (b_near : Int32) (b_loose : Int32) (b_nets : Ar) (b_xs : Ar) (b_ys : Ar) (t_total : Int32) (t_oft : Int32) (t_left : Ar) (t_right : Ar) (t_group : Ar) (t_paired : Ar) (n_total : Int32) (n_planned : Int32) (n_leaps : Ar)  : Option (Int32 × Int32 × Int32 × Int32 × Int32 × Ar × Ar × Ar × Ar × Int32 × Int32 × Ar) := if 0 < b_points then (bd2 (m_X0_removeLastPoint b_points b_loose) (fun z_points2 z_loose3 => bd9 (m_X5_layTriesAnew z_points2 b_near b_nets b_xs b_ys t_total t_oft t_left t_right t_group t_paired n_total n_planned n_leaps) (fun z_total5 z_oft6 z_left7 z_right8 z_group9 z_paired10 z_total11 z_planned12 z_leaps13 => some (z_points2, z_points2, z_loose3, z_total5, z_oft6, z_left7, z_right8, z_group9, z_paired10, z_total11, z_planned12, z_leaps13)))) else (some ((-3 : Int32), b_points, b_loose, t_total, t_oft, t_left, t_right, t_group, t_paired, n_total, n_planned, n_leaps))
theorem ds_X5_pop : (yX5_pop).cls ≠ "java/lang/invoke/MethodHandle" ∧ (yX5_pop).cls ≠ "java/lang/invoke/VarHandle" ∧ (parseMethodDescriptor (yX5_pop).desc).map (fun d => d.parameters.length) = some 0 := by decide +kernel
set_option maxHeartbeats 4000000 in
set_option maxRecDepth 100000 in
theorem c_X5_pop (E : En) {as0 ab0 ab1 ab2 ab3 at0 at1 at2 at3 at4 an0 an1 an2 anb0 anb1 ann0 ann1 ap0 ap1 as1 ai0 ai1 ai2 ai3 aj0 aj1 aj2 aj3 : Nat} {s_kept : Int32} {b_points : Int32} {b_near : Int32} {b_loose : Int32} {b_short : Int32} {b_nets : Ar} {b_xs : Ar} {b_ys : Ar} {t_total : Int32} {t_oft : Int32} {t_left : Ar} {t_right : Ar} {t_group : Ar} {t_paired : Ar} {n_total : Int32} {n_planned : Int32} {n_leaps : Ar} {n_onward : Ar} {nb_len : Int32} {nb_sum : Int32} {nb_tries : Ar} {nn_len : Int32} {nn_sum : Int32} {nn_tries : Ar} {p_len : Int32} {p_signs : Ar} {i_points : Int32} {i_near : Int32} {i_loose : Int32} {i_short : Int32} {i_nets : Ar} {i_xs : Ar} {i_ys : Ar} {j_points : Int32} {j_near : Int32} {j_loose : Int32} {j_short : Int32} {j_nets : Ar} {j_xs : Ar} {j_ys : Ar}  {rr : Int32} {q_b_points : Int32} {q_b_loose : Int32} {q_t_total : Int32} {q_t_oft : Int32} {q_t_left : Ar} {q_t_right : Ar} {q_t_group : Ar} {q_t_paired : Ar} {q_n_total : Int32} {q_n_planned : Int32} {q_n_leaps : Ar} (h : m_X5_pop b_points b_near b_loose b_nets b_xs b_ys t_total t_oft t_left t_right t_group t_paired n_total n_planned n_leaps = some (rr, q_b_points, q_b_loose, q_t_total, q_t_oft, q_t_left, q_t_right, q_t_group, q_t_paired, q_n_total, q_n_planned, q_n_leaps)) : Ci E yX5_pop (wU yX5_pop cX5_pop 1 (some .int)) (RM 6 138) [.ref as0] (V_S E.2.2 as0 ab0 ab1 ab2 ab3 at0 at1 at2 at3 at4 an0 an1 an2 anb0 anb1 ann0 ann1 ap0 ap1 as1 ai0 ai1 ai2 ai3 aj0 aj1 aj2 aj3 s_kept b_points b_near b_loose b_short b_nets b_xs b_ys t_total t_oft t_left t_right t_group t_paired n_total n_planned n_leaps n_onward nb_len nb_sum nb_tries nn_len nn_sum nn_tries p_len p_signs i_points i_near i_loose i_short i_nets i_xs i_ys j_points j_near j_loose j_short j_nets j_xs j_ys) (V_S E.2.2 as0 ab0 ab1 ab2 ab3 at0 at1 at2 at3 at4 an0 an1 an2 anb0 anb1 ann0 ann1 ap0 ap1 as1 ai0 ai1 ai2 ai3 aj0 aj1 aj2 aj3 s_kept q_b_points b_near q_b_loose b_short b_nets b_xs b_ys q_t_total q_t_oft q_t_left q_t_right q_t_group q_t_paired q_n_total q_n_planned q_n_leaps n_onward nb_len nb_sum nb_tries nn_len nn_sum nn_tries p_len p_signs i_points i_near i_loose i_short i_nets i_xs i_ys j_points j_near j_loose j_short j_nets j_xs j_ys) rr := by
  refine Ci.of (by decide) (Nat.le_of_ble_eq_true rfl) ?_
  intro x hE C
  subst hE
  have C : CX RX5 cX5_pop 1 (some .int) x := C
  refine p_locals [0] (lv' := [(0, .ref as0)]) rfl ?_
  unfold m_X5_pop at h
  refine p_aload_n C dX5_pop_0 rfl 0 rfl ?_
  refine p_get C dX5_pop_1 rfl 0 0 inlX5 fl_X5_12 rfl rfl (by decide) rfl rfl ?_
  refine p_getN C dX5_pop_4 rfl 1 3 inlX0 nf_X5_53 rfl rfl (by decide) rfl rfl ?_
  refine p_if_gt C dX5_pop_7 (tgt := 13) (by decide) rfl (fun c1 => ?_) (fun c1 => ?_)
  · have h := if_t c1 h
    refine p_aload_n C dX5_pop_13 rfl 0 rfl ?_
    refine p_get C dX5_pop_14 rfl 0 0 inlX5 fl_X5_12 rfl rfl (by decide) rfl rfl ?_
    obtain ⟨z_points2, z_loose3, hc4, h⟩ := bd2_of h
    refine p_callVNv (As := []) (st' := []) (Wd' := (V_S x.1.2.2 as0 ab0 ab1 ab2 ab3 at0 at1 at2 at3 at4 an0 an1 an2 anb0 anb1 ann0 ann1 ap0 ap1 as1 ai0 ai1 ai2 ai3 aj0 aj1 aj2 aj3 s_kept z_points2 b_near z_loose3 b_short b_nets b_xs b_ys t_total t_oft t_left t_right t_group t_paired n_total n_planned n_leaps n_onward nb_len nb_sum nb_tries nn_len nn_sum nn_tries p_len p_signs i_points i_near i_loose i_short i_nets i_xs i_ys j_points j_near j_loose j_short j_nets j_xs j_ys)) C (c_X0_removeLastPoint x.1 (ab0 := ab0) (ab1 := ab1) (ab2 := ab2) (ab3 := ab3) (b_near := b_near) (b_short := b_short) (b_nets := b_nets) (b_xs := b_xs) (b_ys := b_ys) hc4) dX5_pop_17 rfl nm_X5_63 kv_X0_removeLastPoint ds_X0_removeLastPoint ⟨rfl, rfl, by decide, by decide⟩ 0 rfl rfl [1, 2, 3, 4] rfl rfl rfl rfl (by decide) ⟨by decide, by decide⟩ rfl ?_
    refine p_aload_n C dX5_pop_20 rfl 0 rfl ?_
    obtain ⟨z_total5, z_oft6, z_left7, z_right8, z_group9, z_paired10, z_total11, z_planned12, z_leaps13, hc14, h⟩ := bd9_of h
    refine p_callVv_s (As := []) (st' := []) (Wc' := (V_S x.1.2.2 as0 ab0 ab1 ab2 ab3 at0 at1 at2 at3 at4 an0 an1 an2 anb0 anb1 ann0 ann1 ap0 ap1 as1 ai0 ai1 ai2 ai3 aj0 aj1 aj2 aj3 s_kept z_points2 b_near z_loose3 b_short b_nets b_xs b_ys z_total5 z_oft6 z_left7 z_right8 z_group9 z_paired10 z_total11 z_planned12 z_leaps13 n_onward nb_len nb_sum nb_tries nn_len nn_sum nn_tries p_len p_signs i_points i_near i_loose i_short i_nets i_xs i_ys j_points j_near j_loose j_short j_nets j_xs j_ys)) C (c_X5_layTriesAnew x.1 (as0 := as0) (ab0 := ab0) (ab1 := ab1) (ab2 := ab2) (ab3 := ab3) (at0 := at0) (at1 := at1) (at2 := at2) (at3 := at3) (at4 := at4) (an0 := an0) (an1 := an1) (an2 := an2) (anb0 := anb0) (anb1 := anb1) (ann0 := ann0) (ann1 := ann1) (ap0 := ap0) (ap1 := ap1) (as1 := as1) (ai0 := ai0) (ai1 := ai1) (ai2 := ai2) (ai3 := ai3) (aj0 := aj0) (aj1 := aj1) (aj2 := aj2) (aj3 := aj3) (s_kept := s_kept) (b_loose := z_loose3) (b_short := b_short) (n_onward := n_onward) (nb_len := nb_len) (nb_sum := nb_sum) (nb_tries := nb_tries) (nn_len := nn_len) (nn_sum := nn_sum) (nn_tries := nn_tries) (p_len := p_len) (p_signs := p_signs) (i_points := i_points) (i_near := i_near) (i_loose := i_loose) (i_short := i_short) (i_nets := i_nets) (i_xs := i_xs) (i_ys := i_ys) (j_points := j_points) (j_near := j_near) (j_loose := j_loose) (j_short := j_short) (j_nets := j_nets) (j_xs := j_xs) (j_ys := j_ys) hc14) dX5_pop_21 rfl ml_X5_60 kv_X5_layTriesAnew ds_X5_layTriesAnew ⟨rfl, rfl, by decide, by decide⟩ 0 rfl rfl rfl rfl (by decide) ⟨by decide, by decide⟩ ?_
    refine p_aload_n C dX5_pop_24 rfl 0 rfl ?_
    refine p_get C dX5_pop_25 rfl 0 0 inlX5 fl_X5_12 rfl rfl (by decide) rfl rfl ?_
    refine p_getN C dX5_pop_28 rfl 1 3 inlX0 nf_X5_53 rfl rfl (by decide) rfl rfl ?_
    cases h
    exact p_iret C dX5_pop_31
  · have h := if_f c1 h
    refine p_bipush (v := (-3 : Int32)) C dX5_pop_10 rfl (by decide) ?_
    cases h
    exact p_iret C dX5_pop_12
def m_X5_restore (s_kept : Int32) (b_points : Int32) (b_near : Int32) (b_loose : Int32) (b_short : Int32) (b_nets : Ar) (b_xs : Ar) (b_ys : Ar) (t_total : Int32) (t_oft : Int32) (t_left : Ar) (t_right : Ar) (t_group : Ar) (t_paired : Ar) (n_total : Int32) (n_planned : Int32) (n_leaps : Ar) (i_points : Int32) (i_near : Int32) (i_loose : Int32) (i_short : Int32) (i_nets : Ar) (i_xs : Ar) (i_ys : Ar) (j_points : Int32) (j_near : Int32) (j_loose : Int32) (j_short : Int32) (j_nets : Ar) (j_xs : Ar) (j_ys : Ar) (p1 : Int32) : Option (Int32 × Int32 × Int32 × Int32 × Int32 × Ar × Ar × Ar × Int32 × Int32 × Ar × Ar × Ar × Ar × Int32 × Int32 × Ar) := bd1 (m_X5_isImage p1) (fun r1 => if r1 = 0 then (some ((-2 : Int32), b_points, b_near, b_loose, b_short, b_nets, b_xs, b_ys, t_total, t_oft, t_left, t_right, t_group, t_paired, n_total, n_planned, n_leaps)) else (bd1 (m_X5_isIn s_kept p1) (fun r4 => if r4 = 0 then (some ((-3 : Int32), b_points, b_near, b_loose, b_short, b_nets, b_xs, b_ys, t_total, t_oft, t_left, t_right, t_group, t_paired, n_total, n_planned, n_leaps)) else (if p1 = 0 then (bd7 (m_X0_copyFrom b_points b_near b_loose b_short b_nets b_xs b_ys i_points i_near i_loose i_short i_nets i_xs i_ys) (fun z_points9 z_near10 z_loose11 z_short12 z_nets13 z_xs14 z_ys15 => bd9 (m_X5_layTriesAnew z_points9 z_near10 z_nets13 z_xs14 z_ys15 t_total t_oft t_left t_right t_group t_paired n_total n_planned n_leaps) (fun z_total17 z_oft18 z_left19 z_right20 z_group21 z_paired22 z_total23 z_planned24 z_leaps25 => some ((1 : Int32), z_points9, z_near10, z_loose11, z_short12, z_nets13, z_xs14, z_ys15, z_total17, z_oft18, z_left19, z_right20, z_group21, z_paired22, z_total23, z_planned24, z_leaps25)))) else if p1 = 1 then (bd7 (m_X0_copyFrom b_points b_near b_loose b_short b_nets b_xs b_ys j_points j_near j_loose j_short j_nets j_xs j_ys) (fun z_points27 z_near28 z_loose29 z_short30 z_nets31 z_xs32 z_ys33 => bd9 (m_X5_layTriesAnew z_points27 z_near28 z_nets31 z_xs32 z_ys33 t_total t_oft t_left t_right t_group t_paired n_total n_planned n_leaps) (fun z_total35 z_oft36 z_left37 z_right38 z_group39 z_paired40 z_total41 z_planned42 z_leaps43 => some ((1 : Int32), z_points27, z_near28, z_loose29, z_short30, z_nets31, z_xs32, z_ys33, z_total35, z_oft36, z_left37, z_right38, z_group39, z_paired40, z_total41, z_planned42, z_leaps43)))) else none))))
theorem ds_X5_restore : (yX5_restore).cls ≠ "java/lang/invoke/MethodHandle" ∧ (yX5_restore).cls ≠ "java/lang/invoke/VarHandle" ∧ (parseMethodDescriptor (yX5_restore).desc).map (fun d => d.parameters.length) = some 1 := by decide +kernel
set_option maxHeartbeats 4000000 in
set_option maxRecDepth 100000 in
theorem c_X5_restore (E : En) {as0 ab0 ab1 ab2 ab3 at0 at1 at2 at3 at4 an0 an1 an2 anb0 anb1 ann0 ann1 ap0 ap1 as1 ai0 ai1 ai2 ai3 aj0 aj1 aj2 aj3 : Nat} {s_kept : Int32} {b_points : Int32} {b_near : Int32} {b_loose : Int32} {b_short : Int32} {b_nets : Ar} {b_xs : Ar} {b_ys : Ar} {t_total : Int32} {t_oft : Int32} {t_left : Ar} {t_right : Ar} {t_group : Ar} {t_paired : Ar} {n_total : Int32} {n_planned : Int32} {n_leaps : Ar} {n_onward : Ar} {nb_len : Int32} {nb_sum : Int32} {nb_tries : Ar} {nn_len : Int32} {nn_sum : Int32} {nn_tries : Ar} {p_len : Int32} {p_signs : Ar} {i_points : Int32} {i_near : Int32} {i_loose : Int32} {i_short : Int32} {i_nets : Ar} {i_xs : Ar} {i_ys : Ar} {j_points : Int32} {j_near : Int32} {j_loose : Int32} {j_short : Int32} {j_nets : Ar} {j_xs : Ar} {j_ys : Ar} {p1 : Int32} {rr : Int32} {q_b_points : Int32} {q_b_near : Int32} {q_b_loose : Int32} {q_b_short : Int32} {q_b_nets : Ar} {q_b_xs : Ar} {q_b_ys : Ar} {q_t_total : Int32} {q_t_oft : Int32} {q_t_left : Ar} {q_t_right : Ar} {q_t_group : Ar} {q_t_paired : Ar} {q_n_total : Int32} {q_n_planned : Int32} {q_n_leaps : Ar} (h : m_X5_restore s_kept b_points b_near b_loose b_short b_nets b_xs b_ys t_total t_oft t_left t_right t_group t_paired n_total n_planned n_leaps i_points i_near i_loose i_short i_nets i_xs i_ys j_points j_near j_loose j_short j_nets j_xs j_ys p1 = some (rr, q_b_points, q_b_near, q_b_loose, q_b_short, q_b_nets, q_b_xs, q_b_ys, q_t_total, q_t_oft, q_t_left, q_t_right, q_t_group, q_t_paired, q_n_total, q_n_planned, q_n_leaps)) : Ci E yX5_restore (wU yX5_restore cX5_restore 2 (some .int)) (RM 6 138) [.ref as0, .int p1] (V_S E.2.2 as0 ab0 ab1 ab2 ab3 at0 at1 at2 at3 at4 an0 an1 an2 anb0 anb1 ann0 ann1 ap0 ap1 as1 ai0 ai1 ai2 ai3 aj0 aj1 aj2 aj3 s_kept b_points b_near b_loose b_short b_nets b_xs b_ys t_total t_oft t_left t_right t_group t_paired n_total n_planned n_leaps n_onward nb_len nb_sum nb_tries nn_len nn_sum nn_tries p_len p_signs i_points i_near i_loose i_short i_nets i_xs i_ys j_points j_near j_loose j_short j_nets j_xs j_ys) (V_S E.2.2 as0 ab0 ab1 ab2 ab3 at0 at1 at2 at3 at4 an0 an1 an2 anb0 anb1 ann0 ann1 ap0 ap1 as1 ai0 ai1 ai2 ai3 aj0 aj1 aj2 aj3 s_kept q_b_points q_b_near q_b_loose q_b_short q_b_nets q_b_xs q_b_ys q_t_total q_t_oft q_t_left q_t_right q_t_group q_t_paired q_n_total q_n_planned q_n_leaps n_onward nb_len nb_sum nb_tries nn_len nn_sum nn_tries p_len p_signs i_points i_near i_loose i_short i_nets i_xs i_ys j_points j_near j_loose j_short j_nets j_xs j_ys) rr := by
  refine Ci.of (by decide) (Nat.le_of_ble_eq_true rfl) ?_
  intro x hE C
  subst hE
  have C : CX RX5 cX5_restore 2 (some .int) x := C
  refine p_locals [0, 1] (lv' := [(0, .ref as0), (1, .int p1)]) rfl ?_
  unfold m_X5_restore at h
  refine p_iload_n C dX5_restore_0 rfl 1 rfl ?_
  obtain ⟨r1, hc2, h⟩ := bd1_of h
  refine p_callSi (As := [.int p1]) (st' := []) (Wd' := (V_S x.1.2.2 as0 ab0 ab1 ab2 ab3 at0 at1 at2 at3 at4 an0 an1 an2 anb0 anb1 ann0 ann1 ap0 ap1 as1 ai0 ai1 ai2 ai3 aj0 aj1 aj2 aj3 s_kept b_points b_near b_loose b_short b_nets b_xs b_ys t_total t_oft t_left t_right t_group t_paired n_total n_planned n_leaps n_onward nb_len nb_sum nb_tries nn_len nn_sum nn_tries p_len p_signs i_points i_near i_loose i_short i_nets i_xs i_ys j_points j_near j_loose j_short j_nets j_xs j_ys)) C (c_X5_isImage x.1 hc2) dX5_restore_1 rfl ml_X5_183 ks_X5_isImage ds_X5_isImage ⟨rfl, rfl, by decide, by decide⟩ [] rfl rfl rfl rfl (by decide) ⟨by decide, by decide⟩ rfl ?_
  refine p_if_ne C dX5_restore_4 (tgt := 10) (by decide) rfl (fun c3 => ?_) (fun c3 => ?_)
  · have h := if_f c3 h
    refine p_aload_n C dX5_restore_10 rfl 0 rfl ?_
    refine p_get C dX5_restore_11 rfl 0 5 inlX5 fl_X5_41 rfl rfl (by decide) rfl rfl ?_
    refine p_iload_n C dX5_restore_14 rfl 1 rfl ?_
    obtain ⟨r4, hc5, h⟩ := bd1_of h
    refine p_callSi (As := [.int s_kept, .int p1]) (st' := []) (Wd' := (V_S x.1.2.2 as0 ab0 ab1 ab2 ab3 at0 at1 at2 at3 at4 an0 an1 an2 anb0 anb1 ann0 ann1 ap0 ap1 as1 ai0 ai1 ai2 ai3 aj0 aj1 aj2 aj3 s_kept b_points b_near b_loose b_short b_nets b_xs b_ys t_total t_oft t_left t_right t_group t_paired n_total n_planned n_leaps n_onward nb_len nb_sum nb_tries nn_len nn_sum nn_tries p_len p_signs i_points i_near i_loose i_short i_nets i_xs i_ys j_points j_near j_loose j_short j_nets j_xs j_ys)) C (c_X5_isIn x.1 hc5) dX5_restore_15 rfl ml_X5_85 ks_X5_isIn ds_X5_isIn ⟨rfl, rfl, by decide, by decide⟩ [] rfl rfl rfl rfl (by decide) ⟨by decide, by decide⟩ rfl ?_
    refine p_if_ne C dX5_restore_18 (tgt := 24) (by decide) rfl (fun c6 => ?_) (fun c6 => ?_)
    · have h := if_f c6 h
      refine p_aload_n C dX5_restore_24 rfl 0 rfl ?_
      refine p_get C dX5_restore_25 rfl 0 0 inlX5 fl_X5_12 rfl rfl (by decide) rfl rfl ?_
      refine p_aload_n C dX5_restore_28 rfl 0 rfl ?_
      refine p_get C dX5_restore_29 rfl 0 4 inlX5 fl_X5_37 rfl rfl (by decide) rfl rfl ?_
      refine p_iload_n C dX5_restore_32 rfl 1 rfl ?_
      by_cases c7 : p1 = 0
      · have h := if_t c7 h
        refine p_aald (b := ai0) C dX5_restore_33 rfl 19 rfl (by rw [c7]; rfl) (by rw [c7]; rfl) ?_
        obtain ⟨z_points9, z_near10, z_loose11, z_short12, z_nets13, z_xs14, z_ys15, hc16, h⟩ := bd7_of h
        refine p_callVNv (As := [.ref ai0]) (st' := []) (Wd' := (V_S x.1.2.2 as0 ab0 ab1 ab2 ab3 at0 at1 at2 at3 at4 an0 an1 an2 anb0 anb1 ann0 ann1 ap0 ap1 as1 ai0 ai1 ai2 ai3 aj0 aj1 aj2 aj3 s_kept z_points9 z_near10 z_loose11 z_short12 z_nets13 z_xs14 z_ys15 t_total t_oft t_left t_right t_group t_paired n_total n_planned n_leaps n_onward nb_len nb_sum nb_tries nn_len nn_sum nn_tries p_len p_signs i_points i_near i_loose i_short i_nets i_xs i_ys j_points j_near j_loose j_short j_nets j_xs j_ys)) C (c_X0_copyFrom x.1 (ab0 := ab0) (ab1 := ab1) (ab2 := ab2) (ab3 := ab3) (ac0 := ai0) (ac1 := ai1) (ac2 := ai2) (ac3 := ai3) hc16) dX5_restore_34 rfl nm_X5_186 kv_X0_copyFrom ds_X0_copyFrom ⟨rfl, rfl, by decide, by decide⟩ 0 rfl rfl [1, 2, 3, 4, 20, 21, 22, 23] rfl rfl rfl rfl (by decide) ⟨by decide, by decide⟩ rfl ?_
        refine p_aload_n C dX5_restore_37 rfl 0 rfl ?_
        obtain ⟨z_total17, z_oft18, z_left19, z_right20, z_group21, z_paired22, z_total23, z_planned24, z_leaps25, hc26, h⟩ := bd9_of h
        refine p_callVv_s (As := []) (st' := []) (Wc' := (V_S x.1.2.2 as0 ab0 ab1 ab2 ab3 at0 at1 at2 at3 at4 an0 an1 an2 anb0 anb1 ann0 ann1 ap0 ap1 as1 ai0 ai1 ai2 ai3 aj0 aj1 aj2 aj3 s_kept z_points9 z_near10 z_loose11 z_short12 z_nets13 z_xs14 z_ys15 z_total17 z_oft18 z_left19 z_right20 z_group21 z_paired22 z_total23 z_planned24 z_leaps25 n_onward nb_len nb_sum nb_tries nn_len nn_sum nn_tries p_len p_signs i_points i_near i_loose i_short i_nets i_xs i_ys j_points j_near j_loose j_short j_nets j_xs j_ys)) C (c_X5_layTriesAnew x.1 (as0 := as0) (ab0 := ab0) (ab1 := ab1) (ab2 := ab2) (ab3 := ab3) (at0 := at0) (at1 := at1) (at2 := at2) (at3 := at3) (at4 := at4) (an0 := an0) (an1 := an1) (an2 := an2) (anb0 := anb0) (anb1 := anb1) (ann0 := ann0) (ann1 := ann1) (ap0 := ap0) (ap1 := ap1) (as1 := as1) (ai0 := ai0) (ai1 := ai1) (ai2 := ai2) (ai3 := ai3) (aj0 := aj0) (aj1 := aj1) (aj2 := aj2) (aj3 := aj3) (s_kept := s_kept) (b_loose := z_loose11) (b_short := z_short12) (n_onward := n_onward) (nb_len := nb_len) (nb_sum := nb_sum) (nb_tries := nb_tries) (nn_len := nn_len) (nn_sum := nn_sum) (nn_tries := nn_tries) (p_len := p_len) (p_signs := p_signs) (i_points := i_points) (i_near := i_near) (i_loose := i_loose) (i_short := i_short) (i_nets := i_nets) (i_xs := i_xs) (i_ys := i_ys) (j_points := j_points) (j_near := j_near) (j_loose := j_loose) (j_short := j_short) (j_nets := j_nets) (j_xs := j_xs) (j_ys := j_ys) hc26) dX5_restore_38 rfl ml_X5_60 kv_X5_layTriesAnew ds_X5_layTriesAnew ⟨rfl, rfl, by decide, by decide⟩ 0 rfl rfl rfl rfl (by decide) ⟨by decide, by decide⟩ ?_
        refine p_iconst (v := (1 : Int32)) C dX5_restore_41 rfl (by decide) ?_
        cases h
        exact p_iret C dX5_restore_42
      · have h := if_f c7 h
        by_cases c8 : p1 = 1
        · have h := if_t c8 h
          refine p_aald (b := aj0) C dX5_restore_33 rfl 19 rfl (by rw [c8]; rfl) (by rw [c8]; rfl) ?_
          obtain ⟨z_points27, z_near28, z_loose29, z_short30, z_nets31, z_xs32, z_ys33, hc34, h⟩ := bd7_of h
          refine p_callVNv (As := [.ref aj0]) (st' := []) (Wd' := (V_S x.1.2.2 as0 ab0 ab1 ab2 ab3 at0 at1 at2 at3 at4 an0 an1 an2 anb0 anb1 ann0 ann1 ap0 ap1 as1 ai0 ai1 ai2 ai3 aj0 aj1 aj2 aj3 s_kept z_points27 z_near28 z_loose29 z_short30 z_nets31 z_xs32 z_ys33 t_total t_oft t_left t_right t_group t_paired n_total n_planned n_leaps n_onward nb_len nb_sum nb_tries nn_len nn_sum nn_tries p_len p_signs i_points i_near i_loose i_short i_nets i_xs i_ys j_points j_near j_loose j_short j_nets j_xs j_ys)) C (c_X0_copyFrom x.1 (ab0 := ab0) (ab1 := ab1) (ab2 := ab2) (ab3 := ab3) (ac0 := aj0) (ac1 := aj1) (ac2 := aj2) (ac3 := aj3) hc34) dX5_restore_34 rfl nm_X5_186 kv_X0_copyFrom ds_X0_copyFrom ⟨rfl, rfl, by decide, by decide⟩ 0 rfl rfl [1, 2, 3, 4, 24, 25, 26, 27] rfl rfl rfl rfl (by decide) ⟨by decide, by decide⟩ rfl ?_
          refine p_aload_n C dX5_restore_37 rfl 0 rfl ?_
          obtain ⟨z_total35, z_oft36, z_left37, z_right38, z_group39, z_paired40, z_total41, z_planned42, z_leaps43, hc44, h⟩ := bd9_of h
          refine p_callVv_s (As := []) (st' := []) (Wc' := (V_S x.1.2.2 as0 ab0 ab1 ab2 ab3 at0 at1 at2 at3 at4 an0 an1 an2 anb0 anb1 ann0 ann1 ap0 ap1 as1 ai0 ai1 ai2 ai3 aj0 aj1 aj2 aj3 s_kept z_points27 z_near28 z_loose29 z_short30 z_nets31 z_xs32 z_ys33 z_total35 z_oft36 z_left37 z_right38 z_group39 z_paired40 z_total41 z_planned42 z_leaps43 n_onward nb_len nb_sum nb_tries nn_len nn_sum nn_tries p_len p_signs i_points i_near i_loose i_short i_nets i_xs i_ys j_points j_near j_loose j_short j_nets j_xs j_ys)) C (c_X5_layTriesAnew x.1 (as0 := as0) (ab0 := ab0) (ab1 := ab1) (ab2 := ab2) (ab3 := ab3) (at0 := at0) (at1 := at1) (at2 := at2) (at3 := at3) (at4 := at4) (an0 := an0) (an1 := an1) (an2 := an2) (anb0 := anb0) (anb1 := anb1) (ann0 := ann0) (ann1 := ann1) (ap0 := ap0) (ap1 := ap1) (as1 := as1) (ai0 := ai0) (ai1 := ai1) (ai2 := ai2) (ai3 := ai3) (aj0 := aj0) (aj1 := aj1) (aj2 := aj2) (aj3 := aj3) (s_kept := s_kept) (b_loose := z_loose29) (b_short := z_short30) (n_onward := n_onward) (nb_len := nb_len) (nb_sum := nb_sum) (nb_tries := nb_tries) (nn_len := nn_len) (nn_sum := nn_sum) (nn_tries := nn_tries) (p_len := p_len) (p_signs := p_signs) (i_points := i_points) (i_near := i_near) (i_loose := i_loose) (i_short := i_short) (i_nets := i_nets) (i_xs := i_xs) (i_ys := i_ys) (j_points := j_points) (j_near := j_near) (j_loose := j_loose) (j_short := j_short) (j_nets := j_nets) (j_xs := j_xs) (j_ys := j_ys) hc44) dX5_restore_38 rfl ml_X5_60 kv_X5_layTriesAnew ds_X5_layTriesAnew ⟨rfl, rfl, by decide, by decide⟩ 0 rfl rfl rfl rfl (by decide) ⟨by decide, by decide⟩ ?_
          refine p_iconst (v := (1 : Int32)) C dX5_restore_41 rfl (by decide) ?_
          cases h
          exact p_iret C dX5_restore_42
        · have h := if_f c8 h
          cases h
    · have h := if_t c6 h
      refine p_bipush (v := (-3 : Int32)) C dX5_restore_21 rfl (by decide) ?_
      cases h
      exact p_iret C dX5_restore_23
  · have h := if_t c3 h
    refine p_bipush (v := (-2 : Int32)) C dX5_restore_7 rfl (by decide) ?_
    cases h
    exact p_iret C dX5_restore_9
def m_X5_say (p_len : Int32) (p_signs : Ar) (p1 : Int32) : Option (Int32 × Int32 × Ar) := if p1 < ((33 : Int32)) then (some ((-2 : Int32), p_len, p_signs)) else (if p1 ≤ ((126 : Int32)) then (if p_len < ((24 : Int32)) then (bd2 (m_X3_write p_len p_signs p1) (fun z_len4 z_signs5 => some (z_len4, z_len4, z_signs5))) else (some ((-4 : Int32), p_len, p_signs))) else (some ((-2 : Int32), p_len, p_signs)))
theorem ds_X5_say : (yX5_say).cls ≠ "java/lang/invoke/MethodHandle" ∧ (yX5_say).cls ≠ "java/lang/invoke/VarHandle" ∧ (parseMethodDescriptor (yX5_say).desc).map (fun d => d.parameters.length) = some 1 := by decide +kernel
set_option maxHeartbeats 4000000 in
set_option maxRecDepth 100000 in
theorem c_X5_say (E : En) {as0 ab0 ab1 ab2 ab3 at0 at1 at2 at3 at4 an0 an1 an2 anb0 anb1 ann0 ann1 ap0 ap1 as1 ai0 ai1 ai2 ai3 aj0 aj1 aj2 aj3 : Nat} {s_kept : Int32} {b_points : Int32} {b_near : Int32} {b_loose : Int32} {b_short : Int32} {b_nets : Ar} {b_xs : Ar} {b_ys : Ar} {t_total : Int32} {t_oft : Int32} {t_left : Ar} {t_right : Ar} {t_group : Ar} {t_paired : Ar} {n_total : Int32} {n_planned : Int32} {n_leaps : Ar} {n_onward : Ar} {nb_len : Int32} {nb_sum : Int32} {nb_tries : Ar} {nn_len : Int32} {nn_sum : Int32} {nn_tries : Ar} {p_len : Int32} {p_signs : Ar} {i_points : Int32} {i_near : Int32} {i_loose : Int32} {i_short : Int32} {i_nets : Ar} {i_xs : Ar} {i_ys : Ar} {j_points : Int32} {j_near : Int32} {j_loose : Int32} {j_short : Int32} {j_nets : Ar} {j_xs : Ar} {j_ys : Ar} {p1 : Int32} {rr : Int32} {q_p_len : Int32} {q_p_signs : Ar} (h : m_X5_say p_len p_signs p1 = some (rr, q_p_len, q_p_signs)) : Ci E yX5_say (wU yX5_say cX5_say 2 (some .int)) (RM 1 21) [.ref as0, .int p1] (V_S E.2.2 as0 ab0 ab1 ab2 ab3 at0 at1 at2 at3 at4 an0 an1 an2 anb0 anb1 ann0 ann1 ap0 ap1 as1 ai0 ai1 ai2 ai3 aj0 aj1 aj2 aj3 s_kept b_points b_near b_loose b_short b_nets b_xs b_ys t_total t_oft t_left t_right t_group t_paired n_total n_planned n_leaps n_onward nb_len nb_sum nb_tries nn_len nn_sum nn_tries p_len p_signs i_points i_near i_loose i_short i_nets i_xs i_ys j_points j_near j_loose j_short j_nets j_xs j_ys) (V_S E.2.2 as0 ab0 ab1 ab2 ab3 at0 at1 at2 at3 at4 an0 an1 an2 anb0 anb1 ann0 ann1 ap0 ap1 as1 ai0 ai1 ai2 ai3 aj0 aj1 aj2 aj3 s_kept b_points b_near b_loose b_short b_nets b_xs b_ys t_total t_oft t_left t_right t_group t_paired n_total n_planned n_leaps n_onward nb_len nb_sum nb_tries nn_len nn_sum nn_tries q_p_len q_p_signs i_points i_near i_loose i_short i_nets i_xs i_ys j_points j_near j_loose j_short j_nets j_xs j_ys) rr := by
  refine Ci.of (by decide) (Nat.le_of_ble_eq_true rfl) ?_
  intro x hE C
  subst hE
  have C : CX RX5 cX5_say 2 (some .int) x := C
  refine p_locals [0, 1] (lv' := [(0, .ref as0), (1, .int p1)]) rfl ?_
  unfold m_X5_say at h
  refine p_iload_n C dX5_say_0 rfl 1 rfl ?_
  refine p_bipush (v := (33 : Int32)) C dX5_say_1 rfl (by decide) ?_
  refine p_icmp_lt C dX5_say_3 (tgt := 12) (by decide) rfl (fun c1 => ?_) (fun c1 => ?_)
  · have h := if_t c1 h
    refine p_bipush (v := (-2 : Int32)) C dX5_say_12 rfl (by decide) ?_
    cases h
    exact p_iret C dX5_say_14
  · have h := if_f c1 h
    refine p_iload_n C dX5_say_6 rfl 1 rfl ?_
    refine p_bipush (v := (126 : Int32)) C dX5_say_7 rfl (by decide) ?_
    refine p_icmp_le C dX5_say_9 (tgt := 15) (by decide) rfl (fun c2 => ?_) (fun c2 => ?_)
    · have h := if_t c2 h
      refine p_aload_n C dX5_say_15 rfl 0 rfl ?_
      refine p_get C dX5_say_16 rfl 0 3 inlX5 fl_X5_33 rfl rfl (by decide) rfl rfl ?_
      refine p_getN C dX5_say_19 rfl 17 1 inlX3 nf_X5_122 rfl rfl (by decide) rfl rfl ?_
      refine p_bipush (v := (24 : Int32)) C dX5_say_22 rfl (by decide) ?_
      refine p_icmp_lt C dX5_say_24 (tgt := 30) (by decide) rfl (fun c3 => ?_) (fun c3 => ?_)
      · have h := if_t c3 h
        refine p_aload_n C dX5_say_30 rfl 0 rfl ?_
        refine p_get C dX5_say_31 rfl 0 3 inlX5 fl_X5_33 rfl rfl (by decide) rfl rfl ?_
        refine p_iload_n C dX5_say_34 rfl 1 rfl ?_
        obtain ⟨z_len4, z_signs5, hc6, h⟩ := bd2_of h
        refine p_callVNv (As := [.int p1]) (st' := []) (Wd' := (V_S x.1.2.2 as0 ab0 ab1 ab2 ab3 at0 at1 at2 at3 at4 an0 an1 an2 anb0 anb1 ann0 ann1 ap0 ap1 as1 ai0 ai1 ai2 ai3 aj0 aj1 aj2 aj3 s_kept b_points b_near b_loose b_short b_nets b_xs b_ys t_total t_oft t_left t_right t_group t_paired n_total n_planned n_leaps n_onward nb_len nb_sum nb_tries nn_len nn_sum nn_tries z_len4 z_signs5 i_points i_near i_loose i_short i_nets i_xs i_ys j_points j_near j_loose j_short j_nets j_xs j_ys)) C (c_X3_write x.1 (ap0 := ap0) (ap1 := ap1) hc6) dX5_say_35 rfl nm_X5_125 kv_X3_write ds_X3_write ⟨rfl, rfl, by decide, by decide⟩ 0 rfl rfl [17, 18] rfl rfl rfl rfl (by decide) ⟨by decide, by decide⟩ rfl ?_
        refine p_aload_n C dX5_say_38 rfl 0 rfl ?_
        refine p_get C dX5_say_39 rfl 0 3 inlX5 fl_X5_33 rfl rfl (by decide) rfl rfl ?_
        refine p_getN C dX5_say_42 rfl 17 1 inlX3 nf_X5_122 rfl rfl (by decide) rfl rfl ?_
        cases h
        exact p_iret C dX5_say_45
      · have h := if_f c3 h
        refine p_bipush (v := (-4 : Int32)) C dX5_say_27 rfl (by decide) ?_
        cases h
        exact p_iret C dX5_say_29
    · have h := if_f c2 h
      refine p_bipush (v := (-2 : Int32)) C dX5_say_12 rfl (by decide) ?_
      cases h
      exact p_iret C dX5_say_14
def m_X5_sees (b_loose : Int32) (b_short : Int32) (b_nets : Ar) (t_total : Int32) (t_oft : Int32) (t_left : Ar) (t_right : Ar)  : Option (Int32) := bd1 (m_X5_seenNow b_loose b_short b_nets t_total t_oft t_left t_right) (fun r1 => some r1)
theorem ds_X5_sees : (yX5_sees).cls ≠ "java/lang/invoke/MethodHandle" ∧ (yX5_sees).cls ≠ "java/lang/invoke/VarHandle" ∧ (parseMethodDescriptor (yX5_sees).desc).map (fun d => d.parameters.length) = some 0 := by decide +kernel
set_option maxHeartbeats 4000000 in
set_option maxRecDepth 100000 in
theorem c_X5_sees (E : En) {as0 ab0 ab1 ab2 ab3 at0 at1 at2 at3 at4 an0 an1 an2 anb0 anb1 ann0 ann1 ap0 ap1 as1 ai0 ai1 ai2 ai3 aj0 aj1 aj2 aj3 : Nat} {s_kept : Int32} {b_points : Int32} {b_near : Int32} {b_loose : Int32} {b_short : Int32} {b_nets : Ar} {b_xs : Ar} {b_ys : Ar} {t_total : Int32} {t_oft : Int32} {t_left : Ar} {t_right : Ar} {t_group : Ar} {t_paired : Ar} {n_total : Int32} {n_planned : Int32} {n_leaps : Ar} {n_onward : Ar} {nb_len : Int32} {nb_sum : Int32} {nb_tries : Ar} {nn_len : Int32} {nn_sum : Int32} {nn_tries : Ar} {p_len : Int32} {p_signs : Ar} {i_points : Int32} {i_near : Int32} {i_loose : Int32} {i_short : Int32} {i_nets : Ar} {i_xs : Ar} {i_ys : Ar} {j_points : Int32} {j_near : Int32} {j_loose : Int32} {j_short : Int32} {j_nets : Ar} {j_xs : Ar} {j_ys : Ar}  {rr : Int32} (h : m_X5_sees b_loose b_short b_nets t_total t_oft t_left t_right = some rr) : Ci E yX5_sees (wU yX5_sees cX5_sees 1 (some .int)) (RM 5 117) [.ref as0] (V_S E.2.2 as0 ab0 ab1 ab2 ab3 at0 at1 at2 at3 at4 an0 an1 an2 anb0 anb1 ann0 ann1 ap0 ap1 as1 ai0 ai1 ai2 ai3 aj0 aj1 aj2 aj3 s_kept b_points b_near b_loose b_short b_nets b_xs b_ys t_total t_oft t_left t_right t_group t_paired n_total n_planned n_leaps n_onward nb_len nb_sum nb_tries nn_len nn_sum nn_tries p_len p_signs i_points i_near i_loose i_short i_nets i_xs i_ys j_points j_near j_loose j_short j_nets j_xs j_ys) (V_S E.2.2 as0 ab0 ab1 ab2 ab3 at0 at1 at2 at3 at4 an0 an1 an2 anb0 anb1 ann0 ann1 ap0 ap1 as1 ai0 ai1 ai2 ai3 aj0 aj1 aj2 aj3 s_kept b_points b_near b_loose b_short b_nets b_xs b_ys t_total t_oft t_left t_right t_group t_paired n_total n_planned n_leaps n_onward nb_len nb_sum nb_tries nn_len nn_sum nn_tries p_len p_signs i_points i_near i_loose i_short i_nets i_xs i_ys j_points j_near j_loose j_short j_nets j_xs j_ys) rr := by
  refine Ci.of (by decide) (Nat.le_of_ble_eq_true rfl) ?_
  intro x hE C
  subst hE
  have C : CX RX5 cX5_sees 1 (some .int) x := C
  refine p_locals [0] (lv' := [(0, .ref as0)]) rfl ?_
  unfold m_X5_sees at h
  refine p_aload_n C dX5_sees_0 rfl 0 rfl ?_
  obtain ⟨r1, hc2, h⟩ := bd1_of h
  refine p_callVi_s (As := []) (st' := []) (Wc' := (V_S x.1.2.2 as0 ab0 ab1 ab2 ab3 at0 at1 at2 at3 at4 an0 an1 an2 anb0 anb1 ann0 ann1 ap0 ap1 as1 ai0 ai1 ai2 ai3 aj0 aj1 aj2 aj3 s_kept b_points b_near b_loose b_short b_nets b_xs b_ys t_total t_oft t_left t_right t_group t_paired n_total n_planned n_leaps n_onward nb_len nb_sum nb_tries nn_len nn_sum nn_tries p_len p_signs i_points i_near i_loose i_short i_nets i_xs i_ys j_points j_near j_loose j_short j_nets j_xs j_ys)) C (c_X5_seenNow x.1 (as0 := as0) (ab0 := ab0) (ab1 := ab1) (ab2 := ab2) (ab3 := ab3) (at0 := at0) (at1 := at1) (at2 := at2) (at3 := at3) (at4 := at4) (an0 := an0) (an1 := an1) (an2 := an2) (anb0 := anb0) (anb1 := anb1) (ann0 := ann0) (ann1 := ann1) (ap0 := ap0) (ap1 := ap1) (as1 := as1) (ai0 := ai0) (ai1 := ai1) (ai2 := ai2) (ai3 := ai3) (aj0 := aj0) (aj1 := aj1) (aj2 := aj2) (aj3 := aj3) (s_kept := s_kept) (b_points := b_points) (b_near := b_near) (b_xs := b_xs) (b_ys := b_ys) (t_group := t_group) (t_paired := t_paired) (n_total := n_total) (n_planned := n_planned) (n_leaps := n_leaps) (n_onward := n_onward) (nb_len := nb_len) (nb_sum := nb_sum) (nb_tries := nb_tries) (nn_len := nn_len) (nn_sum := nn_sum) (nn_tries := nn_tries) (p_len := p_len) (p_signs := p_signs) (i_points := i_points) (i_near := i_near) (i_loose := i_loose) (i_short := i_short) (i_nets := i_nets) (i_xs := i_xs) (i_ys := i_ys) (j_points := j_points) (j_near := j_near) (j_loose := j_loose) (j_short := j_short) (j_nets := j_nets) (j_xs := j_xs) (j_ys := j_ys) hc2) dX5_sees_1 rfl ml_X5_115 kv_X5_seenNow ds_X5_seenNow ⟨rfl, rfl, by decide, by decide⟩ 0 rfl rfl rfl rfl (by decide) ⟨by decide, by decide⟩ ?_
  cases h
  exact p_iret C dX5_sees_4
def J_X5_time_18 (t_total : Int32) (n_leaps : Ar)   (v1 : Int32) (v2 : Int32) : Option (Int32) := bd1 (m_X4_hasTry t_total v2) (fun r1 => if r1 = 0 then (some ((-1 : Int32))) else (bd1 (m_X1_leap n_leaps (v1 + ((1 : Int32))) v2) (fun r4 => some r4)))
set_option maxHeartbeats 4000000 in
set_option maxRecDepth 100000 in
theorem tj_X5_time_18 {x : Cxt} {as0 ab0 ab1 ab2 ab3 at0 at1 at2 at3 at4 an0 an1 an2 anb0 anb1 ann0 ann1 ap0 ap1 as1 ai0 ai1 ai2 ai3 aj0 aj1 aj2 aj3 : Nat} {s_kept : Int32} {b_points : Int32} {b_near : Int32} {b_loose : Int32} {b_short : Int32} {b_nets : Ar} {b_xs : Ar} {b_ys : Ar} {t_total : Int32} {t_oft : Int32} {t_left : Ar} {t_right : Ar} {t_group : Ar} {t_paired : Ar} {n_total : Int32} {n_planned : Int32} {n_leaps : Ar} {n_onward : Ar} {nb_len : Int32} {nb_sum : Int32} {nb_tries : Ar} {nn_len : Int32} {nn_sum : Int32} {nn_tries : Ar} {p_len : Int32} {p_signs : Ar} {i_points : Int32} {i_near : Int32} {i_loose : Int32} {i_short : Int32} {i_nets : Ar} {i_xs : Ar} {i_ys : Ar} {j_points : Int32} {j_near : Int32} {j_loose : Int32} {j_short : Int32} {j_nets : Ar} {j_xs : Ar} {j_ys : Ar}   {v1 : Int32} {v2 : Int32} {rr : Int32} (C : CX RX5 cX5_time 3 (some .int) x)  (h : J_X5_time_18 t_total n_leaps v1 v2 = some rr) : PT (RM 1 22) 3 x 18 [(0, .ref as0), (1, .int v1), (2, .int v2)] [] (V_S x.1.2.2 as0 ab0 ab1 ab2 ab3 at0 at1 at2 at3 at4 an0 an1 an2 anb0 anb1 ann0 ann1 ap0 ap1 as1 ai0 ai1 ai2 ai3 aj0 aj1 aj2 aj3 s_kept b_points b_near b_loose b_short b_nets b_xs b_ys t_total t_oft t_left t_right t_group t_paired n_total n_planned n_leaps n_onward nb_len nb_sum nb_tries nn_len nn_sum nn_tries p_len p_signs i_points i_near i_loose i_short i_nets i_xs i_ys j_points j_near j_loose j_short j_nets j_xs j_ys) 0 0 (QI x rr (V_S x.1.2.2 as0 ab0 ab1 ab2 ab3 at0 at1 at2 at3 at4 an0 an1 an2 anb0 anb1 ann0 ann1 ap0 ap1 as1 ai0 ai1 ai2 ai3 aj0 aj1 aj2 aj3 s_kept b_points b_near b_loose b_short b_nets b_xs b_ys t_total t_oft t_left t_right t_group t_paired n_total n_planned n_leaps n_onward nb_len nb_sum nb_tries nn_len nn_sum nn_tries p_len p_signs i_points i_near i_loose i_short i_nets i_xs i_ys j_points j_near j_loose j_short j_nets j_xs j_ys)) := by
  unfold J_X5_time_18 at h
  refine p_aload_n C dX5_time_18 rfl 0 rfl ?_
  refine p_get C dX5_time_19 rfl 0 1 inlX5 fl_X5_19 rfl rfl (by decide) rfl rfl ?_
  refine p_iload_n C dX5_time_22 rfl 2 rfl ?_
  obtain ⟨r1, hc2, h⟩ := bd1_of h
  refine p_callVNi (As := [.int v2]) (st' := []) (Wd' := (V_S x.1.2.2 as0 ab0 ab1 ab2 ab3 at0 at1 at2 at3 at4 an0 an1 an2 anb0 anb1 ann0 ann1 ap0 ap1 as1 ai0 ai1 ai2 ai3 aj0 aj1 aj2 aj3 s_kept b_points b_near b_loose b_short b_nets b_xs b_ys t_total t_oft t_left t_right t_group t_paired n_total n_planned n_leaps n_onward nb_len nb_sum nb_tries nn_len nn_sum nn_tries p_len p_signs i_points i_near i_loose i_short i_nets i_xs i_ys j_points j_near j_loose j_short j_nets j_xs j_ys)) C (c_X4_hasTry x.1 (at0 := at0) (at1 := at1) (at2 := at2) (at3 := at3) (at4 := at4) (t_oft := t_oft) (t_left := t_left) (t_right := t_right) (t_group := t_group) (t_paired := t_paired) hc2) dX5_time_23 rfl nm_X5_96 kv_X4_hasTry ds_X4_hasTry ⟨rfl, rfl, by decide, by decide⟩ 0 rfl rfl [5, 6, 7, 8, 9] rfl rfl rfl rfl (by decide) ⟨by decide, by decide⟩ rfl ?_
  refine p_if_ne C dX5_time_26 (tgt := 31) (by decide) rfl (fun c3 => ?_) (fun c3 => ?_)
  · have h := if_f c3 h
    refine p_aload_n C dX5_time_31 rfl 0 rfl ?_
    refine p_get C dX5_time_32 rfl 0 2 inlX5 fl_X5_26 rfl rfl (by decide) rfl rfl ?_
    refine p_iload_n C dX5_time_35 rfl 1 rfl ?_
    refine p_iconst (v := (1 : Int32)) C dX5_time_36 rfl (by decide) ?_
    refine p_iadd C dX5_time_37 rfl ?_
    refine p_iload_n C dX5_time_38 rfl 2 rfl ?_
    obtain ⟨r4, hc5, h⟩ := bd1_of h
    refine p_callVNi (As := [.int (v1 + ((1 : Int32))), .int v2]) (st' := []) (Wd' := (V_S x.1.2.2 as0 ab0 ab1 ab2 ab3 at0 at1 at2 at3 at4 an0 an1 an2 anb0 anb1 ann0 ann1 ap0 ap1 as1 ai0 ai1 ai2 ai3 aj0 aj1 aj2 aj3 s_kept b_points b_near b_loose b_short b_nets b_xs b_ys t_total t_oft t_left t_right t_group t_paired n_total n_planned n_leaps n_onward nb_len nb_sum nb_tries nn_len nn_sum nn_tries p_len p_signs i_points i_near i_loose i_short i_nets i_xs i_ys j_points j_near j_loose j_short j_nets j_xs j_ys)) C (c_X1_leap x.1 (an0 := an0) (an1 := an1) (an2 := an2) (anb0 := anb0) (anb1 := anb1) (ann0 := ann0) (ann1 := ann1) (n_total := n_total) (n_planned := n_planned) (n_onward := n_onward) (nb_len := nb_len) (nb_sum := nb_sum) (nb_tries := nb_tries) (nn_len := nn_len) (nn_sum := nn_sum) (nn_tries := nn_tries) hc5) dX5_time_39 rfl nm_X5_119 kv_X1_leap ds_X1_leap ⟨rfl, rfl, by decide, by decide⟩ 0 rfl rfl [10, 11, 12, 13, 14, 15, 16] rfl rfl rfl rfl (by decide) ⟨by decide, by decide⟩ rfl ?_
    cases h
    exact p_iret C dX5_time_42
  · have h := if_t c3 h
    refine p_iconst (v := (-1 : Int32)) C dX5_time_29 rfl (by decide) ?_
    cases h
    exact p_iret C dX5_time_30
def m_X5_time (t_total : Int32) (n_leaps : Ar) (p1 : Int32) (p2 : Int32) : Option (Int32) := if p1 = ((-1 : Int32)) then (J_X5_time_18 t_total n_leaps p1 p2) else (bd1 (m_X4_hasTry t_total p1) (fun r2 => if r2 = 0 then (some ((-1 : Int32))) else (J_X5_time_18 t_total n_leaps p1 p2)))
theorem ds_X5_time : (yX5_time).cls ≠ "java/lang/invoke/MethodHandle" ∧ (yX5_time).cls ≠ "java/lang/invoke/VarHandle" ∧ (parseMethodDescriptor (yX5_time).desc).map (fun d => d.parameters.length) = some 2 := by decide +kernel
set_option maxHeartbeats 4000000 in
set_option maxRecDepth 100000 in
theorem c_X5_time (E : En) {as0 ab0 ab1 ab2 ab3 at0 at1 at2 at3 at4 an0 an1 an2 anb0 anb1 ann0 ann1 ap0 ap1 as1 ai0 ai1 ai2 ai3 aj0 aj1 aj2 aj3 : Nat} {s_kept : Int32} {b_points : Int32} {b_near : Int32} {b_loose : Int32} {b_short : Int32} {b_nets : Ar} {b_xs : Ar} {b_ys : Ar} {t_total : Int32} {t_oft : Int32} {t_left : Ar} {t_right : Ar} {t_group : Ar} {t_paired : Ar} {n_total : Int32} {n_planned : Int32} {n_leaps : Ar} {n_onward : Ar} {nb_len : Int32} {nb_sum : Int32} {nb_tries : Ar} {nn_len : Int32} {nn_sum : Int32} {nn_tries : Ar} {p_len : Int32} {p_signs : Ar} {i_points : Int32} {i_near : Int32} {i_loose : Int32} {i_short : Int32} {i_nets : Ar} {i_xs : Ar} {i_ys : Ar} {j_points : Int32} {j_near : Int32} {j_loose : Int32} {j_short : Int32} {j_nets : Ar} {j_xs : Ar} {j_ys : Ar} {p1 : Int32} {p2 : Int32} {rr : Int32} (h : m_X5_time t_total n_leaps p1 p2 = some rr) : Ci E yX5_time (wU yX5_time cX5_time 3 (some .int)) (RM 1 22) [.ref as0, .int p1, .int p2] (V_S E.2.2 as0 ab0 ab1 ab2 ab3 at0 at1 at2 at3 at4 an0 an1 an2 anb0 anb1 ann0 ann1 ap0 ap1 as1 ai0 ai1 ai2 ai3 aj0 aj1 aj2 aj3 s_kept b_points b_near b_loose b_short b_nets b_xs b_ys t_total t_oft t_left t_right t_group t_paired n_total n_planned n_leaps n_onward nb_len nb_sum nb_tries nn_len nn_sum nn_tries p_len p_signs i_points i_near i_loose i_short i_nets i_xs i_ys j_points j_near j_loose j_short j_nets j_xs j_ys) (V_S E.2.2 as0 ab0 ab1 ab2 ab3 at0 at1 at2 at3 at4 an0 an1 an2 anb0 anb1 ann0 ann1 ap0 ap1 as1 ai0 ai1 ai2 ai3 aj0 aj1 aj2 aj3 s_kept b_points b_near b_loose b_short b_nets b_xs b_ys t_total t_oft t_left t_right t_group t_paired n_total n_planned n_leaps n_onward nb_len nb_sum nb_tries nn_len nn_sum nn_tries p_len p_signs i_points i_near i_loose i_short i_nets i_xs i_ys j_points j_near j_loose j_short j_nets j_xs j_ys) rr := by
  refine Ci.of (by decide) (Nat.le_of_ble_eq_true rfl) ?_
  intro x hE C
  subst hE
  have C : CX RX5 cX5_time 3 (some .int) x := C
  refine p_locals [0, 1, 2] (lv' := [(0, .ref as0), (1, .int p1), (2, .int p2)]) rfl ?_
  unfold m_X5_time at h
  refine p_iload_n C dX5_time_0 rfl 1 rfl ?_
  refine p_iconst (v := (-1 : Int32)) C dX5_time_1 rfl (by decide) ?_
  refine p_icmp_eq C dX5_time_2 (tgt := 18) (by decide) rfl (fun c1 => ?_) (fun c1 => ?_)
  · have h := if_t c1 h
    refine p_locals [0, 1, 2] (lv' := [(0, .ref as0), (1, .int p1), (2, .int p2)]) rfl ?_
    exact tj_X5_time_18 C  h
  · have h := if_f c1 h
    refine p_aload_n C dX5_time_5 rfl 0 rfl ?_
    refine p_get C dX5_time_6 rfl 0 1 inlX5 fl_X5_19 rfl rfl (by decide) rfl rfl ?_
    refine p_iload_n C dX5_time_9 rfl 1 rfl ?_
    obtain ⟨r2, hc3, h⟩ := bd1_of h
    refine p_callVNi (As := [.int p1]) (st' := []) (Wd' := (V_S x.1.2.2 as0 ab0 ab1 ab2 ab3 at0 at1 at2 at3 at4 an0 an1 an2 anb0 anb1 ann0 ann1 ap0 ap1 as1 ai0 ai1 ai2 ai3 aj0 aj1 aj2 aj3 s_kept b_points b_near b_loose b_short b_nets b_xs b_ys t_total t_oft t_left t_right t_group t_paired n_total n_planned n_leaps n_onward nb_len nb_sum nb_tries nn_len nn_sum nn_tries p_len p_signs i_points i_near i_loose i_short i_nets i_xs i_ys j_points j_near j_loose j_short j_nets j_xs j_ys)) C (c_X4_hasTry x.1 (at0 := at0) (at1 := at1) (at2 := at2) (at3 := at3) (at4 := at4) (t_oft := t_oft) (t_left := t_left) (t_right := t_right) (t_group := t_group) (t_paired := t_paired) hc3) dX5_time_10 rfl nm_X5_96 kv_X4_hasTry ds_X4_hasTry ⟨rfl, rfl, by decide, by decide⟩ 0 rfl rfl [5, 6, 7, 8, 9] rfl rfl rfl rfl (by decide) ⟨by decide, by decide⟩ rfl ?_
    refine p_if_ne C dX5_time_13 (tgt := 18) (by decide) rfl (fun c4 => ?_) (fun c4 => ?_)
    · have h := if_f c4 h
      refine p_locals [0, 1, 2] (lv' := [(0, .ref as0), (1, .int p1), (2, .int p2)]) rfl ?_
      exact tj_X5_time_18 C  h
    · have h := if_t c4 h
      refine p_iconst (v := (-1 : Int32)) C dX5_time_16 rfl (by decide) ?_
      cases h
      exact p_iret C dX5_time_17
def B_X5_told_26 (t_total : Int32) (n_leaps : Ar) (p_len : Int32) (p_signs : Ar)   (kk : Int32 → Int32 → Int32 → Option (Int32)) (v1 : Int32) (v2 : Int32) (v3 : Int32)  : Option (Int32) := if p_len ≤ v3 then (some v1) else (bd1 (m_X3_tryAt p_signs v3) (fun r2 => bd1 (m_X1_leap n_leaps v2 r2) (fun r4 => kk (v1 + r4) (r2 + ((1 : Int32))) (v3 + 1))))
def L_X5_told_26 (t_total : Int32) (n_leaps : Ar) (p_len : Int32) (p_signs : Ar)   : Nat → Int32 → Int32 → Int32 → Option (Int32) := lpG (fun _ _ _ => none) (B_X5_told_26 t_total n_leaps p_len p_signs)
set_option maxHeartbeats 4000000 in
set_option maxRecDepth 100000 in
theorem tl_X5_told_26 {x : Cxt} {as0 ab0 ab1 ab2 ab3 at0 at1 at2 at3 at4 an0 an1 an2 anb0 anb1 ann0 ann1 ap0 ap1 as1 ai0 ai1 ai2 ai3 aj0 aj1 aj2 aj3 : Nat} {s_kept : Int32} {b_points : Int32} {b_near : Int32} {b_loose : Int32} {b_short : Int32} {b_nets : Ar} {b_xs : Ar} {b_ys : Ar} {t_total : Int32} {t_oft : Int32} {t_left : Ar} {t_right : Ar} {t_group : Ar} {t_paired : Ar} {n_total : Int32} {n_planned : Int32} {n_leaps : Ar} {n_onward : Ar} {nb_len : Int32} {nb_sum : Int32} {nb_tries : Ar} {nn_len : Int32} {nn_sum : Int32} {nn_tries : Ar} {p_len : Int32} {p_signs : Ar} {i_points : Int32} {i_near : Int32} {i_loose : Int32} {i_short : Int32} {i_nets : Ar} {i_xs : Ar} {i_ys : Ar} {j_points : Int32} {j_near : Int32} {j_loose : Int32} {j_short : Int32} {j_nets : Ar} {j_xs : Ar} {j_ys : Ar}   {rr : Int32} (C : CX RX5 cX5_told 5 (some .int) x)  : ∀ (n : Nat) (v1 : Int32) (v2 : Int32) (v3 : Int32) , L_X5_told_26 t_total n_leaps p_len p_signs n v1 v2 v3 = some rr → PT (RM 2 45) 5 x 26 [(0, .ref as0), (1, .int v1), (2, .int v2), (3, .int v3)] [] (V_S x.1.2.2 as0 ab0 ab1 ab2 ab3 at0 at1 at2 at3 at4 an0 an1 an2 anb0 anb1 ann0 ann1 ap0 ap1 as1 ai0 ai1 ai2 ai3 aj0 aj1 aj2 aj3 s_kept b_points b_near b_loose b_short b_nets b_xs b_ys t_total t_oft t_left t_right t_group t_paired n_total n_planned n_leaps n_onward nb_len nb_sum nb_tries nn_len nn_sum nn_tries p_len p_signs i_points i_near i_loose i_short i_nets i_xs i_ys j_points j_near j_loose j_short j_nets j_xs j_ys) 0 0 (QI x rr (V_S x.1.2.2 as0 ab0 ab1 ab2 ab3 at0 at1 at2 at3 at4 an0 an1 an2 anb0 anb1 ann0 ann1 ap0 ap1 as1 ai0 ai1 ai2 ai3 aj0 aj1 aj2 aj3 s_kept b_points b_near b_loose b_short b_nets b_xs b_ys t_total t_oft t_left t_right t_group t_paired n_total n_planned n_leaps n_onward nb_len nb_sum nb_tries nn_len nn_sum nn_tries p_len p_signs i_points i_near i_loose i_short i_nets i_xs i_ys j_points j_near j_loose j_short j_nets j_xs j_ys)) := by
  intro n
  induction n with
  | zero =>
    intro v1 v2 v3 h
    cases h
  | succ n ih =>
    intro v1 v2 v3 h
    have h : B_X5_told_26 t_total n_leaps p_len p_signs (L_X5_told_26 t_total n_leaps p_len p_signs n) v1 v2 v3 = some rr := h
    unfold B_X5_told_26 at h
    refine p_iload_n C dX5_told_26 rfl 3 rfl ?_
    refine p_aload_n C dX5_told_27 rfl 0 rfl ?_
    refine p_get C dX5_told_28 rfl 0 3 inlX5 fl_X5_33 rfl rfl (by decide) rfl rfl ?_
    refine p_getN C dX5_told_31 rfl 17 1 inlX3 nf_X5_122 rfl rfl (by decide) rfl rfl ?_
    refine p_icmp_ge C dX5_told_34 (tgt := 71) (by decide) rfl (fun c1 => ?_) (fun c1 => ?_)
    · have h := if_t c1 h
      refine p_iload_n C dX5_told_71 rfl 1 rfl ?_
      cases h
      exact p_iret C dX5_told_72
    · have h := if_f c1 h
      refine p_aload_n C dX5_told_37 rfl 0 rfl ?_
      refine p_get C dX5_told_38 rfl 0 3 inlX5 fl_X5_33 rfl rfl (by decide) rfl rfl ?_
      refine p_iload_n C dX5_told_41 rfl 3 rfl ?_
      obtain ⟨r2, hc3, h⟩ := bd1_of h
      refine p_callVNi (As := [.int v3]) (st' := []) (Wd' := (V_S x.1.2.2 as0 ab0 ab1 ab2 ab3 at0 at1 at2 at3 at4 an0 an1 an2 anb0 anb1 ann0 ann1 ap0 ap1 as1 ai0 ai1 ai2 ai3 aj0 aj1 aj2 aj3 s_kept b_points b_near b_loose b_short b_nets b_xs b_ys t_total t_oft t_left t_right t_group t_paired n_total n_planned n_leaps n_onward nb_len nb_sum nb_tries nn_len nn_sum nn_tries p_len p_signs i_points i_near i_loose i_short i_nets i_xs i_ys j_points j_near j_loose j_short j_nets j_xs j_ys)) C (c_X3_tryAt x.1 (ap0 := ap0) (ap1 := ap1) (p_len := p_len) hc3) dX5_told_42 rfl nm_X5_135 kv_X3_tryAt ds_X3_tryAt ⟨rfl, rfl, by decide, by decide⟩ 0 rfl rfl [17, 18] rfl rfl rfl rfl (by decide) ⟨by decide, by decide⟩ rfl ?_
      refine p_istore (lv' := [(4, .int r2), (0, .ref as0), (1, .int v1), (2, .int v2), (3, .int v3)]) C dX5_told_45 rfl (by decide) rfl ?_
      refine p_iload_n C dX5_told_47 rfl 2 rfl ?_
      refine p_aload_n C dX5_told_48 rfl 1 rfl ?_
      refine p_get C dX5_told_49 rfl 0 2 inlX5 fl_X5_26 rfl rfl (by decide) rfl rfl ?_
      refine p_iload_n C dX5_told_52 rfl 3 rfl ?_
      refine p_iload C dX5_told_53 rfl 0 rfl ?_
      obtain ⟨r4, hc5, h⟩ := bd1_of h
      refine p_callVNi (As := [.int v2, .int r2]) (st' := [.int v1]) (Wd' := (V_S x.1.2.2 as0 ab0 ab1 ab2 ab3 at0 at1 at2 at3 at4 an0 an1 an2 anb0 anb1 ann0 ann1 ap0 ap1 as1 ai0 ai1 ai2 ai3 aj0 aj1 aj2 aj3 s_kept b_points b_near b_loose b_short b_nets b_xs b_ys t_total t_oft t_left t_right t_group t_paired n_total n_planned n_leaps n_onward nb_len nb_sum nb_tries nn_len nn_sum nn_tries p_len p_signs i_points i_near i_loose i_short i_nets i_xs i_ys j_points j_near j_loose j_short j_nets j_xs j_ys)) C (c_X1_leap x.1 (an0 := an0) (an1 := an1) (an2 := an2) (anb0 := anb0) (anb1 := anb1) (ann0 := ann0) (ann1 := ann1) (n_total := n_total) (n_planned := n_planned) (n_onward := n_onward) (nb_len := nb_len) (nb_sum := nb_sum) (nb_tries := nb_tries) (nn_len := nn_len) (nn_sum := nn_sum) (nn_tries := nn_tries) hc5) dX5_told_55 rfl nm_X5_119 kv_X1_leap ds_X1_leap ⟨rfl, rfl, by decide, by decide⟩ 0 rfl rfl [10, 11, 12, 13, 14, 15, 16] rfl rfl rfl rfl (Nat.le_of_ble_eq_true rfl) ⟨by decide, by decide⟩ rfl ?_
      refine p_iadd C dX5_told_58 rfl ?_
      refine p_istore_n (lv' := [(1, .int (v1 + r4)), (4, .int r2), (0, .ref as0), (2, .int v2), (3, .int v3)]) C dX5_told_59 rfl (by decide) rfl ?_
      refine p_iload C dX5_told_60 rfl 1 rfl ?_
      refine p_iconst (v := (1 : Int32)) C dX5_told_62 rfl (by decide) ?_
      refine p_iadd C dX5_told_63 rfl ?_
      refine p_istore_n (lv' := [(2, .int (r2 + ((1 : Int32)))), (1, .int (v1 + r4)), (4, .int r2), (0, .ref as0), (3, .int v3)]) C dX5_told_64 rfl (by decide) rfl ?_
      refine p_iinc (w := v3 + 1) (lv' := [(3, .int (v3 + 1)), (2, .int (r2 + ((1 : Int32)))), (1, .int (v1 + r4)), (4, .int r2), (0, .ref as0)]) C dX5_told_65 rfl 4 rfl rfl (by decide) rfl ?_
      refine p_goto C dX5_told_68 (pc' := 26) (by decide) ?_
      refine p_locals [4, 2, 1, 0] (lv' := [(0, .ref as0), (1, .int (v1 + r4)), (2, .int (r2 + ((1 : Int32)))), (3, .int (v3 + 1))]) rfl ?_
      exact ih _ _ _ h
def m_X5_told (t_total : Int32) (n_leaps : Ar) (p_len : Int32) (p_signs : Ar)  : Option (Int32) := bd1 (m_X3_tellsOrderOf p_len p_signs t_total) (fun r1 => if r1 = 0 then (some ((-7 : Int32))) else (L_X5_told_26 t_total n_leaps p_len p_signs FU ((0 : Int32)) ((0 : Int32)) ((0 : Int32))))
theorem ds_X5_told : (yX5_told).cls ≠ "java/lang/invoke/MethodHandle" ∧ (yX5_told).cls ≠ "java/lang/invoke/VarHandle" ∧ (parseMethodDescriptor (yX5_told).desc).map (fun d => d.parameters.length) = some 0 := by decide +kernel
set_option maxHeartbeats 4000000 in
set_option maxRecDepth 100000 in
theorem c_X5_told (E : En) {as0 ab0 ab1 ab2 ab3 at0 at1 at2 at3 at4 an0 an1 an2 anb0 anb1 ann0 ann1 ap0 ap1 as1 ai0 ai1 ai2 ai3 aj0 aj1 aj2 aj3 : Nat} {s_kept : Int32} {b_points : Int32} {b_near : Int32} {b_loose : Int32} {b_short : Int32} {b_nets : Ar} {b_xs : Ar} {b_ys : Ar} {t_total : Int32} {t_oft : Int32} {t_left : Ar} {t_right : Ar} {t_group : Ar} {t_paired : Ar} {n_total : Int32} {n_planned : Int32} {n_leaps : Ar} {n_onward : Ar} {nb_len : Int32} {nb_sum : Int32} {nb_tries : Ar} {nn_len : Int32} {nn_sum : Int32} {nn_tries : Ar} {p_len : Int32} {p_signs : Ar} {i_points : Int32} {i_near : Int32} {i_loose : Int32} {i_short : Int32} {i_nets : Ar} {i_xs : Ar} {i_ys : Ar} {j_points : Int32} {j_near : Int32} {j_loose : Int32} {j_short : Int32} {j_nets : Ar} {j_xs : Ar} {j_ys : Ar}  {rr : Int32} (h : m_X5_told t_total n_leaps p_len p_signs = some rr) : Ci E yX5_told (wU yX5_told cX5_told 5 (some .int)) (RM 2 45) [.ref as0] (V_S E.2.2 as0 ab0 ab1 ab2 ab3 at0 at1 at2 at3 at4 an0 an1 an2 anb0 anb1 ann0 ann1 ap0 ap1 as1 ai0 ai1 ai2 ai3 aj0 aj1 aj2 aj3 s_kept b_points b_near b_loose b_short b_nets b_xs b_ys t_total t_oft t_left t_right t_group t_paired n_total n_planned n_leaps n_onward nb_len nb_sum nb_tries nn_len nn_sum nn_tries p_len p_signs i_points i_near i_loose i_short i_nets i_xs i_ys j_points j_near j_loose j_short j_nets j_xs j_ys) (V_S E.2.2 as0 ab0 ab1 ab2 ab3 at0 at1 at2 at3 at4 an0 an1 an2 anb0 anb1 ann0 ann1 ap0 ap1 as1 ai0 ai1 ai2 ai3 aj0 aj1 aj2 aj3 s_kept b_points b_near b_loose b_short b_nets b_xs b_ys t_total t_oft t_left t_right t_group t_paired n_total n_planned n_leaps n_onward nb_len nb_sum nb_tries nn_len nn_sum nn_tries p_len p_signs i_points i_near i_loose i_short i_nets i_xs i_ys j_points j_near j_loose j_short j_nets j_xs j_ys) rr := by
  refine Ci.of (by decide) (Nat.le_of_ble_eq_true rfl) ?_
  intro x hE C
  subst hE
  have C : CX RX5 cX5_told 5 (some .int) x := C
  refine p_locals [0] (lv' := [(0, .ref as0)]) rfl ?_
  unfold m_X5_told at h
  refine p_aload_n C dX5_told_0 rfl 0 rfl ?_
  refine p_get C dX5_told_1 rfl 0 3 inlX5 fl_X5_33 rfl rfl (by decide) rfl rfl ?_
  refine p_aload_n C dX5_told_4 rfl 0 rfl ?_
  refine p_get C dX5_told_5 rfl 0 1 inlX5 fl_X5_19 rfl rfl (by decide) rfl rfl ?_
  refine p_getN C dX5_told_8 rfl 5 2 inlX4 nf_X5_129 rfl rfl (by decide) rfl rfl ?_
  obtain ⟨r1, hc2, h⟩ := bd1_of h
  refine p_callVNi (As := [.int t_total]) (st' := []) (Wd' := (V_S x.1.2.2 as0 ab0 ab1 ab2 ab3 at0 at1 at2 at3 at4 an0 an1 an2 anb0 anb1 ann0 ann1 ap0 ap1 as1 ai0 ai1 ai2 ai3 aj0 aj1 aj2 aj3 s_kept b_points b_near b_loose b_short b_nets b_xs b_ys t_total t_oft t_left t_right t_group t_paired n_total n_planned n_leaps n_onward nb_len nb_sum nb_tries nn_len nn_sum nn_tries p_len p_signs i_points i_near i_loose i_short i_nets i_xs i_ys j_points j_near j_loose j_short j_nets j_xs j_ys)) C (c_X3_tellsOrderOf x.1 (ap0 := ap0) (ap1 := ap1) hc2) dX5_told_11 rfl nm_X5_132 kv_X3_tellsOrderOf ds_X3_tellsOrderOf ⟨rfl, rfl, by decide, by decide⟩ 0 rfl rfl [17, 18] rfl rfl rfl rfl (by decide) ⟨by decide, by decide⟩ rfl ?_
  refine p_if_ne C dX5_told_14 (tgt := 20) (by decide) rfl (fun c3 => ?_) (fun c3 => ?_)
  · have h := if_f c3 h
    refine p_iconst (v := (0 : Int32)) C dX5_told_20 rfl (by decide) ?_
    refine p_istore_n (lv' := [(1, .int ((0 : Int32))), (0, .ref as0)]) C dX5_told_21 rfl (by decide) rfl ?_
    refine p_iconst (v := (0 : Int32)) C dX5_told_22 rfl (by decide) ?_
    refine p_istore_n (lv' := [(2, .int ((0 : Int32))), (1, .int ((0 : Int32))), (0, .ref as0)]) C dX5_told_23 rfl (by decide) rfl ?_
    refine p_iconst (v := (0 : Int32)) C dX5_told_24 rfl (by decide) ?_
    refine p_istore_n (lv' := [(3, .int ((0 : Int32))), (2, .int ((0 : Int32))), (1, .int ((0 : Int32))), (0, .ref as0)]) C dX5_told_25 rfl (by decide) rfl ?_
    refine p_locals [3, 2, 1, 0] (lv' := [(0, .ref as0), (1, .int ((0 : Int32))), (2, .int ((0 : Int32))), (3, .int ((0 : Int32)))]) rfl ?_
    exact tl_X5_told_26 C  FU _ _ _ h
  · have h := if_t c3 h
    refine p_bipush (v := (-7 : Int32)) C dX5_told_17 rfl (by decide) ?_
    cases h
    exact p_iret C dX5_told_19
