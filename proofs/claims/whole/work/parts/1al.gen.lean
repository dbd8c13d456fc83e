def m_X5_hidden (b_points : Int32) (b_nets : Ar) (t_total : Int32) (t_oft : Int32) (t_left : Ar) (t_right : Ar) (p1 : Int32) : Option (Int32) := bd1 (m_X5_isSwitch p1) (fun r1 => if r1 = 0 then (some ((-2 : Int32))) else (if p1 = 0 then (bd1 (m_X5_flawSeenAs b_points b_nets t_total t_oft t_left t_right ((0 : Int32)) ((-1 : Int32))) (fun r7 => some r7)) else (bd1 (m_X5_flawSeenAs b_points b_nets t_total t_oft t_left t_right ((0 : Int32)) ((0 : Int32))) (fun r5 => some r5))))
theorem ds_X5_hidden : (yX5_hidden).cls ≠ "java/lang/invoke/MethodHandle" ∧ (yX5_hidden).cls ≠ "java/lang/invoke/VarHandle" ∧ (parseMethodDescriptor (yX5_hidden).desc).map (fun d => d.parameters.length) = some 1 := by decide +kernel
set_option maxHeartbeats 4000000 in
set_option maxRecDepth 100000 in
theorem c_X5_hidden (E : En) {as0 ab0 ab1 ab2 ab3 at0 at1 at2 at3 at4 an0 an1 an2 anb0 anb1 ann0 ann1 ap0 ap1 as1 ai0 ai1 ai2 ai3 aj0 aj1 aj2 aj3 : Nat} {s_kept : Int32} {b_points : Int32} {b_near : Int32} {b_loose : Int32} {b_short : Int32} {b_nets : Ar} {b_xs : Ar} {b_ys : Ar} {t_total : Int32} {t_oft : Int32} {t_left : Ar} {t_right : Ar} {t_group : Ar} {t_paired : Ar} {n_total : Int32} {n_planned : Int32} {n_leaps : Ar} {n_onward : Ar} {nb_len : Int32} {nb_sum : Int32} {nb_tries : Ar} {nn_len : Int32} {nn_sum : Int32} {nn_tries : Ar} {p_len : Int32} {p_signs : Ar} {i_points : Int32} {i_near : Int32} {i_loose : Int32} {i_short : Int32} {i_nets : Ar} {i_xs : Ar} {i_ys : Ar} {j_points : Int32} {j_near : Int32} {j_loose : Int32} {j_short : Int32} {j_nets : Ar} {j_xs : Ar} {j_ys : Ar} {p1 : Int32} {rr : Int32} (h : m_X5_hidden b_points b_nets t_total t_oft t_left t_right p1 = some rr) : Ci E yX5_hidden (wU yX5_hidden cX5_hidden 2 (some .int)) (RM 6 142) [.ref as0, .int p1] (V_S E.2.2 as0 ab0 ab1 ab2 ab3 at0 at1 at2 at3 at4 an0 an1 an2 anb0 anb1 ann0 ann1 ap0 ap1 as1 ai0 ai1 ai2 ai3 aj0 aj1 aj2 aj3 s_kept b_points b_near b_loose b_short b_nets b_xs b_ys t_total t_oft t_left t_right t_group t_paired n_total n_planned n_leaps n_onward nb_len nb_sum nb_tries nn_len nn_sum nn_tries p_len p_signs i_points i_near i_loose i_short i_nets i_xs i_ys j_points j_near j_loose j_short j_nets j_xs j_ys) (V_S E.2.2 as0 ab0 ab1 ab2 ab3 at0 at1 at2 at3 at4 an0 an1 an2 anb0 anb1 ann0 ann1 ap0 ap1 as1 ai0 ai1 ai2 ai3 aj0 aj1 aj2 aj3 s_kept b_points b_near b_loose b_short b_nets b_xs b_ys t_total t_oft t_left t_right t_group t_paired n_total n_planned n_leaps n_onward nb_len nb_sum nb_tries nn_len nn_sum nn_tries p_len p_signs i_points i_near i_loose i_short i_nets i_xs i_ys j_points j_near j_loose j_short j_nets j_xs j_ys) rr := by
  refine Ci.of (by decide) (Nat.le_of_ble_eq_true rfl) ?_
  intro x hE C
  subst hE
  have C : CX RX5 cX5_hidden 2 (some .int) x := C
  refine p_locals [0, 1] (lv' := [(0, .ref as0), (1, .int p1)]) rfl ?_
  unfold m_X5_hidden at h
  refine p_iload_n C dX5_hidden_0 rfl 1 rfl ?_
  obtain ⟨r1, hc2, h⟩ := bd1_of h
  refine p_callSi (As := [.int p1]) (st' := []) (Wd' := (V_S x.1.2.2 as0 ab0 ab1 ab2 ab3 at0 at1 at2 at3 at4 an0 an1 an2 anb0 anb1 ann0 ann1 ap0 ap1 as1 ai0 ai1 ai2 ai3 aj0 aj1 aj2 aj3 s_kept b_points b_near b_loose b_short b_nets b_xs b_ys t_total t_oft t_left t_right t_group t_paired n_total n_planned n_leaps n_onward nb_len nb_sum nb_tries nn_len nn_sum nn_tries p_len p_signs i_points i_near i_loose i_short i_nets i_xs i_ys j_points j_near j_loose j_short j_nets j_xs j_ys)) C (c_X5_isSwitch x.1 hc2) dX5_hidden_1 rfl ml_X5_157 ks_X5_isSwitch ds_X5_isSwitch ⟨rfl, rfl, by decide, by decide⟩ [] rfl rfl rfl rfl (by decide) ⟨by decide, by decide⟩ rfl ?_
  refine p_if_ne C dX5_hidden_4 (tgt := 10) (by decide) rfl (fun c3 => ?_) (fun c3 => ?_)
  · have h := if_f c3 h
    refine p_iload_n C dX5_hidden_10 rfl 1 rfl ?_
    refine p_if_ne C dX5_hidden_11 (tgt := 23) (by decide) rfl (fun c4 => ?_) (fun c4 => ?_)
    · have h := if_f c4 h
      refine p_aload_n C dX5_hidden_23 rfl 0 rfl ?_
      refine p_iconst (v := (0 : Int32)) C dX5_hidden_24 rfl (by decide) ?_
      refine p_iconst (v := (0 : Int32)) C dX5_hidden_25 rfl (by decide) ?_
      obtain ⟨r5, hc6, h⟩ := bd1_of h
      refine p_callVi_s (As := [.int ((0 : Int32)), .int ((0 : Int32))]) (st' := []) (Wc' := (V_S x.1.2.2 as0 ab0 ab1 ab2 ab3 at0 at1 at2 at3 at4 an0 an1 an2 anb0 anb1 ann0 ann1 ap0 ap1 as1 ai0 ai1 ai2 ai3 aj0 aj1 aj2 aj3 s_kept b_points b_near b_loose b_short b_nets b_xs b_ys t_total t_oft t_left t_right t_group t_paired n_total n_planned n_leaps n_onward nb_len nb_sum nb_tries nn_len nn_sum nn_tries p_len p_signs i_points i_near i_loose i_short i_nets i_xs i_ys j_points j_near j_loose j_short j_nets j_xs j_ys)) C (c_X5_flawSeenAs x.1 (as0 := as0) (ab0 := ab0) (ab1 := ab1) (ab2 := ab2) (ab3 := ab3) (at0 := at0) (at1 := at1) (at2 := at2) (at3 := at3) (at4 := at4) (an0 := an0) (an1 := an1) (an2 := an2) (anb0 := anb0) (anb1 := anb1) (ann0 := ann0) (ann1 := ann1) (ap0 := ap0) (ap1 := ap1) (as1 := as1) (ai0 := ai0) (ai1 := ai1) (ai2 := ai2) (ai3 := ai3) (aj0 := aj0) (aj1 := aj1) (aj2 := aj2) (aj3 := aj3) (s_kept := s_kept) (b_near := b_near) (b_loose := b_loose) (b_short := b_short) (b_xs := b_xs) (b_ys := b_ys) (t_group := t_group) (t_paired := t_paired) (n_total := n_total) (n_planned := n_planned) (n_leaps := n_leaps) (n_onward := n_onward) (nb_len := nb_len) (nb_sum := nb_sum) (nb_tries := nb_tries) (nn_len := nn_len) (nn_sum := nn_sum) (nn_tries := nn_tries) (p_len := p_len) (p_signs := p_signs) (i_points := i_points) (i_near := i_near) (i_loose := i_loose) (i_short := i_short) (i_nets := i_nets) (i_xs := i_xs) (i_ys := i_ys) (j_points := j_points) (j_near := j_near) (j_loose := j_loose) (j_short := j_short) (j_nets := j_nets) (j_xs := j_xs) (j_ys := j_ys) hc6) dX5_hidden_26 rfl ml_X5_171 kv_X5_flawSeenAs ds_X5_flawSeenAs ⟨rfl, rfl, by decide, by decide⟩ 0 rfl rfl rfl rfl (by decide) ⟨by decide, by decide⟩ ?_
      cases h
      exact p_iret C dX5_hidden_29
    · have h := if_t c4 h
      refine p_aload_n C dX5_hidden_14 rfl 0 rfl ?_
      refine p_iconst (v := (0 : Int32)) C dX5_hidden_15 rfl (by decide) ?_
      refine p_iconst (v := (-1 : Int32)) C dX5_hidden_16 rfl (by decide) ?_
      obtain ⟨r7, hc8, h⟩ := bd1_of h
      refine p_callVi_s (As := [.int ((0 : Int32)), .int ((-1 : Int32))]) (st' := []) (Wc' := (V_S x.1.2.2 as0 ab0 ab1 ab2 ab3 at0 at1 at2 at3 at4 an0 an1 an2 anb0 anb1 ann0 ann1 ap0 ap1 as1 ai0 ai1 ai2 ai3 aj0 aj1 aj2 aj3 s_kept b_points b_near b_loose b_short b_nets b_xs b_ys t_total t_oft t_left t_right t_group t_paired n_total n_planned n_leaps n_onward nb_len nb_sum nb_tries nn_len nn_sum nn_tries p_len p_signs i_points i_near i_loose i_short i_nets i_xs i_ys j_points j_near j_loose j_short j_nets j_xs j_ys)) C (c_X5_flawSeenAs x.1 (as0 := as0) (ab0 := ab0) (ab1 := ab1) (ab2 := ab2) (ab3 := ab3) (at0 := at0) (at1 := at1) (at2 := at2) (at3 := at3) (at4 := at4) (an0 := an0) (an1 := an1) (an2 := an2) (anb0 := anb0) (anb1 := anb1) (ann0 := ann0) (ann1 := ann1) (ap0 := ap0) (ap1 := ap1) (as1 := as1) (ai0 := ai0) (ai1 := ai1) (ai2 := ai2) (ai3 := ai3) (aj0 := aj0) (aj1 := aj1) (aj2 := aj2) (aj3 := aj3) (s_kept := s_kept) (b_near := b_near) (b_loose := b_loose) (b_short := b_short) (b_xs := b_xs) (b_ys := b_ys) (t_group := t_group) (t_paired := t_paired) (n_total := n_total) (n_planned := n_planned) (n_leaps := n_leaps) (n_onward := n_onward) (nb_len := nb_len) (nb_sum := nb_sum) (nb_tries := nb_tries) (nn_len := nn_len) (nn_sum := nn_sum) (nn_tries := nn_tries) (p_len := p_len) (p_signs := p_signs) (i_points := i_points) (i_near := i_near) (i_loose := i_loose) (i_short := i_short) (i_nets := i_nets) (i_xs := i_xs) (i_ys := i_ys) (j_points := j_points) (j_near := j_near) (j_loose := j_loose) (j_short := j_short) (j_nets := j_nets) (j_xs := j_xs) (j_ys := j_ys) hc8) dX5_hidden_17 rfl ml_X5_171 kv_X5_flawSeenAs ds_X5_flawSeenAs ⟨rfl, rfl, by decide, by decide⟩ 0 rfl rfl rfl rfl (by decide) ⟨by decide, by decide⟩ ?_
      refine p_goto C dX5_hidden_20 (pc' := 29) (by decide) ?_
      cases h
      exact p_iret C dX5_hidden_29
  · have h := if_t c3 h
    refine p_bipush (v := (-2 : Int32)) C dX5_hidden_7 rfl (by decide) ?_
    cases h
    exact p_iret C dX5_hidden_9
def m_X5_isImage  (p0 : Int32) : Option (Int32) := if p0 < 0 then (some ((0 : Int32))) else (if ((2 : Int32)) ≤ p0 then (some ((0 : Int32))) else (some ((1 : Int32))))
theorem ds_X5_isImage : (yX5_isImage).cls ≠ "java/lang/invoke/MethodHandle" ∧ (yX5_isImage).cls ≠ "java/lang/invoke/VarHandle" ∧ (parseMethodDescriptor (yX5_isImage).desc).map (fun d => d.parameters.length) = some 1 := by decide +kernel
set_option maxHeartbeats 4000000 in
set_option maxRecDepth 100000 in
theorem c_X5_isImage (E : En)  {p0 : Int32} {rr : Int32} (h : m_X5_isImage p0 = some rr) : Ci E yX5_isImage (wU yX5_isImage cX5_isImage 1 (some .boolean)) (RM 0 0) [.int p0] ([] : va_W) ([] : va_W) rr := by
  refine Ci.of (by decide) (Nat.le_of_ble_eq_true rfl) ?_
  intro x hE C
  subst hE
  have C : CX RX5 cX5_isImage 1 (some .boolean) x := C
  refine p_locals [0] (lv' := [(0, .int p0)]) rfl ?_
  unfold m_X5_isImage at h
  refine p_iload_n C dX5_isImage_0 rfl 0 rfl ?_
  refine p_if_lt C dX5_isImage_1 (tgt := 13) (by decide) rfl (fun c1 => ?_) (fun c1 => ?_)
  · have h := if_t c1 h
    refine p_iconst (v := (0 : Int32)) C dX5_isImage_13 rfl (by decide) ?_
    cases h
    exact p_zret C dX5_isImage_14 rfl
  · have h := if_f c1 h
    refine p_iload_n C dX5_isImage_4 rfl 0 rfl ?_
    refine p_iconst (v := (2 : Int32)) C dX5_isImage_5 rfl (by decide) ?_
    refine p_icmp_ge C dX5_isImage_6 (tgt := 13) (by decide) rfl (fun c2 => ?_) (fun c2 => ?_)
    · have h := if_t c2 h
      refine p_iconst (v := (0 : Int32)) C dX5_isImage_13 rfl (by decide) ?_
      cases h
      exact p_zret C dX5_isImage_14 rfl
    · have h := if_f c2 h
      refine p_iconst (v := (1 : Int32)) C dX5_isImage_9 rfl (by decide) ?_
      refine p_goto C dX5_isImage_10 (pc' := 14) (by decide) ?_
      cases h
      exact p_zret C dX5_isImage_14 rfl
def m_X5_image (s_kept : Int32) (b_points : Int32) (b_near : Int32) (b_loose : Int32) (b_short : Int32) (b_nets : Ar) (b_xs : Ar) (b_ys : Ar) (i_points : Int32) (i_near : Int32) (i_loose : Int32) (i_short : Int32) (i_nets : Ar) (i_xs : Ar) (i_ys : Ar) (j_points : Int32) (j_near : Int32) (j_loose : Int32) (j_short : Int32) (j_nets : Ar) (j_xs : Ar) (j_ys : Ar) (p1 : Int32) : Option (Int32 × Int32 × Int32 × Int32 × Int32 × Int32 × Ar × Ar × Ar × Int32 × Int32 × Int32 × Int32 × Ar × Ar × Ar) := bd1 (m_X5_isImage p1) (fun r1 => if r1 = 0 then (some ((-2 : Int32), s_kept, i_points, i_near, i_loose, i_short, i_nets, i_xs, i_ys, j_points, j_near, j_loose, j_short, j_nets, j_xs, j_ys)) else (if p1 = 0 then (bd7 (m_X0_copyFrom i_points i_near i_loose i_short i_nets i_xs i_ys b_points b_near b_loose b_short b_nets b_xs b_ys) (fun z_points6 z_near7 z_loose8 z_short9 z_nets10 z_xs11 z_ys12 => some ((1 : Int32), s_kept ||| (((1 : Int32)) <<< (p1 &&& 31)), z_points6, z_near7, z_loose8, z_short9, z_nets10, z_xs11, z_ys12, j_points, j_near, j_loose, j_short, j_nets, j_xs, j_ys))) else if p1 = 1 then (bd7 (m_X0_copyFrom j_points j_near j_loose j_short j_nets j_xs j_ys b_points b_near b_loose b_short b_nets b_xs b_ys) (fun z_points14 z_near15 z_loose16 z_short17 z_nets18 z_xs19 z_ys20 => some ((1 : Int32), s_kept ||| (((1 : Int32)) <<< (p1 &&& 31)), i_points, i_near, i_loose, i_short, i_nets, i_xs, i_ys, z_points14, z_near15, z_loose16, z_short17, z_nets18, z_xs19, z_ys20))) else none))
theorem ds_X5_image : (yX5_image).cls ≠ "java/lang/invoke/MethodHandle" ∧ (yX5_image).cls ≠ "java/lang/invoke/VarHandle" ∧ (parseMethodDescriptor (yX5_image).desc).map (fun d => d.parameters.length) = some 1 := by decide +kernel
set_option maxHeartbeats 4000000 in
set_option maxRecDepth 100000 in
theorem c_X5_image (E : En) {as0 ab0 ab1 ab2 ab3 at0 at1 at2 at3 at4 an0 an1 an2 anb0 anb1 ann0 ann1 ap0 ap1 as1 ai0 ai1 ai2 ai3 aj0 aj1 aj2 aj3 : Nat} {s_kept : Int32} {b_points : Int32} {b_near : Int32} {b_loose : Int32} {b_short : Int32} {b_nets : Ar} {b_xs : Ar} {b_ys : Ar} {t_total : Int32} {t_oft : Int32} {t_left : Ar} {t_right : Ar} {t_group : Ar} {t_paired : Ar} {n_total : Int32} {n_planned : Int32} {n_leaps : Ar} {n_onward : Ar} {nb_len : Int32} {nb_sum : Int32} {nb_tries : Ar} {nn_len : Int32} {nn_sum : Int32} {nn_tries : Ar} {p_len : Int32} {p_signs : Ar} {i_points : Int32} {i_near : Int32} {i_loose : Int32} {i_short : Int32} {i_nets : Ar} {i_xs : Ar} {i_ys : Ar} {j_points : Int32} {j_near : Int32} {j_loose : Int32} {j_short : Int32} {j_nets : Ar} {j_xs : Ar} {j_ys : Ar} {p1 : Int32} {rr : Int32} {q_s_kept : Int32} {q_i_points : Int32} {q_i_near : Int32} {q_i_loose : Int32} {q_i_short : Int32} {q_i_nets : Ar} {q_i_xs : Ar} {q_i_ys : Ar} {q_j_points : Int32} {q_j_near : Int32} {q_j_loose : Int32} {q_j_short : Int32} {q_j_nets : Ar} {q_j_xs : Ar} {q_j_ys : Ar} (h : m_X5_image s_kept b_points b_near b_loose b_short b_nets b_xs b_ys i_points i_near i_loose i_short i_nets i_xs i_ys j_points j_near j_loose j_short j_nets j_xs j_ys p1 = some (rr, q_s_kept, q_i_points, q_i_near, q_i_loose, q_i_short, q_i_nets, q_i_xs, q_i_ys, q_j_points, q_j_near, q_j_loose, q_j_short, q_j_nets, q_j_xs, q_j_ys)) : Ci E yX5_image (wU yX5_image cX5_image 2 (some .int)) (RM 1 22) [.ref as0, .int p1] (V_S E.2.2 as0 ab0 ab1 ab2 ab3 at0 at1 at2 at3 at4 an0 an1 an2 anb0 anb1 ann0 ann1 ap0 ap1 as1 ai0 ai1 ai2 ai3 aj0 aj1 aj2 aj3 s_kept b_points b_near b_loose b_short b_nets b_xs b_ys t_total t_oft t_left t_right t_group t_paired n_total n_planned n_leaps n_onward nb_len nb_sum nb_tries nn_len nn_sum nn_tries p_len p_signs i_points i_near i_loose i_short i_nets i_xs i_ys j_points j_near j_loose j_short j_nets j_xs j_ys) (V_S E.2.2 as0 ab0 ab1 ab2 ab3 at0 at1 at2 at3 at4 an0 an1 an2 anb0 anb1 ann0 ann1 ap0 ap1 as1 ai0 ai1 ai2 ai3 aj0 aj1 aj2 aj3 q_s_kept b_points b_near b_loose b_short b_nets b_xs b_ys t_total t_oft t_left t_right t_group t_paired n_total n_planned n_leaps n_onward nb_len nb_sum nb_tries nn_len nn_sum nn_tries p_len p_signs q_i_points q_i_near q_i_loose q_i_short q_i_nets q_i_xs q_i_ys q_j_points q_j_near q_j_loose q_j_short q_j_nets q_j_xs q_j_ys) rr := by
  refine Ci.of (by decide) (Nat.le_of_ble_eq_true rfl) ?_
  intro x hE C
  subst hE
  have C : CX RX5 cX5_image 2 (some .int) x := C
  refine p_locals [0, 1] (lv' := [(0, .ref as0), (1, .int p1)]) rfl ?_
  unfold m_X5_image at h
  refine p_iload_n C dX5_image_0 rfl 1 rfl ?_
  obtain ⟨r1, hc2, h⟩ := bd1_of h
  refine p_callSi (As := [.int p1]) (st' := []) (Wd' := (V_S x.1.2.2 as0 ab0 ab1 ab2 ab3 at0 at1 at2 at3 at4 an0 an1 an2 anb0 anb1 ann0 ann1 ap0 ap1 as1 ai0 ai1 ai2 ai3 aj0 aj1 aj2 aj3 s_kept b_points b_near b_loose b_short b_nets b_xs b_ys t_total t_oft t_left t_right t_group t_paired n_total n_planned n_leaps n_onward nb_len nb_sum nb_tries nn_len nn_sum nn_tries p_len p_signs i_points i_near i_loose i_short i_nets i_xs i_ys j_points j_near j_loose j_short j_nets j_xs j_ys)) C (c_X5_isImage x.1 hc2) dX5_image_1 rfl ml_X5_183 ks_X5_isImage ds_X5_isImage ⟨rfl, rfl, by decide, by decide⟩ [] rfl rfl rfl rfl (by decide) ⟨by decide, by decide⟩ rfl ?_
  refine p_if_ne C dX5_image_4 (tgt := 10) (by decide) rfl (fun c3 => ?_) (fun c3 => ?_)
  · have h := if_f c3 h
    refine p_aload_n C dX5_image_10 rfl 0 rfl ?_
    refine p_get C dX5_image_11 rfl 0 4 inlX5 fl_X5_37 rfl rfl (by decide) rfl rfl ?_
    refine p_iload_n C dX5_image_14 rfl 1 rfl ?_
    by_cases c4 : p1 = 0
    · have h := if_t c4 h
      refine p_aald (b := ai0) C dX5_image_15 rfl 19 rfl (by rw [c4]; rfl) (by rw [c4]; rfl) ?_
      refine p_aload_n C dX5_image_16 rfl 0 rfl ?_
      refine p_get C dX5_image_17 rfl 0 0 inlX5 fl_X5_12 rfl rfl (by decide) rfl rfl ?_
      obtain ⟨z_points6, z_near7, z_loose8, z_short9, z_nets10, z_xs11, z_ys12, hc13, h⟩ := bd7_of h
      refine p_callVNv (As := [.ref ab0]) (st' := []) (Wd' := (V_S x.1.2.2 as0 ab0 ab1 ab2 ab3 at0 at1 at2 at3 at4 an0 an1 an2 anb0 anb1 ann0 ann1 ap0 ap1 as1 ai0 ai1 ai2 ai3 aj0 aj1 aj2 aj3 s_kept b_points b_near b_loose b_short b_nets b_xs b_ys t_total t_oft t_left t_right t_group t_paired n_total n_planned n_leaps n_onward nb_len nb_sum nb_tries nn_len nn_sum nn_tries p_len p_signs z_points6 z_near7 z_loose8 z_short9 z_nets10 z_xs11 z_ys12 j_points j_near j_loose j_short j_nets j_xs j_ys)) C (c_X0_copyFrom x.1 (ab0 := ai0) (ab1 := ai1) (ab2 := ai2) (ab3 := ai3) (ac0 := ab0) (ac1 := ab1) (ac2 := ab2) (ac3 := ab3) hc13) dX5_image_20 rfl nm_X5_186 kv_X0_copyFrom ds_X0_copyFrom ⟨rfl, rfl, by decide, by decide⟩ 0 rfl rfl [20, 21, 22, 23, 1, 2, 3, 4] rfl rfl rfl rfl (by decide) ⟨by decide, by decide⟩ rfl ?_
      refine p_aload_n C dX5_image_23 rfl 0 rfl ?_
      refine p_dup C dX5_image_24 rfl rfl ?_
      refine p_get C dX5_image_25 rfl 0 5 inlX5 fl_X5_41 rfl rfl (by decide) rfl rfl ?_
      refine p_iconst (v := (1 : Int32)) C dX5_image_28 rfl (by decide) ?_
      refine p_iload_n C dX5_image_29 rfl 1 rfl ?_
      refine p_ishl C dX5_image_30 rfl ?_
      refine p_ior C dX5_image_31 rfl ?_
      refine p_put (Wd' := (V_S x.1.2.2 as0 ab0 ab1 ab2 ab3 at0 at1 at2 at3 at4 an0 an1 an2 anb0 anb1 ann0 ann1 ap0 ap1 as1 ai0 ai1 ai2 ai3 aj0 aj1 aj2 aj3 (s_kept ||| (((1 : Int32)) <<< (p1 &&& 31))) b_points b_near b_loose b_short b_nets b_xs b_ys t_total t_oft t_left t_right t_group t_paired n_total n_planned n_leaps n_onward nb_len nb_sum nb_tries nn_len nn_sum nn_tries p_len p_signs z_points6 z_near7 z_loose8 z_short9 z_nets10 z_xs11 z_ys12 j_points j_near j_loose j_short j_nets j_xs j_ys)) (ty := .int) C dX5_image_32 rfl 0 5 inlX5 tyX5 tyX5_ok nmX5 fl_X5_41 rfl rfl (by decide) rfl rfl (by decide +kernel) rfl rfl (Nat.le_of_ble_eq_true rfl) rfl ?_
      refine p_iconst (v := (1 : Int32)) C dX5_image_35 rfl (by decide) ?_
      cases h
      exact p_iret C dX5_image_36
    · have h := if_f c4 h
      by_cases c5 : p1 = 1
      · have h := if_t c5 h
        refine p_aald (b := aj0) C dX5_image_15 rfl 19 rfl (by rw [c5]; rfl) (by rw [c5]; rfl) ?_
        refine p_aload_n C dX5_image_16 rfl 0 rfl ?_
        refine p_get C dX5_image_17 rfl 0 0 inlX5 fl_X5_12 rfl rfl (by decide) rfl rfl ?_
        obtain ⟨z_points14, z_near15, z_loose16, z_short17, z_nets18, z_xs19, z_ys20, hc21, h⟩ := bd7_of h
        refine p_callVNv (As := [.ref ab0]) (st' := []) (Wd' := (V_S x.1.2.2 as0 ab0 ab1 ab2 ab3 at0 at1 at2 at3 at4 an0 an1 an2 anb0 anb1 ann0 ann1 ap0 ap1 as1 ai0 ai1 ai2 ai3 aj0 aj1 aj2 aj3 s_kept b_points b_near b_loose b_short b_nets b_xs b_ys t_total t_oft t_left t_right t_group t_paired n_total n_planned n_leaps n_onward nb_len nb_sum nb_tries nn_len nn_sum nn_tries p_len p_signs i_points i_near i_loose i_short i_nets i_xs i_ys z_points14 z_near15 z_loose16 z_short17 z_nets18 z_xs19 z_ys20)) C (c_X0_copyFrom x.1 (ab0 := aj0) (ab1 := aj1) (ab2 := aj2) (ab3 := aj3) (ac0 := ab0) (ac1 := ab1) (ac2 := ab2) (ac3 := ab3) hc21) dX5_image_20 rfl nm_X5_186 kv_X0_copyFrom ds_X0_copyFrom ⟨rfl, rfl, by decide, by decide⟩ 0 rfl rfl [24, 25, 26, 27, 1, 2, 3, 4] rfl rfl rfl rfl (by decide) ⟨by decide, by decide⟩ rfl ?_
        refine p_aload_n C dX5_image_23 rfl 0 rfl ?_
        refine p_dup C dX5_image_24 rfl rfl ?_
        refine p_get C dX5_image_25 rfl 0 5 inlX5 fl_X5_41 rfl rfl (by decide) rfl rfl ?_
        refine p_iconst (v := (1 : Int32)) C dX5_image_28 rfl (by decide) ?_
        refine p_iload_n C dX5_image_29 rfl 1 rfl ?_
        refine p_ishl C dX5_image_30 rfl ?_
        refine p_ior C dX5_image_31 rfl ?_
        refine p_put (Wd' := (V_S x.1.2.2 as0 ab0 ab1 ab2 ab3 at0 at1 at2 at3 at4 an0 an1 an2 anb0 anb1 ann0 ann1 ap0 ap1 as1 ai0 ai1 ai2 ai3 aj0 aj1 aj2 aj3 (s_kept ||| (((1 : Int32)) <<< (p1 &&& 31))) b_points b_near b_loose b_short b_nets b_xs b_ys t_total t_oft t_left t_right t_group t_paired n_total n_planned n_leaps n_onward nb_len nb_sum nb_tries nn_len nn_sum nn_tries p_len p_signs i_points i_near i_loose i_short i_nets i_xs i_ys z_points14 z_near15 z_loose16 z_short17 z_nets18 z_xs19 z_ys20)) (ty := .int) C dX5_image_32 rfl 0 5 inlX5 tyX5 tyX5_ok nmX5 fl_X5_41 rfl rfl (by decide) rfl rfl (by decide +kernel) rfl rfl (Nat.le_of_ble_eq_true rfl) rfl ?_
        refine p_iconst (v := (1 : Int32)) C dX5_image_35 rfl (by decide) ?_
        cases h
        exact p_iret C dX5_image_36
      · have h := if_f c5 h
        cases h
  · have h := if_t c3 h
    refine p_bipush (v := (-2 : Int32)) C dX5_image_7 rfl (by decide) ?_
    cases h
    exact p_iret C dX5_image_9
def m_X5_isOnBoard  (p0 : Int32) (p1 : Int32) : Option (Int32) := if p0 < 0 then (some ((0 : Int32))) else (if ((20 : Int32)) < p0 then (some ((0 : Int32))) else (if p1 < 0 then (some ((0 : Int32))) else (if ((20 : Int32)) < p1 then (some ((0 : Int32))) else (some ((1 : Int32))))))
theorem ds_X5_isOnBoard : (yX5_isOnBoard).cls ≠ "java/lang/invoke/MethodHandle" ∧ (yX5_isOnBoard).cls ≠ "java/lang/invoke/VarHandle" ∧ (parseMethodDescriptor (yX5_isOnBoard).desc).map (fun d => d.parameters.length) = some 2 := by decide +kernel
set_option maxHeartbeats 4000000 in
set_option maxRecDepth 100000 in
theorem c_X5_isOnBoard (E : En)  {p0 : Int32} {p1 : Int32} {rr : Int32} (h : m_X5_isOnBoard p0 p1 = some rr) : Ci E yX5_isOnBoard (wU yX5_isOnBoard cX5_isOnBoard 2 (some .boolean)) (RM 0 0) [.int p0, .int p1] ([] : va_W) ([] : va_W) rr := by
  refine Ci.of (by decide) (Nat.le_of_ble_eq_true rfl) ?_
  intro x hE C
  subst hE
  have C : CX RX5 cX5_isOnBoard 2 (some .boolean) x := C
  refine p_locals [0, 1] (lv' := [(0, .int p0), (1, .int p1)]) rfl ?_
  unfold m_X5_isOnBoard at h
  refine p_iload_n C dX5_isOnBoard_0 rfl 0 rfl ?_
  refine p_if_lt C dX5_isOnBoard_1 (tgt := 24) (by decide) rfl (fun c1 => ?_) (fun c1 => ?_)
  · have h := if_t c1 h
    refine p_iconst (v := (0 : Int32)) C dX5_isOnBoard_24 rfl (by decide) ?_
    cases h
    exact p_zret C dX5_isOnBoard_25 rfl
  · have h := if_f c1 h
    refine p_iload_n C dX5_isOnBoard_4 rfl 0 rfl ?_
    refine p_bipush (v := (20 : Int32)) C dX5_isOnBoard_5 rfl (by decide) ?_
    refine p_icmp_gt C dX5_isOnBoard_7 (tgt := 24) (by decide) rfl (fun c2 => ?_) (fun c2 => ?_)
    · have h := if_t c2 h
      refine p_iconst (v := (0 : Int32)) C dX5_isOnBoard_24 rfl (by decide) ?_
      cases h
      exact p_zret C dX5_isOnBoard_25 rfl
    · have h := if_f c2 h
      refine p_iload_n C dX5_isOnBoard_10 rfl 1 rfl ?_
      refine p_if_lt C dX5_isOnBoard_11 (tgt := 24) (by decide) rfl (fun c3 => ?_) (fun c3 => ?_)
      · have h := if_t c3 h
        refine p_iconst (v := (0 : Int32)) C dX5_isOnBoard_24 rfl (by decide) ?_
        cases h
        exact p_zret C dX5_isOnBoard_25 rfl
      · have h := if_f c3 h
        refine p_iload_n C dX5_isOnBoard_14 rfl 1 rfl ?_
        refine p_bipush (v := (20 : Int32)) C dX5_isOnBoard_15 rfl (by decide) ?_
        refine p_icmp_gt C dX5_isOnBoard_17 (tgt := 24) (by decide) rfl (fun c4 => ?_) (fun c4 => ?_)
        · have h := if_t c4 h
          refine p_iconst (v := (0 : Int32)) C dX5_isOnBoard_24 rfl (by decide) ?_
          cases h
          exact p_zret C dX5_isOnBoard_25 rfl
        · have h := if_f c4 h
          refine p_iconst (v := (1 : Int32)) C dX5_isOnBoard_20 rfl (by decide) ?_
          refine p_goto C dX5_isOnBoard_21 (pc' := 25) (by decide) ?_
          cases h
          exact p_zret C dX5_isOnBoard_25 rfl
def J_X5_pairOfNets_49  (k18 : Int32 → Int32 → Option (Int32))  (v2 : Int32) (v3 : Int32) (v4 : Int32) (v5 : Int32) : Option (Int32) := k18 v4 (v5 + 1)
set_option maxHeartbeats 4000000 in
set_option maxRecDepth 100000 in
theorem tj_X5_pairOfNets_49 {x : Cxt}  {k18 : Int32 → Int32 → Option (Int32)}  {v2 : Int32} {v3 : Int32} {v4 : Int32} {v5 : Int32} {rr : Int32} (C : CX RX5 cX5_pairOfNets 6 (some .int) x) (hk18 : ∀ (w4 : Int32) (w5 : Int32) , k18 w4 w5 = some rr → PT (RM 1 21) 6 x 18 [(2, .int v2), (3, .int v3), (4, .int w4), (5, .int w5)] [] ([] : va_W) 0 0 (QI x rr ([] : va_W))) (h : J_X5_pairOfNets_49 k18 v2 v3 v4 v5 = some rr) : PT (RM 1 21) 6 x 49 [(2, .int v2), (3, .int v3), (4, .int v4), (5, .int v5)] [] ([] : va_W) 0 0 (QI x rr ([] : va_W)) := by
  unfold J_X5_pairOfNets_49 at h
  refine p_iinc (w := v5 + 1) (lv' := [(5, .int (v5 + 1)), (2, .int v2), (3, .int v3), (4, .int v4)]) C dX5_pairOfNets_49 rfl 3 rfl rfl (by decide) rfl ?_
  refine p_goto C dX5_pairOfNets_52 (pc' := 18) (by decide) ?_
  refine p_locals [1, 2, 3, 0] (lv' := [(2, .int v2), (3, .int v3), (4, .int v4), (5, .int (v5 + 1))]) rfl ?_
  exact hk18 _ _ h
def B_X5_pairOfNets_18   (v2 : Int32) (v3 : Int32) (kk : Int32 → Int32 → Option (Int32)) (v4 : Int32) (v5 : Int32)  : Option (Int32) := if ((6 : Int32)) ≤ v5 then (some v4) else (grd (gI v5 6) (if (LNf v5.toNatClampNeg) = v2 then (grd (gI v5 6) (if (GNf v5.toNatClampNeg) = v3 then (J_X5_pairOfNets_49 (kk) v2 v3 v5 v5) else (J_X5_pairOfNets_49 (kk) v2 v3 v4 v5))) else (J_X5_pairOfNets_49 (kk) v2 v3 v4 v5)))
def L_X5_pairOfNets_18   (v2 : Int32) (v3 : Int32) : Nat → Int32 → Int32 → Option (Int32) := lpG (fun _ _ => none) (B_X5_pairOfNets_18 v2 v3)
set_option maxHeartbeats 4000000 in
set_option maxRecDepth 100000 in
theorem tl_X5_pairOfNets_18 {x : Cxt}   {v2 : Int32} {v3 : Int32} {rr : Int32} (C : CX RX5 cX5_pairOfNets 6 (some .int) x)  : ∀ (n : Nat) (v4 : Int32) (v5 : Int32) , L_X5_pairOfNets_18 v2 v3 n v4 v5 = some rr → PT (RM 1 21) 6 x 18 [(2, .int v2), (3, .int v3), (4, .int v4), (5, .int v5)] [] ([] : va_W) 0 0 (QI x rr ([] : va_W)) := by
  intro n
  induction n with
  | zero =>
    intro v4 v5 h
    cases h
  | succ n ih =>
    intro v4 v5 h
    have h : B_X5_pairOfNets_18 v2 v3 (L_X5_pairOfNets_18 v2 v3 n) v4 v5 = some rr := h
    unfold B_X5_pairOfNets_18 at h
    refine p_iload C dX5_pairOfNets_18 rfl 3 rfl ?_
    refine p_bipush (v := (6 : Int32)) C dX5_pairOfNets_20 rfl (by decide) ?_
    refine p_icmp_ge C dX5_pairOfNets_22 (tgt := 55) (by decide) rfl (fun c1 => ?_) (fun c1 => ?_)
    · have h := if_t c1 h
      refine p_iload C dX5_pairOfNets_55 rfl 2 rfl ?_
      cases h
      exact p_iret C dX5_pairOfNets_57
    · have h := if_f c1 h
      refine p_getsL C dX5_pairOfNets_25 rfl fl_X5_221 (fun tt2 hT3 => ?_)
      refine p_iload C dX5_pairOfNets_28 rfl 3 rfl ?_
      obtain ⟨g4, h⟩ := grd_of h
      refine p_tald C hT3 dX5_pairOfNets_30 rfl g4 ?_
      refine p_iload_n C dX5_pairOfNets_31 rfl 0 rfl ?_
      refine p_icmp_ne C dX5_pairOfNets_32 (tgt := 49) (by decide) rfl (fun c5 => ?_) (fun c5 => ?_)
      · have h := if_f c5 h
        refine p_locals [0, 1, 2, 3] (lv' := [(2, .int v2), (3, .int v3), (4, .int v4), (5, .int v5)]) rfl ?_
        exact tj_X5_pairOfNets_49 C (fun u0 u1 h => ih u0 u1 h) h
      · have h := if_t c5 h
        refine p_getsG C dX5_pairOfNets_35 rfl fl_X5_224 (fun tt6 hT7 => ?_)
        refine p_iload C dX5_pairOfNets_38 rfl 3 rfl ?_
        obtain ⟨g8, h⟩ := grd_of h
        refine p_tald C hT7 dX5_pairOfNets_40 rfl g8 ?_
        refine p_iload_n C dX5_pairOfNets_41 rfl 1 rfl ?_
        refine p_icmp_ne C dX5_pairOfNets_42 (tgt := 49) (by decide) rfl (fun c9 => ?_) (fun c9 => ?_)
        · have h := if_f c9 h
          refine p_locals [0, 1, 2, 3] (lv' := [(2, .int v2), (3, .int v3), (4, .int v4), (5, .int v5)]) rfl ?_
          exact tj_X5_pairOfNets_49 C (fun u0 u1 h => ih u0 u1 h) h
        · have h := if_t c9 h
          refine p_iload C dX5_pairOfNets_45 rfl 3 rfl ?_
          refine p_istore (lv' := [(4, .int v5), (2, .int v2), (3, .int v3), (5, .int v5)]) C dX5_pairOfNets_47 rfl (by decide) rfl ?_
          refine p_locals [1, 2, 0, 3] (lv' := [(2, .int v2), (3, .int v3), (4, .int v5), (5, .int v5)]) rfl ?_
          exact tj_X5_pairOfNets_49 C (fun u0 u1 h => ih u0 u1 h) h
def m_X5_pairOfNets  (p0 : Int32) (p1 : Int32) : Option (Int32) := L_X5_pairOfNets_18 (if p1 < p0 then p1 else p0) (if p0 < p1 then p1 else p0) FU ((0 : Int32)) ((0 : Int32))
theorem ds_X5_pairOfNets : (yX5_pairOfNets).cls ≠ "java/lang/invoke/MethodHandle" ∧ (yX5_pairOfNets).cls ≠ "java/lang/invoke/VarHandle" ∧ (parseMethodDescriptor (yX5_pairOfNets).desc).map (fun d => d.parameters.length) = some 2 := by decide +kernel
set_option maxHeartbeats 4000000 in
set_option maxRecDepth 100000 in
theorem c_X5_pairOfNets (E : En)  {p0 : Int32} {p1 : Int32} {rr : Int32} (h : m_X5_pairOfNets p0 p1 = some rr) : Ci E yX5_pairOfNets (wU yX5_pairOfNets cX5_pairOfNets 6 (some .int)) (RM 1 21) [.int p0, .int p1] ([] : va_W) ([] : va_W) rr := by
  refine Ci.of (by decide) (Nat.le_of_ble_eq_true rfl) ?_
  intro x hE C
  subst hE
  have C : CX RX5 cX5_pairOfNets 6 (some .int) x := C
  refine p_locals [0, 1] (lv' := [(0, .int p0), (1, .int p1)]) rfl ?_
  unfold m_X5_pairOfNets at h
  refine p_iload_n C dX5_pairOfNets_0 rfl 0 rfl ?_
  refine p_iload_n C dX5_pairOfNets_1 rfl 1 rfl ?_
  refine p_mmin C dX5_pairOfNets_2 rfl ml_X5_213 ks_Math_min ⟨by decide, Nat.le_of_ble_eq_true rfl⟩ ⟨by decide, by decide⟩ ?_
  refine p_istore_n (lv' := [(2, .int (if p1 < p0 then p1 else p0)), (0, .int p0), (1, .int p1)]) C dX5_pairOfNets_5 rfl (by decide) rfl ?_
  refine p_iload_n C dX5_pairOfNets_6 rfl 1 rfl ?_
  refine p_iload_n C dX5_pairOfNets_7 rfl 2 rfl ?_
  refine p_mmax C dX5_pairOfNets_8 rfl ml_X5_218 ks_Math_max ⟨by decide, Nat.le_of_ble_eq_true rfl⟩ ⟨by decide, by decide⟩ ?_
  refine p_istore_n (lv' := [(3, .int (if p0 < p1 then p1 else p0)), (2, .int (if p1 < p0 then p1 else p0)), (0, .int p0), (1, .int p1)]) C dX5_pairOfNets_11 rfl (by decide) rfl ?_
  refine p_iconst (v := (0 : Int32)) C dX5_pairOfNets_12 rfl (by decide) ?_
  refine p_istore (lv' := [(4, .int ((0 : Int32))), (3, .int (if p0 < p1 then p1 else p0)), (2, .int (if p1 < p0 then p1 else p0)), (0, .int p0), (1, .int p1)]) C dX5_pairOfNets_13 rfl (by decide) rfl ?_
  refine p_iconst (v := (0 : Int32)) C dX5_pairOfNets_15 rfl (by decide) ?_
  refine p_istore (lv' := [(5, .int ((0 : Int32))), (4, .int ((0 : Int32))), (3, .int (if p0 < p1 then p1 else p0)), (2, .int (if p1 < p0 then p1 else p0)), (0, .int p0), (1, .int p1)]) C dX5_pairOfNets_16 rfl (by decide) rfl ?_
  refine p_locals [3, 2, 1, 0] (lv' := [(2, .int (if p1 < p0 then p1 else p0)), (3, .int (if p0 < p1 then p1 else p0)), (4, .int ((0 : Int32))), (5, .int ((0 : Int32)))]) rfl ?_
  exact tl_X5_pairOfNets_18 C  FU _ _ h
def m_X5_join (b_short : Int32) (p1 : Int32) (p2 : Int32) (p3 : Int32) : Option (Int32 × Int32) := bd1 (m_X5_isNet p1) (fun r1 => if r1 = 0 then (some ((-1 : Int32), b_short)) else (bd1 (m_X5_isNet p2) (fun r4 => if r4 = 0 then (some ((-1 : Int32), b_short)) else (if p1 = p2 then (some ((-2 : Int32), b_short)) else (bd1 (m_X5_isSwitch p3) (fun r8 => if r8 = 0 then (some ((-2 : Int32), b_short)) else (bd1 (m_X5_pairOfNets p1 p2) (fun r11 => bd1 (m_X5_withMember b_short r11 p3) (fun r13 => bd1 (m_J6_bitCount_0f7a4 r13) (fun r15 => some (r15, r13)))))))))))
theorem ds_X5_join : (yX5_join).cls ≠ "java/lang/invoke/MethodHandle" ∧ (yX5_join).cls ≠ "java/lang/invoke/VarHandle" ∧ (parseMethodDescriptor (yX5_join).desc).map (fun d => d.parameters.length) = some 3 := by decide +kernel
set_option maxHeartbeats 4000000 in
set_option maxRecDepth 100000 in
theorem c_X5_join (E : En) {as0 ab0 ab1 ab2 ab3 at0 at1 at2 at3 at4 an0 an1 an2 anb0 anb1 ann0 ann1 ap0 ap1 as1 ai0 ai1 ai2 ai3 aj0 aj1 aj2 aj3 : Nat} {s_kept : Int32} {b_points : Int32} {b_near : Int32} {b_loose : Int32} {b_short : Int32} {b_nets : Ar} {b_xs : Ar} {b_ys : Ar} {t_total : Int32} {t_oft : Int32} {t_left : Ar} {t_right : Ar} {t_group : Ar} {t_paired : Ar} {n_total : Int32} {n_planned : Int32} {n_leaps : Ar} {n_onward : Ar} {nb_len : Int32} {nb_sum : Int32} {nb_tries : Ar} {nn_len : Int32} {nn_sum : Int32} {nn_tries : Ar} {p_len : Int32} {p_signs : Ar} {i_points : Int32} {i_near : Int32} {i_loose : Int32} {i_short : Int32} {i_nets : Ar} {i_xs : Ar} {i_ys : Ar} {j_points : Int32} {j_near : Int32} {j_loose : Int32} {j_short : Int32} {j_nets : Ar} {j_xs : Ar} {j_ys : Ar} {p1 : Int32} {p2 : Int32} {p3 : Int32} {rr : Int32} {q_b_short : Int32} (h : m_X5_join b_short p1 p2 p3 = some (rr, q_b_short)) : Ci E yX5_join (wU yX5_join cX5_join 4 (some .int)) (RM 2 46) [.ref as0, .int p1, .int p2, .int p3] (V_S E.2.2 as0 ab0 ab1 ab2 ab3 at0 at1 at2 at3 at4 an0 an1 an2 anb0 anb1 ann0 ann1 ap0 ap1 as1 ai0 ai1 ai2 ai3 aj0 aj1 aj2 aj3 s_kept b_points b_near b_loose b_short b_nets b_xs b_ys t_total t_oft t_left t_right t_group t_paired n_total n_planned n_leaps n_onward nb_len nb_sum nb_tries nn_len nn_sum nn_tries p_len p_signs i_points i_near i_loose i_short i_nets i_xs i_ys j_points j_near j_loose j_short j_nets j_xs j_ys) (V_S E.2.2 as0 ab0 ab1 ab2 ab3 at0 at1 at2 at3 at4 an0 an1 an2 anb0 anb1 ann0 ann1 ap0 ap1 as1 ai0 ai1 ai2 ai3 aj0 aj1 aj2 aj3 s_kept b_points b_near b_loose q_b_short b_nets b_xs b_ys t_total t_oft t_left t_right t_group t_paired n_total n_planned n_leaps n_onward nb_len nb_sum nb_tries nn_len nn_sum nn_tries p_len p_signs i_points i_near i_loose i_short i_nets i_xs i_ys j_points j_near j_loose j_short j_nets j_xs j_ys) rr := by
  refine Ci.of (by decide) (Nat.le_of_ble_eq_true rfl) ?_
  intro x hE C
  subst hE
  have C : CX RX5 cX5_join 4 (some .int) x := C
  refine p_locals [0, 1, 2, 3] (lv' := [(0, .ref as0), (1, .int p1), (2, .int p2), (3, .int p3)]) rfl ?_
  unfold m_X5_join at h
  refine p_iload_n C dX5_join_0 rfl 1 rfl ?_
  obtain ⟨r1, hc2, h⟩ := bd1_of h
  refine p_callSi (As := [.int p1]) (st' := []) (Wd' := (V_S x.1.2.2 as0 ab0 ab1 ab2 ab3 at0 at1 at2 at3 at4 an0 an1 an2 anb0 anb1 ann0 ann1 ap0 ap1 as1 ai0 ai1 ai2 ai3 aj0 aj1 aj2 aj3 s_kept b_points b_near b_loose b_short b_nets b_xs b_ys t_total t_oft t_left t_right t_group t_paired n_total n_planned n_leaps n_onward nb_len nb_sum nb_tries nn_len nn_sum nn_tries p_len p_signs i_points i_near i_loose i_short i_nets i_xs i_ys j_points j_near j_loose j_short j_nets j_xs j_ys)) C (c_X5_isNet x.1 hc2) dX5_join_1 rfl ml_X5_45 ks_X5_isNet ds_X5_isNet ⟨rfl, rfl, by decide, by decide⟩ [] rfl rfl rfl rfl (by decide) ⟨by decide, by decide⟩ rfl ?_
  refine p_if_eq C dX5_join_4 (tgt := 14) (by decide) rfl (fun c3 => ?_) (fun c3 => ?_)
  · have h := if_t c3 h
    refine p_iconst (v := (-1 : Int32)) C dX5_join_14 rfl (by decide) ?_
    cases h
    exact p_iret C dX5_join_15
  · have h := if_f c3 h
    refine p_iload_n C dX5_join_7 rfl 2 rfl ?_
    obtain ⟨r4, hc5, h⟩ := bd1_of h
    refine p_callSi (As := [.int p2]) (st' := []) (Wd' := (V_S x.1.2.2 as0 ab0 ab1 ab2 ab3 at0 at1 at2 at3 at4 an0 an1 an2 anb0 anb1 ann0 ann1 ap0 ap1 as1 ai0 ai1 ai2 ai3 aj0 aj1 aj2 aj3 s_kept b_points b_near b_loose b_short b_nets b_xs b_ys t_total t_oft t_left t_right t_group t_paired n_total n_planned n_leaps n_onward nb_len nb_sum nb_tries nn_len nn_sum nn_tries p_len p_signs i_points i_near i_loose i_short i_nets i_xs i_ys j_points j_near j_loose j_short j_nets j_xs j_ys)) C (c_X5_isNet x.1 hc5) dX5_join_8 rfl ml_X5_45 ks_X5_isNet ds_X5_isNet ⟨rfl, rfl, by decide, by decide⟩ [] rfl rfl rfl rfl (by decide) ⟨by decide, by decide⟩ rfl ?_
    refine p_if_ne C dX5_join_11 (tgt := 16) (by decide) rfl (fun c6 => ?_) (fun c6 => ?_)
    · have h := if_f c6 h
      refine p_iload_n C dX5_join_16 rfl 1 rfl ?_
      refine p_iload_n C dX5_join_17 rfl 2 rfl ?_
      refine p_icmp_eq C dX5_join_18 (tgt := 28) (by decide) rfl (fun c7 => ?_) (fun c7 => ?_)
      · have h := if_t c7 h
        refine p_bipush (v := (-2 : Int32)) C dX5_join_28 rfl (by decide) ?_
        cases h
        exact p_iret C dX5_join_30
      · have h := if_f c7 h
        refine p_iload_n C dX5_join_21 rfl 3 rfl ?_
        obtain ⟨r8, hc9, h⟩ := bd1_of h
        refine p_callSi (As := [.int p3]) (st' := []) (Wd' := (V_S x.1.2.2 as0 ab0 ab1 ab2 ab3 at0 at1 at2 at3 at4 an0 an1 an2 anb0 anb1 ann0 ann1 ap0 ap1 as1 ai0 ai1 ai2 ai3 aj0 aj1 aj2 aj3 s_kept b_points b_near b_loose b_short b_nets b_xs b_ys t_total t_oft t_left t_right t_group t_paired n_total n_planned n_leaps n_onward nb_len nb_sum nb_tries nn_len nn_sum nn_tries p_len p_signs i_points i_near i_loose i_short i_nets i_xs i_ys j_points j_near j_loose j_short j_nets j_xs j_ys)) C (c_X5_isSwitch x.1 hc9) dX5_join_22 rfl ml_X5_157 ks_X5_isSwitch ds_X5_isSwitch ⟨rfl, rfl, by decide, by decide⟩ [] rfl rfl rfl rfl (by decide) ⟨by decide, by decide⟩ rfl ?_
        refine p_if_ne C dX5_join_25 (tgt := 31) (by decide) rfl (fun c10 => ?_) (fun c10 => ?_)
        · have h := if_f c10 h
          refine p_aload_n C dX5_join_31 rfl 0 rfl ?_
          refine p_get C dX5_join_32 rfl 0 0 inlX5 fl_X5_12 rfl rfl (by decide) rfl rfl ?_
          refine p_aload_n C dX5_join_35 rfl 0 rfl ?_
          refine p_get C dX5_join_36 rfl 0 0 inlX5 fl_X5_12 rfl rfl (by decide) rfl rfl ?_
          refine p_getN C dX5_join_39 rfl 1 6 inlX0 nf_X5_108 rfl rfl (by decide) rfl rfl ?_
          refine p_iload_n C dX5_join_42 rfl 1 rfl ?_
          refine p_iload_n C dX5_join_43 rfl 2 rfl ?_
          obtain ⟨r11, hc12, h⟩ := bd1_of h
          refine p_callSi (As := [.int p1, .int p2]) (st' := [.int b_short, .ref ab0]) (Wd' := (V_S x.1.2.2 as0 ab0 ab1 ab2 ab3 at0 at1 at2 at3 at4 an0 an1 an2 anb0 anb1 ann0 ann1 ap0 ap1 as1 ai0 ai1 ai2 ai3 aj0 aj1 aj2 aj3 s_kept b_points b_near b_loose b_short b_nets b_xs b_ys t_total t_oft t_left t_right t_group t_paired n_total n_planned n_leaps n_onward nb_len nb_sum nb_tries nn_len nn_sum nn_tries p_len p_signs i_points i_near i_loose i_short i_nets i_xs i_ys j_points j_near j_loose j_short j_nets j_xs j_ys)) C (c_X5_pairOfNets x.1 hc12) dX5_join_44 rfl ml_X5_168 ks_X5_pairOfNets ds_X5_pairOfNets ⟨rfl, rfl, by decide, by decide⟩ [] rfl rfl rfl rfl (Nat.le_of_ble_eq_true rfl) ⟨by decide, by decide⟩ rfl ?_
          refine p_iload_n C dX5_join_47 rfl 3 rfl ?_
          obtain ⟨r13, hc14, h⟩ := bd1_of h
          refine p_callSi (As := [.int b_short, .int r11, .int p3]) (st' := [.ref ab0]) (Wd' := (V_S x.1.2.2 as0 ab0 ab1 ab2 ab3 at0 at1 at2 at3 at4 an0 an1 an2 anb0 anb1 ann0 ann1 ap0 ap1 as1 ai0 ai1 ai2 ai3 aj0 aj1 aj2 aj3 s_kept b_points b_near b_loose b_short b_nets b_xs b_ys t_total t_oft t_left t_right t_group t_paired n_total n_planned n_leaps n_onward nb_len nb_sum nb_tries nn_len nn_sum nn_tries p_len p_signs i_points i_near i_loose i_short i_nets i_xs i_ys j_points j_near j_loose j_short j_nets j_xs j_ys)) C (c_X5_withMember x.1 hc14) dX5_join_48 rfl ml_X5_160 ks_X5_withMember ds_X5_withMember ⟨rfl, rfl, by decide, by decide⟩ [] rfl rfl rfl rfl (Nat.le_of_ble_eq_true rfl) ⟨by decide, by decide⟩ rfl ?_
          refine p_putN (Wd' := (V_S x.1.2.2 as0 ab0 ab1 ab2 ab3 at0 at1 at2 at3 at4 an0 an1 an2 anb0 anb1 ann0 ann1 ap0 ap1 as1 ai0 ai1 ai2 ai3 aj0 aj1 aj2 aj3 s_kept b_points b_near b_loose r13 b_nets b_xs b_ys t_total t_oft t_left t_right t_group t_paired n_total n_planned n_leaps n_onward nb_len nb_sum nb_tries nn_len nn_sum nn_tries p_len p_signs i_points i_near i_loose i_short i_nets i_xs i_ys j_points j_near j_loose j_short j_nets j_xs j_ys)) (ty := .int) C dX5_join_51 rfl 1 6 inlX0 tyX0 tyX0_ok nmX0 nf_X5_108 rfl rfl (by decide) rfl rfl (by decide +kernel) rfl rfl (Nat.le_of_ble_eq_true rfl) rfl ?_
          refine p_aload_n C dX5_join_54 rfl 0 rfl ?_
          refine p_get C dX5_join_55 rfl 0 0 inlX5 fl_X5_12 rfl rfl (by decide) rfl rfl ?_
          refine p_getN C dX5_join_58 rfl 1 6 inlX0 nf_X5_108 rfl rfl (by decide) rfl rfl ?_
          obtain ⟨r15, hc16, h⟩ := bd1_of h
          refine p_callSi (As := [.int r13]) (st' := []) (Wd' := (V_S x.1.2.2 as0 ab0 ab1 ab2 ab3 at0 at1 at2 at3 at4 an0 an1 an2 anb0 anb1 ann0 ann1 ap0 ap1 as1 ai0 ai1 ai2 ai3 aj0 aj1 aj2 aj3 s_kept b_points b_near b_loose r13 b_nets b_xs b_ys t_total t_oft t_left t_right t_group t_paired n_total n_planned n_leaps n_onward nb_len nb_sum nb_tries nn_len nn_sum nn_tries p_len p_signs i_points i_near i_loose i_short i_nets i_xs i_ys j_points j_near j_loose j_short j_nets j_xs j_ys)) C (c_J6_bitCount_0f7a4 x.1 hc16) dX5_join_61 rfl ml_X5_163 ks_J6_bitCount_0f7a4 ds_J6_bitCount_0f7a4 ⟨rfl, rfl, by decide, by decide⟩ [] rfl rfl rfl rfl (by decide) ⟨by decide, by decide⟩ rfl ?_
          cases h
          exact p_iret C dX5_join_64
        · have h := if_t c10 h
          refine p_bipush (v := (-2 : Int32)) C dX5_join_28 rfl (by decide) ?_
          cases h
          exact p_iret C dX5_join_30
    · have h := if_t c6 h
      refine p_iconst (v := (-1 : Int32)) C dX5_join_14 rfl (by decide) ?_
      cases h
      exact p_iret C dX5_join_15
