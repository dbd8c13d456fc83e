def m_X5_count (s_kept : Int32) (b_points : Int32) (b_near : Int32) (b_loose : Int32) (b_short : Int32) (b_nets : Ar) (t_total : Int32) (t_oft : Int32) (p_len : Int32) (p1 : Int32) : Option (Int32) := if p1 = 0 then (some b_points) else (if p1 = 1 then (some t_total) else (if p1 = 2 then (some (t_total - t_oft)) else (if p1 = 3 then (bd1 (m_X0_countNetsWithPoints b_points b_nets) (fun r5 => some r5)) else (if p1 = 4 then (bd1 (m_J6_bitCount_0f7a4 b_loose) (fun r8 => some r8)) else (if p1 = 5 then (bd1 (m_J6_bitCount_0f7a4 b_short) (fun r11 => some r11)) else (if p1 = 6 then (some b_near) else (if p1 = 7 then (some p_len) else (if p1 = 8 then (some s_kept) else (some ((-2 : Int32)))))))))))
theorem ds_X5_count : (yX5_count).cls ≠ "java/lang/invoke/MethodHandle" ∧ (yX5_count).cls ≠ "java/lang/invoke/VarHandle" ∧ (parseMethodDescriptor (yX5_count).desc).map (fun d => d.parameters.length) = some 1 := by decide +kernel
set_option maxHeartbeats 4000000 in
set_option maxRecDepth 100000 in
theorem c_X5_count (E : En) {as0 ab0 ab1 ab2 ab3 at0 at1 at2 at3 at4 an0 an1 an2 anb0 anb1 ann0 ann1 ap0 ap1 as1 ai0 ai1 ai2 ai3 aj0 aj1 aj2 aj3 : Nat} {s_kept : Int32} {b_points : Int32} {b_near : Int32} {b_loose : Int32} {b_short : Int32} {b_nets : Ar} {b_xs : Ar} {b_ys : Ar} {t_total : Int32} {t_oft : Int32} {t_left : Ar} {t_right : Ar} {t_group : Ar} {t_paired : Ar} {n_total : Int32} {n_planned : Int32} {n_leaps : Ar} {n_onward : Ar} {nb_len : Int32} {nb_sum : Int32} {nb_tries : Ar} {nn_len : Int32} {nn_sum : Int32} {nn_tries : Ar} {p_len : Int32} {p_signs : Ar} {i_points : Int32} {i_near : Int32} {i_loose : Int32} {i_short : Int32} {i_nets : Ar} {i_xs : Ar} {i_ys : Ar} {j_points : Int32} {j_near : Int32} {j_loose : Int32} {j_short : Int32} {j_nets : Ar} {j_xs : Ar} {j_ys : Ar} {p1 : Int32} {rr : Int32} (h : m_X5_count s_kept b_points b_near b_loose b_short b_nets t_total t_oft p_len p1 = some rr) : Ci E yX5_count (wU yX5_count cX5_count 2 (some .int)) (RM 2 42) [.ref as0, .int p1] (V_S E.2.2 as0 ab0 ab1 ab2 ab3 at0 at1 at2 at3 at4 an0 an1 an2 anb0 anb1 ann0 ann1 ap0 ap1 as1 ai0 ai1 ai2 ai3 aj0 aj1 aj2 aj3 s_kept b_points b_near b_loose b_short b_nets b_xs b_ys t_total t_oft t_left t_right t_group t_paired n_total n_planned n_leaps n_onward nb_len nb_sum nb_tries nn_len nn_sum nn_tries p_len p_signs i_points i_near i_loose i_short i_nets i_xs i_ys j_points j_near j_loose j_short j_nets j_xs j_ys) (V_S E.2.2 as0 ab0 ab1 ab2 ab3 at0 at1 at2 at3 at4 an0 an1 an2 anb0 anb1 ann0 ann1 ap0 ap1 as1 ai0 ai1 ai2 ai3 aj0 aj1 aj2 aj3 s_kept b_points b_near b_loose b_short b_nets b_xs b_ys t_total t_oft t_left t_right t_group t_paired n_total n_planned n_leaps n_onward nb_len nb_sum nb_tries nn_len nn_sum nn_tries p_len p_signs i_points i_near i_loose i_short i_nets i_xs i_ys j_points j_near j_loose j_short j_nets j_xs j_ys) rr := by
  refine Ci.of (by decide) (Nat.le_of_ble_eq_true rfl) ?_
  intro x hE C
  subst hE
  have C : CX RX5 cX5_count 2 (some .int) x := C
  refine p_locals [0, 1] (lv' := [(0, .ref as0), (1, .int p1)]) rfl ?_
  unfold m_X5_count at h
  refine p_iload_n C dX5_count_0 rfl 1 rfl ?_
  by_cases c1 : p1 = 0
  · have h := if_t c1 h
    refine p_tabIn C dX5_count_1 (pc' := 52) (off := 51) c1 (by decide +kernel) (by decide +kernel) (by decide +kernel) (by decide) ?_
    refine p_aload_n C dX5_count_52 rfl 0 rfl ?_
    refine p_get C dX5_count_53 rfl 0 0 inlX5 fl_X5_12 rfl rfl (by decide) rfl rfl ?_
    refine p_getN C dX5_count_56 rfl 1 3 inlX0 nf_X5_53 rfl rfl (by decide) rfl rfl ?_
    cases h
    exact p_iret C dX5_count_59
  · have h := if_f c1 h
    by_cases c2 : p1 = 1
    · have h := if_t c2 h
      refine p_tabIn C dX5_count_1 (pc' := 60) (off := 59) c2 (by decide +kernel) (by decide +kernel) (by decide +kernel) (by decide) ?_
      refine p_aload_n C dX5_count_60 rfl 0 rfl ?_
      refine p_get C dX5_count_61 rfl 0 1 inlX5 fl_X5_19 rfl rfl (by decide) rfl rfl ?_
      refine p_getN C dX5_count_64 rfl 5 2 inlX4 nf_X5_129 rfl rfl (by decide) rfl rfl ?_
      cases h
      exact p_iret C dX5_count_67
    · have h := if_f c2 h
      by_cases c3 : p1 = 2
      · have h := if_t c3 h
        refine p_tabIn C dX5_count_1 (pc' := 68) (off := 67) c3 (by decide +kernel) (by decide +kernel) (by decide +kernel) (by decide) ?_
        refine p_aload_n C dX5_count_68 rfl 0 rfl ?_
        refine p_get C dX5_count_69 rfl 0 1 inlX5 fl_X5_19 rfl rfl (by decide) rfl rfl ?_
        refine p_getN C dX5_count_72 rfl 5 2 inlX4 nf_X5_129 rfl rfl (by decide) rfl rfl ?_
        refine p_aload_n C dX5_count_75 rfl 0 rfl ?_
        refine p_get C dX5_count_76 rfl 0 1 inlX5 fl_X5_19 rfl rfl (by decide) rfl rfl ?_
        refine p_getN C dX5_count_79 rfl 5 3 inlX4 nf_X5_190 rfl rfl (by decide) rfl rfl ?_
        refine p_isub C dX5_count_82 rfl ?_
        cases h
        exact p_iret C dX5_count_83
      · have h := if_f c3 h
        by_cases c4 : p1 = 3
        · have h := if_t c4 h
          refine p_tabIn C dX5_count_1 (pc' := 84) (off := 83) c4 (by decide +kernel) (by decide +kernel) (by decide +kernel) (by decide) ?_
          refine p_aload_n C dX5_count_84 rfl 0 rfl ?_
          refine p_get C dX5_count_85 rfl 0 0 inlX5 fl_X5_12 rfl rfl (by decide) rfl rfl ?_
          obtain ⟨r5, hc6, h⟩ := bd1_of h
          refine p_callVNi (As := []) (st' := []) (Wd' := (V_S x.1.2.2 as0 ab0 ab1 ab2 ab3 at0 at1 at2 at3 at4 an0 an1 an2 anb0 anb1 ann0 ann1 ap0 ap1 as1 ai0 ai1 ai2 ai3 aj0 aj1 aj2 aj3 s_kept b_points b_near b_loose b_short b_nets b_xs b_ys t_total t_oft t_left t_right t_group t_paired n_total n_planned n_leaps n_onward nb_len nb_sum nb_tries nn_len nn_sum nn_tries p_len p_signs i_points i_near i_loose i_short i_nets i_xs i_ys j_points j_near j_loose j_short j_nets j_xs j_ys)) C (c_X0_countNetsWithPoints x.1 (ab0 := ab0) (ab1 := ab1) (ab2 := ab2) (ab3 := ab3) (b_near := b_near) (b_loose := b_loose) (b_short := b_short) (b_xs := b_xs) (b_ys := b_ys) hc6) dX5_count_88 rfl nm_X5_193 kv_X0_countNetsWithPoints ds_X0_countNetsWithPoints ⟨rfl, rfl, by decide, by decide⟩ 0 rfl rfl [1, 2, 3, 4] rfl rfl rfl rfl (by decide) ⟨by decide, by decide⟩ rfl ?_
          cases h
          exact p_iret C dX5_count_91
        · have h := if_f c4 h
          by_cases c7 : p1 = 4
          · have h := if_t c7 h
            refine p_tabIn C dX5_count_1 (pc' := 92) (off := 91) c7 (by decide +kernel) (by decide +kernel) (by decide +kernel) (by decide) ?_
            refine p_aload_n C dX5_count_92 rfl 0 rfl ?_
            refine p_get C dX5_count_93 rfl 0 0 inlX5 fl_X5_12 rfl rfl (by decide) rfl rfl ?_
            refine p_getN C dX5_count_96 rfl 1 5 inlX0 nf_X5_82 rfl rfl (by decide) rfl rfl ?_
            obtain ⟨r8, hc9, h⟩ := bd1_of h
            refine p_callSi (As := [.int b_loose]) (st' := []) (Wd' := (V_S x.1.2.2 as0 ab0 ab1 ab2 ab3 at0 at1 at2 at3 at4 an0 an1 an2 anb0 anb1 ann0 ann1 ap0 ap1 as1 ai0 ai1 ai2 ai3 aj0 aj1 aj2 aj3 s_kept b_points b_near b_loose b_short b_nets b_xs b_ys t_total t_oft t_left t_right t_group t_paired n_total n_planned n_leaps n_onward nb_len nb_sum nb_tries nn_len nn_sum nn_tries p_len p_signs i_points i_near i_loose i_short i_nets i_xs i_ys j_points j_near j_loose j_short j_nets j_xs j_ys)) C (c_J6_bitCount_0f7a4 x.1 hc9) dX5_count_99 rfl ml_X5_163 ks_J6_bitCount_0f7a4 ds_J6_bitCount_0f7a4 ⟨rfl, rfl, by decide, by decide⟩ [] rfl rfl rfl rfl (by decide) ⟨by decide, by decide⟩ rfl ?_
            cases h
            exact p_iret C dX5_count_102
          · have h := if_f c7 h
            by_cases c10 : p1 = 5
            · have h := if_t c10 h
              refine p_tabIn C dX5_count_1 (pc' := 103) (off := 102) c10 (by decide +kernel) (by decide +kernel) (by decide +kernel) (by decide) ?_
              refine p_aload_n C dX5_count_103 rfl 0 rfl ?_
              refine p_get C dX5_count_104 rfl 0 0 inlX5 fl_X5_12 rfl rfl (by decide) rfl rfl ?_
              refine p_getN C dX5_count_107 rfl 1 6 inlX0 nf_X5_108 rfl rfl (by decide) rfl rfl ?_
              obtain ⟨r11, hc12, h⟩ := bd1_of h
              refine p_callSi (As := [.int b_short]) (st' := []) (Wd' := (V_S x.1.2.2 as0 ab0 ab1 ab2 ab3 at0 at1 at2 at3 at4 an0 an1 an2 anb0 anb1 ann0 ann1 ap0 ap1 as1 ai0 ai1 ai2 ai3 aj0 aj1 aj2 aj3 s_kept b_points b_near b_loose b_short b_nets b_xs b_ys t_total t_oft t_left t_right t_group t_paired n_total n_planned n_leaps n_onward nb_len nb_sum nb_tries nn_len nn_sum nn_tries p_len p_signs i_points i_near i_loose i_short i_nets i_xs i_ys j_points j_near j_loose j_short j_nets j_xs j_ys)) C (c_J6_bitCount_0f7a4 x.1 hc12) dX5_count_110 rfl ml_X5_163 ks_J6_bitCount_0f7a4 ds_J6_bitCount_0f7a4 ⟨rfl, rfl, by decide, by decide⟩ [] rfl rfl rfl rfl (by decide) ⟨by decide, by decide⟩ rfl ?_
              cases h
              exact p_iret C dX5_count_113
            · have h := if_f c10 h
              by_cases c13 : p1 = 6
              · have h := if_t c13 h
                refine p_tabIn C dX5_count_1 (pc' := 114) (off := 113) c13 (by decide +kernel) (by decide +kernel) (by decide +kernel) (by decide) ?_
                refine p_aload_n C dX5_count_114 rfl 0 rfl ?_
                refine p_get C dX5_count_115 rfl 0 0 inlX5 fl_X5_12 rfl rfl (by decide) rfl rfl ?_
                refine p_getN C dX5_count_118 rfl 1 4 inlX0 nf_X5_76 rfl rfl (by decide) rfl rfl ?_
                cases h
                exact p_iret C dX5_count_121
              · have h := if_f c13 h
                by_cases c14 : p1 = 7
                · have h := if_t c14 h
                  refine p_tabIn C dX5_count_1 (pc' := 122) (off := 121) c14 (by decide +kernel) (by decide +kernel) (by decide +kernel) (by decide) ?_
                  refine p_aload_n C dX5_count_122 rfl 0 rfl ?_
                  refine p_get C dX5_count_123 rfl 0 3 inlX5 fl_X5_33 rfl rfl (by decide) rfl rfl ?_
                  refine p_getN C dX5_count_126 rfl 17 1 inlX3 nf_X5_122 rfl rfl (by decide) rfl rfl ?_
                  cases h
                  exact p_iret C dX5_count_129
                · have h := if_f c14 h
                  by_cases c15 : p1 = 8
                  · have h := if_t c15 h
                    refine p_tabIn C dX5_count_1 (pc' := 130) (off := 129) c15 (by decide +kernel) (by decide +kernel) (by decide +kernel) (by decide) ?_
                    refine p_aload_n C dX5_count_130 rfl 0 rfl ?_
                    refine p_get C dX5_count_131 rfl 0 5 inlX5 fl_X5_41 rfl rfl (by decide) rfl rfl ?_
                    cases h
                    exact p_iret C dX5_count_134
                  · have h := if_f c15 h
                    refine p_tabOut C dX5_count_1 (pc' := 135) (n := 9) (by decide) (by decide) (by intro k hk; match k, hk with | 0, _ => exact tabne (by decide) c1 | 1, _ => exact tabne (by decide) c2 | 2, _ => exact tabne (by decide) c3 | 3, _ => exact tabne (by decide) c4 | 4, _ => exact tabne (by decide) c7 | 5, _ => exact tabne (by decide) c10 | 6, _ => exact tabne (by decide) c13 | 7, _ => exact tabne (by decide) c14 | 8, _ => exact tabne (by decide) c15 | _ + 9, hk => exact absurd hk (by omega)) (by decide) ?_
                    refine p_bipush (v := (-2 : Int32)) C dX5_count_135 rfl (by decide) ?_
                    cases h
                    exact p_iret C dX5_count_137
def m_X5_far (b_points : Int32) (b_xs : Ar) (b_ys : Ar) (p1 : Int32) (p2 : Int32) : Option (Int32) := bd1 (m_X0_hasPoint b_points p1) (fun r1 => if r1 = 0 then (some ((-1 : Int32))) else (bd1 (m_X0_hasPoint b_points p2) (fun r4 => if r4 = 0 then (some ((-1 : Int32))) else (bd1 (m_X0_distance b_xs b_ys p1 p2) (fun r7 => some r7)))))
theorem ds_X5_far : (yX5_far).cls ≠ "java/lang/invoke/MethodHandle" ∧ (yX5_far).cls ≠ "java/lang/invoke/VarHandle" ∧ (parseMethodDescriptor (yX5_far).desc).map (fun d => d.parameters.length) = some 2 := by decide +kernel
set_option maxHeartbeats 4000000 in
set_option maxRecDepth 100000 in
theorem c_X5_far (E : En) {as0 ab0 ab1 ab2 ab3 at0 at1 at2 at3 at4 an0 an1 an2 anb0 anb1 ann0 ann1 ap0 ap1 as1 ai0 ai1 ai2 ai3 aj0 aj1 aj2 aj3 : Nat} {s_kept : Int32} {b_points : Int32} {b_near : Int32} {b_loose : Int32} {b_short : Int32} {b_nets : Ar} {b_xs : Ar} {b_ys : Ar} {t_total : Int32} {t_oft : Int32} {t_left : Ar} {t_right : Ar} {t_group : Ar} {t_paired : Ar} {n_total : Int32} {n_planned : Int32} {n_leaps : Ar} {n_onward : Ar} {nb_len : Int32} {nb_sum : Int32} {nb_tries : Ar} {nn_len : Int32} {nn_sum : Int32} {nn_tries : Ar} {p_len : Int32} {p_signs : Ar} {i_points : Int32} {i_near : Int32} {i_loose : Int32} {i_short : Int32} {i_nets : Ar} {i_xs : Ar} {i_ys : Ar} {j_points : Int32} {j_near : Int32} {j_loose : Int32} {j_short : Int32} {j_nets : Ar} {j_xs : Ar} {j_ys : Ar} {p1 : Int32} {p2 : Int32} {rr : Int32} (h : m_X5_far b_points b_xs b_ys p1 p2 = some rr) : Ci E yX5_far (wU yX5_far cX5_far 3 (some .int)) (RM 1 24) [.ref as0, .int p1, .int p2] (V_S E.2.2 as0 ab0 ab1 ab2 ab3 at0 at1 at2 at3 at4 an0 an1 an2 anb0 anb1 ann0 ann1 ap0 ap1 as1 ai0 ai1 ai2 ai3 aj0 aj1 aj2 aj3 s_kept b_points b_near b_loose b_short b_nets b_xs b_ys t_total t_oft t_left t_right t_group t_paired n_total n_planned n_leaps n_onward nb_len nb_sum nb_tries nn_len nn_sum nn_tries p_len p_signs i_points i_near i_loose i_short i_nets i_xs i_ys j_points j_near j_loose j_short j_nets j_xs j_ys) (V_S E.2.2 as0 ab0 ab1 ab2 ab3 at0 at1 at2 at3 at4 an0 an1 an2 anb0 anb1 ann0 ann1 ap0 ap1 as1 ai0 ai1 ai2 ai3 aj0 aj1 aj2 aj3 s_kept b_points b_near b_loose b_short b_nets b_xs b_ys t_total t_oft t_left t_right t_group t_paired n_total n_planned n_leaps n_onward nb_len nb_sum nb_tries nn_len nn_sum nn_tries p_len p_signs i_points i_near i_loose i_short i_nets i_xs i_ys j_points j_near j_loose j_short j_nets j_xs j_ys) rr := by
  refine Ci.of (by decide) (Nat.le_of_ble_eq_true rfl) ?_
  intro x hE C
  subst hE
  have C : CX RX5 cX5_far 3 (some .int) x := C
  refine p_locals [0, 1, 2] (lv' := [(0, .ref as0), (1, .int p1), (2, .int p2)]) rfl ?_
  unfold m_X5_far at h
  refine p_aload_n C dX5_far_0 rfl 0 rfl ?_
  refine p_get C dX5_far_1 rfl 0 0 inlX5 fl_X5_12 rfl rfl (by decide) rfl rfl ?_
  refine p_iload_n C dX5_far_4 rfl 1 rfl ?_
  obtain ⟨r1, hc2, h⟩ := bd1_of h
  refine p_callVNi (As := [.int p1]) (st' := []) (Wd' := (V_S x.1.2.2 as0 ab0 ab1 ab2 ab3 at0 at1 at2 at3 at4 an0 an1 an2 anb0 anb1 ann0 ann1 ap0 ap1 as1 ai0 ai1 ai2 ai3 aj0 aj1 aj2 aj3 s_kept b_points b_near b_loose b_short b_nets b_xs b_ys t_total t_oft t_left t_right t_group t_paired n_total n_planned n_leaps n_onward nb_len nb_sum nb_tries nn_len nn_sum nn_tries p_len p_signs i_points i_near i_loose i_short i_nets i_xs i_ys j_points j_near j_loose j_short j_nets j_xs j_ys)) C (c_X0_hasPoint x.1 (ab0 := ab0) (ab1 := ab1) (ab2 := ab2) (ab3 := ab3) (b_near := b_near) (b_loose := b_loose) (b_short := b_short) (b_nets := b_nets) (b_xs := b_xs) (b_ys := b_ys) hc2) dX5_far_5 rfl nm_X5_66 kv_X0_hasPoint ds_X0_hasPoint ⟨rfl, rfl, by decide, by decide⟩ 0 rfl rfl [1, 2, 3, 4] rfl rfl rfl rfl (by decide) ⟨by decide, by decide⟩ rfl ?_
  refine p_if_eq C dX5_far_8 (tgt := 22) (by decide) rfl (fun c3 => ?_) (fun c3 => ?_)
  · have h := if_t c3 h
    refine p_iconst (v := (-1 : Int32)) C dX5_far_22 rfl (by decide) ?_
    cases h
    exact p_iret C dX5_far_23
  · have h := if_f c3 h
    refine p_aload_n C dX5_far_11 rfl 0 rfl ?_
    refine p_get C dX5_far_12 rfl 0 0 inlX5 fl_X5_12 rfl rfl (by decide) rfl rfl ?_
    refine p_iload_n C dX5_far_15 rfl 2 rfl ?_
    obtain ⟨r4, hc5, h⟩ := bd1_of h
    refine p_callVNi (As := [.int p2]) (st' := []) (Wd' := (V_S x.1.2.2 as0 ab0 ab1 ab2 ab3 at0 at1 at2 at3 at4 an0 an1 an2 anb0 anb1 ann0 ann1 ap0 ap1 as1 ai0 ai1 ai2 ai3 aj0 aj1 aj2 aj3 s_kept b_points b_near b_loose b_short b_nets b_xs b_ys t_total t_oft t_left t_right t_group t_paired n_total n_planned n_leaps n_onward nb_len nb_sum nb_tries nn_len nn_sum nn_tries p_len p_signs i_points i_near i_loose i_short i_nets i_xs i_ys j_points j_near j_loose j_short j_nets j_xs j_ys)) C (c_X0_hasPoint x.1 (ab0 := ab0) (ab1 := ab1) (ab2 := ab2) (ab3 := ab3) (b_near := b_near) (b_loose := b_loose) (b_short := b_short) (b_nets := b_nets) (b_xs := b_xs) (b_ys := b_ys) hc5) dX5_far_16 rfl nm_X5_66 kv_X0_hasPoint ds_X0_hasPoint ⟨rfl, rfl, by decide, by decide⟩ 0 rfl rfl [1, 2, 3, 4] rfl rfl rfl rfl (by decide) ⟨by decide, by decide⟩ rfl ?_
    refine p_if_ne C dX5_far_19 (tgt := 24) (by decide) rfl (fun c6 => ?_) (fun c6 => ?_)
    · have h := if_f c6 h
      refine p_aload_n C dX5_far_24 rfl 0 rfl ?_
      refine p_get C dX5_far_25 rfl 0 0 inlX5 fl_X5_12 rfl rfl (by decide) rfl rfl ?_
      refine p_iload_n C dX5_far_28 rfl 1 rfl ?_
      refine p_iload_n C dX5_far_29 rfl 2 rfl ?_
      obtain ⟨r7, hc8, h⟩ := bd1_of h
      refine p_callVNi (As := [.int p1, .int p2]) (st' := []) (Wd' := (V_S x.1.2.2 as0 ab0 ab1 ab2 ab3 at0 at1 at2 at3 at4 an0 an1 an2 anb0 anb1 ann0 ann1 ap0 ap1 as1 ai0 ai1 ai2 ai3 aj0 aj1 aj2 aj3 s_kept b_points b_near b_loose b_short b_nets b_xs b_ys t_total t_oft t_left t_right t_group t_paired n_total n_planned n_leaps n_onward nb_len nb_sum nb_tries nn_len nn_sum nn_tries p_len p_signs i_points i_near i_loose i_short i_nets i_xs i_ys j_points j_near j_loose j_short j_nets j_xs j_ys)) C (c_X0_distance x.1 (ab0 := ab0) (ab1 := ab1) (ab2 := ab2) (ab3 := ab3) (b_points := b_points) (b_near := b_near) (b_loose := b_loose) (b_short := b_short) (b_nets := b_nets) hc8) dX5_far_30 rfl nm_X5_92 kv_X0_distance ds_X0_distance ⟨rfl, rfl, by decide, by decide⟩ 0 rfl rfl [1, 2, 3, 4] rfl rfl rfl rfl (by decide) ⟨by decide, by decide⟩ rfl ?_
      cases h
      exact p_iret C dX5_far_33
    · have h := if_t c6 h
      refine p_iconst (v := (-1 : Int32)) C dX5_far_22 rfl (by decide) ?_
      cases h
      exact p_iret C dX5_far_23
def J_X5_isFlaw_17 (b_points : Int32)    : Option (Int32) := some ((1 : Int32))
set_option maxHeartbeats 4000000 in
set_option maxRecDepth 100000 in
theorem tj_X5_isFlaw_17 {x : Cxt} {as0 ab0 ab1 ab2 ab3 at0 at1 at2 at3 at4 an0 an1 an2 anb0 anb1 ann0 ann1 ap0 ap1 as1 ai0 ai1 ai2 ai3 aj0 aj1 aj2 aj3 : Nat} {s_kept : Int32} {b_points : Int32} {b_near : Int32} {b_loose : Int32} {b_short : Int32} {b_nets : Ar} {b_xs : Ar} {b_ys : Ar} {t_total : Int32} {t_oft : Int32} {t_left : Ar} {t_right : Ar} {t_group : Ar} {t_paired : Ar} {n_total : Int32} {n_planned : Int32} {n_leaps : Ar} {n_onward : Ar} {nb_len : Int32} {nb_sum : Int32} {nb_tries : Ar} {nn_len : Int32} {nn_sum : Int32} {nn_tries : Ar} {p_len : Int32} {p_signs : Ar} {i_points : Int32} {i_near : Int32} {i_loose : Int32} {i_short : Int32} {i_nets : Ar} {i_xs : Ar} {i_ys : Ar} {j_points : Int32} {j_near : Int32} {j_loose : Int32} {j_short : Int32} {j_nets : Ar} {j_xs : Ar} {j_ys : Ar}    {rr : Int32} (C : CX RX5 cX5_isFlaw 2 (some .boolean) x)  (h : J_X5_isFlaw_17 b_points = some rr) : PT (RM 1 21) 2 x 17 [(0, .ref as0)] [] (V_S x.1.2.2 as0 ab0 ab1 ab2 ab3 at0 at1 at2 at3 at4 an0 an1 an2 anb0 anb1 ann0 ann1 ap0 ap1 as1 ai0 ai1 ai2 ai3 aj0 aj1 aj2 aj3 s_kept b_points b_near b_loose b_short b_nets b_xs b_ys t_total t_oft t_left t_right t_group t_paired n_total n_planned n_leaps n_onward nb_len nb_sum nb_tries nn_len nn_sum nn_tries p_len p_signs i_points i_near i_loose i_short i_nets i_xs i_ys j_points j_near j_loose j_short j_nets j_xs j_ys) 0 0 (QI x rr (V_S x.1.2.2 as0 ab0 ab1 ab2 ab3 at0 at1 at2 at3 at4 an0 an1 an2 anb0 anb1 ann0 ann1 ap0 ap1 as1 ai0 ai1 ai2 ai3 aj0 aj1 aj2 aj3 s_kept b_points b_near b_loose b_short b_nets b_xs b_ys t_total t_oft t_left t_right t_group t_paired n_total n_planned n_leaps n_onward nb_len nb_sum nb_tries nn_len nn_sum nn_tries p_len p_signs i_points i_near i_loose i_short i_nets i_xs i_ys j_points j_near j_loose j_short j_nets j_xs j_ys)) := by
  unfold J_X5_isFlaw_17 at h
  refine p_iconst (v := (1 : Int32)) C dX5_isFlaw_17 rfl (by decide) ?_
  refine p_goto C dX5_isFlaw_18 (pc' := 22) (by decide) ?_
  cases h
  exact p_zret C dX5_isFlaw_22 rfl
def m_X5_isFlaw (b_points : Int32) (p1 : Int32) : Option (Int32) := bd1 (m_X0_hasPoint b_points p1) (fun r1 => if r1 = 0 then (if p1 < ((20 : Int32)) then (some ((0 : Int32))) else (J_X5_isFlaw_17 b_points)) else (J_X5_isFlaw_17 b_points))
theorem ds_X5_isFlaw : (yX5_isFlaw).cls ≠ "java/lang/invoke/MethodHandle" ∧ (yX5_isFlaw).cls ≠ "java/lang/invoke/VarHandle" ∧ (parseMethodDescriptor (yX5_isFlaw).desc).map (fun d => d.parameters.length) = some 1 := by decide +kernel
set_option maxHeartbeats 4000000 in
set_option maxRecDepth 100000 in
theorem c_X5_isFlaw (E : En) {as0 ab0 ab1 ab2 ab3 at0 at1 at2 at3 at4 an0 an1 an2 anb0 anb1 ann0 ann1 ap0 ap1 as1 ai0 ai1 ai2 ai3 aj0 aj1 aj2 aj3 : Nat} {s_kept : Int32} {b_points : Int32} {b_near : Int32} {b_loose : Int32} {b_short : Int32} {b_nets : Ar} {b_xs : Ar} {b_ys : Ar} {t_total : Int32} {t_oft : Int32} {t_left : Ar} {t_right : Ar} {t_group : Ar} {t_paired : Ar} {n_total : Int32} {n_planned : Int32} {n_leaps : Ar} {n_onward : Ar} {nb_len : Int32} {nb_sum : Int32} {nb_tries : Ar} {nn_len : Int32} {nn_sum : Int32} {nn_tries : Ar} {p_len : Int32} {p_signs : Ar} {i_points : Int32} {i_near : Int32} {i_loose : Int32} {i_short : Int32} {i_nets : Ar} {i_xs : Ar} {i_ys : Ar} {j_points : Int32} {j_near : Int32} {j_loose : Int32} {j_short : Int32} {j_nets : Ar} {j_xs : Ar} {j_ys : Ar} {p1 : Int32} {rr : Int32} (h : m_X5_isFlaw b_points p1 = some rr) : Ci E yX5_isFlaw (wU yX5_isFlaw cX5_isFlaw 2 (some .boolean)) (RM 1 21) [.ref as0, .int p1] (V_S E.2.2 as0 ab0 ab1 ab2 ab3 at0 at1 at2 at3 at4 an0 an1 an2 anb0 anb1 ann0 ann1 ap0 ap1 as1 ai0 ai1 ai2 ai3 aj0 aj1 aj2 aj3 s_kept b_points b_near b_loose b_short b_nets b_xs b_ys t_total t_oft t_left t_right t_group t_paired n_total n_planned n_leaps n_onward nb_len nb_sum nb_tries nn_len nn_sum nn_tries p_len p_signs i_points i_near i_loose i_short i_nets i_xs i_ys j_points j_near j_loose j_short j_nets j_xs j_ys) (V_S E.2.2 as0 ab0 ab1 ab2 ab3 at0 at1 at2 at3 at4 an0 an1 an2 anb0 anb1 ann0 ann1 ap0 ap1 as1 ai0 ai1 ai2 ai3 aj0 aj1 aj2 aj3 s_kept b_points b_near b_loose b_short b_nets b_xs b_ys t_total t_oft t_left t_right t_group t_paired n_total n_planned n_leaps n_onward nb_len nb_sum nb_tries nn_len nn_sum nn_tries p_len p_signs i_points i_near i_loose i_short i_nets i_xs i_ys j_points j_near j_loose j_short j_nets j_xs j_ys) rr := by
  refine Ci.of (by decide) (Nat.le_of_ble_eq_true rfl) ?_
  intro x hE C
  subst hE
  have C : CX RX5 cX5_isFlaw 2 (some .boolean) x := C
  refine p_locals [0, 1] (lv' := [(0, .ref as0), (1, .int p1)]) rfl ?_
  unfold m_X5_isFlaw at h
  refine p_aload_n C dX5_isFlaw_0 rfl 0 rfl ?_
  refine p_get C dX5_isFlaw_1 rfl 0 0 inlX5 fl_X5_12 rfl rfl (by decide) rfl rfl ?_
  refine p_iload_n C dX5_isFlaw_4 rfl 1 rfl ?_
  obtain ⟨r1, hc2, h⟩ := bd1_of h
  refine p_callVNi (As := [.int p1]) (st' := []) (Wd' := (V_S x.1.2.2 as0 ab0 ab1 ab2 ab3 at0 at1 at2 at3 at4 an0 an1 an2 anb0 anb1 ann0 ann1 ap0 ap1 as1 ai0 ai1 ai2 ai3 aj0 aj1 aj2 aj3 s_kept b_points b_near b_loose b_short b_nets b_xs b_ys t_total t_oft t_left t_right t_group t_paired n_total n_planned n_leaps n_onward nb_len nb_sum nb_tries nn_len nn_sum nn_tries p_len p_signs i_points i_near i_loose i_short i_nets i_xs i_ys j_points j_near j_loose j_short j_nets j_xs j_ys)) C (c_X0_hasPoint x.1 (ab0 := ab0) (ab1 := ab1) (ab2 := ab2) (ab3 := ab3) (b_near := b_near) (b_loose := b_loose) (b_short := b_short) (b_nets := b_nets) (b_xs := b_xs) (b_ys := b_ys) hc2) dX5_isFlaw_5 rfl nm_X5_66 kv_X0_hasPoint ds_X0_hasPoint ⟨rfl, rfl, by decide, by decide⟩ 0 rfl rfl [1, 2, 3, 4] rfl rfl rfl rfl (by decide) ⟨by decide, by decide⟩ rfl ?_
  refine p_if_ne C dX5_isFlaw_8 (tgt := 17) (by decide) rfl (fun c3 => ?_) (fun c3 => ?_)
  · have h := if_f c3 h
    refine p_locals [0] (lv' := [(0, .ref as0)]) rfl ?_
    exact tj_X5_isFlaw_17 C  h
  · have h := if_t c3 h
    refine p_iload_n C dX5_isFlaw_11 rfl 1 rfl ?_
    refine p_bipush (v := (20 : Int32)) C dX5_isFlaw_12 rfl (by decide) ?_
    refine p_icmp_lt C dX5_isFlaw_14 (tgt := 21) (by decide) rfl (fun c4 => ?_) (fun c4 => ?_)
    · have h := if_t c4 h
      refine p_iconst (v := (0 : Int32)) C dX5_isFlaw_21 rfl (by decide) ?_
      cases h
      exact p_zret C dX5_isFlaw_22 rfl
    · have h := if_f c4 h
      refine p_locals [0] (lv' := [(0, .ref as0)]) rfl ?_
      exact tj_X5_isFlaw_17 C  h
def m_X5_seenOfFlaw (b_nets : Ar) (t_total : Int32) (t_oft : Int32) (t_left : Ar) (t_right : Ar) (p1 : Int32) : Option (Int32) := if p1 < ((20 : Int32)) then (bd1 (m_X4_seenSet t_total t_oft t_left t_right b_nets (((1 : Int32)) <<< (p1 &&& 31)) ((0 : Int32))) (fun r2 => some r2)) else (bd1 (m_X4_seenSet t_total t_oft t_left t_right b_nets ((0 : Int32)) (((1 : Int32)) <<< ((p1 - ((20 : Int32))) &&& 31))) (fun r4 => some r4))
theorem ds_X5_seenOfFlaw : (yX5_seenOfFlaw).cls ≠ "java/lang/invoke/MethodHandle" ∧ (yX5_seenOfFlaw).cls ≠ "java/lang/invoke/VarHandle" ∧ (parseMethodDescriptor (yX5_seenOfFlaw).desc).map (fun d => d.parameters.length) = some 1 := by decide +kernel
set_option maxHeartbeats 4000000 in
set_option maxRecDepth 100000 in
theorem c_X5_seenOfFlaw (E : En) {as0 ab0 ab1 ab2 ab3 at0 at1 at2 at3 at4 an0 an1 an2 anb0 anb1 ann0 ann1 ap0 ap1 as1 ai0 ai1 ai2 ai3 aj0 aj1 aj2 aj3 : Nat} {s_kept : Int32} {b_points : Int32} {b_near : Int32} {b_loose : Int32} {b_short : Int32} {b_nets : Ar} {b_xs : Ar} {b_ys : Ar} {t_total : Int32} {t_oft : Int32} {t_left : Ar} {t_right : Ar} {t_group : Ar} {t_paired : Ar} {n_total : Int32} {n_planned : Int32} {n_leaps : Ar} {n_onward : Ar} {nb_len : Int32} {nb_sum : Int32} {nb_tries : Ar} {nn_len : Int32} {nn_sum : Int32} {nn_tries : Ar} {p_len : Int32} {p_signs : Ar} {i_points : Int32} {i_near : Int32} {i_loose : Int32} {i_short : Int32} {i_nets : Ar} {i_xs : Ar} {i_ys : Ar} {j_points : Int32} {j_near : Int32} {j_loose : Int32} {j_short : Int32} {j_nets : Ar} {j_xs : Ar} {j_ys : Ar} {p1 : Int32} {rr : Int32} (h : m_X5_seenOfFlaw b_nets t_total t_oft t_left t_right p1 = some rr) : Ci E yX5_seenOfFlaw (wU yX5_seenOfFlaw cX5_seenOfFlaw 2 (some .int)) (RM 4 97) [.ref as0, .int p1] (V_S E.2.2 as0 ab0 ab1 ab2 ab3 at0 at1 at2 at3 at4 an0 an1 an2 anb0 anb1 ann0 ann1 ap0 ap1 as1 ai0 ai1 ai2 ai3 aj0 aj1 aj2 aj3 s_kept b_points b_near b_loose b_short b_nets b_xs b_ys t_total t_oft t_left t_right t_group t_paired n_total n_planned n_leaps n_onward nb_len nb_sum nb_tries nn_len nn_sum nn_tries p_len p_signs i_points i_near i_loose i_short i_nets i_xs i_ys j_points j_near j_loose j_short j_nets j_xs j_ys) (V_S E.2.2 as0 ab0 ab1 ab2 ab3 at0 at1 at2 at3 at4 an0 an1 an2 anb0 anb1 ann0 ann1 ap0 ap1 as1 ai0 ai1 ai2 ai3 aj0 aj1 aj2 aj3 s_kept b_points b_near b_loose b_short b_nets b_xs b_ys t_total t_oft t_left t_right t_group t_paired n_total n_planned n_leaps n_onward nb_len nb_sum nb_tries nn_len nn_sum nn_tries p_len p_signs i_points i_near i_loose i_short i_nets i_xs i_ys j_points j_near j_loose j_short j_nets j_xs j_ys) rr := by
  refine Ci.of (by decide) (Nat.le_of_ble_eq_true rfl) ?_
  intro x hE C
  subst hE
  have C : CX RX5 cX5_seenOfFlaw 2 (some .int) x := C
  refine p_locals [0, 1] (lv' := [(0, .ref as0), (1, .int p1)]) rfl ?_
  unfold m_X5_seenOfFlaw at h
  refine p_iload_n C dX5_seenOfFlaw_0 rfl 1 rfl ?_
  refine p_bipush (v := (20 : Int32)) C dX5_seenOfFlaw_1 rfl (by decide) ?_
  refine p_icmp_lt C dX5_seenOfFlaw_3 (tgt := 25) (by decide) rfl (fun c1 => ?_) (fun c1 => ?_)
  · have h := if_t c1 h
    refine p_aload_n C dX5_seenOfFlaw_25 rfl 0 rfl ?_
    refine p_get C dX5_seenOfFlaw_26 rfl 0 1 inlX5 fl_X5_19 rfl rfl (by decide) rfl rfl ?_
    refine p_aload_n C dX5_seenOfFlaw_29 rfl 0 rfl ?_
    refine p_get C dX5_seenOfFlaw_30 rfl 0 0 inlX5 fl_X5_12 rfl rfl (by decide) rfl rfl ?_
    refine p_iconst (v := (1 : Int32)) C dX5_seenOfFlaw_33 rfl (by decide) ?_
    refine p_iload_n C dX5_seenOfFlaw_34 rfl 1 rfl ?_
    refine p_ishl C dX5_seenOfFlaw_35 rfl ?_
    refine p_iconst (v := (0 : Int32)) C dX5_seenOfFlaw_36 rfl (by decide) ?_
    obtain ⟨r2, hc3, h⟩ := bd1_of h
    refine p_callVNi (As := [.ref ab0, .int (((1 : Int32)) <<< (p1 &&& 31)), .int ((0 : Int32))]) (st' := []) (Wd' := (V_S x.1.2.2 as0 ab0 ab1 ab2 ab3 at0 at1 at2 at3 at4 an0 an1 an2 anb0 anb1 ann0 ann1 ap0 ap1 as1 ai0 ai1 ai2 ai3 aj0 aj1 aj2 aj3 s_kept b_points b_near b_loose b_short b_nets b_xs b_ys t_total t_oft t_left t_right t_group t_paired n_total n_planned n_leaps n_onward nb_len nb_sum nb_tries nn_len nn_sum nn_tries p_len p_signs i_points i_near i_loose i_short i_nets i_xs i_ys j_points j_near j_loose j_short j_nets j_xs j_ys)) C (c_X4_seenSet x.1 (at0 := at0) (at1 := at1) (at2 := at2) (at3 := at3) (at4 := at4) (ab0 := ab0) (ab1 := ab1) (ab2 := ab2) (ab3 := ab3) (t_group := t_group) (t_paired := t_paired) (b_points := b_points) (b_near := b_near) (b_loose := b_loose) (b_short := b_short) (b_xs := b_xs) (b_ys := b_ys) hc3) dX5_seenOfFlaw_37 rfl nm_X5_203 kv_X4_seenSet ds_X4_seenSet ⟨rfl, rfl, by decide, by decide⟩ 0 rfl rfl [5, 6, 7, 8, 9, 1, 2, 3, 4] rfl rfl rfl rfl (by decide) ⟨by decide, by decide⟩ rfl ?_
    cases h
    exact p_iret C dX5_seenOfFlaw_40
  · have h := if_f c1 h
    refine p_aload_n C dX5_seenOfFlaw_6 rfl 0 rfl ?_
    refine p_get C dX5_seenOfFlaw_7 rfl 0 1 inlX5 fl_X5_19 rfl rfl (by decide) rfl rfl ?_
    refine p_aload_n C dX5_seenOfFlaw_10 rfl 0 rfl ?_
    refine p_get C dX5_seenOfFlaw_11 rfl 0 0 inlX5 fl_X5_12 rfl rfl (by decide) rfl rfl ?_
    refine p_iconst (v := (0 : Int32)) C dX5_seenOfFlaw_14 rfl (by decide) ?_
    refine p_iconst (v := (1 : Int32)) C dX5_seenOfFlaw_15 rfl (by decide) ?_
    refine p_iload_n C dX5_seenOfFlaw_16 rfl 1 rfl ?_
    refine p_bipush (v := (20 : Int32)) C dX5_seenOfFlaw_17 rfl (by decide) ?_
    refine p_isub C dX5_seenOfFlaw_19 rfl ?_
    refine p_ishl C dX5_seenOfFlaw_20 rfl ?_
    obtain ⟨r4, hc5, h⟩ := bd1_of h
    refine p_callVNi (As := [.ref ab0, .int ((0 : Int32)), .int (((1 : Int32)) <<< ((p1 - ((20 : Int32))) &&& 31))]) (st' := []) (Wd' := (V_S x.1.2.2 as0 ab0 ab1 ab2 ab3 at0 at1 at2 at3 at4 an0 an1 an2 anb0 anb1 ann0 ann1 ap0 ap1 as1 ai0 ai1 ai2 ai3 aj0 aj1 aj2 aj3 s_kept b_points b_near b_loose b_short b_nets b_xs b_ys t_total t_oft t_left t_right t_group t_paired n_total n_planned n_leaps n_onward nb_len nb_sum nb_tries nn_len nn_sum nn_tries p_len p_signs i_points i_near i_loose i_short i_nets i_xs i_ys j_points j_near j_loose j_short j_nets j_xs j_ys)) C (c_X4_seenSet x.1 (at0 := at0) (at1 := at1) (at2 := at2) (at3 := at3) (at4 := at4) (ab0 := ab0) (ab1 := ab1) (ab2 := ab2) (ab3 := ab3) (t_group := t_group) (t_paired := t_paired) (b_points := b_points) (b_near := b_near) (b_loose := b_loose) (b_short := b_short) (b_xs := b_xs) (b_ys := b_ys) hc5) dX5_seenOfFlaw_21 rfl nm_X5_203 kv_X4_seenSet ds_X4_seenSet ⟨rfl, rfl, by decide, by decide⟩ 0 rfl rfl [5, 6, 7, 8, 9, 1, 2, 3, 4] rfl rfl rfl rfl (by decide) ⟨by decide, by decide⟩ rfl ?_
    cases h
    exact p_iret C dX5_seenOfFlaw_24
def J_X5_flawSeenAs_42 (b_points : Int32) (b_nets : Ar) (t_total : Int32) (t_oft : Int32) (t_left : Ar) (t_right : Ar) (k5 : Int32 → Int32 → Option (Int32))  (v1 : Int32) (v2 : Int32) (v3 : Int32) (v4 : Int32) : Option (Int32) := k5 v3 (v4 + 1)
set_option maxHeartbeats 4000000 in
set_option maxRecDepth 100000 in
theorem tj_X5_flawSeenAs_42 {x : Cxt} {as0 ab0 ab1 ab2 ab3 at0 at1 at2 at3 at4 an0 an1 an2 anb0 anb1 ann0 ann1 ap0 ap1 as1 ai0 ai1 ai2 ai3 aj0 aj1 aj2 aj3 : Nat} {s_kept : Int32} {b_points : Int32} {b_near : Int32} {b_loose : Int32} {b_short : Int32} {b_nets : Ar} {b_xs : Ar} {b_ys : Ar} {t_total : Int32} {t_oft : Int32} {t_left : Ar} {t_right : Ar} {t_group : Ar} {t_paired : Ar} {n_total : Int32} {n_planned : Int32} {n_leaps : Ar} {n_onward : Ar} {nb_len : Int32} {nb_sum : Int32} {nb_tries : Ar} {nn_len : Int32} {nn_sum : Int32} {nn_tries : Ar} {p_len : Int32} {p_signs : Ar} {i_points : Int32} {i_near : Int32} {i_loose : Int32} {i_short : Int32} {i_nets : Ar} {i_xs : Ar} {i_ys : Ar} {j_points : Int32} {j_near : Int32} {j_loose : Int32} {j_short : Int32} {j_nets : Ar} {j_xs : Ar} {j_ys : Ar} {k5 : Int32 → Int32 → Option (Int32)}  {v1 : Int32} {v2 : Int32} {v3 : Int32} {v4 : Int32} {rr : Int32} (C : CX RX5 cX5_flawSeenAs 5 (some .int) x) (hk5 : ∀ (w3 : Int32) (w4 : Int32) , k5 w3 w4 = some rr → PT (RM 5 118) 5 x 5 [(0, .ref as0), (1, .int v1), (2, .int v2), (3, .int w3), (4, .int w4)] [] (V_S x.1.2.2 as0 ab0 ab1 ab2 ab3 at0 at1 at2 at3 at4 an0 an1 an2 anb0 anb1 ann0 ann1 ap0 ap1 as1 ai0 ai1 ai2 ai3 aj0 aj1 aj2 aj3 s_kept b_points b_near b_loose b_short b_nets b_xs b_ys t_total t_oft t_left t_right t_group t_paired n_total n_planned n_leaps n_onward nb_len nb_sum nb_tries nn_len nn_sum nn_tries p_len p_signs i_points i_near i_loose i_short i_nets i_xs i_ys j_points j_near j_loose j_short j_nets j_xs j_ys) 0 0 (QI x rr (V_S x.1.2.2 as0 ab0 ab1 ab2 ab3 at0 at1 at2 at3 at4 an0 an1 an2 anb0 anb1 ann0 ann1 ap0 ap1 as1 ai0 ai1 ai2 ai3 aj0 aj1 aj2 aj3 s_kept b_points b_near b_loose b_short b_nets b_xs b_ys t_total t_oft t_left t_right t_group t_paired n_total n_planned n_leaps n_onward nb_len nb_sum nb_tries nn_len nn_sum nn_tries p_len p_signs i_points i_near i_loose i_short i_nets i_xs i_ys j_points j_near j_loose j_short j_nets j_xs j_ys))) (h : J_X5_flawSeenAs_42 b_points b_nets t_total t_oft t_left t_right k5 v1 v2 v3 v4 = some rr) : PT (RM 5 118) 5 x 42 [(0, .ref as0), (1, .int v1), (2, .int v2), (3, .int v3), (4, .int v4)] [] (V_S x.1.2.2 as0 ab0 ab1 ab2 ab3 at0 at1 at2 at3 at4 an0 an1 an2 anb0 anb1 ann0 ann1 ap0 ap1 as1 ai0 ai1 ai2 ai3 aj0 aj1 aj2 aj3 s_kept b_points b_near b_loose b_short b_nets b_xs b_ys t_total t_oft t_left t_right t_group t_paired n_total n_planned n_leaps n_onward nb_len nb_sum nb_tries nn_len nn_sum nn_tries p_len p_signs i_points i_near i_loose i_short i_nets i_xs i_ys j_points j_near j_loose j_short j_nets j_xs j_ys) 0 0 (QI x rr (V_S x.1.2.2 as0 ab0 ab1 ab2 ab3 at0 at1 at2 at3 at4 an0 an1 an2 anb0 anb1 ann0 ann1 ap0 ap1 as1 ai0 ai1 ai2 ai3 aj0 aj1 aj2 aj3 s_kept b_points b_near b_loose b_short b_nets b_xs b_ys t_total t_oft t_left t_right t_group t_paired n_total n_planned n_leaps n_onward nb_len nb_sum nb_tries nn_len nn_sum nn_tries p_len p_signs i_points i_near i_loose i_short i_nets i_xs i_ys j_points j_near j_loose j_short j_nets j_xs j_ys)) := by
  unfold J_X5_flawSeenAs_42 at h
  refine p_iinc (w := v4 + 1) (lv' := [(4, .int (v4 + 1)), (0, .ref as0), (1, .int v1), (2, .int v2), (3, .int v3)]) C dX5_flawSeenAs_42 rfl 4 rfl rfl (by decide) rfl ?_
  refine p_goto C dX5_flawSeenAs_45 (pc' := 5) (by decide) ?_
  refine p_locals [1, 2, 3, 4, 0] (lv' := [(0, .ref as0), (1, .int v1), (2, .int v2), (3, .int v3), (4, .int (v4 + 1))]) rfl ?_
  exact hk5 _ _ h
def B_X5_flawSeenAs_5 (b_points : Int32) (b_nets : Ar) (t_total : Int32) (t_oft : Int32) (t_left : Ar) (t_right : Ar)  (v1 : Int32) (v2 : Int32) (kk : Int32 → Int32 → Option (Int32)) (v3 : Int32) (v4 : Int32)  : Option (Int32) := if ((26 : Int32)) ≤ v4 then (if v2 = ((-1 : Int32)) then (some v3) else (some ((-6 : Int32)))) else (bd1 (m_X5_isFlaw b_points v4) (fun r3 => if r3 = 0 then (J_X5_flawSeenAs_42 b_points b_nets t_total t_oft t_left t_right (kk) v1 v2 v3 v4) else (bd1 (m_X5_seenOfFlaw b_nets t_total t_oft t_left t_right v4) (fun r6 => if r6 = v1 then (if v3 = v2 then (some v4) else (J_X5_flawSeenAs_42 b_points b_nets t_total t_oft t_left t_right (kk) v1 v2 (v3 + 1) v4)) else (J_X5_flawSeenAs_42 b_points b_nets t_total t_oft t_left t_right (kk) v1 v2 v3 v4)))))
def L_X5_flawSeenAs_5 (b_points : Int32) (b_nets : Ar) (t_total : Int32) (t_oft : Int32) (t_left : Ar) (t_right : Ar)  (v1 : Int32) (v2 : Int32) : Nat → Int32 → Int32 → Option (Int32) := lpG (fun _ _ => none) (B_X5_flawSeenAs_5 b_points b_nets t_total t_oft t_left t_right v1 v2)
set_option maxHeartbeats 4000000 in
set_option maxRecDepth 100000 in
theorem tl_X5_flawSeenAs_5 {x : Cxt} {as0 ab0 ab1 ab2 ab3 at0 at1 at2 at3 at4 an0 an1 an2 anb0 anb1 ann0 ann1 ap0 ap1 as1 ai0 ai1 ai2 ai3 aj0 aj1 aj2 aj3 : Nat} {s_kept : Int32} {b_points : Int32} {b_near : Int32} {b_loose : Int32} {b_short : Int32} {b_nets : Ar} {b_xs : Ar} {b_ys : Ar} {t_total : Int32} {t_oft : Int32} {t_left : Ar} {t_right : Ar} {t_group : Ar} {t_paired : Ar} {n_total : Int32} {n_planned : Int32} {n_leaps : Ar} {n_onward : Ar} {nb_len : Int32} {nb_sum : Int32} {nb_tries : Ar} {nn_len : Int32} {nn_sum : Int32} {nn_tries : Ar} {p_len : Int32} {p_signs : Ar} {i_points : Int32} {i_near : Int32} {i_loose : Int32} {i_short : Int32} {i_nets : Ar} {i_xs : Ar} {i_ys : Ar} {j_points : Int32} {j_near : Int32} {j_loose : Int32} {j_short : Int32} {j_nets : Ar} {j_xs : Ar} {j_ys : Ar}  {v1 : Int32} {v2 : Int32} {rr : Int32} (C : CX RX5 cX5_flawSeenAs 5 (some .int) x)  : ∀ (n : Nat) (v3 : Int32) (v4 : Int32) , L_X5_flawSeenAs_5 b_points b_nets t_total t_oft t_left t_right v1 v2 n v3 v4 = some rr → PT (RM 5 118) 5 x 5 [(0, .ref as0), (1, .int v1), (2, .int v2), (3, .int v3), (4, .int v4)] [] (V_S x.1.2.2 as0 ab0 ab1 ab2 ab3 at0 at1 at2 at3 at4 an0 an1 an2 anb0 anb1 ann0 ann1 ap0 ap1 as1 ai0 ai1 ai2 ai3 aj0 aj1 aj2 aj3 s_kept b_points b_near b_loose b_short b_nets b_xs b_ys t_total t_oft t_left t_right t_group t_paired n_total n_planned n_leaps n_onward nb_len nb_sum nb_tries nn_len nn_sum nn_tries p_len p_signs i_points i_near i_loose i_short i_nets i_xs i_ys j_points j_near j_loose j_short j_nets j_xs j_ys) 0 0 (QI x rr (V_S x.1.2.2 as0 ab0 ab1 ab2 ab3 at0 at1 at2 at3 at4 an0 an1 an2 anb0 anb1 ann0 ann1 ap0 ap1 as1 ai0 ai1 ai2 ai3 aj0 aj1 aj2 aj3 s_kept b_points b_near b_loose b_short b_nets b_xs b_ys t_total t_oft t_left t_right t_group t_paired n_total n_planned n_leaps n_onward nb_len nb_sum nb_tries nn_len nn_sum nn_tries p_len p_signs i_points i_near i_loose i_short i_nets i_xs i_ys j_points j_near j_loose j_short j_nets j_xs j_ys)) := by
  intro n
  induction n with
  | zero =>
    intro v3 v4 h
    cases h
  | succ n ih =>
    intro v3 v4 h
    have h : B_X5_flawSeenAs_5 b_points b_nets t_total t_oft t_left t_right v1 v2 (L_X5_flawSeenAs_5 b_points b_nets t_total t_oft t_left t_right v1 v2 n) v3 v4 = some rr := h
    unfold B_X5_flawSeenAs_5 at h
    refine p_iload C dX5_flawSeenAs_5 rfl 4 rfl ?_
    refine p_bipush (v := (26 : Int32)) C dX5_flawSeenAs_7 rfl (by decide) ?_
    refine p_icmp_ge C dX5_flawSeenAs_9 (tgt := 48) (by decide) rfl (fun c1 => ?_) (fun c1 => ?_)
    · have h := if_t c1 h
      refine p_iload_n C dX5_flawSeenAs_48 rfl 2 rfl ?_
      refine p_iconst (v := (-1 : Int32)) C dX5_flawSeenAs_49 rfl (by decide) ?_
      refine p_icmp_ne C dX5_flawSeenAs_50 (tgt := 57) (by decide) rfl (fun c2 => ?_) (fun c2 => ?_)
      · have h := if_f c2 h
        refine p_bipush (v := (-6 : Int32)) C dX5_flawSeenAs_57 rfl (by decide) ?_
        cases h
        exact p_iret C dX5_flawSeenAs_59
      · have h := if_t c2 h
        refine p_iload_n C dX5_flawSeenAs_53 rfl 3 rfl ?_
        refine p_goto C dX5_flawSeenAs_54 (pc' := 59) (by decide) ?_
        cases h
        exact p_iret C dX5_flawSeenAs_59
    · have h := if_f c1 h
      refine p_aload_n C dX5_flawSeenAs_12 rfl 0 rfl ?_
      refine p_iload C dX5_flawSeenAs_13 rfl 4 rfl ?_
      obtain ⟨r3, hc4, h⟩ := bd1_of h
      refine p_callVi_s (As := [.int v4]) (st' := []) (Wc' := (V_S x.1.2.2 as0 ab0 ab1 ab2 ab3 at0 at1 at2 at3 at4 an0 an1 an2 anb0 anb1 ann0 ann1 ap0 ap1 as1 ai0 ai1 ai2 ai3 aj0 aj1 aj2 aj3 s_kept b_points b_near b_loose b_short b_nets b_xs b_ys t_total t_oft t_left t_right t_group t_paired n_total n_planned n_leaps n_onward nb_len nb_sum nb_tries nn_len nn_sum nn_tries p_len p_signs i_points i_near i_loose i_short i_nets i_xs i_ys j_points j_near j_loose j_short j_nets j_xs j_ys)) C (c_X5_isFlaw x.1 (as0 := as0) (ab0 := ab0) (ab1 := ab1) (ab2 := ab2) (ab3 := ab3) (at0 := at0) (at1 := at1) (at2 := at2) (at3 := at3) (at4 := at4) (an0 := an0) (an1 := an1) (an2 := an2) (anb0 := anb0) (anb1 := anb1) (ann0 := ann0) (ann1 := ann1) (ap0 := ap0) (ap1 := ap1) (as1 := as1) (ai0 := ai0) (ai1 := ai1) (ai2 := ai2) (ai3 := ai3) (aj0 := aj0) (aj1 := aj1) (aj2 := aj2) (aj3 := aj3) (s_kept := s_kept) (b_near := b_near) (b_loose := b_loose) (b_short := b_short) (b_nets := b_nets) (b_xs := b_xs) (b_ys := b_ys) (t_total := t_total) (t_oft := t_oft) (t_left := t_left) (t_right := t_right) (t_group := t_group) (t_paired := t_paired) (n_total := n_total) (n_planned := n_planned) (n_leaps := n_leaps) (n_onward := n_onward) (nb_len := nb_len) (nb_sum := nb_sum) (nb_tries := nb_tries) (nn_len := nn_len) (nn_sum := nn_sum) (nn_tries := nn_tries) (p_len := p_len) (p_signs := p_signs) (i_points := i_points) (i_near := i_near) (i_loose := i_loose) (i_short := i_short) (i_nets := i_nets) (i_xs := i_xs) (i_ys := i_ys) (j_points := j_points) (j_near := j_near) (j_loose := j_loose) (j_short := j_short) (j_nets := j_nets) (j_xs := j_xs) (j_ys := j_ys) hc4) dX5_flawSeenAs_15 rfl ml_X5_207 kv_X5_isFlaw ds_X5_isFlaw ⟨rfl, rfl, by decide, by decide⟩ 0 rfl rfl rfl rfl (by decide) ⟨by decide, by decide⟩ ?_
      refine p_if_eq C dX5_flawSeenAs_18 (tgt := 42) (by decide) rfl (fun c5 => ?_) (fun c5 => ?_)
      · have h := if_t c5 h
        refine p_locals [0, 1, 2, 3, 4] (lv' := [(0, .ref as0), (1, .int v1), (2, .int v2), (3, .int v3), (4, .int v4)]) rfl ?_
        exact tj_X5_flawSeenAs_42 C (fun u0 u1 h => ih u0 u1 h) h
      · have h := if_f c5 h
        refine p_aload_n C dX5_flawSeenAs_21 rfl 0 rfl ?_
        refine p_iload C dX5_flawSeenAs_22 rfl 4 rfl ?_
        obtain ⟨r6, hc7, h⟩ := bd1_of h
        refine p_callVi_s (As := [.int v4]) (st' := []) (Wc' := (V_S x.1.2.2 as0 ab0 ab1 ab2 ab3 at0 at1 at2 at3 at4 an0 an1 an2 anb0 anb1 ann0 ann1 ap0 ap1 as1 ai0 ai1 ai2 ai3 aj0 aj1 aj2 aj3 s_kept b_points b_near b_loose b_short b_nets b_xs b_ys t_total t_oft t_left t_right t_group t_paired n_total n_planned n_leaps n_onward nb_len nb_sum nb_tries nn_len nn_sum nn_tries p_len p_signs i_points i_near i_loose i_short i_nets i_xs i_ys j_points j_near j_loose j_short j_nets j_xs j_ys)) C (c_X5_seenOfFlaw x.1 (as0 := as0) (ab0 := ab0) (ab1 := ab1) (ab2 := ab2) (ab3 := ab3) (at0 := at0) (at1 := at1) (at2 := at2) (at3 := at3) (at4 := at4) (an0 := an0) (an1 := an1) (an2 := an2) (anb0 := anb0) (anb1 := anb1) (ann0 := ann0) (ann1 := ann1) (ap0 := ap0) (ap1 := ap1) (as1 := as1) (ai0 := ai0) (ai1 := ai1) (ai2 := ai2) (ai3 := ai3) (aj0 := aj0) (aj1 := aj1) (aj2 := aj2) (aj3 := aj3) (s_kept := s_kept) (b_points := b_points) (b_near := b_near) (b_loose := b_loose) (b_short := b_short) (b_xs := b_xs) (b_ys := b_ys) (t_group := t_group) (t_paired := t_paired) (n_total := n_total) (n_planned := n_planned) (n_leaps := n_leaps) (n_onward := n_onward) (nb_len := nb_len) (nb_sum := nb_sum) (nb_tries := nb_tries) (nn_len := nn_len) (nn_sum := nn_sum) (nn_tries := nn_tries) (p_len := p_len) (p_signs := p_signs) (i_points := i_points) (i_near := i_near) (i_loose := i_loose) (i_short := i_short) (i_nets := i_nets) (i_xs := i_xs) (i_ys := i_ys) (j_points := j_points) (j_near := j_near) (j_loose := j_loose) (j_short := j_short) (j_nets := j_nets) (j_xs := j_xs) (j_ys := j_ys) hc7) dX5_flawSeenAs_24 rfl ml_X5_210 kv_X5_seenOfFlaw ds_X5_seenOfFlaw ⟨rfl, rfl, by decide, by decide⟩ 0 rfl rfl rfl rfl (by decide) ⟨by decide, by decide⟩ ?_
        refine p_iload_n C dX5_flawSeenAs_27 rfl 1 rfl ?_
        refine p_icmp_ne C dX5_flawSeenAs_28 (tgt := 42) (by decide) rfl (fun c8 => ?_) (fun c8 => ?_)
        · have h := if_f c8 h
          refine p_locals [0, 1, 2, 3, 4] (lv' := [(0, .ref as0), (1, .int v1), (2, .int v2), (3, .int v3), (4, .int v4)]) rfl ?_
          exact tj_X5_flawSeenAs_42 C (fun u0 u1 h => ih u0 u1 h) h
        · have h := if_t c8 h
          refine p_iload_n C dX5_flawSeenAs_31 rfl 3 rfl ?_
          refine p_iload_n C dX5_flawSeenAs_32 rfl 2 rfl ?_
          refine p_icmp_ne C dX5_flawSeenAs_33 (tgt := 39) (by decide) rfl (fun c9 => ?_) (fun c9 => ?_)
          · have h := if_f c9 h
            refine p_iinc (w := v3 + 1) (lv' := [(3, .int (v3 + 1)), (0, .ref as0), (1, .int v1), (2, .int v2), (4, .int v4)]) C dX5_flawSeenAs_39 rfl 3 rfl rfl (by decide) rfl ?_
            refine p_locals [1, 2, 3, 0, 4] (lv' := [(0, .ref as0), (1, .int v1), (2, .int v2), (3, .int (v3 + 1)), (4, .int v4)]) rfl ?_
            exact tj_X5_flawSeenAs_42 C (fun u0 u1 h => ih u0 u1 h) h
          · have h := if_t c9 h
            refine p_iload C dX5_flawSeenAs_36 rfl 4 rfl ?_
            cases h
            exact p_iret C dX5_flawSeenAs_38
def m_X5_flawSeenAs (b_points : Int32) (b_nets : Ar) (t_total : Int32) (t_oft : Int32) (t_left : Ar) (t_right : Ar) (p1 : Int32) (p2 : Int32) : Option (Int32) := L_X5_flawSeenAs_5 b_points b_nets t_total t_oft t_left t_right p1 p2 FU ((0 : Int32)) ((0 : Int32))
theorem ds_X5_flawSeenAs : (yX5_flawSeenAs).cls ≠ "java/lang/invoke/MethodHandle" ∧ (yX5_flawSeenAs).cls ≠ "java/lang/invoke/VarHandle" ∧ (parseMethodDescriptor (yX5_flawSeenAs).desc).map (fun d => d.parameters.length) = some 2 := by decide +kernel
set_option maxHeartbeats 4000000 in
set_option maxRecDepth 100000 in
theorem c_X5_flawSeenAs (E : En) {as0 ab0 ab1 ab2 ab3 at0 at1 at2 at3 at4 an0 an1 an2 anb0 anb1 ann0 ann1 ap0 ap1 as1 ai0 ai1 ai2 ai3 aj0 aj1 aj2 aj3 : Nat} {s_kept : Int32} {b_points : Int32} {b_near : Int32} {b_loose : Int32} {b_short : Int32} {b_nets : Ar} {b_xs : Ar} {b_ys : Ar} {t_total : Int32} {t_oft : Int32} {t_left : Ar} {t_right : Ar} {t_group : Ar} {t_paired : Ar} {n_total : Int32} {n_planned : Int32} {n_leaps : Ar} {n_onward : Ar} {nb_len : Int32} {nb_sum : Int32} {nb_tries : Ar} {nn_len : Int32} {nn_sum : Int32} {nn_tries : Ar} {p_len : Int32} {p_signs : Ar} {i_points : Int32} {i_near : Int32} {i_loose : Int32} {i_short : Int32} {i_nets : Ar} {i_xs : Ar} {i_ys : Ar} {j_points : Int32} {j_near : Int32} {j_loose : Int32} {j_short : Int32} {j_nets : Ar} {j_xs : Ar} {j_ys : Ar} {p1 : Int32} {p2 : Int32} {rr : Int32} (h : m_X5_flawSeenAs b_points b_nets t_total t_oft t_left t_right p1 p2 = some rr) : Ci E yX5_flawSeenAs (wU yX5_flawSeenAs cX5_flawSeenAs 5 (some .int)) (RM 5 118) [.ref as0, .int p1, .int p2] (V_S E.2.2 as0 ab0 ab1 ab2 ab3 at0 at1 at2 at3 at4 an0 an1 an2 anb0 anb1 ann0 ann1 ap0 ap1 as1 ai0 ai1 ai2 ai3 aj0 aj1 aj2 aj3 s_kept b_points b_near b_loose b_short b_nets b_xs b_ys t_total t_oft t_left t_right t_group t_paired n_total n_planned n_leaps n_onward nb_len nb_sum nb_tries nn_len nn_sum nn_tries p_len p_signs i_points i_near i_loose i_short i_nets i_xs i_ys j_points j_near j_loose j_short j_nets j_xs j_ys) (V_S E.2.2 as0 ab0 ab1 ab2 ab3 at0 at1 at2 at3 at4 an0 an1 an2 anb0 anb1 ann0 ann1 ap0 ap1 as1 ai0 ai1 ai2 ai3 aj0 aj1 aj2 aj3 s_kept b_points b_near b_loose b_short b_nets b_xs b_ys t_total t_oft t_left t_right t_group t_paired n_total n_planned n_leaps n_onward nb_len nb_sum nb_tries nn_len nn_sum nn_tries p_len p_signs i_points i_near i_loose i_short i_nets i_xs i_ys j_points j_near j_loose j_short j_nets j_xs j_ys) rr := by
  refine Ci.of (by decide) (Nat.le_of_ble_eq_true rfl) ?_
  intro x hE C
  subst hE
  have C : CX RX5 cX5_flawSeenAs 5 (some .int) x := C
  refine p_locals [0, 1, 2] (lv' := [(0, .ref as0), (1, .int p1), (2, .int p2)]) rfl ?_
  unfold m_X5_flawSeenAs at h
  refine p_iconst (v := (0 : Int32)) C dX5_flawSeenAs_0 rfl (by decide) ?_
  refine p_istore_n (lv' := [(3, .int ((0 : Int32))), (0, .ref as0), (1, .int p1), (2, .int p2)]) C dX5_flawSeenAs_1 rfl (by decide) rfl ?_
  refine p_iconst (v := (0 : Int32)) C dX5_flawSeenAs_2 rfl (by decide) ?_
  refine p_istore (lv' := [(4, .int ((0 : Int32))), (3, .int ((0 : Int32))), (0, .ref as0), (1, .int p1), (2, .int p2)]) C dX5_flawSeenAs_3 rfl (by decide) rfl ?_
  refine p_locals [2, 3, 4, 1, 0] (lv' := [(0, .ref as0), (1, .int p1), (2, .int p2), (3, .int ((0 : Int32))), (4, .int ((0 : Int32)))]) rfl ?_
  exact tl_X5_flawSeenAs_5 C  FU _ _ h
