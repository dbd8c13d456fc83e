set_option maxHeartbeats 4000000 in
set_option maxRecDepth 100000 in
theorem law_loop {x : Cxt} {Iv : IvT} {b L : Nat} {xs : Nat → Int32} {as0 ab0 ab1 ab2 ab3 at0 at1 at2 at3 at4 an0 an1 an2 anb0 anb1 ann0 ann1 ap0 ap1 as1 ai0 ai1 ai2 ai3 aj0 aj1 aj2 aj3 am0 am1 am2 am3 am4 am5 am6 am7 am8 am9 am10 am11 am12 am13 am14 : Nat} (C : CX RL code 4 ret x) (hXL : XL x b) (hX : SX x b L xs) (hL : L ≤ 2048) (hops : Ops Iv) : ∀ (n i : Nat), L < i + n → i ≤ 100000 → ∀ (s_kept : Int32) (b_points : Int32) (b_near : Int32) (b_loose : Int32) (b_short : Int32) (b_nets : Ar) (b_xs : Ar) (b_ys : Ar) (t_total : Int32) (t_oft : Int32) (t_left : Ar) (t_right : Ar) (t_group : Ar) (t_paired : Ar) (n_total : Int32) (n_planned : Int32) (n_leaps : Ar) (n_onward : Ar) (nb_len : Int32) (nb_sum : Int32) (nb_tries : Ar) (nn_len : Int32) (nn_sum : Int32) (nn_tries : Ar) (p_len : Int32) (p_signs : Ar) (i_points : Int32) (i_near : Int32) (i_loose : Int32) (i_short : Int32) (i_nets : Ar) (i_xs : Ar) (i_ys : Ar) (j_points : Int32) (j_near : Int32) (j_loose : Int32) (j_short : Int32) (j_nets : Ar) (j_xs : Ar) (j_ys : Ar) (m_said : Int32) (m_tries : Int32) (m_state : Ar) (m_images : Ar) (m_isKept : Ar) (m_pad : Ar) (m_leftOf : Ar) (m_rightOf : Ar) (m_isApart : Ar) (m_group : Ar) (m_isPair : Ar) (m_isOne : Ar) (m_order : Ar) (m_rest : Ar) (m_aside : Ar) (m_others : Ar), Iv s_kept b_points b_near b_loose b_short b_nets b_xs b_ys t_total t_oft t_left t_right t_group t_paired n_total n_planned n_leaps n_onward nb_len nb_sum nb_tries nn_len nn_sum nn_tries p_len p_signs i_points i_near i_loose i_short i_nets i_xs i_ys j_points j_near j_loose j_short j_nets j_xs j_ys m_said m_tries m_state m_images m_isKept m_pad m_leftOf m_rightOf m_isApart m_group m_isPair m_isOne m_order m_rest m_aside m_others → PT room_1 4 x 18 [(0, .ref b), (1, .ref as0), (2, .ref am0), (3, .int (nI i))] [] ((V_S x.1.2.2 as0 ab0 ab1 ab2 ab3 at0 at1 at2 at3 at4 an0 an1 an2 anb0 anb1 ann0 ann1 ap0 ap1 as1 ai0 ai1 ai2 ai3 aj0 aj1 aj2 aj3 s_kept b_points b_near b_loose b_short b_nets b_xs b_ys t_total t_oft t_left t_right t_group t_paired n_total n_planned n_leaps n_onward nb_len nb_sum nb_tries nn_len nn_sum nn_tries p_len p_signs i_points i_near i_loose i_short i_nets i_xs i_ys j_points j_near j_loose j_short j_nets j_xs j_ys) ++ (V_M x.1.2.2 am0 am1 am2 am3 am4 am5 am6 am7 am8 am9 am10 am11 am12 am13 am14 m_said m_tries m_state m_images m_isKept m_pad m_leftOf m_rightOf m_isApart m_group m_isPair m_isOne m_order m_rest m_aside m_others)) 43 22172 (QL x) := by
  intro n
  induction n with
  | zero =>
    intro i hin hi2 s_kept b_points b_near b_loose b_short b_nets b_xs b_ys t_total t_oft t_left t_right t_group t_paired n_total n_planned n_leaps n_onward nb_len nb_sum nb_tries nn_len nn_sum nn_tries p_len p_signs i_points i_near i_loose i_short i_nets i_xs i_ys j_points j_near j_loose j_short j_nets j_xs j_ys m_said m_tries m_state m_images m_isKept m_pad m_leftOf m_rightOf m_isApart m_group m_isPair m_isOne m_order m_rest m_aside m_others hI
    refine p_iload_n C dL_law_18 rfl 3 rfl ?_
    refine p_aload_n C dL_law_19 rfl 0 rfl ?_
    refine p_slen C hX dL_law_20 rfl ?_
    refine p_iconst (v := (4 : Int32)) C dL_law_21 rfl (by decide) ?_
    refine p_isub C dL_law_22 rfl ?_
    refine p_icmp_gt C dL_law_23 (tgt := 728) (by decide) rfl (fun c0 => ?_) (fun c0 => ?_)
    · refine p_iconst (v := (1 : Int32)) C dL_law_728 rfl (by decide) ?_
      exact p_lawret C hXL dL_law_729 (Nat.le_of_ble_eq_true rfl) (Nat.le_of_ble_eq_true rfl)
    · exact absurd (law_in hi2 hL c0) (by omega)
  | succ n ih =>
    intro i hin hi2 s_kept b_points b_near b_loose b_short b_nets b_xs b_ys t_total t_oft t_left t_right t_group t_paired n_total n_planned n_leaps n_onward nb_len nb_sum nb_tries nn_len nn_sum nn_tries p_len p_signs i_points i_near i_loose i_short i_nets i_xs i_ys j_points j_near j_loose j_short j_nets j_xs j_ys m_said m_tries m_state m_images m_isKept m_pad m_leftOf m_rightOf m_isApart m_group m_isPair m_isOne m_order m_rest m_aside m_others hI
    refine p_iload_n C dL_law_18 rfl 3 rfl ?_
    refine p_aload_n C dL_law_19 rfl 0 rfl ?_
    refine p_slen C hX dL_law_20 rfl ?_
    refine p_iconst (v := (4 : Int32)) C dL_law_21 rfl (by decide) ?_
    refine p_isub C dL_law_22 rfl ?_
    refine p_icmp_gt C dL_law_23 (tgt := 728) (by decide) rfl (fun c0 => ?_) (fun c0 => ?_)
    · refine p_iconst (v := (1 : Int32)) C dL_law_728 rfl (by decide) ?_
      exact p_lawret C hXL dL_law_729 (Nat.le_of_ble_eq_true rfl) (Nat.le_of_ble_eq_true rfl)
    · have hi4 := law_in hi2 hL c0
      obtain ⟨h_point, h_pop, h_move, h_near, h_of, h_far, h_attempt, h_time, h_say, h_wipe, h_told, h_best, h_nearest, h_loosen, h_join, h_sees, h_fits, h_hidden, h_halves, h_image, h_restore, h_count⟩ := hops
      have hk : ∀ (s_kept : Int32) (b_points : Int32) (b_near : Int32) (b_loose : Int32) (b_short : Int32) (b_nets : Ar) (b_xs : Ar) (b_ys : Ar) (t_total : Int32) (t_oft : Int32) (t_left : Ar) (t_right : Ar) (t_group : Ar) (t_paired : Ar) (n_total : Int32) (n_planned : Int32) (n_leaps : Ar) (n_onward : Ar) (nb_len : Int32) (nb_sum : Int32) (nb_tries : Ar) (nn_len : Int32) (nn_sum : Int32) (nn_tries : Ar) (p_len : Int32) (p_signs : Ar) (i_points : Int32) (i_near : Int32) (i_loose : Int32) (i_short : Int32) (i_nets : Ar) (i_xs : Ar) (i_ys : Ar) (j_points : Int32) (j_near : Int32) (j_loose : Int32) (j_short : Int32) (j_nets : Ar) (j_xs : Ar) (j_ys : Ar) (m_said : Int32) (m_tries : Int32) (m_state : Ar) (m_images : Ar) (m_isKept : Ar) (m_pad : Ar) (m_leftOf : Ar) (m_rightOf : Ar) (m_isApart : Ar) (m_group : Ar) (m_isPair : Ar) (m_isOne : Ar) (m_order : Ar) (m_rest : Ar) (m_aside : Ar) (m_others : Ar), Iv s_kept b_points b_near b_loose b_short b_nets b_xs b_ys t_total t_oft t_left t_right t_group t_paired n_total n_planned n_leaps n_onward nb_len nb_sum nb_tries nn_len nn_sum nn_tries p_len p_signs i_points i_near i_loose i_short i_nets i_xs i_ys j_points j_near j_loose j_short j_nets j_xs j_ys m_said m_tries m_state m_images m_isKept m_pad m_leftOf m_rightOf m_isApart m_group m_isPair m_isOne m_order m_rest m_aside m_others → PT room_1 4 x 722 [(0, .ref b), (1, .ref as0), (2, .ref am0), (3, .int (nI i))] [] ((V_S x.1.2.2 as0 ab0 ab1 ab2 ab3 at0 at1 at2 at3 at4 an0 an1 an2 anb0 anb1 ann0 ann1 ap0 ap1 as1 ai0 ai1 ai2 ai3 aj0 aj1 aj2 aj3 s_kept b_points b_near b_loose b_short b_nets b_xs b_ys t_total t_oft t_left t_right t_group t_paired n_total n_planned n_leaps n_onward nb_len nb_sum nb_tries nn_len nn_sum nn_tries p_len p_signs i_points i_near i_loose i_short i_nets i_xs i_ys j_points j_near j_loose j_short j_nets j_xs j_ys) ++ (V_M x.1.2.2 am0 am1 am2 am3 am4 am5 am6 am7 am8 am9 am10 am11 am12 am13 am14 m_said m_tries m_state m_images m_isKept m_pad m_leftOf m_rightOf m_isApart m_group m_isPair m_isOne m_order m_rest m_aside m_others)) 43 22172 (QL x) := by
        intro s_kept b_points b_near b_loose b_short b_nets b_xs b_ys t_total t_oft t_left t_right t_group t_paired n_total n_planned n_leaps n_onward nb_len nb_sum nb_tries nn_len nn_sum nn_tries p_len p_signs i_points i_near i_loose i_short i_nets i_xs i_ys j_points j_near j_loose j_short j_nets j_xs j_ys m_said m_tries m_state m_images m_isKept m_pad m_leftOf m_rightOf m_isApart m_group m_isPair m_isOne m_order m_rest m_aside m_others hI
        refine p_iinc (w := nI (i + 4)) (lv' := [(3, .int (nI (i + 4))), (0, .ref b), (1, .ref as0), (2, .ref am0)]) C dL_law_722 rfl 3 rfl (nI_4 i) (by decide) rfl ?_
        refine p_goto C dL_law_725 (pc' := 18) (by decide) ?_
        refine p_locals [1, 2, 3, 0] (lv' := [(0, .ref b), (1, .ref as0), (2, .ref am0), (3, .int (nI (i + 4)))]) rfl ?_
        exact ih (i + 4) (by omega) (by omega) _ _ _ _ _ _ _ _ _ _ _ _ _ _ _ _ _ _ _ _ _ _ _ _ _ _ _ _ _ _ _ _ _ _ _ _ _ _ _ _ _ _ _ _ _ _ _ _ _ _ _ _ _ _ _ _ hI
      refine p_aload_n C dL_law_26 rfl 0 rfl ?_
      refine p_iload_n C dL_law_27 rfl 3 rfl ?_
      refine p_sld C hX dL_law_28 rfl (gS0 (by omega) hL) ?_
      refine p_bipush (v := (31 : Int32)) C dL_law_29 rfl (by decide) ?_
      refine p_iand C dL_law_31 rfl ?_
      generalize xs (nI i).toNatClampNeg &&& 31 = v
      by_cases c1 : v = 0
      · refine p_tabIn C dL_law_32 (pc' := 136) (off := 104) c1 (by decide +kernel) (by decide +kernel) (by decide +kernel) (by decide) ?_
        exact lawc_point C hX hL hi4 h_point hk _ _ _ _ _ _ _ _ _ _ _ _ _ _ _ _ _ _ _ _ _ _ _ _ _ _ _ _ _ _ _ _ _ _ _ _ _ _ _ _ _ _ _ _ _ _ _ _ _ _ _ _ _ _ _ _ hI
      by_cases c2 : v = 1
      · refine p_tabIn C dL_law_32 (pc' := 179) (off := 147) c2 (by decide +kernel) (by decide +kernel) (by decide +kernel) (by decide) ?_
        exact lawc_pop C hX hL hi4 h_pop hk _ _ _ _ _ _ _ _ _ _ _ _ _ _ _ _ _ _ _ _ _ _ _ _ _ _ _ _ _ _ _ _ _ _ _ _ _ _ _ _ _ _ _ _ _ _ _ _ _ _ _ _ _ _ _ _ hI
      by_cases c3 : v = 2
      · refine p_tabIn C dL_law_32 (pc' := 192) (off := 160) c3 (by decide +kernel) (by decide +kernel) (by decide +kernel) (by decide) ?_
        exact lawc_move C hX hL hi4 h_move hk _ _ _ _ _ _ _ _ _ _ _ _ _ _ _ _ _ _ _ _ _ _ _ _ _ _ _ _ _ _ _ _ _ _ _ _ _ _ _ _ _ _ _ _ _ _ _ _ _ _ _ _ _ _ _ _ hI
      by_cases c4 : v = 3
      · refine p_tabIn C dL_law_32 (pc' := 235) (off := 203) c4 (by decide +kernel) (by decide +kernel) (by decide +kernel) (by decide) ?_
        exact lawc_near C hX hL hi4 h_near hk _ _ _ _ _ _ _ _ _ _ _ _ _ _ _ _ _ _ _ _ _ _ _ _ _ _ _ _ _ _ _ _ _ _ _ _ _ _ _ _ _ _ _ _ _ _ _ _ _ _ _ _ _ _ _ _ hI
      by_cases c5 : v = 4
      · refine p_tabIn C dL_law_32 (pc' := 258) (off := 226) c5 (by decide +kernel) (by decide +kernel) (by decide +kernel) (by decide) ?_
        exact lawc_of C hX hL hi4 h_of hk _ _ _ _ _ _ _ _ _ _ _ _ _ _ _ _ _ _ _ _ _ _ _ _ _ _ _ _ _ _ _ _ _ _ _ _ _ _ _ _ _ _ _ _ _ _ _ _ _ _ _ _ _ _ _ _ hI
      by_cases c6 : v = 5
      · refine p_tabIn C dL_law_32 (pc' := 291) (off := 259) c6 (by decide +kernel) (by decide +kernel) (by decide +kernel) (by decide) ?_
        exact lawc_far C hX hL hi4 h_far hk _ _ _ _ _ _ _ _ _ _ _ _ _ _ _ _ _ _ _ _ _ _ _ _ _ _ _ _ _ _ _ _ _ _ _ _ _ _ _ _ _ _ _ _ _ _ _ _ _ _ _ _ _ _ _ _ hI
      by_cases c7 : v = 6
      · refine p_tabIn C dL_law_32 (pc' := 324) (off := 292) c7 (by decide +kernel) (by decide +kernel) (by decide +kernel) (by decide) ?_
        exact lawc_attempt C hX hL hi4 h_attempt hk _ _ _ _ _ _ _ _ _ _ _ _ _ _ _ _ _ _ _ _ _ _ _ _ _ _ _ _ _ _ _ _ _ _ _ _ _ _ _ _ _ _ _ _ _ _ _ _ _ _ _ _ _ _ _ _ hI
      by_cases c8 : v = 7
      · refine p_tabIn C dL_law_32 (pc' := 357) (off := 325) c8 (by decide +kernel) (by decide +kernel) (by decide +kernel) (by decide) ?_
        exact lawc_time C hX hL hi4 h_time hk _ _ _ _ _ _ _ _ _ _ _ _ _ _ _ _ _ _ _ _ _ _ _ _ _ _ _ _ _ _ _ _ _ _ _ _ _ _ _ _ _ _ _ _ _ _ _ _ _ _ _ _ _ _ _ _ hI
      by_cases c9 : v = 8
      · refine p_tabIn C dL_law_32 (pc' := 390) (off := 358) c9 (by decide +kernel) (by decide +kernel) (by decide +kernel) (by decide) ?_
        exact lawc_say C hX hL hi4 h_say hk _ _ _ _ _ _ _ _ _ _ _ _ _ _ _ _ _ _ _ _ _ _ _ _ _ _ _ _ _ _ _ _ _ _ _ _ _ _ _ _ _ _ _ _ _ _ _ _ _ _ _ _ _ _ _ _ hI
      by_cases c10 : v = 9
      · refine p_tabIn C dL_law_32 (pc' := 413) (off := 381) c10 (by decide +kernel) (by decide +kernel) (by decide +kernel) (by decide) ?_
        exact lawc_wipe C hX hL hi4 h_wipe hk _ _ _ _ _ _ _ _ _ _ _ _ _ _ _ _ _ _ _ _ _ _ _ _ _ _ _ _ _ _ _ _ _ _ _ _ _ _ _ _ _ _ _ _ _ _ _ _ _ _ _ _ _ _ _ _ hI
      by_cases c11 : v = 10
      · refine p_tabIn C dL_law_32 (pc' := 426) (off := 394) c11 (by decide +kernel) (by decide +kernel) (by decide +kernel) (by decide) ?_
        exact lawc_told C hX hL hi4 h_told hk _ _ _ _ _ _ _ _ _ _ _ _ _ _ _ _ _ _ _ _ _ _ _ _ _ _ _ _ _ _ _ _ _ _ _ _ _ _ _ _ _ _ _ _ _ _ _ _ _ _ _ _ _ _ _ _ hI
      by_cases c12 : v = 11
      · refine p_tabIn C dL_law_32 (pc' := 439) (off := 407) c12 (by decide +kernel) (by decide +kernel) (by decide +kernel) (by decide) ?_
        exact lawc_best C hX hL hi4 h_best hk _ _ _ _ _ _ _ _ _ _ _ _ _ _ _ _ _ _ _ _ _ _ _ _ _ _ _ _ _ _ _ _ _ _ _ _ _ _ _ _ _ _ _ _ _ _ _ _ _ _ _ _ _ _ _ _ hI
      by_cases c13 : v = 12
      · refine p_tabIn C dL_law_32 (pc' := 462) (off := 430) c13 (by decide +kernel) (by decide +kernel) (by decide +kernel) (by decide) ?_
        exact lawc_nearest C hX hL hi4 h_nearest hk _ _ _ _ _ _ _ _ _ _ _ _ _ _ _ _ _ _ _ _ _ _ _ _ _ _ _ _ _ _ _ _ _ _ _ _ _ _ _ _ _ _ _ _ _ _ _ _ _ _ _ _ _ _ _ _ hI
      by_cases c14 : v = 13
      · refine p_tabIn C dL_law_32 (pc' := 485) (off := 453) c14 (by decide +kernel) (by decide +kernel) (by decide +kernel) (by decide) ?_
        exact lawc_loosen C hX hL hi4 h_loosen hk _ _ _ _ _ _ _ _ _ _ _ _ _ _ _ _ _ _ _ _ _ _ _ _ _ _ _ _ _ _ _ _ _ _ _ _ _ _ _ _ _ _ _ _ _ _ _ _ _ _ _ _ _ _ _ _ hI
      by_cases c15 : v = 14
      · refine p_tabIn C dL_law_32 (pc' := 518) (off := 486) c15 (by decide +kernel) (by decide +kernel) (by decide +kernel) (by decide) ?_
        exact lawc_join C hX hL hi4 h_join hk _ _ _ _ _ _ _ _ _ _ _ _ _ _ _ _ _ _ _ _ _ _ _ _ _ _ _ _ _ _ _ _ _ _ _ _ _ _ _ _ _ _ _ _ _ _ _ _ _ _ _ _ _ _ _ _ hI
      by_cases c16 : v = 15
      · refine p_tabIn C dL_law_32 (pc' := 561) (off := 529) c16 (by decide +kernel) (by decide +kernel) (by decide +kernel) (by decide) ?_
        exact lawc_sees C hX hL hi4 h_sees hk _ _ _ _ _ _ _ _ _ _ _ _ _ _ _ _ _ _ _ _ _ _ _ _ _ _ _ _ _ _ _ _ _ _ _ _ _ _ _ _ _ _ _ _ _ _ _ _ _ _ _ _ _ _ _ _ hI
      by_cases c17 : v = 16
      · refine p_tabIn C dL_law_32 (pc' := 574) (off := 542) c17 (by decide +kernel) (by decide +kernel) (by decide +kernel) (by decide) ?_
        exact lawc_fits C hX hL hi4 h_fits hk _ _ _ _ _ _ _ _ _ _ _ _ _ _ _ _ _ _ _ _ _ _ _ _ _ _ _ _ _ _ _ _ _ _ _ _ _ _ _ _ _ _ _ _ _ _ _ _ _ _ _ _ _ _ _ _ hI
      by_cases c18 : v = 17
      · refine p_tabIn C dL_law_32 (pc' := 597) (off := 565) c18 (by decide +kernel) (by decide +kernel) (by decide +kernel) (by decide) ?_
        exact lawc_hidden C hX hL hi4 h_hidden hk _ _ _ _ _ _ _ _ _ _ _ _ _ _ _ _ _ _ _ _ _ _ _ _ _ _ _ _ _ _ _ _ _ _ _ _ _ _ _ _ _ _ _ _ _ _ _ _ _ _ _ _ _ _ _ _ hI
      by_cases c19 : v = 18
      · refine p_tabIn C dL_law_32 (pc' := 620) (off := 588) c19 (by decide +kernel) (by decide +kernel) (by decide +kernel) (by decide) ?_
        exact lawc_halves C hX hL hi4 h_halves hk _ _ _ _ _ _ _ _ _ _ _ _ _ _ _ _ _ _ _ _ _ _ _ _ _ _ _ _ _ _ _ _ _ _ _ _ _ _ _ _ _ _ _ _ _ _ _ _ _ _ _ _ _ _ _ _ hI
      by_cases c20 : v = 19
      · refine p_tabIn C dL_law_32 (pc' := 653) (off := 621) c20 (by decide +kernel) (by decide +kernel) (by decide +kernel) (by decide) ?_
        exact lawc_image C hX hL hi4 h_image hk _ _ _ _ _ _ _ _ _ _ _ _ _ _ _ _ _ _ _ _ _ _ _ _ _ _ _ _ _ _ _ _ _ _ _ _ _ _ _ _ _ _ _ _ _ _ _ _ _ _ _ _ _ _ _ _ hI
      by_cases c21 : v = 20
      · refine p_tabIn C dL_law_32 (pc' := 676) (off := 644) c21 (by decide +kernel) (by decide +kernel) (by decide +kernel) (by decide) ?_
        exact lawc_restore C hX hL hi4 h_restore hk _ _ _ _ _ _ _ _ _ _ _ _ _ _ _ _ _ _ _ _ _ _ _ _ _ _ _ _ _ _ _ _ _ _ _ _ _ _ _ _ _ _ _ _ _ _ _ _ _ _ _ _ _ _ _ _ hI
      by_cases c22 : v = 21
      · refine p_tabIn C dL_law_32 (pc' := 699) (off := 667) c22 (by decide +kernel) (by decide +kernel) (by decide +kernel) (by decide) ?_
        exact lawc_count C hX hL hi4 h_count hk _ _ _ _ _ _ _ _ _ _ _ _ _ _ _ _ _ _ _ _ _ _ _ _ _ _ _ _ _ _ _ _ _ _ _ _ _ _ _ _ _ _ _ _ _ _ _ _ _ _ _ _ _ _ _ _ hI
      refine p_tabOut C dL_law_32 (pc' := 722) (n := 22) (by decide) (by decide) (by intro k hk; match k, hk with | 0, _ => exact tabne (by decide) c1 | 1, _ => exact tabne (by decide) c2 | 2, _ => exact tabne (by decide) c3 | 3, _ => exact tabne (by decide) c4 | 4, _ => exact tabne (by decide) c5 | 5, _ => exact tabne (by decide) c6 | 6, _ => exact tabne (by decide) c7 | 7, _ => exact tabne (by decide) c8 | 8, _ => exact tabne (by decide) c9 | 9, _ => exact tabne (by decide) c10 | 10, _ => exact tabne (by decide) c11 | 11, _ => exact tabne (by decide) c12 | 12, _ => exact tabne (by decide) c13 | 13, _ => exact tabne (by decide) c14 | 14, _ => exact tabne (by decide) c15 | 15, _ => exact tabne (by decide) c16 | 16, _ => exact tabne (by decide) c17 | 17, _ => exact tabne (by decide) c18 | 18, _ => exact tabne (by decide) c19 | 19, _ => exact tabne (by decide) c20 | 20, _ => exact tabne (by decide) c21 | 21, _ => exact tabne (by decide) c22 | _ + 22, hk => exact absurd hk (by omega)) (by decide) ?_
      exact hk _ _ _ _ _ _ _ _ _ _ _ _ _ _ _ _ _ _ _ _ _ _ _ _ _ _ _ _ _ _ _ _ _ _ _ _ _ _ _ _ _ _ _ _ _ _ _ _ _ _ _ _ _ _ _ _ hI
