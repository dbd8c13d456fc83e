/-! ===== the calls that change the board ===== -/
theorem op_point : Op_point Iv0 := by
  intro s_kept b_points b_near b_loose b_short b_nets b_xs b_ys t_total t_oft t_left t_right t_group t_paired n_total n_planned n_leaps n_onward nb_len nb_sum nb_tries nn_len nn_sum nn_tries p_len p_signs i_points i_near i_loose i_short i_nets i_xs i_ys j_points j_near j_loose j_short j_nets j_xs j_ys m_said m_tries m_state m_images m_isKept m_pad m_leftOf m_rightOf m_isApart m_group m_isPair m_isOne m_order m_rest m_aside m_others hIv p1 p2 p3
  obtain ⟨⟨n, ⟨rfl, hR, hN, hXY, wl, ws, rfl, hwl, rfl, hws, hF⟩, TR, O, hTri, rfl, rfl, hL, rfl, hLP, hz, hpl⟩, ⟨len, hlen, rfl, rfl, hsg⟩, ⟨k, hk, rfl, hkp, hk0, hk1⟩⟩ := hIv
  have hn : n ≤ 8 := hR.2.1
  have h10 := hTri.1
  have hO := hTri.2.1
  have hTn := hTri.2.2.1
  have hTok : TRok TR := ⟨h10, fun q hq => ⟨by have := (hTn q hq).1; omega, by have := (hTn q hq).2; omega⟩⟩
  by_cases h1 : 0 ≤ p1.toInt ∧ p1.toInt < 4
  · by_cases h2 : (0 ≤ p2.toInt ∧ p2.toInt ≤ 20) ∧ (0 ≤ p3.toInt ∧ p3.toInt ≤ 20)
    · by_cases h3 : n < 8
      · obtain ⟨m, hm, e1, e2⟩ := nN p1 h1.1 (by omega)
        have hm4 : m < 4 := by omega
        have hN' : NetOk (upd b_nets n p1) := by
          intro p hp
          by_cases hj : p = n
          · subst hj; rw [upd_s]; exact ⟨m, hm4, e2⟩
          · rw [upd_n _ _ hj]; exact hN p hp
        have hXY' := inB_upd (j := n) hXY h2.1 h2.2
        obtain ⟨q1, q2, q3, q4, q5, q6, q7, q8, q9, hq, hq2⟩ := relay (show n + 1 ≤ 8 by omega) (near := b_near) (xs := upd b_xs n p2) (ys := upd b_ys n p3) (onward := n_onward) hN' hz (nI TR.length) (nI O) t_left t_right t_group t_paired (nI TR.length) n_planned n_leaps
        refine ⟨nI n, nI (n + 1), upd b_nets n p1, upd b_xs n p2, upd b_ys n p3, q1, q2, q3, q4, q5, q6, q7, q8, q9, upd (upd (upd (upd (upd m_state (1 + n) p1) (9 + n) p2) (17 + n) p3) (25 + n) 0) 0 (nI (n + 1)), ?_, ?_, ?_⟩
        · unfold m_X5_point m_X0_addPoint
          rw [isNet5, bd1_s, decide_eq_true h1, if_neg (show ¬ bi true = 0 by decide), isOnBoard5, bd1_s, decide_eq_true h2, if_neg (show ¬ bi true = 0 by decide), if_pos (by rw [i8, ltN (by omega) (by omega)]; exact h3), gN h3 (by omega)]
          simp only [grd_tt]
          rw [bd5_s, cN (by omega), show nI n + 1 = nI (n + 1) by rw [i1, addN], hq, bd9_s]
        · unfold m_X6_point
          rw [isNet6, bd1_s, decide_eq_true h1, if_neg (show ¬ bi true = 0 by decide), isHere6, bd1_s, decide_eq_true h2, if_neg (show ¬ bi true = 0 by decide), hR.1, if_neg (by rw [i8, eqN (by omega) (by omega)]; omega)]
          simp (disch := omega) only [i1, i9, i17, i25, addN, gN, grd_tt, cN]
          rw [upd_n _ _ (by omega), upd_n _ _ (by omega), upd_n _ _ (by omega), upd_n _ _ (by omega), hR.1, addN]
        · refine ⟨⟨n + 1, ⟨rfl, ⟨upd_s _ _ _, by omega, ?_, ?_⟩, hN', hXY', wl, ws, rfl, by rw [Nat.pow_succ]; omega, rfl, hws, ?_, ?_⟩, hq2 _ _ _⟩, ⟨len, hlen, rfl, rfl, hsg⟩, ⟨k, hk, rfl, hkp, hk0, hk1⟩⟩
          · intro p hp
            by_cases hj : p = n
            · subst hj
              refine ⟨?_, ?_, ?_⟩
              · rw [upd_n _ _ (by omega), upd_n _ _ (by omega), upd_n _ _ (by omega), upd_n _ _ (by omega), upd_s, upd_s]
              · rw [upd_n _ _ (by omega), upd_n _ _ (by omega), upd_n _ _ (by omega), upd_s, upd_s]
              · rw [upd_n _ _ (by omega), upd_n _ _ (by omega), upd_s, upd_s]
            · rw [upd_n b_nets _ hj, upd_n b_xs _ hj, upd_n b_ys _ hj]
              have h9 := hR.2.2.1 p hp
              refine ⟨?_, ?_, ?_⟩
              · rw [upd_n _ _ (by omega), upd_n _ _ (by omega), upd_n _ _ (by omega), upd_n _ _ (by omega), upd_n _ _ (by omega)]; exact h9.1
              · rw [upd_n _ _ (by omega), upd_n _ _ (by omega), upd_n _ _ (by omega), upd_n _ _ (by omega), upd_n _ _ (by omega)]; exact h9.2.1
              · rw [upd_n _ _ (by omega), upd_n _ _ (by omega), upd_n _ _ (by omega), upd_n _ _ (by omega), upd_n _ _ (by omega)]; exact h9.2.2
          · rw [upd_n _ _ (by omega), upd_n _ _ (by omega), upd_n _ _ (by omega), upd_n _ _ (by omega), upd_n _ _ (by omega)]; exact hR.2.2.2
          · intro p hp
            by_cases hj : p = n
            · subst hj
              rw [upd_n _ _ (by omega), upd_s, tb_lt hwl (Nat.le_refl _)]
              rfl
            · rw [upd_n _ _ (by omega), upd_n _ _ (by omega), upd_n _ _ (by omega), upd_n _ _ (by omega), upd_n _ _ (by omega)]; exact hF.1 p (by omega)
          · intro j hj
            rw [upd_n _ _ (by omega), upd_n _ _ (by omega), upd_n _ _ (by omega), upd_n _ _ (by omega), upd_n _ _ (by omega)]; exact hF.2 j hj
      · have e8 : n = 8 := by omega
        refine ⟨-4, (nI n), b_nets, b_xs, b_ys, (nI TR.length), (nI O), t_left, t_right, t_group, t_paired, (nI TR.length), n_planned, n_leaps, m_state, ?_, ?_, ?_⟩
        · unfold m_X5_point
          rw [isNet5, bd1_s, decide_eq_true h1, if_neg (show ¬ bi true = 0 by decide), isOnBoard5, bd1_s, decide_eq_true h2, if_neg (show ¬ bi true = 0 by decide), if_neg (by rw [i8, ltN (by omega) (by omega)]; exact h3)]
        · unfold m_X6_point
          rw [isNet6, bd1_s, decide_eq_true h1, if_neg (show ¬ bi true = 0 by decide), isHere6, bd1_s, decide_eq_true h2, if_neg (show ¬ bi true = 0 by decide), hR.1, if_pos (by rw [i8, eqN (by omega) (by omega)]; exact e8)]
        · exact ⟨⟨n, ⟨rfl, hR, hN, hXY, wl, ws, rfl, hwl, rfl, hws, hF⟩, ⟨TR, O, hTri, rfl, rfl, hL, rfl, hLP, hz, hpl⟩⟩, ⟨len, hlen, rfl, rfl, hsg⟩, ⟨k, hk, rfl, hkp, hk0, hk1⟩⟩
    · refine ⟨-2, (nI n), b_nets, b_xs, b_ys, (nI TR.length), (nI O), t_left, t_right, t_group, t_paired, (nI TR.length), n_planned, n_leaps, m_state, ?_, ?_, ?_⟩
      · unfold m_X5_point
        rw [isNet5, bd1_s, decide_eq_true h1, if_neg (show ¬ bi true = 0 by decide), isOnBoard5, bd1_s, decide_eq_false h2, if_pos (show bi false = 0 from rfl)]
      · unfold m_X6_point
        rw [isNet6, bd1_s, decide_eq_true h1, if_neg (show ¬ bi true = 0 by decide), isHere6, bd1_s, decide_eq_false h2, if_pos (show bi false = 0 from rfl)]
      · exact ⟨⟨n, ⟨rfl, hR, hN, hXY, wl, ws, rfl, hwl, rfl, hws, hF⟩, ⟨TR, O, hTri, rfl, rfl, hL, rfl, hLP, hz, hpl⟩⟩, ⟨len, hlen, rfl, rfl, hsg⟩, ⟨k, hk, rfl, hkp, hk0, hk1⟩⟩
  · refine ⟨-1, (nI n), b_nets, b_xs, b_ys, (nI TR.length), (nI O), t_left, t_right, t_group, t_paired, (nI TR.length), n_planned, n_leaps, m_state, ?_, ?_, ?_⟩
    · unfold m_X5_point
      rw [isNet5, bd1_s, decide_eq_false h1, if_pos (show bi false = 0 from rfl)]
    · unfold m_X6_point
      rw [isNet6, bd1_s, decide_eq_false h1, if_pos (show bi false = 0 from rfl)]
    · exact ⟨⟨n, ⟨rfl, hR, hN, hXY, wl, ws, rfl, hwl, rfl, hws, hF⟩, ⟨TR, O, hTri, rfl, rfl, hL, rfl, hLP, hz, hpl⟩⟩, ⟨len, hlen, rfl, rfl, hsg⟩, ⟨k, hk, rfl, hkp, hk0, hk1⟩⟩
theorem op_pop : Op_pop Iv0 := by
  intro s_kept b_points b_near b_loose b_short b_nets b_xs b_ys t_total t_oft t_left t_right t_group t_paired n_total n_planned n_leaps n_onward nb_len nb_sum nb_tries nn_len nn_sum nn_tries p_len p_signs i_points i_near i_loose i_short i_nets i_xs i_ys j_points j_near j_loose j_short j_nets j_xs j_ys m_said m_tries m_state m_images m_isKept m_pad m_leftOf m_rightOf m_isApart m_group m_isPair m_isOne m_order m_rest m_aside m_others hIv 
  obtain ⟨⟨n, ⟨rfl, hR, hN, hXY, wl, ws, rfl, hwl, rfl, hws, hF⟩, TR, O, hTri, rfl, rfl, hL, rfl, hLP, hz, hpl⟩, ⟨len, hlen, rfl, rfl, hsg⟩, ⟨k, hk, rfl, hkp, hk0, hk1⟩⟩ := hIv
  have hn : n ≤ 8 := hR.2.1
  have h10 := hTri.1
  have hO := hTri.2.1
  have hTn := hTri.2.2.1
  have hTok : TRok TR := ⟨h10, fun q hq => ⟨by have := (hTn q hq).1; omega, by have := (hTn q hq).2; omega⟩⟩
  cases n with
  | zero =>
    refine ⟨-3, nI 0, (nI wl), (nI TR.length), (nI O), t_left, t_right, t_group, t_paired, (nI TR.length), n_planned, n_leaps, m_state, ?_, ?_, ?_⟩
    · unfold m_X5_pop
      rw [if_neg (by decide)]
    · unfold m_X6_pop
      rw [hR.1, if_pos (show nI 0 = 0 from rfl)]
    · exact ⟨⟨0, ⟨rfl, hR, hN, hXY, wl, ws, rfl, hwl, rfl, hws, hF⟩, ⟨TR, O, hTri, rfl, rfl, hL, rfl, hLP, hz, hpl⟩⟩, ⟨len, hlen, rfl, rfl, hsg⟩, ⟨k, hk, rfl, hkp, hk0, hk1⟩⟩
  | succ m =>
    obtain ⟨w', hw1, hw2, hw3⟩ := wm5 (w := wl) (m := m + 1) (i := m) (by omega) hwl (by omega) false
    have hw4 : w' < 2 ^ m := by
      refine lt_of_bits ?_
      intro k hk
      rw [hw3 k]
      by_cases hkm : k = m
      · rw [if_pos hkm]
      · rw [if_neg hkm]; exact tb_lt hwl (by omega)
    obtain ⟨q1, q2, q3, q4, q5, q6, q7, q8, q9, hq, hq2⟩ := relay (show m ≤ 8 by omega) (near := b_near) (xs := b_xs) (ys := b_ys) (onward := n_onward) hN hz (nI TR.length) (nI O) t_left t_right t_group t_paired (nI TR.length) n_planned n_leaps
    refine ⟨nI m, nI m, nI w', q1, q2, q3, q4, q5, q6, q7, q8, q9, upd m_state 0 (nI m), ?_, ?_, ?_⟩
    · unfold m_X5_pop m_X0_removeLastPoint
      have hw1' : m_X5_withMember (nI wl) (nI m) 0 = some (nI w') := hw1
      rw [if_pos (by rw [i0, ltN (by omega) (by omega)]; omega), predS, hw1', bd1_s, bd2_s, hq, bd9_s]
    · unfold m_X6_pop
      rw [hR.1, if_neg (by rw [i0, eqN (by omega) (by omega)]; omega), predS, upd_s]
    · refine ⟨⟨m, ⟨rfl, ⟨upd_s _ _ _, by omega, ?_, ?_⟩, hN, hXY, w', ws, rfl, hw4, rfl, hws, ?_, ?_⟩, hq2 _ _ _⟩, ⟨len, hlen, rfl, rfl, hsg⟩, ⟨k, hk, rfl, hkp, hk0, hk1⟩⟩
      · intro p hp
        rw [upd_n _ _ (by omega), upd_n _ _ (by omega), upd_n _ _ (by omega)]
        exact hR.2.2.1 p hp
      · rw [upd_n _ _ (by omega)]; exact hR.2.2.2
      · intro p hp
        rw [upd_n _ _ (by omega), hw3 p, if_neg (by omega)]
        exact hF.1 p (by omega)
      · intro j hj
        rw [upd_n _ _ (by omega)]
        exact hF.2 j hj
theorem op_move : Op_move Iv0 := by
  intro s_kept b_points b_near b_loose b_short b_nets b_xs b_ys t_total t_oft t_left t_right t_group t_paired n_total n_planned n_leaps n_onward nb_len nb_sum nb_tries nn_len nn_sum nn_tries p_len p_signs i_points i_near i_loose i_short i_nets i_xs i_ys j_points j_near j_loose j_short j_nets j_xs j_ys m_said m_tries m_state m_images m_isKept m_pad m_leftOf m_rightOf m_isApart m_group m_isPair m_isOne m_order m_rest m_aside m_others hIv p1 p2 p3
  obtain ⟨⟨n, ⟨rfl, hR, hN, hXY, wl, ws, rfl, hwl, rfl, hws, hF⟩, TR, O, hTri, rfl, rfl, hL, rfl, hLP, hz, hpl⟩, ⟨len, hlen, rfl, rfl, hsg⟩, ⟨k, hk, rfl, hkp, hk0, hk1⟩⟩ := hIv
  have hn : n ≤ 8 := hR.2.1
  have h10 := hTri.1
  have hO := hTri.2.1
  have hTn := hTri.2.2.1
  have hTok : TRok TR := ⟨h10, fun q hq => ⟨by have := (hTn q hq).1; omega, by have := (hTn q hq).2; omega⟩⟩
  by_cases h1 : 0 ≤ p1.toInt ∧ p1.toInt < n
  · obtain ⟨j, hj, e1, e2⟩ := nN p1 h1.1 (by omega)
    have hjn : j < n := by omega
    by_cases h2 : (0 ≤ p2.toInt ∧ p2.toInt ≤ 20) ∧ (0 ≤ p3.toInt ∧ p3.toInt ≤ 20)
    · have hXY' := inB_upd (j := j) hXY h2.1 h2.2
      obtain ⟨q1, q2, q3, q4, q5, q6, q7, q8, q9, hq, hq2⟩ := relay hn (near := b_near) (xs := upd b_xs j p2) (ys := upd b_ys j p3) (onward := n_onward) hN hz (nI TR.length) (nI O) t_left t_right t_group t_paired (nI TR.length) n_planned n_leaps
      have h9 := hR.2.2.1 j (by omega)
      refine ⟨21 * b_xs j + b_ys j, upd b_xs j p2, upd b_ys j p3, q1, q2, q3, q4, q5, q6, q7, q8, q9, upd (upd m_state (9 + j) p2) (17 + j) p3, ?_, ?_, ?_⟩
      · unfold m_X5_move
        rw [hasPoint5 (by omega), bd1_s, decide_eq_true h1, if_neg (show ¬ bi true = 0 by decide), isOnBoard5, bd1_s, decide_eq_true h2, if_neg (show ¬ bi true = 0 by decide), e2, gN (show j < 8 by omega) (by omega)]
        simp only [grd_tt]
        rw [cN (by omega), hq, bd9_s]
      · unfold m_X6_move
        rw [isPoint6 (by omega) hR.1, bd1_s, decide_eq_true h1, if_neg (show ¬ bi true = 0 by decide), isHere6, bd1_s, decide_eq_true h2, if_neg (show ¬ bi true = 0 by decide), e2]
        simp (disch := omega) only [i9, i17, addN, gN, grd_tt, cN]
        rw [h9.2.1, h9.2.2, bd1_s]
      · refine ⟨⟨n, ⟨rfl, ⟨?_, hn, ?_, ?_⟩, hN, hXY', wl, ws, rfl, hwl, rfl, hws, ?_, ?_⟩, hq2 _ _ _⟩, ⟨len, hlen, rfl, rfl, hsg⟩, ⟨k, hk, rfl, hkp, hk0, hk1⟩⟩
        · rw [upd_n _ _ (by omega), upd_n _ _ (by omega)]; exact hR.1
        · intro p hp
          have h8 := hR.2.2.1 p hp
          by_cases hpj : p = j
          · subst hpj
            refine ⟨?_, ?_, ?_⟩
            · rw [upd_n _ _ (by omega), upd_n _ _ (by omega)]; exact h8.1
            · rw [upd_n _ _ (by omega), upd_s, upd_s]
            · rw [upd_s, upd_s]
          · rw [upd_n b_xs _ hpj, upd_n b_ys _ hpj]
            refine ⟨?_, ?_, ?_⟩
            · rw [upd_n _ _ (by omega), upd_n _ _ (by omega)]; exact h8.1
            · rw [upd_n _ _ (by omega), upd_n _ _ (by omega)]; exact h8.2.1
            · rw [upd_n _ _ (by omega), upd_n _ _ (by omega)]; exact h8.2.2
        · rw [upd_n _ _ (by omega), upd_n _ _ (by omega)]; exact hR.2.2.2
        · intro p hp
          rw [upd_n _ _ (by omega), upd_n _ _ (by omega)]; exact hF.1 p hp
        · intro i hi
          rw [upd_n _ _ (by omega), upd_n _ _ (by omega)]; exact hF.2 i hi
    · refine ⟨-2, b_xs, b_ys, (nI TR.length), (nI O), t_left, t_right, t_group, t_paired, (nI TR.length), n_planned, n_leaps, m_state, ?_, ?_, ?_⟩
      · unfold m_X5_move
        rw [hasPoint5 (by omega), bd1_s, decide_eq_true h1, if_neg (show ¬ bi true = 0 by decide), isOnBoard5, bd1_s, decide_eq_false h2, if_pos (show bi false = 0 from rfl)]
      · unfold m_X6_move
        rw [isPoint6 (by omega) hR.1, bd1_s, decide_eq_true h1, if_neg (show ¬ bi true = 0 by decide), isHere6, bd1_s, decide_eq_false h2, if_pos (show bi false = 0 from rfl)]
      · exact ⟨⟨n, ⟨rfl, hR, hN, hXY, wl, ws, rfl, hwl, rfl, hws, hF⟩, ⟨TR, O, hTri, rfl, rfl, hL, rfl, hLP, hz, hpl⟩⟩, ⟨len, hlen, rfl, rfl, hsg⟩, ⟨k, hk, rfl, hkp, hk0, hk1⟩⟩
  · refine ⟨-1, b_xs, b_ys, (nI TR.length), (nI O), t_left, t_right, t_group, t_paired, (nI TR.length), n_planned, n_leaps, m_state, ?_, ?_, ?_⟩
    · unfold m_X5_move
      rw [hasPoint5 (by omega), bd1_s, decide_eq_false h1, if_pos (show bi false = 0 from rfl)]
    · unfold m_X6_move
      rw [isPoint6 (by omega) hR.1, bd1_s, decide_eq_false h1, if_pos (show bi false = 0 from rfl)]
    · exact ⟨⟨n, ⟨rfl, hR, hN, hXY, wl, ws, rfl, hwl, rfl, hws, hF⟩, ⟨TR, O, hTri, rfl, rfl, hL, rfl, hLP, hz, hpl⟩⟩, ⟨len, hlen, rfl, rfl, hsg⟩, ⟨k, hk, rfl, hkp, hk0, hk1⟩⟩
theorem op_near : Op_near Iv0 := by
  intro s_kept b_points b_near b_loose b_short b_nets b_xs b_ys t_total t_oft t_left t_right t_group t_paired n_total n_planned n_leaps n_onward nb_len nb_sum nb_tries nn_len nn_sum nn_tries p_len p_signs i_points i_near i_loose i_short i_nets i_xs i_ys j_points j_near j_loose j_short j_nets j_xs j_ys m_said m_tries m_state m_images m_isKept m_pad m_leftOf m_rightOf m_isApart m_group m_isPair m_isOne m_order m_rest m_aside m_others hIv p1
  obtain ⟨⟨n, ⟨rfl, hR, hN, hXY, wl, ws, rfl, hwl, rfl, hws, hF⟩, TR, O, hTri, rfl, rfl, hL, rfl, hLP, hz, hpl⟩, ⟨len, hlen, rfl, rfl, hsg⟩, ⟨k, hk, rfl, hkp, hk0, hk1⟩⟩ := hIv
  have hn : n ≤ 8 := hR.2.1
  have h10 := hTri.1
  have hO := hTri.2.1
  have hTn := hTri.2.2.1
  have hTok : TRok TR := ⟨h10, fun q hq => ⟨by have := (hTn q hq).1; omega, by have := (hTn q hq).2; omega⟩⟩
  have z0 : (0 : Int32).toInt = 0 := rfl
  have z8 : (800 : Int32).toInt = 800 := rfl
  by_cases h1 : 0 ≤ p1.toInt ∧ p1.toInt ≤ 800
  · obtain ⟨q1, q2, q3, q4, q5, q6, q7, q8, q9, hq, hq2⟩ := relay hn (near := p1) (xs := b_xs) (ys := b_ys) (onward := n_onward) hN hz (nI TR.length) (nI O) t_left t_right t_group t_paired (nI TR.length) n_planned n_leaps
    refine ⟨b_near, p1, q1, q2, q3, q4, q5, q6, q7, q8, q9, upd m_state 33 p1, ?_, ?_, ?_⟩
    · unfold m_X5_near
      rw [if_neg (by rw [ltI, z0]; omega), if_pos (by rw [leI, z8]; omega), hq, bd9_s]
    · unfold m_X6_near
      rw [in6, bd1_s, z0, z8, decide_eq_true h1, if_neg (show ¬ bi true = 0 by decide), hR.2.2.2]
    · refine ⟨⟨n, ⟨rfl, ⟨?_, hn, ?_, upd_s _ _ _⟩, hN, hXY, wl, ws, rfl, hwl, rfl, hws, ?_, ?_⟩, hq2 _ _ _⟩, ⟨len, hlen, rfl, rfl, hsg⟩, ⟨k, hk, rfl, hkp, hk0, hk1⟩⟩
      · rw [upd_n _ _ (by omega)]; exact hR.1
      · intro p hp
        rw [upd_n _ _ (by omega), upd_n _ _ (by omega), upd_n _ _ (by omega)]; exact hR.2.2.1 p hp
      · intro p hp
        rw [upd_n _ _ (by omega)]; exact hF.1 p hp
      · intro j hj
        rw [upd_n _ _ (by omega)]; exact hF.2 j hj
  · refine ⟨-2, b_near, (nI TR.length), (nI O), t_left, t_right, t_group, t_paired, (nI TR.length), n_planned, n_leaps, m_state, ?_, ?_, ?_⟩
    · unfold m_X5_near
      by_cases h2 : p1.toInt < 0
      · rw [if_pos (by rw [ltI, z0]; exact h2)]
      · rw [if_neg (by rw [ltI, z0]; exact h2), if_neg (by rw [leI, z8]; omega)]
    · unfold m_X6_near
      rw [in6, bd1_s, z0, z8, decide_eq_false h1, if_pos (show bi false = 0 from rfl)]
    · exact ⟨⟨n, ⟨rfl, hR, hN, hXY, wl, ws, rfl, hwl, rfl, hws, hF⟩, ⟨TR, O, hTri, rfl, rfl, hL, rfl, hLP, hz, hpl⟩⟩, ⟨len, hlen, rfl, rfl, hsg⟩, ⟨k, hk, rfl, hkp, hk0, hk1⟩⟩
