/-! ===== flaws and what is SEEN ===== -/
theorem op_attempt : Op_attempt Iv0 := by
  intro s_kept b_points b_near b_loose b_short b_nets b_xs b_ys t_total t_oft t_left t_right t_group t_paired n_total n_planned n_leaps n_onward nb_len nb_sum nb_tries nn_len nn_sum nn_tries p_len p_signs i_points i_near i_loose i_short i_nets i_xs i_ys j_points j_near j_loose j_short j_nets j_xs j_ys m_said m_tries m_state m_images m_isKept m_pad m_leftOf m_rightOf m_isApart m_group m_isPair m_isOne m_order m_rest m_aside m_others hIv p1 p2
  obtain ⟨⟨n, ⟨rfl, hR, hN, hXY, wl, ws, rfl, hwl, rfl, hws, hF⟩, TR, O, hTri, rfl, rfl, hL, rfl, hLP, hz, hpl⟩, ⟨len, hlen, rfl, rfl, hsg⟩, ⟨k, hk, rfl, hkp, hk0, hk1⟩⟩ := hIv
  have hn : n ≤ 8 := hR.2.1
  have h10 := hTri.1
  have hO := hTri.2.1
  have hTn := hTri.2.2.1
  have hTok : TRok TR := ⟨h10, fun q hq => ⟨by have := (hTn q hq).1; omega, by have := (hTn q hq).2; omega⟩⟩
  obtain ⟨l9, r9, a9, g9, i9, hlay, hL9, hA9⟩ := hTri.2.2.2.2 m_state hR m_tries m_leftOf m_rightOf m_isApart m_group m_isPair
  by_cases h1 : 0 ≤ p1.toInt ∧ p1.toInt < TR.length
  · obtain ⟨t, ht, e1, e2⟩ := nN p1 h1.1 (by omega)
    have htT : t < TR.length := by omega
    obtain ⟨o9, hs9, hO9⟩ := seen6 hR hN h10 hTn hL9 hA9 hws hF m_isOne
    obtain ⟨c1, c2⟩ := Lr_at hL htT
    obtain ⟨c3, c4⟩ := Lr_at hL9 htT
    have hcd5 := conducts5 hN hTok hL wl hws htT
    have hcd6 := conducts6 hR hN h10 hTn hL9 hF hO9 htT
    have hsn5 := seen5 hN hTok hL hO wl hws
    by_cases q0 : p2 = 0
    · refine ⟨nI (TR.getD t (0, 0)).1, nI TR.length, l9, r9, a9, g9, i9, o9, ?_, ?_, ?_⟩
      · unfold m_X5_attempt
        rw [hasTry5 (by omega), bd1_s, decide_eq_true h1, if_neg (show ¬ bi true = 0 by decide), if_pos q0, e2, gN (by omega) (by omega), grd_tt, cN (by omega), c1]
      · unfold m_X6_attempt
        rw [hlay, bd6_s, isTry6 (by omega), bd1_s, decide_eq_true h1, if_neg (show ¬ bi true = 0 by decide), hs9, bd2_s, if_pos q0, e2, gN (by omega) (by omega), grd_tt, cN (by omega), c3]
      · exact ⟨⟨n, ⟨rfl, hR, hN, hXY, wl, ws, rfl, hwl, rfl, hws, hF⟩, ⟨TR, O, hTri, rfl, rfl, hL, rfl, hLP, hz, hpl⟩⟩, ⟨len, hlen, rfl, rfl, hsg⟩, ⟨k, hk, rfl, hkp, hk0, hk1⟩⟩
    by_cases q1 : p2 = 1
    · refine ⟨nI (TR.getD t (0, 0)).2, nI TR.length, l9, r9, a9, g9, i9, o9, ?_, ?_, ?_⟩
      · unfold m_X5_attempt
        rw [hasTry5 (by omega), bd1_s, decide_eq_true h1, if_neg (show ¬ bi true = 0 by decide), if_neg q0, if_pos q1, e2, gN (by omega) (by omega), grd_tt, cN (by omega), c2]
      · unfold m_X6_attempt
        rw [hlay, bd6_s, isTry6 (by omega), bd1_s, decide_eq_true h1, if_neg (show ¬ bi true = 0 by decide), hs9, bd2_s, if_neg q0, if_pos q1, e2, gN (by omega) (by omega), grd_tt, cN (by omega), c4]
      · exact ⟨⟨n, ⟨rfl, hR, hN, hXY, wl, ws, rfl, hwl, rfl, hws, hF⟩, ⟨TR, O, hTri, rfl, rfl, hL, rfl, hLP, hz, hpl⟩⟩, ⟨len, hlen, rfl, rfl, hsg⟩, ⟨k, hk, rfl, hkp, hk0, hk1⟩⟩
    by_cases q2 : p2 = 2
    · refine ⟨bi (decide (O ≤ t)), nI TR.length, l9, r9, a9, g9, i9, o9, ?_, ?_, ?_⟩
      · unfold m_X5_attempt m_X4_isOfNeighbours
        rw [hasTry5 (by omega), bd1_s, decide_eq_true h1, if_neg (show ¬ bi true = 0 by decide), if_neg q0, if_neg q1, if_pos q2, e2]
        by_cases h : t < O
        · rw [if_pos (by rw [ltN (by omega) (by omega)]; exact h), decide_eq_false (by omega)]; rfl
        · rw [if_neg (by rw [ltN (by omega) (by omega)]; exact h), decide_eq_true (by omega)]; rfl
      · unfold m_X6_attempt
        rw [hlay, bd6_s, isTry6 (by omega), bd1_s, decide_eq_true h1, if_neg (show ¬ bi true = 0 by decide), hs9, bd2_s, if_neg q0, if_neg q1, if_pos q2, e2, gN (by omega) (by omega), grd_tt, cN (by omega), hA9 t htT]
        cases decide (O ≤ t) <;> rfl
      · exact ⟨⟨n, ⟨rfl, hR, hN, hXY, wl, ws, rfl, hwl, rfl, hws, hF⟩, ⟨TR, O, hTri, rfl, rfl, hL, rfl, hLP, hz, hpl⟩⟩, ⟨len, hlen, rfl, rfl, hsg⟩, ⟨k, hk, rfl, hkp, hk0, hk1⟩⟩
    by_cases q3 : p2 = 3
    · refine ⟨bi (cdB b_nets TR wl ws t), nI TR.length, l9, r9, a9, g9, i9, o9, ?_, ?_, ?_⟩
      · unfold m_X5_attempt
        rw [hasTry5 (by omega), bd1_s, decide_eq_true h1, if_neg (show ¬ bi true = 0 by decide), if_neg q0, if_neg q1, if_neg q2, if_pos q3, e2, hcd5, bd1_s]
        cases cdB b_nets TR wl ws t <;> rfl
      · unfold m_X6_attempt
        rw [hlay, bd6_s, isTry6 (by omega), bd1_s, decide_eq_true h1, if_neg (show ¬ bi true = 0 by decide), hs9, bd2_s, if_neg q0, if_neg q1, if_neg q2, if_pos q3, e2, hcd6, bd1_s]
        cases cdB b_nets TR wl ws t <;> rfl
      · exact ⟨⟨n, ⟨rfl, hR, hN, hXY, wl, ws, rfl, hwl, rfl, hws, hF⟩, ⟨TR, O, hTri, rfl, rfl, hL, rfl, hLP, hz, hpl⟩⟩, ⟨len, hlen, rfl, rfl, hsg⟩, ⟨k, hk, rfl, hkp, hk0, hk1⟩⟩
    by_cases q4 : p2 = 4
    · refine ⟨bi ((snM b_nets TR O wl ws TR.length).testBit t), nI TR.length, l9, r9, a9, g9, i9, o9, ?_, ?_, ?_⟩
      · unfold m_X5_attempt m_X5_seenNow
        rw [hasTry5 (by omega), bd1_s, decide_eq_true h1, if_neg (show ¬ bi true = 0 by decide), if_neg q0, if_neg q1, if_neg q2, if_neg q3, if_pos q4, hsn5, bd1_s, bd1_s, e2, isIn_eq _ (by omega), bd1_s, bt_nI (by omega)]
        cases (snM b_nets TR O wl ws TR.length).testBit t <;> rfl
      · unfold m_X6_attempt
        rw [hlay, bd6_s, isTry6 (by omega), bd1_s, decide_eq_true h1, if_neg (show ¬ bi true = 0 by decide), hs9, bd2_s, if_neg q0, if_neg q1, if_neg q2, if_neg q3, if_pos q4, e2, shr1 _ (by omega), bt_nI (by omega)]
      · exact ⟨⟨n, ⟨rfl, hR, hN, hXY, wl, ws, rfl, hwl, rfl, hws, hF⟩, ⟨TR, O, hTri, rfl, rfl, hL, rfl, hLP, hz, hpl⟩⟩, ⟨len, hlen, rfl, rfl, hsg⟩, ⟨k, hk, rfl, hkp, hk0, hk1⟩⟩
    · refine ⟨-2, nI TR.length, l9, r9, a9, g9, i9, o9, ?_, ?_, ?_⟩
      · unfold m_X5_attempt
        rw [hasTry5 (by omega), bd1_s, decide_eq_true h1, if_neg (show ¬ bi true = 0 by decide), if_neg q0, if_neg q1, if_neg q2, if_neg q3, if_neg q4]
      · unfold m_X6_attempt
        rw [hlay, bd6_s, isTry6 (by omega), bd1_s, decide_eq_true h1, if_neg (show ¬ bi true = 0 by decide), hs9, bd2_s, if_neg q0, if_neg q1, if_neg q2, if_neg q3, if_neg q4]
      · exact ⟨⟨n, ⟨rfl, hR, hN, hXY, wl, ws, rfl, hwl, rfl, hws, hF⟩, ⟨TR, O, hTri, rfl, rfl, hL, rfl, hLP, hz, hpl⟩⟩, ⟨len, hlen, rfl, rfl, hsg⟩, ⟨k, hk, rfl, hkp, hk0, hk1⟩⟩
  · refine ⟨-1, nI TR.length, l9, r9, a9, g9, i9, m_isOne, ?_, ?_, ?_⟩
    · unfold m_X5_attempt
      rw [hasTry5 (by omega), bd1_s, decide_eq_false h1, if_pos (show bi false = 0 from rfl)]
    · unfold m_X6_attempt
      rw [hlay, bd6_s, isTry6 (by omega), bd1_s, decide_eq_false h1, if_pos (show bi false = 0 from rfl)]
    · exact ⟨⟨n, ⟨rfl, hR, hN, hXY, wl, ws, rfl, hwl, rfl, hws, hF⟩, ⟨TR, O, hTri, rfl, rfl, hL, rfl, hLP, hz, hpl⟩⟩, ⟨len, hlen, rfl, rfl, hsg⟩, ⟨k, hk, rfl, hkp, hk0, hk1⟩⟩
theorem op_loosen : Op_loosen Iv0 := by
  intro s_kept b_points b_near b_loose b_short b_nets b_xs b_ys t_total t_oft t_left t_right t_group t_paired n_total n_planned n_leaps n_onward nb_len nb_sum nb_tries nn_len nn_sum nn_tries p_len p_signs i_points i_near i_loose i_short i_nets i_xs i_ys j_points j_near j_loose j_short j_nets j_xs j_ys m_said m_tries m_state m_images m_isKept m_pad m_leftOf m_rightOf m_isApart m_group m_isPair m_isOne m_order m_rest m_aside m_others hIv p1 p2
  obtain ⟨⟨n, ⟨rfl, hR, hN, hXY, wl, ws, rfl, hwl, rfl, hws, hF⟩, TR, O, hTri, rfl, rfl, hL, rfl, hLP, hz, hpl⟩, ⟨len, hlen, rfl, rfl, hsg⟩, ⟨k, hk, rfl, hkp, hk0, hk1⟩⟩ := hIv
  have hn : n ≤ 8 := hR.2.1
  have h10 := hTri.1
  have hO := hTri.2.1
  have hTn := hTri.2.2.1
  have hTok : TRok TR := ⟨h10, fun q hq => ⟨by have := (hTn q hq).1; omega, by have := (hTn q hq).2; omega⟩⟩
  have z0 : (0 : Int32).toInt = 0 := rfl
  have z1 : (1 : Int32).toInt = 1 := rfl
  by_cases h1 : 0 ≤ p1.toInt ∧ p1.toInt < n
  · obtain ⟨j, hj, e1, e2⟩ := nN p1 h1.1 (by omega)
    have hjn : j < n := by omega
    by_cases h2 : 0 ≤ p2.toInt ∧ p2.toInt ≤ 1
    · obtain ⟨b, hb⟩ := sw_bi h2
      obtain ⟨w', hw1, hw2, hw3⟩ := wm5 (by omega) hwl hjn b
      have hF' : ∀ p, p < n → upd m_state (25 + j) p2 (25 + p) = bi (w'.testBit p) := by
        intro p hp
        rw [hw3 p]
        by_cases hpj : p = j
        · subst hpj; rw [upd_s, if_pos rfl, hb]
        · rw [upd_n _ _ (by omega), if_neg hpj]; exact hF.1 p hp
      refine ⟨nI (cnt (fun i => w'.testBit i) n), nI w', upd m_state (25 + j) p2, ?_, ?_, ?_⟩
      · unfold m_X5_loosen
        rw [hasPoint5 (by omega), bd1_s, decide_eq_true h1, if_neg (show ¬ bi true = 0 by decide), isSwitch5, bd1_s, decide_eq_true h2, if_neg (show ¬ bi true = 0 by decide), e2, hb, hw1, bd1_s, bc5 hn hw2, bd1_s]
      · unfold m_X6_loosen
        rw [isPoint6 (by omega) hR.1, bd1_s, decide_eq_true h1, if_neg (show ¬ bi true = 0 by decide), in6, bd1_s, z0, z1, decide_eq_true h2, if_neg (show ¬ bi true = 0 by decide), e2, i25, addN, gN (by omega) (by omega), grd_tt, cN (by omega), loose6 hn (by rw [upd_n _ _ (by omega)]; exact hR.1) hF', bd1_s]
      · refine ⟨⟨n, ⟨rfl, ⟨?_, hn, ?_, ?_⟩, hN, hXY, w', ws, rfl, hw2, rfl, hws, hF', ?_⟩, ⟨TR, O, hTri, rfl, rfl, hL, rfl, hLP, hz, hpl⟩⟩, ⟨len, hlen, rfl, rfl, hsg⟩, ⟨k, hk, rfl, hkp, hk0, hk1⟩⟩
        · rw [upd_n _ _ (by omega)]; exact hR.1
        · intro p hp
          rw [upd_n _ _ (by omega), upd_n _ _ (by omega), upd_n _ _ (by omega)]; exact hR.2.2.1 p hp
        · rw [upd_n _ _ (by omega)]; exact hR.2.2.2
        · intro i hi
          rw [upd_n _ _ (by omega)]; exact hF.2 i hi
    · refine ⟨-2, (nI wl), m_state, ?_, ?_, ?_⟩
      · unfold m_X5_loosen
        rw [hasPoint5 (by omega), bd1_s, decide_eq_true h1, if_neg (show ¬ bi true = 0 by decide), isSwitch5, bd1_s, decide_eq_false h2, if_pos (show bi false = 0 from rfl)]
      · unfold m_X6_loosen
        rw [isPoint6 (by omega) hR.1, bd1_s, decide_eq_true h1, if_neg (show ¬ bi true = 0 by decide), in6, bd1_s, z0, z1, decide_eq_false h2, if_pos (show bi false = 0 from rfl)]
      · exact ⟨⟨n, ⟨rfl, hR, hN, hXY, wl, ws, rfl, hwl, rfl, hws, hF⟩, ⟨TR, O, hTri, rfl, rfl, hL, rfl, hLP, hz, hpl⟩⟩, ⟨len, hlen, rfl, rfl, hsg⟩, ⟨k, hk, rfl, hkp, hk0, hk1⟩⟩
  · refine ⟨-1, (nI wl), m_state, ?_, ?_, ?_⟩
    · unfold m_X5_loosen
      rw [hasPoint5 (by omega), bd1_s, decide_eq_false h1, if_pos (show bi false = 0 from rfl)]
    · unfold m_X6_loosen
      rw [isPoint6 (by omega) hR.1, bd1_s, decide_eq_false h1, if_pos (show bi false = 0 from rfl)]
    · exact ⟨⟨n, ⟨rfl, hR, hN, hXY, wl, ws, rfl, hwl, rfl, hws, hF⟩, ⟨TR, O, hTri, rfl, rfl, hL, rfl, hLP, hz, hpl⟩⟩, ⟨len, hlen, rfl, rfl, hsg⟩, ⟨k, hk, rfl, hkp, hk0, hk1⟩⟩
theorem op_join : Op_join Iv0 := by
  intro s_kept b_points b_near b_loose b_short b_nets b_xs b_ys t_total t_oft t_left t_right t_group t_paired n_total n_planned n_leaps n_onward nb_len nb_sum nb_tries nn_len nn_sum nn_tries p_len p_signs i_points i_near i_loose i_short i_nets i_xs i_ys j_points j_near j_loose j_short j_nets j_xs j_ys m_said m_tries m_state m_images m_isKept m_pad m_leftOf m_rightOf m_isApart m_group m_isPair m_isOne m_order m_rest m_aside m_others hIv p1 p2 p3
  obtain ⟨⟨n, ⟨rfl, hR, hN, hXY, wl, ws, rfl, hwl, rfl, hws, hF⟩, TR, O, hTri, rfl, rfl, hL, rfl, hLP, hz, hpl⟩, ⟨len, hlen, rfl, rfl, hsg⟩, ⟨k, hk, rfl, hkp, hk0, hk1⟩⟩ := hIv
  have hn : n ≤ 8 := hR.2.1
  have h10 := hTri.1
  have hO := hTri.2.1
  have hTn := hTri.2.2.1
  have hTok : TRok TR := ⟨h10, fun q hq => ⟨by have := (hTn q hq).1; omega, by have := (hTn q hq).2; omega⟩⟩
  have z0 : (0 : Int32).toInt = 0 := rfl
  have z1 : (1 : Int32).toInt = 1 := rfl
  by_cases h1 : 0 ≤ p1.toInt ∧ p1.toInt < 4
  · by_cases h2 : 0 ≤ p2.toInt ∧ p2.toInt < 4
    · by_cases he : p1 = p2
      · refine ⟨-2, (nI ws), m_state, ?_, ?_, ?_⟩
        · unfold m_X5_join
          rw [isNet5, bd1_s, decide_eq_true h1, if_neg (show ¬ bi true = 0 by decide), isNet5, bd1_s, decide_eq_true h2, if_neg (show ¬ bi true = 0 by decide), if_pos he]
        · unfold m_X6_join_
          rw [isNet6, bd1_s, decide_eq_true h1, if_neg (show ¬ bi true = 0 by decide), isNet6, bd1_s, decide_eq_true h2, if_neg (show ¬ bi true = 0 by decide), if_pos he]
        · exact ⟨⟨n, ⟨rfl, hR, hN, hXY, wl, ws, rfl, hwl, rfl, hws, hF⟩, ⟨TR, O, hTri, rfl, rfl, hL, rfl, hLP, hz, hpl⟩⟩, ⟨len, hlen, rfl, rfl, hsg⟩, ⟨k, hk, rfl, hkp, hk0, hk1⟩⟩
      · by_cases h3 : 0 ≤ p3.toInt ∧ p3.toInt ≤ 1
        · obtain ⟨a, ha, e1, e2⟩ := nN p1 h1.1 (by omega)
          obtain ⟨c, hc, e3, e4⟩ := nN p2 h2.1 (by omega)
          obtain ⟨b, hb⟩ := sw_bi h3
          obtain ⟨r1, r2, r3⟩ := pr_all a (by omega) c (by omega) (fun e => he (by rw [e2, e4, e]))
          obtain ⟨w', hw1, hw2, hw3⟩ := wm5 (w := ws) (m := 6) (by omega) hws r2 b
          have hF' : ∀ j, j < 6 → upd m_state (34 + prN a c) p3 (34 + j) = bi (w'.testBit j) := by
            intro j hj
            rw [hw3 j]
            by_cases hpj : j = prN a c
            · subst hpj; rw [upd_s, if_pos rfl, hb]
            · rw [upd_n _ _ (by omega), if_neg hpj]; exact hF.2 j hj
          refine ⟨nI (cnt (fun i => w'.testBit i) 6), nI w', upd m_state (34 + prN a c) p3, ?_, ?_, ?_⟩
          · unfold m_X5_join
            rw [isNet5, bd1_s, decide_eq_true h1, if_neg (show ¬ bi true = 0 by decide), isNet5, bd1_s, decide_eq_true h2, if_neg (show ¬ bi true = 0 by decide), if_neg he, isSwitch5, bd1_s, decide_eq_true h3, if_neg (show ¬ bi true = 0 by decide), e2, e4, r3, bd1_s, hb, hw1, bd1_s, bc5 (n := 6) (by omega) hw2, bd1_s]
          · unfold m_X6_join_
            rw [isNet6, bd1_s, decide_eq_true h1, if_neg (show ¬ bi true = 0 by decide), isNet6, bd1_s, decide_eq_true h2, if_neg (show ¬ bi true = 0 by decide), if_neg he, in6, bd1_s, z0, z1, decide_eq_true h3, if_neg (show ¬ bi true = 0 by decide), e2, e4, r1, bd1_s, i34, addN, gN (by omega) (by omega), grd_tt, cN (by omega), short6 hF', bd1_s]
          · refine ⟨⟨n, ⟨rfl, ⟨?_, hn, ?_, ?_⟩, hN, hXY, wl, w', rfl, hwl, rfl, hw2, ?_, hF'⟩, ⟨TR, O, hTri, rfl, rfl, hL, rfl, hLP, hz, hpl⟩⟩, ⟨len, hlen, rfl, rfl, hsg⟩, ⟨k, hk, rfl, hkp, hk0, hk1⟩⟩
            · rw [upd_n _ _ (by omega)]; exact hR.1
            · intro p hp
              rw [upd_n _ _ (by omega), upd_n _ _ (by omega), upd_n _ _ (by omega)]; exact hR.2.2.1 p hp
            · rw [upd_n _ _ (by omega)]; exact hR.2.2.2
            · intro p hp
              rw [upd_n _ _ (by omega)]; exact hF.1 p hp
        · refine ⟨-2, (nI ws), m_state, ?_, ?_, ?_⟩
          · unfold m_X5_join
            rw [isNet5, bd1_s, decide_eq_true h1, if_neg (show ¬ bi true = 0 by decide), isNet5, bd1_s, decide_eq_true h2, if_neg (show ¬ bi true = 0 by decide), if_neg he, isSwitch5, bd1_s, decide_eq_false h3, if_pos (show bi false = 0 from rfl)]
          · unfold m_X6_join_
            rw [isNet6, bd1_s, decide_eq_true h1, if_neg (show ¬ bi true = 0 by decide), isNet6, bd1_s, decide_eq_true h2, if_neg (show ¬ bi true = 0 by decide), if_neg he, in6, bd1_s, z0, z1, decide_eq_false h3, if_pos (show bi false = 0 from rfl)]
          · exact ⟨⟨n, ⟨rfl, hR, hN, hXY, wl, ws, rfl, hwl, rfl, hws, hF⟩, ⟨TR, O, hTri, rfl, rfl, hL, rfl, hLP, hz, hpl⟩⟩, ⟨len, hlen, rfl, rfl, hsg⟩, ⟨k, hk, rfl, hkp, hk0, hk1⟩⟩
    · refine ⟨-1, (nI ws), m_state, ?_, ?_, ?_⟩
      · unfold m_X5_join
        rw [isNet5, bd1_s, decide_eq_true h1, if_neg (show ¬ bi true = 0 by decide), isNet5, bd1_s, decide_eq_false h2, if_pos (show bi false = 0 from rfl)]
      · unfold m_X6_join_
        rw [isNet6, bd1_s, decide_eq_true h1, if_neg (show ¬ bi true = 0 by decide), isNet6, bd1_s, decide_eq_false h2, if_pos (show bi false = 0 from rfl)]
      · exact ⟨⟨n, ⟨rfl, hR, hN, hXY, wl, ws, rfl, hwl, rfl, hws, hF⟩, ⟨TR, O, hTri, rfl, rfl, hL, rfl, hLP, hz, hpl⟩⟩, ⟨len, hlen, rfl, rfl, hsg⟩, ⟨k, hk, rfl, hkp, hk0, hk1⟩⟩
  · refine ⟨-1, (nI ws), m_state, ?_, ?_, ?_⟩
    · unfold m_X5_join
      rw [isNet5, bd1_s, decide_eq_false h1, if_pos (show bi false = 0 from rfl)]
    · unfold m_X6_join_
      rw [isNet6, bd1_s, decide_eq_false h1, if_pos (show bi false = 0 from rfl)]
    · exact ⟨⟨n, ⟨rfl, hR, hN, hXY, wl, ws, rfl, hwl, rfl, hws, hF⟩, ⟨TR, O, hTri, rfl, rfl, hL, rfl, hLP, hz, hpl⟩⟩, ⟨len, hlen, rfl, rfl, hsg⟩, ⟨k, hk, rfl, hkp, hk0, hk1⟩⟩
theorem op_sees : Op_sees Iv0 := by
  intro s_kept b_points b_near b_loose b_short b_nets b_xs b_ys t_total t_oft t_left t_right t_group t_paired n_total n_planned n_leaps n_onward nb_len nb_sum nb_tries nn_len nn_sum nn_tries p_len p_signs i_points i_near i_loose i_short i_nets i_xs i_ys j_points j_near j_loose j_short j_nets j_xs j_ys m_said m_tries m_state m_images m_isKept m_pad m_leftOf m_rightOf m_isApart m_group m_isPair m_isOne m_order m_rest m_aside m_others hIv 
  obtain ⟨⟨n, ⟨rfl, hR, hN, hXY, wl, ws, rfl, hwl, rfl, hws, hF⟩, TR, O, hTri, rfl, rfl, hL, rfl, hLP, hz, hpl⟩, ⟨len, hlen, rfl, rfl, hsg⟩, ⟨k, hk, rfl, hkp, hk0, hk1⟩⟩ := hIv
  have hn : n ≤ 8 := hR.2.1
  have h10 := hTri.1
  have hO := hTri.2.1
  have hTn := hTri.2.2.1
  have hTok : TRok TR := ⟨h10, fun q hq => ⟨by have := (hTn q hq).1; omega, by have := (hTn q hq).2; omega⟩⟩
  obtain ⟨l9, r9, a9, g9, i9, hlay, hL9, hA9⟩ := hTri.2.2.2.2 m_state hR m_tries m_leftOf m_rightOf m_isApart m_group m_isPair
  obtain ⟨o9, hs9, hO9⟩ := seen6 hR hN h10 hTn hL9 hA9 hws hF m_isOne
  refine ⟨nI (snM b_nets TR O wl ws TR.length), nI TR.length, l9, r9, a9, g9, i9, o9, ?_, ?_, ?_⟩
  · unfold m_X5_sees m_X5_seenNow
    rw [seen5 hN hTok hL hO wl hws, bd1_s, bd1_s]
  · unfold m_X6_sees
    rw [hlay, bd6_s, hs9, bd2_s]
  · exact ⟨⟨n, ⟨rfl, hR, hN, hXY, wl, ws, rfl, hwl, rfl, hws, hF⟩, ⟨TR, O, hTri, rfl, rfl, hL, rfl, hLP, hz, hpl⟩⟩, ⟨len, hlen, rfl, rfl, hsg⟩, ⟨k, hk, rfl, hkp, hk0, hk1⟩⟩
theorem op_fits : Op_fits Iv0 := by
  intro s_kept b_points b_near b_loose b_short b_nets b_xs b_ys t_total t_oft t_left t_right t_group t_paired n_total n_planned n_leaps n_onward nb_len nb_sum nb_tries nn_len nn_sum nn_tries p_len p_signs i_points i_near i_loose i_short i_nets i_xs i_ys j_points j_near j_loose j_short j_nets j_xs j_ys m_said m_tries m_state m_images m_isKept m_pad m_leftOf m_rightOf m_isApart m_group m_isPair m_isOne m_order m_rest m_aside m_others hIv p1
  obtain ⟨⟨n, ⟨rfl, hR, hN, hXY, wl, ws, rfl, hwl, rfl, hws, hF⟩, TR, O, hTri, rfl, rfl, hL, rfl, hLP, hz, hpl⟩, ⟨len, hlen, rfl, rfl, hsg⟩, ⟨k, hk, rfl, hkp, hk0, hk1⟩⟩ := hIv
  have hn : n ≤ 8 := hR.2.1
  have h10 := hTri.1
  have hO := hTri.2.1
  have hTn := hTri.2.2.1
  have hTok : TRok TR := ⟨h10, fun q hq => ⟨by have := (hTn q hq).1; omega, by have := (hTn q hq).2; omega⟩⟩
  obtain ⟨l9, r9, a9, g9, i9, hlay, hL9, hA9⟩ := hTri.2.2.2.2 m_state hR m_tries m_leftOf m_rightOf m_isApart m_group m_isPair
  obtain ⟨o9, hs9, hO9⟩ := seen6 hR hN h10 hTn hL9 hA9 hws hF m_isOne
  obtain ⟨o8, d8, h8⟩ := fits6_loop (g := g9) (ip := i9) hR hN h10 hTn hL9 hA9 p1 (nI (snM b_nets TR O wl ws TR.length)) 26 0 (by omega) FU (by show _ < 4096; omega) 0 o9 m_aside
  refine ⟨fsA (hitB n b_nets TR O (nI (snM b_nets TR O wl ws TR.length))) p1 26 0 0, nI TR.length, m_state, l9, r9, a9, g9, i9, o8, d8, ?_, ?_, ?_⟩
  · unfold m_X5_fits m_X5_seenNow
    rw [seen5 hN hTok hL hO wl hws, bd1_s, bd1_s, fsa5 hN hTok hL hO hn, bd1_s]
  · unfold m_X6_fits
    rw [hlay, bd6_s, hs9, bd2_s]
    exact h8
  · exact ⟨⟨n, ⟨rfl, hR, hN, hXY, wl, ws, rfl, hwl, rfl, hws, hF⟩, ⟨TR, O, hTri, rfl, rfl, hL, rfl, hLP, hz, hpl⟩⟩, ⟨len, hlen, rfl, rfl, hsg⟩, ⟨k, hk, rfl, hkp, hk0, hk1⟩⟩
theorem op_hidden : Op_hidden Iv0 := by
  intro s_kept b_points b_near b_loose b_short b_nets b_xs b_ys t_total t_oft t_left t_right t_group t_paired n_total n_planned n_leaps n_onward nb_len nb_sum nb_tries nn_len nn_sum nn_tries p_len p_signs i_points i_near i_loose i_short i_nets i_xs i_ys j_points j_near j_loose j_short j_nets j_xs j_ys m_said m_tries m_state m_images m_isKept m_pad m_leftOf m_rightOf m_isApart m_group m_isPair m_isOne m_order m_rest m_aside m_others hIv p1
  obtain ⟨⟨n, ⟨rfl, hR, hN, hXY, wl, ws, rfl, hwl, rfl, hws, hF⟩, TR, O, hTri, rfl, rfl, hL, rfl, hLP, hz, hpl⟩, ⟨len, hlen, rfl, rfl, hsg⟩, ⟨k, hk, rfl, hkp, hk0, hk1⟩⟩ := hIv
  have hn : n ≤ 8 := hR.2.1
  have h10 := hTri.1
  have hO := hTri.2.1
  have hTn := hTri.2.2.1
  have hTok : TRok TR := ⟨h10, fun q hq => ⟨by have := (hTn q hq).1; omega, by have := (hTn q hq).2; omega⟩⟩
  have z0 : (0 : Int32).toInt = 0 := rfl
  have z1 : (1 : Int32).toInt = 1 := rfl
  by_cases h1 : 0 ≤ p1.toInt ∧ p1.toInt ≤ 1
  · obtain ⟨l9, r9, a9, g9, i9, hlay, hL9, hA9⟩ := hTri.2.2.2.2 m_state hR m_tries m_leftOf m_rightOf m_isApart m_group m_isPair
    obtain ⟨o8, d8, h8⟩ := hid6_loop (g := g9) (ip := i9) hR hN h10 hTn hL9 hA9 p1 26 0 (by omega) FU (by show _ < 4096; omega) m_isOne m_aside
    refine ⟨(if p1 = 0 then nI (cF (hitB n b_nets TR O 0) 26 0) else fF (hitB n b_nets TR O 0) 26 0), nI TR.length, m_state, l9, r9, a9, g9, i9, o8, d8, ?_, ?_, ?_⟩
    · unfold m_X5_hidden
      rw [isSwitch5, bd1_s, decide_eq_true h1, if_neg (show ¬ bi true = 0 by decide), fsa5 hN hTok hL hO hn, fsa5 hN hTok hL hO hn, bd1_s, bd1_s]
      by_cases hp : p1 = 0
      · rw [if_pos hp, if_pos hp]
        have h9 := fsA_m1 (hit := hitB n b_nets TR O 0) 26 0 0 (by omega)
        rw [Nat.zero_add] at h9
        exact congrArg some h9
      · rw [if_neg hp, if_neg hp, fsA_0]
    · unfold m_X6_hidden
      rw [in6, bd1_s, z0, z1, decide_eq_true h1, if_neg (show ¬ bi true = 0 by decide), hlay, bd6_s]
      exact h8
    · exact ⟨⟨n, ⟨rfl, hR, hN, hXY, wl, ws, rfl, hwl, rfl, hws, hF⟩, ⟨TR, O, hTri, rfl, rfl, hL, rfl, hLP, hz, hpl⟩⟩, ⟨len, hlen, rfl, rfl, hsg⟩, ⟨k, hk, rfl, hkp, hk0, hk1⟩⟩
  · refine ⟨-2, m_tries, m_state, m_leftOf, m_rightOf, m_isApart, m_group, m_isPair, m_isOne, m_aside, ?_, ?_, ?_⟩
    · unfold m_X5_hidden
      rw [isSwitch5, bd1_s, decide_eq_false h1, if_pos (show bi false = 0 from rfl)]
    · unfold m_X6_hidden
      rw [in6, bd1_s, z0, z1, decide_eq_false h1, if_pos (show bi false = 0 from rfl)]
    · exact ⟨⟨n, ⟨rfl, hR, hN, hXY, wl, ws, rfl, hwl, rfl, hws, hF⟩, ⟨TR, O, hTri, rfl, rfl, hL, rfl, hLP, hz, hpl⟩⟩, ⟨len, hlen, rfl, rfl, hsg⟩, ⟨k, hk, rfl, hkp, hk0, hk1⟩⟩
theorem op_halves : Op_halves Iv0 := by
  intro s_kept b_points b_near b_loose b_short b_nets b_xs b_ys t_total t_oft t_left t_right t_group t_paired n_total n_planned n_leaps n_onward nb_len nb_sum nb_tries nn_len nn_sum nn_tries p_len p_signs i_points i_near i_loose i_short i_nets i_xs i_ys j_points j_near j_loose j_short j_nets j_xs j_ys m_said m_tries m_state m_images m_isKept m_pad m_leftOf m_rightOf m_isApart m_group m_isPair m_isOne m_order m_rest m_aside m_others hIv p1 p2
  obtain ⟨⟨n, ⟨rfl, hR, hN, hXY, wl, ws, rfl, hwl, rfl, hws, hF⟩, TR, O, hTri, rfl, rfl, hL, rfl, hLP, hz, hpl⟩, ⟨len, hlen, rfl, rfl, hsg⟩, ⟨k, hk, rfl, hkp, hk0, hk1⟩⟩ := hIv
  have hn : n ≤ 8 := hR.2.1
  have h10 := hTri.1
  have hO := hTri.2.1
  have hTn := hTri.2.2.1
  have hTok : TRok TR := ⟨h10, fun q hq => ⟨by have := (hTn q hq).1; omega, by have := (hTn q hq).2; omega⟩⟩
  have z0 : (0 : Int32).toInt = 0 := rfl
  have z1 : (1 : Int32).toInt = 1 := rfl
  by_cases h1 : 0 ≤ p1.toInt ∧ p1.toInt < 4
  · by_cases h2 : 0 ≤ p2.toInt ∧ p2.toInt ≤ 1
    · obtain ⟨a, ha, e1, e2⟩ := nN p1 h1.1 (by omega)
      have ha4 : a < 4 := by omega
      obtain ⟨o9, hs9, hO9⟩ := layOnes6 hws hF.2 m_isOne
      have h27 := hv27 (st := m_state) (one := o9) ha4 p2 3 0 (by omega) FU (by show _ < 4096; omega) m_others
      have h64 := hv64 (st := m_state) (o := cpF 0 3 (fun j => nI (oth a j)) m_others) (h := p2) ha4 hO9 (fun j hj => cpF_in (by omega) hj)
      refine ⟨hvA ws a p2, o9, cpF 0 3 (fun j => nI (oth a j)) m_others, ?_, ?_, ?_⟩
      · have h9 := hv5_all ws hws a ha4
        rw [e2]
        obtain ⟨b, hb⟩ := sw_bi h2
        rw [hb]
        cases b with
        | true => exact h9.2
        | false => exact h9.1
      · unfold m_X6_halves
        rw [isNet6, bd1_s, decide_eq_true h1, if_neg (show ¬ bi true = 0 by decide), in6, bd1_s, z0, z1, decide_eq_true h2, if_neg (show ¬ bi true = 0 by decide), hs9, bd1_s, e2]
        exact Eq.trans h27 h64
      · exact ⟨⟨n, ⟨rfl, hR, hN, hXY, wl, ws, rfl, hwl, rfl, hws, hF⟩, ⟨TR, O, hTri, rfl, rfl, hL, rfl, hLP, hz, hpl⟩⟩, ⟨len, hlen, rfl, rfl, hsg⟩, ⟨k, hk, rfl, hkp, hk0, hk1⟩⟩
    · refine ⟨-2, m_isOne, m_others, ?_, ?_, ?_⟩
      · unfold m_X5_halves
        rw [isNet5, bd1_s, decide_eq_true h1, if_neg (show ¬ bi true = 0 by decide), isSwitch5, bd1_s, decide_eq_false h2, if_pos (show bi false = 0 from rfl)]
      · unfold m_X6_halves
        rw [isNet6, bd1_s, decide_eq_true h1, if_neg (show ¬ bi true = 0 by decide), in6, bd1_s, z0, z1, decide_eq_false h2, if_pos (show bi false = 0 from rfl)]
      · exact ⟨⟨n, ⟨rfl, hR, hN, hXY, wl, ws, rfl, hwl, rfl, hws, hF⟩, ⟨TR, O, hTri, rfl, rfl, hL, rfl, hLP, hz, hpl⟩⟩, ⟨len, hlen, rfl, rfl, hsg⟩, ⟨k, hk, rfl, hkp, hk0, hk1⟩⟩
  · refine ⟨-1, m_isOne, m_others, ?_, ?_, ?_⟩
    · unfold m_X5_halves
      rw [isNet5, bd1_s, decide_eq_false h1, if_pos (show bi false = 0 from rfl)]
    · unfold m_X6_halves
      rw [isNet6, bd1_s, decide_eq_false h1, if_pos (show bi false = 0 from rfl)]
    · exact ⟨⟨n, ⟨rfl, hR, hN, hXY, wl, ws, rfl, hwl, rfl, hws, hF⟩, ⟨TR, O, hTri, rfl, rfl, hL, rfl, hLP, hz, hpl⟩⟩, ⟨len, hlen, rfl, rfl, hsg⟩, ⟨k, hk, rfl, hkp, hk0, hk1⟩⟩
