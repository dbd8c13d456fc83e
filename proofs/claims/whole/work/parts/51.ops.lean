/-! ===== the calls that ask of points and TRIES ===== -/
theorem op_of : Op_of Iv0 := by
  intro s_kept b_points b_near b_loose b_short b_nets b_xs b_ys t_total t_oft t_left t_right t_group t_paired n_total n_planned n_leaps n_onward nb_len nb_sum nb_tries nn_len nn_sum nn_tries p_len p_signs i_points i_near i_loose i_short i_nets i_xs i_ys j_points j_near j_loose j_short j_nets j_xs j_ys m_said m_tries m_state m_images m_isKept m_pad m_leftOf m_rightOf m_isApart m_group m_isPair m_isOne m_order m_rest m_aside m_others hIv p1 p2
  obtain ⟨⟨n, ⟨rfl, hR, hN, hXY, wl, ws, rfl, hwl, rfl, hws, hF⟩, TR, O, hTri, rfl, rfl, hL, rfl, hLP, hz, hpl⟩, ⟨len, hlen, rfl, rfl, hsg⟩, ⟨k, hk, rfl, hkp, hk0, hk1⟩⟩ := hIv
  have hn : n ≤ 8 := hR.2.1
  have h10 := hTri.1
  have hO := hTri.2.1
  have hTn := hTri.2.2.1
  have hTok : TRok TR := ⟨h10, fun q hq => ⟨by have := (hTn q hq).1; omega, by have := (hTn q hq).2; omega⟩⟩
  by_cases h1 : 0 ≤ p1.toInt ∧ p1.toInt < n
  · obtain ⟨j, hj, e1, e2⟩ := nN p1 h1.1 (by omega)
    have hjn : j < n := by omega
    have h9 := hR.2.2.1 j (by omega)
    have z0 : (0 : Int32).toInt = 0 := rfl
    have z3 : (3 : Int32).toInt = 3 := rfl
    by_cases h2 : 0 ≤ p2.toInt ∧ p2.toInt ≤ 3
    · have hc : p2 = 0 ∨ p2 = 1 ∨ p2 = 2 ∨ p2 = 3 := by
        simp only [eqI, z0, z3, show (1 : Int32).toInt = 1 from rfl, show (2 : Int32).toInt = 2 from rfl]
        omega
      have hst : m_X6_of m_state p1 p2 = grd (gI ((((1 : Int32)) + (((8 : Int32)) * p2)) + p1) 40) (some (m_state ((((1 : Int32)) + (((8 : Int32)) * p2)) + p1).toNatClampNeg)) := by
        unfold m_X6_of
        rw [isPoint6 (by omega) hR.1, bd1_s, decide_eq_true h1, if_neg (show ¬ bi true = 0 by decide), in6, bd1_s, z0, z3, decide_eq_true h2, if_neg (show ¬ bi true = 0 by decide)]
      rcases hc with rfl | rfl | rfl | rfl
      · refine ⟨b_nets j, ?_, ?_, ?_⟩
        · unfold m_X5_of
          rw [hasPoint5 (by omega), bd1_s, decide_eq_true h1, if_neg (show ¬ bi true = 0 by decide), if_pos rfl, e2, gN (by omega) (by omega), grd_tt, cN (by omega)]
        · rw [hst, e2, show (1 : Int32) + 8 * 0 + nI j = nI (1 + j) by rw [show (1 : Int32) + 8 * 0 = nI 1 from rfl, addN], gN (by omega) (by omega), grd_tt, cN (by omega), h9.1]
        · exact ⟨⟨n, ⟨rfl, hR, hN, hXY, wl, ws, rfl, hwl, rfl, hws, hF⟩, ⟨TR, O, hTri, rfl, rfl, hL, rfl, hLP, hz, hpl⟩⟩, ⟨len, hlen, rfl, rfl, hsg⟩, ⟨k, hk, rfl, hkp, hk0, hk1⟩⟩
      · refine ⟨b_xs j, ?_, ?_, ?_⟩
        · unfold m_X5_of
          rw [hasPoint5 (by omega), bd1_s, decide_eq_true h1, if_neg (show ¬ bi true = 0 by decide), if_neg (by decide), if_pos rfl, e2, gN (by omega) (by omega), grd_tt, cN (by omega)]
        · rw [hst, e2, show (1 : Int32) + 8 * 1 + nI j = nI (9 + j) by rw [show (1 : Int32) + 8 * 1 = nI 9 from rfl, addN], gN (by omega) (by omega), grd_tt, cN (by omega), h9.2.1]
        · exact ⟨⟨n, ⟨rfl, hR, hN, hXY, wl, ws, rfl, hwl, rfl, hws, hF⟩, ⟨TR, O, hTri, rfl, rfl, hL, rfl, hLP, hz, hpl⟩⟩, ⟨len, hlen, rfl, rfl, hsg⟩, ⟨k, hk, rfl, hkp, hk0, hk1⟩⟩
      · refine ⟨b_ys j, ?_, ?_, ?_⟩
        · unfold m_X5_of
          rw [hasPoint5 (by omega), bd1_s, decide_eq_true h1, if_neg (show ¬ bi true = 0 by decide), if_neg (by decide), if_neg (by decide), if_pos rfl, e2, gN (by omega) (by omega), grd_tt, cN (by omega)]
        · rw [hst, e2, show (1 : Int32) + 8 * 2 + nI j = nI (17 + j) by rw [show (1 : Int32) + 8 * 2 = nI 17 from rfl, addN], gN (by omega) (by omega), grd_tt, cN (by omega), h9.2.2]
        · exact ⟨⟨n, ⟨rfl, hR, hN, hXY, wl, ws, rfl, hwl, rfl, hws, hF⟩, ⟨TR, O, hTri, rfl, rfl, hL, rfl, hLP, hz, hpl⟩⟩, ⟨len, hlen, rfl, rfl, hsg⟩, ⟨k, hk, rfl, hkp, hk0, hk1⟩⟩
      · refine ⟨bi (wl.testBit j), ?_, ?_, ?_⟩
        · unfold m_X5_of
          rw [hasPoint5 (by omega), bd1_s, decide_eq_true h1, if_neg (show ¬ bi true = 0 by decide), if_neg (by decide), if_neg (by decide), if_neg (by decide), if_pos rfl, e2, isIn_eq _ (by omega), bd1_s, bt_nI (by omega)]
          cases wl.testBit j <;> rfl
        · rw [hst, e2, show (1 : Int32) + 8 * 3 + nI j = nI (25 + j) by rw [show (1 : Int32) + 8 * 3 = nI 25 from rfl, addN], gN (by omega) (by omega), grd_tt, cN (by omega), hF.1 j hjn]
        · exact ⟨⟨n, ⟨rfl, hR, hN, hXY, wl, ws, rfl, hwl, rfl, hws, hF⟩, ⟨TR, O, hTri, rfl, rfl, hL, rfl, hLP, hz, hpl⟩⟩, ⟨len, hlen, rfl, rfl, hsg⟩, ⟨k, hk, rfl, hkp, hk0, hk1⟩⟩
    · refine ⟨-2, ?_, ?_, ?_⟩
      · unfold m_X5_of
        rw [hasPoint5 (by omega), bd1_s, decide_eq_true h1, if_neg (show ¬ bi true = 0 by decide), if_neg (by rw [eqI, z0]; omega), if_neg (by rw [eqI, show (1 : Int32).toInt = 1 from rfl]; omega), if_neg (by rw [eqI, show (2 : Int32).toInt = 2 from rfl]; omega), if_neg (by rw [eqI, z3]; omega)]
      · unfold m_X6_of
        rw [isPoint6 (by omega) hR.1, bd1_s, decide_eq_true h1, if_neg (show ¬ bi true = 0 by decide), in6, bd1_s, z0, z3, decide_eq_false h2, if_pos (show bi false = 0 from rfl)]
      · exact ⟨⟨n, ⟨rfl, hR, hN, hXY, wl, ws, rfl, hwl, rfl, hws, hF⟩, ⟨TR, O, hTri, rfl, rfl, hL, rfl, hLP, hz, hpl⟩⟩, ⟨len, hlen, rfl, rfl, hsg⟩, ⟨k, hk, rfl, hkp, hk0, hk1⟩⟩
  · refine ⟨-1, ?_, ?_, ?_⟩
    · unfold m_X5_of
      rw [hasPoint5 (by omega), bd1_s, decide_eq_false h1, if_pos (show bi false = 0 from rfl)]
    · unfold m_X6_of
      rw [isPoint6 (by omega) hR.1, bd1_s, decide_eq_false h1, if_pos (show bi false = 0 from rfl)]
    · exact ⟨⟨n, ⟨rfl, hR, hN, hXY, wl, ws, rfl, hwl, rfl, hws, hF⟩, ⟨TR, O, hTri, rfl, rfl, hL, rfl, hLP, hz, hpl⟩⟩, ⟨len, hlen, rfl, rfl, hsg⟩, ⟨k, hk, rfl, hkp, hk0, hk1⟩⟩
theorem op_far : Op_far Iv0 := by
  intro s_kept b_points b_near b_loose b_short b_nets b_xs b_ys t_total t_oft t_left t_right t_group t_paired n_total n_planned n_leaps n_onward nb_len nb_sum nb_tries nn_len nn_sum nn_tries p_len p_signs i_points i_near i_loose i_short i_nets i_xs i_ys j_points j_near j_loose j_short j_nets j_xs j_ys m_said m_tries m_state m_images m_isKept m_pad m_leftOf m_rightOf m_isApart m_group m_isPair m_isOne m_order m_rest m_aside m_others hIv p1 p2
  obtain ⟨⟨n, ⟨rfl, hR, hN, hXY, wl, ws, rfl, hwl, rfl, hws, hF⟩, TR, O, hTri, rfl, rfl, hL, rfl, hLP, hz, hpl⟩, ⟨len, hlen, rfl, rfl, hsg⟩, ⟨k, hk, rfl, hkp, hk0, hk1⟩⟩ := hIv
  have hn : n ≤ 8 := hR.2.1
  have h10 := hTri.1
  have hO := hTri.2.1
  have hTn := hTri.2.2.1
  have hTok : TRok TR := ⟨h10, fun q hq => ⟨by have := (hTn q hq).1; omega, by have := (hTn q hq).2; omega⟩⟩
  by_cases h1 : 0 ≤ p1.toInt ∧ p1.toInt < n
  · by_cases h2 : 0 ≤ p2.toInt ∧ p2.toInt < n
    · obtain ⟨i, hi, e1, e2⟩ := nN p1 h1.1 (by omega)
      obtain ⟨j, hj, e3, e4⟩ := nN p2 h2.1 (by omega)
      refine ⟨frd b_xs b_ys i j, ?_, ?_, ?_⟩
      · unfold m_X5_far
        rw [hasPoint5 (by omega), bd1_s, decide_eq_true h1, if_neg (show ¬ bi true = 0 by decide), hasPoint5 (by omega), bd1_s, decide_eq_true h2, if_neg (show ¬ bi true = 0 by decide), e2, e4, dist5 _ _ (by omega) (by omega), bd1_s]
      · unfold m_X6_far
        rw [isPoint6 (by omega) hR.1, bd1_s, decide_eq_true h1, if_neg (show ¬ bi true = 0 by decide), isPoint6 (by omega) hR.1, bd1_s, decide_eq_true h2, if_neg (show ¬ bi true = 0 by decide), e2, e4, farOf6 hR (by omega) (by omega), bd1_s]
      · exact ⟨⟨n, ⟨rfl, hR, hN, hXY, wl, ws, rfl, hwl, rfl, hws, hF⟩, ⟨TR, O, hTri, rfl, rfl, hL, rfl, hLP, hz, hpl⟩⟩, ⟨len, hlen, rfl, rfl, hsg⟩, ⟨k, hk, rfl, hkp, hk0, hk1⟩⟩
    · refine ⟨-1, ?_, ?_, ?_⟩
      · unfold m_X5_far
        rw [hasPoint5 (by omega), bd1_s, decide_eq_true h1, if_neg (show ¬ bi true = 0 by decide), hasPoint5 (by omega), bd1_s, decide_eq_false h2, if_pos (show bi false = 0 from rfl)]
      · unfold m_X6_far
        rw [isPoint6 (by omega) hR.1, bd1_s, decide_eq_true h1, if_neg (show ¬ bi true = 0 by decide), isPoint6 (by omega) hR.1, bd1_s, decide_eq_false h2, if_pos (show bi false = 0 from rfl)]
      · exact ⟨⟨n, ⟨rfl, hR, hN, hXY, wl, ws, rfl, hwl, rfl, hws, hF⟩, ⟨TR, O, hTri, rfl, rfl, hL, rfl, hLP, hz, hpl⟩⟩, ⟨len, hlen, rfl, rfl, hsg⟩, ⟨k, hk, rfl, hkp, hk0, hk1⟩⟩
  · refine ⟨-1, ?_, ?_, ?_⟩
    · unfold m_X5_far
      rw [hasPoint5 (by omega), bd1_s, decide_eq_false h1, if_pos (show bi false = 0 from rfl)]
    · unfold m_X6_far
      rw [isPoint6 (by omega) hR.1, bd1_s, decide_eq_false h1, if_pos (show bi false = 0 from rfl)]
    · exact ⟨⟨n, ⟨rfl, hR, hN, hXY, wl, ws, rfl, hwl, rfl, hws, hF⟩, ⟨TR, O, hTri, rfl, rfl, hL, rfl, hLP, hz, hpl⟩⟩, ⟨len, hlen, rfl, rfl, hsg⟩, ⟨k, hk, rfl, hkp, hk0, hk1⟩⟩
theorem op_time : Op_time Iv0 := by
  intro s_kept b_points b_near b_loose b_short b_nets b_xs b_ys t_total t_oft t_left t_right t_group t_paired n_total n_planned n_leaps n_onward nb_len nb_sum nb_tries nn_len nn_sum nn_tries p_len p_signs i_points i_near i_loose i_short i_nets i_xs i_ys j_points j_near j_loose j_short j_nets j_xs j_ys m_said m_tries m_state m_images m_isKept m_pad m_leftOf m_rightOf m_isApart m_group m_isPair m_isOne m_order m_rest m_aside m_others hIv p1 p2
  obtain ⟨⟨n, ⟨rfl, hR, hN, hXY, wl, ws, rfl, hwl, rfl, hws, hF⟩, TR, O, hTri, rfl, rfl, hL, rfl, hLP, hz, hpl⟩, ⟨len, hlen, rfl, rfl, hsg⟩, ⟨k, hk, rfl, hkp, hk0, hk1⟩⟩ := hIv
  have hn : n ≤ 8 := hR.2.1
  have h10 := hTri.1
  have hO := hTri.2.1
  have hTn := hTri.2.2.1
  have hTok : TRok TR := ⟨h10, fun q hq => ⟨by have := (hTn q hq).1; omega, by have := (hTn q hq).2; omega⟩⟩
  obtain ⟨l9, r9, a9, g9, i9, hlay, hL9, hA9⟩ := hTri.2.2.2.2 m_state hR m_tries m_leftOf m_rightOf m_isApart m_group m_isPair
  have hM : TmR m_state l9 r9 (LpT b_xs b_ys TR) TR.length := fun s t hs ht => timeOf6s hR hTok hL9 hs ht
  have hJ5 : ∀ s, s ≤ TR.length → ∀ v, v = frI s → (0 ≤ p2.toInt ∧ p2.toInt < TR.length) → J_X5_time_18 (nI TR.length) n_leaps v p2 = some (LpT b_xs b_ys TR s p2.toNatClampNeg) := by
    intro s hs v hv h2
    obtain ⟨t, ht, e3, e4⟩ := nN p2 h2.1 (by omega)
    unfold J_X5_time_18
    have e5 : v + 1 = nI s := by
      rw [hv]
      cases s with
      | zero => rfl
      | succ s => show nI s + 1 = nI (s + 1); rw [i1, addN]
    rw [hasTry5 (by omega), bd1_s, decide_eq_true h2, if_neg (show ¬ bi true = 0 by decide), e5, e4, cN ht, leap5 hTok hLP hs (by omega), bd1_s]
  have hJ6 : ∀ s, s ≤ TR.length → ∀ v, v = frI s → (0 ≤ p2.toInt ∧ p2.toInt < TR.length) → J_X6_time_17 (nI TR.length) m_state l9 r9 a9 g9 i9 v p2 = some (LpT b_xs b_ys TR s p2.toNatClampNeg, nI TR.length, l9, r9, a9, g9, i9) := by
    intro s hs v hv h2
    obtain ⟨t, ht, e3, e4⟩ := nN p2 h2.1 (by omega)
    unfold J_X6_time_17
    rw [isTry6 (by omega), bd1_s, decide_eq_true h2, if_neg (show ¬ bi true = 0 by decide), hv, e4, cN ht, hM s t hs (by omega), bd1_s]
  have hN5 : ∀ v, ¬ (0 ≤ p2.toInt ∧ p2.toInt < TR.length) → J_X5_time_18 (nI TR.length) n_leaps v p2 = some (-1) := by
    intro v h2
    unfold J_X5_time_18
    rw [hasTry5 (by omega), bd1_s, decide_eq_false h2, if_pos (show bi false = 0 from rfl)]
  have hN6 : ∀ v, ¬ (0 ≤ p2.toInt ∧ p2.toInt < TR.length) → J_X6_time_17 (nI TR.length) m_state l9 r9 a9 g9 i9 v p2 = some (-1, nI TR.length, l9, r9, a9, g9, i9) := by
    intro v h2
    unfold J_X6_time_17
    rw [isTry6 (by omega), bd1_s, decide_eq_false h2, if_pos (show bi false = 0 from rfl)]
  by_cases h2 : 0 ≤ p2.toInt ∧ p2.toInt < TR.length
  · by_cases hm : p1 = -1
    · refine ⟨LpT b_xs b_ys TR 0 p2.toNatClampNeg, nI TR.length, l9, r9, a9, g9, i9, ?_, ?_, ?_⟩
      · unfold m_X5_time
        rw [if_pos hm, hJ5 0 (Nat.zero_le _) p1 hm h2]
      · unfold m_X6_time
        rw [hlay, bd6_s, if_pos hm, hJ6 0 (Nat.zero_le _) p1 hm h2]
      · exact ⟨⟨n, ⟨rfl, hR, hN, hXY, wl, ws, rfl, hwl, rfl, hws, hF⟩, ⟨TR, O, hTri, rfl, rfl, hL, rfl, hLP, hz, hpl⟩⟩, ⟨len, hlen, rfl, rfl, hsg⟩, ⟨k, hk, rfl, hkp, hk0, hk1⟩⟩
    · by_cases h1 : 0 ≤ p1.toInt ∧ p1.toInt < TR.length
      · obtain ⟨t, ht, e1, e2⟩ := nN p1 h1.1 (by omega)
        refine ⟨LpT b_xs b_ys TR (t + 1) p2.toNatClampNeg, nI TR.length, l9, r9, a9, g9, i9, ?_, ?_, ?_⟩
        · unfold m_X5_time
          rw [if_neg hm, hasTry5 (by omega), bd1_s, decide_eq_true h1, if_neg (show ¬ bi true = 0 by decide), hJ5 (t + 1) (by omega) p1 e2 h2]
        · unfold m_X6_time
          rw [hlay, bd6_s, if_neg hm, isTry6 (by omega), bd1_s, decide_eq_true h1, if_neg (show ¬ bi true = 0 by decide), hJ6 (t + 1) (by omega) p1 e2 h2]
        · exact ⟨⟨n, ⟨rfl, hR, hN, hXY, wl, ws, rfl, hwl, rfl, hws, hF⟩, ⟨TR, O, hTri, rfl, rfl, hL, rfl, hLP, hz, hpl⟩⟩, ⟨len, hlen, rfl, rfl, hsg⟩, ⟨k, hk, rfl, hkp, hk0, hk1⟩⟩
      · refine ⟨-1, nI TR.length, l9, r9, a9, g9, i9, ?_, ?_, ?_⟩
        · unfold m_X5_time
          rw [if_neg hm, hasTry5 (by omega), bd1_s, decide_eq_false h1, if_pos (show bi false = 0 from rfl)]
        · unfold m_X6_time
          rw [hlay, bd6_s, if_neg hm, isTry6 (by omega), bd1_s, decide_eq_false h1, if_pos (show bi false = 0 from rfl)]
        · exact ⟨⟨n, ⟨rfl, hR, hN, hXY, wl, ws, rfl, hwl, rfl, hws, hF⟩, ⟨TR, O, hTri, rfl, rfl, hL, rfl, hLP, hz, hpl⟩⟩, ⟨len, hlen, rfl, rfl, hsg⟩, ⟨k, hk, rfl, hkp, hk0, hk1⟩⟩
  · refine ⟨-1, nI TR.length, l9, r9, a9, g9, i9, ?_, ?_, ?_⟩
    · unfold m_X5_time
      rw [hN5 p1 h2, hasTry5 (by omega), bd1_s]
      split
      · rfl
      · split <;> rfl
    · unfold m_X6_time
      rw [hlay, bd6_s, hN6 p1 h2, isTry6 (by omega), bd1_s]
      split
      · rfl
      · split <;> rfl
    · exact ⟨⟨n, ⟨rfl, hR, hN, hXY, wl, ws, rfl, hwl, rfl, hws, hF⟩, ⟨TR, O, hTri, rfl, rfl, hL, rfl, hLP, hz, hpl⟩⟩, ⟨len, hlen, rfl, rfl, hsg⟩, ⟨k, hk, rfl, hkp, hk0, hk1⟩⟩
theorem op_say : Op_say Iv0 := by
  intro s_kept b_points b_near b_loose b_short b_nets b_xs b_ys t_total t_oft t_left t_right t_group t_paired n_total n_planned n_leaps n_onward nb_len nb_sum nb_tries nn_len nn_sum nn_tries p_len p_signs i_points i_near i_loose i_short i_nets i_xs i_ys j_points j_near j_loose j_short j_nets j_xs j_ys m_said m_tries m_state m_images m_isKept m_pad m_leftOf m_rightOf m_isApart m_group m_isPair m_isOne m_order m_rest m_aside m_others hIv p1
  obtain ⟨⟨n, ⟨rfl, hR, hN, hXY, wl, ws, rfl, hwl, rfl, hws, hF⟩, TR, O, hTri, rfl, rfl, hL, rfl, hLP, hz, hpl⟩, ⟨len, hlen, rfl, rfl, hsg⟩, ⟨k, hk, rfl, hkp, hk0, hk1⟩⟩ := hIv
  have hn : n ≤ 8 := hR.2.1
  have h10 := hTri.1
  have hO := hTri.2.1
  have hTn := hTri.2.2.1
  have hTok : TRok TR := ⟨h10, fun q hq => ⟨by have := (hTn q hq).1; omega, by have := (hTn q hq).2; omega⟩⟩
  have z33 : (33 : Int32).toInt = 33 := rfl
  have z126 : (126 : Int32).toInt = 126 := rfl
  by_cases h1 : 33 ≤ p1.toInt ∧ p1.toInt ≤ 126
  · by_cases h2 : len < 24
    · refine ⟨nI (len + 1), nI (len + 1), upd p_signs len p1, nI (len + 1), upd m_pad len p1, ?_, ?_, ?_⟩
      · unfold m_X5_say m_X3_write
        rw [if_neg (by rw [ltI, z33]; omega), if_pos (by rw [leI, z126]; omega), if_pos (by rw [i24, ltN (by omega) (by omega)]; exact h2), gN (by omega) (by omega), grd_tt, bd2_s, cN (by omega), i1, addN]
      · unfold m_X6_say
        rw [in6, bd1_s, z33, z126, decide_eq_true h1, if_neg (show ¬ bi true = 0 by decide), if_neg (by rw [i24, eqN (by omega) (by omega)]; omega), gN (by omega) (by omega), grd_tt, cN (by omega), i1, addN]
      · refine ⟨⟨n, ⟨rfl, hR, hN, hXY, wl, ws, rfl, hwl, rfl, hws, hF⟩, ⟨TR, O, hTri, rfl, rfl, hL, rfl, hLP, hz, hpl⟩⟩, ⟨len + 1, by omega, rfl, rfl, ?_⟩, ⟨k, hk, rfl, hkp, hk0, hk1⟩⟩
        intro i hi
        by_cases h : i = len
        · subst h; rw [upd_s, upd_s]
        · rw [upd_n _ _ h, upd_n _ _ h]; exact hsg i (by omega)
    · refine ⟨-4, (nI len), p_signs, (nI len), m_pad, ?_, ?_, ?_⟩
      · unfold m_X5_say
        rw [if_neg (by rw [ltI, z33]; omega), if_pos (by rw [leI, z126]; omega), if_neg (by rw [i24, ltN (by omega) (by omega)]; exact h2)]
      · unfold m_X6_say
        rw [in6, bd1_s, z33, z126, decide_eq_true h1, if_neg (show ¬ bi true = 0 by decide), if_pos (by rw [i24, eqN (by omega) (by omega)]; omega)]
      · exact ⟨⟨n, ⟨rfl, hR, hN, hXY, wl, ws, rfl, hwl, rfl, hws, hF⟩, ⟨TR, O, hTri, rfl, rfl, hL, rfl, hLP, hz, hpl⟩⟩, ⟨len, hlen, rfl, rfl, hsg⟩, ⟨k, hk, rfl, hkp, hk0, hk1⟩⟩
  · refine ⟨-2, (nI len), p_signs, (nI len), m_pad, ?_, ?_, ?_⟩
    · unfold m_X5_say
      by_cases h2 : p1.toInt < 33
      · rw [if_pos (by rw [ltI, z33]; exact h2)]
      · rw [if_neg (by rw [ltI, z33]; exact h2), if_neg (by rw [leI, z126]; omega)]
    · unfold m_X6_say
      rw [in6, bd1_s, z33, z126, decide_eq_false h1, if_pos (show bi false = 0 from rfl)]
    · exact ⟨⟨n, ⟨rfl, hR, hN, hXY, wl, ws, rfl, hwl, rfl, hws, hF⟩, ⟨TR, O, hTri, rfl, rfl, hL, rfl, hLP, hz, hpl⟩⟩, ⟨len, hlen, rfl, rfl, hsg⟩, ⟨k, hk, rfl, hkp, hk0, hk1⟩⟩
theorem op_wipe : Op_wipe Iv0 := by
  intro s_kept b_points b_near b_loose b_short b_nets b_xs b_ys t_total t_oft t_left t_right t_group t_paired n_total n_planned n_leaps n_onward nb_len nb_sum nb_tries nn_len nn_sum nn_tries p_len p_signs i_points i_near i_loose i_short i_nets i_xs i_ys j_points j_near j_loose j_short j_nets j_xs j_ys m_said m_tries m_state m_images m_isKept m_pad m_leftOf m_rightOf m_isApart m_group m_isPair m_isOne m_order m_rest m_aside m_others hIv 
  obtain ⟨⟨n, ⟨rfl, hR, hN, hXY, wl, ws, rfl, hwl, rfl, hws, hF⟩, TR, O, hTri, rfl, rfl, hL, rfl, hLP, hz, hpl⟩, ⟨len, hlen, rfl, rfl, hsg⟩, ⟨k, hk, rfl, hkp, hk0, hk1⟩⟩ := hIv
  have hn : n ≤ 8 := hR.2.1
  have h10 := hTri.1
  have hO := hTri.2.1
  have hTn := hTri.2.2.1
  have hTok : TRok TR := ⟨h10, fun q hq => ⟨by have := (hTn q hq).1; omega, by have := (hTn q hq).2; omega⟩⟩
  refine ⟨nI len, 0, 0, ?_, ?_, ?_⟩
  · rfl
  · rfl
  · exact ⟨⟨n, ⟨rfl, hR, hN, hXY, wl, ws, rfl, hwl, rfl, hws, hF⟩, ⟨TR, O, hTri, rfl, rfl, hL, rfl, hLP, hz, hpl⟩⟩, ⟨0, by omega, rfl, rfl, fun i h => by omega⟩, ⟨k, hk, rfl, hkp, hk0, hk1⟩⟩
theorem op_told : Op_told Iv0 := by
  intro s_kept b_points b_near b_loose b_short b_nets b_xs b_ys t_total t_oft t_left t_right t_group t_paired n_total n_planned n_leaps n_onward nb_len nb_sum nb_tries nn_len nn_sum nn_tries p_len p_signs i_points i_near i_loose i_short i_nets i_xs i_ys j_points j_near j_loose j_short j_nets j_xs j_ys m_said m_tries m_state m_images m_isKept m_pad m_leftOf m_rightOf m_isApart m_group m_isPair m_isOne m_order m_rest m_aside m_others hIv 
  obtain ⟨⟨n, ⟨rfl, hR, hN, hXY, wl, ws, rfl, hwl, rfl, hws, hF⟩, TR, O, hTri, rfl, rfl, hL, rfl, hLP, hz, hpl⟩, ⟨len, hlen, rfl, rfl, hsg⟩, ⟨k, hk, rfl, hkp, hk0, hk1⟩⟩ := hIv
  have hn : n ≤ 8 := hR.2.1
  have h10 := hTri.1
  have hO := hTri.2.1
  have hTn := hTri.2.2.1
  have hTok : TRok TR := ⟨h10, fun q hq => ⟨by have := (hTn q hq).1; omega, by have := (hTn q hq).2; omega⟩⟩
  obtain ⟨l9, r9, a9, g9, i9, hlay, hL9, hA9⟩ := hTri.2.2.2.2 m_state hR m_tries m_leftOf m_rightOf m_isApart m_group m_isPair
  have hM : TmR m_state l9 r9 (LpT b_xs b_ys TR) TR.length := fun s t hs ht => timeOf6s hR hTok hL9 hs ht
  have hc := told5 (sg := p_signs) h10 hlen hLP
  by_cases hl : len = TR.length
  · obtain ⟨o', ho⟩ := told6 (pad := m_pad) (ap := a9) (g := g9) (ip := i9) h10 hM m_order
    refine ⟨tldA (LpT b_xs b_ys TR) p_signs TR.length len, nI TR.length, l9, r9, a9, g9, i9, o', ?_, ?_, ?_⟩
    · exact hc
    · unfold m_X6_told
      rw [hlay, bd6_s, if_pos (by rw [hl]), tldA_ext hsg, hl]
      exact ho
    · exact ⟨⟨n, ⟨rfl, hR, hN, hXY, wl, ws, rfl, hwl, rfl, hws, hF⟩, ⟨TR, O, hTri, rfl, rfl, hL, rfl, hLP, hz, hpl⟩⟩, ⟨len, hlen, rfl, rfl, hsg⟩, ⟨k, hk, rfl, hkp, hk0, hk1⟩⟩
  · refine ⟨-7, nI TR.length, l9, r9, a9, g9, i9, m_order, ?_, ?_, ?_⟩
    · rw [hc]
      unfold tldA
      rw [if_neg (fun h => hl h.1)]
    · unfold m_X6_told
      rw [hlay, bd6_s, if_neg (by rw [eqN (by omega) (by omega)]; exact hl)]
    · exact ⟨⟨n, ⟨rfl, hR, hN, hXY, wl, ws, rfl, hwl, rfl, hws, hF⟩, ⟨TR, O, hTri, rfl, rfl, hL, rfl, hLP, hz, hpl⟩⟩, ⟨len, hlen, rfl, rfl, hsg⟩, ⟨k, hk, rfl, hkp, hk0, hk1⟩⟩
theorem op_best : Op_best Iv0 := by
  intro s_kept b_points b_near b_loose b_short b_nets b_xs b_ys t_total t_oft t_left t_right t_group t_paired n_total n_planned n_leaps n_onward nb_len nb_sum nb_tries nn_len nn_sum nn_tries p_len p_signs i_points i_near i_loose i_short i_nets i_xs i_ys j_points j_near j_loose j_short j_nets j_xs j_ys m_said m_tries m_state m_images m_isKept m_pad m_leftOf m_rightOf m_isApart m_group m_isPair m_isOne m_order m_rest m_aside m_others hIv p1
  obtain ⟨⟨n, ⟨rfl, hR, hN, hXY, wl, ws, rfl, hwl, rfl, hws, hF⟩, TR, O, hTri, rfl, rfl, hL, rfl, hLP, hz, hpl⟩, ⟨len, hlen, rfl, rfl, hsg⟩, ⟨k, hk, rfl, hkp, hk0, hk1⟩⟩ := hIv
  have hn : n ≤ 8 := hR.2.1
  have h10 := hTri.1
  have hO := hTri.2.1
  have hTn := hTri.2.2.1
  have hTok : TRok TR := ⟨h10, fun q hq => ⟨by have := (hTn q hq).1; omega, by have := (hTn q hq).2; omega⟩⟩
  by_cases h1 : -1 ≤ p1
  · obtain ⟨l9, r9, a9, g9, i9, hlay, hL9, hA9⟩ := hTri.2.2.2.2 m_state hR m_tries m_leftOf m_rightOf m_isApart m_group m_isPair
    have hM : TmR m_state l9 r9 (LpT b_xs b_ys TR) TR.length := fun s t hs ht => timeOf6s hR hTok hL9 hs ht
    have hB : lpB (LpT b_xs b_ys TR) TR.length := fun s t hs ht => LpT_b hXY hTok hs ht
    obtain ⟨o', rs', ho1, ho2⟩ := layBest6 h10 hB hM m_order m_rest
    have hat := orderAt6 (order := o') h10 hM (fun j hj => ⟨ho2 j hj, (nx_ok pkB_ok hj).1⟩) h1
    have hp : ∃ q1 q2 q3 q4 q5, m_X1_planBest (nI TR.length) n_planned n_leaps n_onward nb_len nb_sum nb_tries = some (q1, q2, q3, q4, q5) ∧ q1 = 1 ∧ (∀ u, u < 10 → q2 u = 0) ∧ PLn b_xs b_ys TR q3 q4 q5 := by
      rcases hpl with hp0 | ⟨hp1, hpp⟩
      · subst hp0
        obtain ⟨on', tr', g1, g2, g3⟩ := planBest5 h10 hB hLP n_onward hz nb_len nb_sum nb_tries
        exact ⟨_, _, _, _, _, g1, rfl, g2, rfl, smI_O _ _ _ _, g3⟩
      · subst hp1
        refine ⟨1, n_onward, nb_len, nb_sum, nb_tries, ?_, rfl, hz, hpp⟩
        unfold m_X1_planBest
        rw [if_neg (by decide)]
    obtain ⟨q1, q2, q3, q4, q5, hq, hq1, hq2, hq3⟩ := hp
    obtain ⟨hq4, hq5, hq6⟩ := hq3
    refine ⟨ordAns (LpT b_xs b_ys TR) (nx (pkB (LpT b_xs b_ys TR) TR.length) TR.length) TR.length p1, q1, q2, q3, q4, q5, nI TR.length, l9, r9, a9, g9, i9, o', rs', ?_, ?_, ?_⟩
    · unfold m_X5_best
      rw [if_pos h1, hq, bd5_s, hq4, hq5, tell5 h10 hq6 h1, bd1_s]
    · unfold m_X6_best
      rw [if_pos h1, hlay, bd6_s, ho1, bd2_s, hat, bd1_s]
    · exact ⟨⟨n, ⟨rfl, hR, hN, hXY, wl, ws, rfl, hwl, rfl, hws, hF⟩, ⟨TR, O, hTri, rfl, rfl, hL, rfl, hLP, hq2, Or.inr ⟨hq1, hq4, hq5, hq6⟩⟩⟩, ⟨len, hlen, rfl, rfl, hsg⟩, ⟨k, hk, rfl, hkp, hk0, hk1⟩⟩
  · refine ⟨-2, n_planned, n_onward, nb_len, nb_sum, nb_tries, m_tries, m_leftOf, m_rightOf, m_isApart, m_group, m_isPair, m_order, m_rest, ?_, ?_, ?_⟩
    · unfold m_X5_best
      rw [if_neg h1]
    · unfold m_X6_best
      rw [if_neg h1]
    · exact ⟨⟨n, ⟨rfl, hR, hN, hXY, wl, ws, rfl, hwl, rfl, hws, hF⟩, ⟨TR, O, hTri, rfl, rfl, hL, rfl, hLP, hz, hpl⟩⟩, ⟨len, hlen, rfl, rfl, hsg⟩, ⟨k, hk, rfl, hkp, hk0, hk1⟩⟩
theorem op_nearest : Op_nearest Iv0 := by
  intro s_kept b_points b_near b_loose b_short b_nets b_xs b_ys t_total t_oft t_left t_right t_group t_paired n_total n_planned n_leaps n_onward nb_len nb_sum nb_tries nn_len nn_sum nn_tries p_len p_signs i_points i_near i_loose i_short i_nets i_xs i_ys j_points j_near j_loose j_short j_nets j_xs j_ys m_said m_tries m_state m_images m_isKept m_pad m_leftOf m_rightOf m_isApart m_group m_isPair m_isOne m_order m_rest m_aside m_others hIv p1
  obtain ⟨⟨n, ⟨rfl, hR, hN, hXY, wl, ws, rfl, hwl, rfl, hws, hF⟩, TR, O, hTri, rfl, rfl, hL, rfl, hLP, hz, hpl⟩, ⟨len, hlen, rfl, rfl, hsg⟩, ⟨k, hk, rfl, hkp, hk0, hk1⟩⟩ := hIv
  have hn : n ≤ 8 := hR.2.1
  have h10 := hTri.1
  have hO := hTri.2.1
  have hTn := hTri.2.2.1
  have hTok : TRok TR := ⟨h10, fun q hq => ⟨by have := (hTn q hq).1; omega, by have := (hTn q hq).2; omega⟩⟩
  by_cases h1 : -1 ≤ p1
  · obtain ⟨l9, r9, a9, g9, i9, hlay, hL9, hA9⟩ := hTri.2.2.2.2 m_state hR m_tries m_leftOf m_rightOf m_isApart m_group m_isPair
    have hM : TmR m_state l9 r9 (LpT b_xs b_ys TR) TR.length := fun s t hs ht => timeOf6s hR hTok hL9 hs ht
    have hB : lpB (LpT b_xs b_ys TR) TR.length := fun s t hs ht => LpT_b hXY hTok hs ht
    obtain ⟨o', ho⟩ := nearest6 (ap := a9) (gr := g9) (pr := i9) h10 hM h1 m_order
    obtain ⟨tr', g1, g2⟩ := planNearest5 h10 hB hLP n_onward nn_len nn_sum nn_tries
    refine ⟨ordAns (LpT b_xs b_ys TR) (nx (pkN (LpT b_xs b_ys TR) TR.length) TR.length) TR.length p1, nI TR.length, smI (LpT b_xs b_ys TR) (pkN (LpT b_xs b_ys TR) TR.length) TR.length TR.length, tr', nI TR.length, l9, r9, a9, g9, i9, o', ?_, ?_, ?_⟩
    · unfold m_X5_nearest
      rw [if_pos h1, g1, bd3_s, smI_O, tell5 h10 g2 h1, bd1_s]
    · unfold m_X6_nearest
      rw [if_pos h1, hlay, bd6_s]
      exact ho
    · exact ⟨⟨n, ⟨rfl, hR, hN, hXY, wl, ws, rfl, hwl, rfl, hws, hF⟩, ⟨TR, O, hTri, rfl, rfl, hL, rfl, hLP, hz, hpl⟩⟩, ⟨len, hlen, rfl, rfl, hsg⟩, ⟨k, hk, rfl, hkp, hk0, hk1⟩⟩
  · refine ⟨-2, nn_len, nn_sum, nn_tries, m_tries, m_leftOf, m_rightOf, m_isApart, m_group, m_isPair, m_order, ?_, ?_, ?_⟩
    · unfold m_X5_nearest
      rw [if_neg h1]
    · unfold m_X6_nearest
      rw [if_neg h1]
    · exact ⟨⟨n, ⟨rfl, hR, hN, hXY, wl, ws, rfl, hwl, rfl, hws, hF⟩, ⟨TR, O, hTri, rfl, rfl, hL, rfl, hLP, hz, hpl⟩⟩, ⟨len, hlen, rfl, rfl, hsg⟩, ⟨k, hk, rfl, hkp, hk0, hk1⟩⟩
