/-! ===== images, counts ===== -/
theorem kp_bits {k j : Nat} (hj : j < 2) (i : Nat) : (k ||| 2 ^ j).testBit i = (k.testBit i || decide (j = i)) := by rw [Nat.testBit_or, Nat.testBit_two_pow]
theorem op_image : Op_image Iv0 := by
  intro s_kept b_points b_near b_loose b_short b_nets b_xs b_ys t_total t_oft t_left t_right t_group t_paired n_total n_planned n_leaps n_onward nb_len nb_sum nb_tries nn_len nn_sum nn_tries p_len p_signs i_points i_near i_loose i_short i_nets i_xs i_ys j_points j_near j_loose j_short j_nets j_xs j_ys m_said m_tries m_state m_images m_isKept m_pad m_leftOf m_rightOf m_isApart m_group m_isPair m_isOne m_order m_rest m_aside m_others hIv p1
  obtain ⟨⟨n, ⟨rfl, hR, hN, hXY, wl, ws, rfl, hwl, rfl, hws, hF⟩, TR, O, hTri, rfl, rfl, hL, rfl, hLP, hz, hpl⟩, ⟨len, hlen, rfl, rfl, hsg⟩, ⟨k, hk, rfl, hkp, hk0, hk1⟩⟩ := hIv
  have hn : n ≤ 8 := hR.2.1
  have h10 := hTri.1
  have hO := hTri.2.1
  have hTn := hTri.2.2.1
  have hTok : TRok TR := ⟨h10, fun q hq => ⟨by have := (hTn q hq).1; omega, by have := (hTn q hq).2; omega⟩⟩
  have z0 : (0 : Int32).toInt = 0 := rfl
  have z1 : (1 : Int32).toInt = 1 := rfl
  by_cases h1 : 0 ≤ p1.toInt ∧ p1.toInt ≤ 1
  · obtain ⟨j, hj, e1, e2⟩ := nN p1 h1.1 (by omega)
    have hj2 : j < 2 := by omega
    have him := im6_loop (st := m_state) (kept := m_isKept) hj2 40 0 (by omega) FU (by show _ < 4096; omega) m_images
    have hk4 : k ||| 2 ^ j < 4 := Nat.or_lt_two_pow (n := 2) hk (Nat.pow_lt_pow_right (by omega) hj2)
    have hkp' : ∀ i, i < 2 → upd m_isKept j 1 i = bi ((k ||| 2 ^ j).testBit i) := by
      intro i hi
      rw [kp_bits hj2]
      by_cases hij : i = j
      · subst hij; rw [upd_s, decide_eq_true rfl, Bool.or_true]; rfl
      · rw [upd_n _ _ hij, decide_eq_false (fun e => hij e.symm), Bool.or_false]; exact hkp i hi
    have hb0 : BRn n (nI n) b_near (nI wl) (nI ws) b_nets b_xs b_ys m_state := ⟨rfl, hR, hN, hXY, wl, ws, rfl, hwl, rfl, hws, hF⟩
    have hj01 : j = 0 ∨ j = 1 := by omega
    rcases hj01 with rfl | rfl
    · refine ⟨1, nI (k ||| 2 ^ 0), nI n, b_near, nI wl, nI ws, cpF 0 8 b_nets i_nets, cpF 0 8 b_xs i_xs, cpF 0 8 b_ys i_ys, j_points, j_near, j_loose, j_short, j_nets, j_xs, j_ys, cpF (40 * 0 + 0) (40 * 0 + 40) (fun p => m_state (p - 40 * 0)) m_images, upd m_isKept 0 1, ?_, ?_, ?_⟩
      · unfold m_X5_image
        rw [isImage5, bd1_s, decide_eq_true h1, if_neg (show ¬ bi true = 0 by decide), e2, if_pos (show nI 0 = 0 from rfl), copy5, bd7_s, or_bit2 _ (by omega)]
      · unfold m_X6_image
        rw [in6, bd1_s, z0, z1, decide_eq_true h1, if_neg (show ¬ bi true = 0 by decide), e2]
        exact him
      · refine ⟨⟨n, ⟨rfl, hR, hN, hXY, wl, ws, rfl, hwl, rfl, hws, hF⟩, ⟨TR, O, hTri, rfl, rfl, hL, rfl, hLP, hz, hpl⟩⟩, ⟨len, hlen, rfl, rfl, hsg⟩, ⟨k ||| 2 ^ 0, hk4, rfl, hkp', ?_, ?_⟩⟩
        · intro _
          refine ⟨n, BRn_ext hb0 (fun p hp => cpF_in (by omega) hp) (fun p hp => cpF_in (by omega) hp) (fun p hp => cpF_in (by omega) hp) ?_⟩
          intro p hp
          show cpF (40 * 0 + 0) (40 * 0 + 40) (fun p => m_state (p - 40 * 0)) m_images (40 * 0 + p) = m_state p
          rw [cpF_in (by omega) (by omega), show 40 * 0 + p - 40 * 0 = p by omega]
        · intro hb
          rw [kp_bits (by omega), decide_eq_false (by omega), Bool.or_false] at hb
          obtain ⟨n', hn'⟩ := hk1 hb
          refine ⟨n', BRn_ext hn' (fun _ _ => rfl) (fun _ _ => rfl) (fun _ _ => rfl) ?_⟩
          intro p hp
          show cpF (40 * 0 + 0) (40 * 0 + 40) (fun p => m_state (p - 40 * 0)) m_images (40 * 1 + p) = m_images (40 * 1 + p)
          rw [cpF_out (by omega)]
    · refine ⟨1, nI (k ||| 2 ^ 1), i_points, i_near, i_loose, i_short, i_nets, i_xs, i_ys, nI n, b_near, nI wl, nI ws, cpF 0 8 b_nets j_nets, cpF 0 8 b_xs j_xs, cpF 0 8 b_ys j_ys, cpF (40 * 1 + 0) (40 * 1 + 40) (fun p => m_state (p - 40 * 1)) m_images, upd m_isKept 1 1, ?_, ?_, ?_⟩
      · unfold m_X5_image
        rw [isImage5, bd1_s, decide_eq_true h1, if_neg (show ¬ bi true = 0 by decide), e2, if_neg (show ¬ nI 1 = 0 by decide), if_pos (show nI 1 = 1 from rfl), copy5, bd7_s, or_bit2 _ (by omega)]
      · unfold m_X6_image
        rw [in6, bd1_s, z0, z1, decide_eq_true h1, if_neg (show ¬ bi true = 0 by decide), e2]
        exact him
      · refine ⟨⟨n, ⟨rfl, hR, hN, hXY, wl, ws, rfl, hwl, rfl, hws, hF⟩, ⟨TR, O, hTri, rfl, rfl, hL, rfl, hLP, hz, hpl⟩⟩, ⟨len, hlen, rfl, rfl, hsg⟩, ⟨k ||| 2 ^ 1, hk4, rfl, hkp', ?_, ?_⟩⟩
        · intro hb
          rw [kp_bits (by omega), decide_eq_false (by omega), Bool.or_false] at hb
          obtain ⟨n', hn'⟩ := hk0 hb
          refine ⟨n', BRn_ext hn' (fun _ _ => rfl) (fun _ _ => rfl) (fun _ _ => rfl) ?_⟩
          intro p hp
          show cpF (40 * 1 + 0) (40 * 1 + 40) (fun p => m_state (p - 40 * 1)) m_images (40 * 0 + p) = m_images (40 * 0 + p)
          rw [cpF_out (by omega)]
        · intro _
          refine ⟨n, BRn_ext hb0 (fun p hp => cpF_in (by omega) hp) (fun p hp => cpF_in (by omega) hp) (fun p hp => cpF_in (by omega) hp) ?_⟩
          intro p hp
          show cpF (40 * 1 + 0) (40 * 1 + 40) (fun p => m_state (p - 40 * 1)) m_images (40 * 1 + p) = m_state p
          rw [cpF_in (by omega) (by omega), show 40 * 1 + p - 40 * 1 = p by omega]
  · refine ⟨-2, (nI k), i_points, i_near, i_loose, i_short, i_nets, i_xs, i_ys, j_points, j_near, j_loose, j_short, j_nets, j_xs, j_ys, m_images, m_isKept, ?_, ?_, ?_⟩
    · unfold m_X5_image
      rw [isImage5, bd1_s, decide_eq_false h1, if_pos (show bi false = 0 from rfl)]
    · unfold m_X6_image
      rw [in6, bd1_s, z0, z1, decide_eq_false h1, if_pos (show bi false = 0 from rfl)]
    · exact ⟨⟨n, ⟨rfl, hR, hN, hXY, wl, ws, rfl, hwl, rfl, hws, hF⟩, ⟨TR, O, hTri, rfl, rfl, hL, rfl, hLP, hz, hpl⟩⟩, ⟨len, hlen, rfl, rfl, hsg⟩, ⟨k, hk, rfl, hkp, hk0, hk1⟩⟩
theorem op_restore : Op_restore Iv0 := by
  intro s_kept b_points b_near b_loose b_short b_nets b_xs b_ys t_total t_oft t_left t_right t_group t_paired n_total n_planned n_leaps n_onward nb_len nb_sum nb_tries nn_len nn_sum nn_tries p_len p_signs i_points i_near i_loose i_short i_nets i_xs i_ys j_points j_near j_loose j_short j_nets j_xs j_ys m_said m_tries m_state m_images m_isKept m_pad m_leftOf m_rightOf m_isApart m_group m_isPair m_isOne m_order m_rest m_aside m_others hIv p1
  obtain ⟨⟨n, ⟨rfl, hR, hN, hXY, wl, ws, rfl, hwl, rfl, hws, hF⟩, TR, O, hTri, rfl, rfl, hL, rfl, hLP, hz, hpl⟩, ⟨len, hlen, rfl, rfl, hsg⟩, ⟨k, hk, rfl, hkp, hk0, hk1⟩⟩ := hIv
  have hn : n ≤ 8 := hR.2.1
  have h10 := hTri.1
  have hO := hTri.2.1
  have hTn := hTri.2.2.1
  have hTok : TRok TR := ⟨h10, fun q hq => ⟨by have := (hTn q hq).1; omega, by have := (hTn q hq).2; omega⟩⟩
  have z0 : (0 : Int32).toInt = 0 := rfl
  have z1 : (1 : Int32).toInt = 1 := rfl
  by_cases h1 : 0 ≤ p1.toInt ∧ p1.toInt ≤ 1
  · obtain ⟨j, hj, e1, e2⟩ := nN p1 h1.1 (by omega)
    have hj2 : j < 2 := by omega
    cases hkb : k.testBit j with
    | false =>
      refine ⟨-3, (nI n), b_near, (nI wl), (nI ws), b_nets, b_xs, b_ys, (nI TR.length), (nI O), t_left, t_right, t_group, t_paired, (nI TR.length), n_planned, n_leaps, m_state, ?_, ?_, ?_⟩
      · unfold m_X5_restore
        rw [isImage5, bd1_s, decide_eq_true h1, if_neg (show ¬ bi true = 0 by decide), e2, isIn_eq _ (by omega), bd1_s, bt_nI (by omega), hkb, if_pos (show bi false = 0 from rfl)]
      · unfold m_X6_restore
        rw [in6, bd1_s, z0, z1, decide_eq_true h1, if_neg (show ¬ bi true = 0 by decide), e2, gN hj2 (by omega), grd_tt, cN (by omega), hkp j hj2, hkb, if_pos (show bi false = 0 from rfl)]
      · exact ⟨⟨n, ⟨rfl, hR, hN, hXY, wl, ws, rfl, hwl, rfl, hws, hF⟩, ⟨TR, O, hTri, rfl, rfl, hL, rfl, hLP, hz, hpl⟩⟩, ⟨len, hlen, rfl, rfl, hsg⟩, ⟨k, hk, rfl, hkp, hk0, hk1⟩⟩
    | true =>
      have hre := re6_loop (im := m_images) (kept := m_isKept) hj2 40 0 (by omega) FU (by show _ < 4096; omega) m_state
      have hj01 : j = 0 ∨ j = 1 := by omega
      rcases hj01 with rfl | rfl
      · obtain ⟨n', hn'⟩ := hk0 hkb
        have hb' : BRn n' i_points i_near i_loose i_short (cpF 0 8 i_nets b_nets) (cpF 0 8 i_xs b_xs) (cpF 0 8 i_ys b_ys) (cpF 0 40 (fun p => m_images (40 * 0 + p)) m_state) := BRn_ext hn' (fun p hp => cpF_in (by omega) hp) (fun p hp => cpF_in (by omega) hp) (fun p hp => cpF_in (by omega) hp) (fun p hp => cpF_in (by omega) hp)
        have hpt : i_points = nI n' := hb'.1
        obtain ⟨q1, q2, q3, q4, q5, q6, q7, q8, q9, hq, hq2⟩ := relay (show n' ≤ 8 from hb'.2.1.2.1) (near := i_near) (xs := cpF 0 8 i_xs b_xs) (ys := cpF 0 8 i_ys b_ys) (onward := n_onward) hb'.2.2.1 hz (nI TR.length) (nI O) t_left t_right t_group t_paired (nI TR.length) n_planned n_leaps
        refine ⟨1, i_points, i_near, i_loose, i_short, cpF 0 8 i_nets b_nets, cpF 0 8 i_xs b_xs, cpF 0 8 i_ys b_ys, q1, q2, q3, q4, q5, q6, q7, q8, q9, cpF 0 40 (fun p => m_images (40 * 0 + p)) m_state, ?_, ?_, ?_⟩
        · unfold m_X5_restore
          rw [isImage5, bd1_s, decide_eq_true h1, if_neg (show ¬ bi true = 0 by decide), e2, isIn_eq _ (by omega), bd1_s, bt_nI (by omega), hkb, if_neg (show ¬ bi true = 0 by decide), if_pos (show nI 0 = 0 from rfl), copy5, bd7_s, hpt, hq, bd9_s]
        · unfold m_X6_restore
          rw [in6, bd1_s, z0, z1, decide_eq_true h1, if_neg (show ¬ bi true = 0 by decide), e2, gN hj2 (by omega), grd_tt, cN (by omega), hkp 0 hj2, hkb, if_neg (show ¬ bi true = 0 by decide)]
          exact hre
        · exact ⟨⟨n', hb', hq2 _ _ _⟩, ⟨len, hlen, rfl, rfl, hsg⟩, ⟨k, hk, rfl, hkp, hk0, hk1⟩⟩
      · obtain ⟨n', hn'⟩ := hk1 hkb
        have hb' : BRn n' j_points j_near j_loose j_short (cpF 0 8 j_nets b_nets) (cpF 0 8 j_xs b_xs) (cpF 0 8 j_ys b_ys) (cpF 0 40 (fun p => m_images (40 * 1 + p)) m_state) := BRn_ext hn' (fun p hp => cpF_in (by omega) hp) (fun p hp => cpF_in (by omega) hp) (fun p hp => cpF_in (by omega) hp) (fun p hp => cpF_in (by omega) hp)
        have hpt : j_points = nI n' := hb'.1
        obtain ⟨q1, q2, q3, q4, q5, q6, q7, q8, q9, hq, hq2⟩ := relay (show n' ≤ 8 from hb'.2.1.2.1) (near := j_near) (xs := cpF 0 8 j_xs b_xs) (ys := cpF 0 8 j_ys b_ys) (onward := n_onward) hb'.2.2.1 hz (nI TR.length) (nI O) t_left t_right t_group t_paired (nI TR.length) n_planned n_leaps
        refine ⟨1, j_points, j_near, j_loose, j_short, cpF 0 8 j_nets b_nets, cpF 0 8 j_xs b_xs, cpF 0 8 j_ys b_ys, q1, q2, q3, q4, q5, q6, q7, q8, q9, cpF 0 40 (fun p => m_images (40 * 1 + p)) m_state, ?_, ?_, ?_⟩
        · unfold m_X5_restore
          rw [isImage5, bd1_s, decide_eq_true h1, if_neg (show ¬ bi true = 0 by decide), e2, isIn_eq _ (by omega), bd1_s, bt_nI (by omega), hkb, if_neg (show ¬ bi true = 0 by decide), if_neg (show ¬ nI 1 = 0 by decide), if_pos (show nI 1 = 1 from rfl), copy5, bd7_s, hpt, hq, bd9_s]
        · unfold m_X6_restore
          rw [in6, bd1_s, z0, z1, decide_eq_true h1, if_neg (show ¬ bi true = 0 by decide), e2, gN hj2 (by omega), grd_tt, cN (by omega), hkp 1 hj2, hkb, if_neg (show ¬ bi true = 0 by decide)]
          exact hre
        · exact ⟨⟨n', hb', hq2 _ _ _⟩, ⟨len, hlen, rfl, rfl, hsg⟩, ⟨k, hk, rfl, hkp, hk0, hk1⟩⟩
  · refine ⟨-2, (nI n), b_near, (nI wl), (nI ws), b_nets, b_xs, b_ys, (nI TR.length), (nI O), t_left, t_right, t_group, t_paired, (nI TR.length), n_planned, n_leaps, m_state, ?_, ?_, ?_⟩
    · unfold m_X5_restore
      rw [isImage5, bd1_s, decide_eq_false h1, if_pos (show bi false = 0 from rfl)]
    · unfold m_X6_restore
      rw [in6, bd1_s, z0, z1, decide_eq_false h1, if_pos (show bi false = 0 from rfl)]
    · exact ⟨⟨n, ⟨rfl, hR, hN, hXY, wl, ws, rfl, hwl, rfl, hws, hF⟩, ⟨TR, O, hTri, rfl, rfl, hL, rfl, hLP, hz, hpl⟩⟩, ⟨len, hlen, rfl, rfl, hsg⟩, ⟨k, hk, rfl, hkp, hk0, hk1⟩⟩
theorem op_count : Op_count Iv0 := by
  intro s_kept b_points b_near b_loose b_short b_nets b_xs b_ys t_total t_oft t_left t_right t_group t_paired n_total n_planned n_leaps n_onward nb_len nb_sum nb_tries nn_len nn_sum nn_tries p_len p_signs i_points i_near i_loose i_short i_nets i_xs i_ys j_points j_near j_loose j_short j_nets j_xs j_ys m_said m_tries m_state m_images m_isKept m_pad m_leftOf m_rightOf m_isApart m_group m_isPair m_isOne m_order m_rest m_aside m_others hIv p1
  obtain ⟨⟨n, ⟨rfl, hR, hN, hXY, wl, ws, rfl, hwl, rfl, hws, hF⟩, TR, O, hTri, rfl, rfl, hL, rfl, hLP, hz, hpl⟩, ⟨len, hlen, rfl, rfl, hsg⟩, ⟨k, hk, rfl, hkp, hk0, hk1⟩⟩ := hIv
  have hn : n ≤ 8 := hR.2.1
  have h10 := hTri.1
  have hO := hTri.2.1
  have hTn := hTri.2.2.1
  have hTok : TRok TR := ⟨h10, fun q hq => ⟨by have := (hTn q hq).1; omega, by have := (hTn q hq).2; omega⟩⟩
  obtain ⟨l9, r9, a9, g9, i9, hlay, hL9, hA9⟩ := hTri.2.2.2.2 m_state hR m_tries m_leftOf m_rightOf m_isApart m_group m_isPair
  by_cases q0 : p1 = 0
  · refine ⟨nI n, nI TR.length, l9, r9, a9, g9, i9, ?_, ?_, ?_⟩
    · unfold m_X5_count
      rw [if_pos q0]
    · unfold m_X6_count
      rw [hlay, bd6_s, if_pos q0, hR.1]
    · exact ⟨⟨n, ⟨rfl, hR, hN, hXY, wl, ws, rfl, hwl, rfl, hws, hF⟩, ⟨TR, O, hTri, rfl, rfl, hL, rfl, hLP, hz, hpl⟩⟩, ⟨len, hlen, rfl, rfl, hsg⟩, ⟨k, hk, rfl, hkp, hk0, hk1⟩⟩
  by_cases q1 : p1 = 1
  · refine ⟨nI TR.length, nI TR.length, l9, r9, a9, g9, i9, ?_, ?_, ?_⟩
    · unfold m_X5_count
      rw [if_neg q0, if_pos q1]
    · unfold m_X6_count
      rw [hlay, bd6_s, if_neg q0, if_pos q1]
    · exact ⟨⟨n, ⟨rfl, hR, hN, hXY, wl, ws, rfl, hwl, rfl, hws, hF⟩, ⟨TR, O, hTri, rfl, rfl, hL, rfl, hLP, hz, hpl⟩⟩, ⟨len, hlen, rfl, rfl, hsg⟩, ⟨k, hk, rfl, hkp, hk0, hk1⟩⟩
  by_cases q2 : p1 = 2
  · refine ⟨nI (TR.length - O), nI TR.length, l9, r9, a9, g9, i9, ?_, ?_, ?_⟩
    · unfold m_X5_count
      rw [if_neg q0, if_neg q1, if_pos q2, subN hO]
    · unfold m_X6_count
      rw [hlay, bd6_s, if_neg q0, if_neg q1, if_pos q2, apart6 h10 hA9, bd1_s]
    · exact ⟨⟨n, ⟨rfl, hR, hN, hXY, wl, ws, rfl, hwl, rfl, hws, hF⟩, ⟨TR, O, hTri, rfl, rfl, hL, rfl, hLP, hz, hpl⟩⟩, ⟨len, hlen, rfl, rfl, hsg⟩, ⟨k, hk, rfl, hkp, hk0, hk1⟩⟩
  by_cases q3 : p1 = 3
  · refine ⟨nI (cnt (fun i => (nuM b_nets n).testBit i) 4), nI TR.length, l9, r9, a9, g9, i9, ?_, ?_, ?_⟩
    · unfold m_X5_count
      rw [if_neg q0, if_neg q1, if_neg q2, if_pos q3, countNets5 hN hn, bd1_s]
    · unfold m_X6_count
      rw [hlay, bd6_s, if_neg q0, if_neg q1, if_neg q2, if_pos q3, netsUsed6 hR hN, bd1_s]
    · exact ⟨⟨n, ⟨rfl, hR, hN, hXY, wl, ws, rfl, hwl, rfl, hws, hF⟩, ⟨TR, O, hTri, rfl, rfl, hL, rfl, hLP, hz, hpl⟩⟩, ⟨len, hlen, rfl, rfl, hsg⟩, ⟨k, hk, rfl, hkp, hk0, hk1⟩⟩
  by_cases q4 : p1 = 4
  · refine ⟨nI (cnt (fun i => wl.testBit i) n), nI TR.length, l9, r9, a9, g9, i9, ?_, ?_, ?_⟩
    · unfold m_X5_count
      rw [if_neg q0, if_neg q1, if_neg q2, if_neg q3, if_pos q4, bc5 hn hwl, bd1_s]
    · unfold m_X6_count
      rw [hlay, bd6_s, if_neg q0, if_neg q1, if_neg q2, if_neg q3, if_pos q4, loose6 hn hR.1 hF.1, bd1_s]
    · exact ⟨⟨n, ⟨rfl, hR, hN, hXY, wl, ws, rfl, hwl, rfl, hws, hF⟩, ⟨TR, O, hTri, rfl, rfl, hL, rfl, hLP, hz, hpl⟩⟩, ⟨len, hlen, rfl, rfl, hsg⟩, ⟨k, hk, rfl, hkp, hk0, hk1⟩⟩
  by_cases q5 : p1 = 5
  · refine ⟨nI (cnt (fun i => ws.testBit i) 6), nI TR.length, l9, r9, a9, g9, i9, ?_, ?_, ?_⟩
    · unfold m_X5_count
      rw [if_neg q0, if_neg q1, if_neg q2, if_neg q3, if_neg q4, if_pos q5, bc5 (n := 6) (by omega) hws, bd1_s]
    · unfold m_X6_count
      rw [hlay, bd6_s, if_neg q0, if_neg q1, if_neg q2, if_neg q3, if_neg q4, if_pos q5, short6 hF.2, bd1_s]
    · exact ⟨⟨n, ⟨rfl, hR, hN, hXY, wl, ws, rfl, hwl, rfl, hws, hF⟩, ⟨TR, O, hTri, rfl, rfl, hL, rfl, hLP, hz, hpl⟩⟩, ⟨len, hlen, rfl, rfl, hsg⟩, ⟨k, hk, rfl, hkp, hk0, hk1⟩⟩
  by_cases q6 : p1 = 6
  · refine ⟨b_near, nI TR.length, l9, r9, a9, g9, i9, ?_, ?_, ?_⟩
    · unfold m_X5_count
      rw [if_neg q0, if_neg q1, if_neg q2, if_neg q3, if_neg q4, if_neg q5, if_pos q6]
    · unfold m_X6_count
      rw [hlay, bd6_s, if_neg q0, if_neg q1, if_neg q2, if_neg q3, if_neg q4, if_neg q5, if_pos q6, hR.2.2.2]
    · exact ⟨⟨n, ⟨rfl, hR, hN, hXY, wl, ws, rfl, hwl, rfl, hws, hF⟩, ⟨TR, O, hTri, rfl, rfl, hL, rfl, hLP, hz, hpl⟩⟩, ⟨len, hlen, rfl, rfl, hsg⟩, ⟨k, hk, rfl, hkp, hk0, hk1⟩⟩
  by_cases q7 : p1 = 7
  · refine ⟨nI len, nI TR.length, l9, r9, a9, g9, i9, ?_, ?_, ?_⟩
    · unfold m_X5_count
      rw [if_neg q0, if_neg q1, if_neg q2, if_neg q3, if_neg q4, if_neg q5, if_neg q6, if_pos q7]
    · unfold m_X6_count
      rw [hlay, bd6_s, if_neg q0, if_neg q1, if_neg q2, if_neg q3, if_neg q4, if_neg q5, if_neg q6, if_pos q7]
    · exact ⟨⟨n, ⟨rfl, hR, hN, hXY, wl, ws, rfl, hwl, rfl, hws, hF⟩, ⟨TR, O, hTri, rfl, rfl, hL, rfl, hLP, hz, hpl⟩⟩, ⟨len, hlen, rfl, rfl, hsg⟩, ⟨k, hk, rfl, hkp, hk0, hk1⟩⟩
  by_cases q8 : p1 = 8
  · refine ⟨nI k, nI TR.length, l9, r9, a9, g9, i9, ?_, ?_, ?_⟩
    · unfold m_X5_count
      rw [if_neg q0, if_neg q1, if_neg q2, if_neg q3, if_neg q4, if_neg q5, if_neg q6, if_neg q7, if_pos q8]
    · unfold m_X6_count J_X6_count_115
      rw [hlay, bd6_s, if_neg q0, if_neg q1, if_neg q2, if_neg q3, if_neg q4, if_neg q5, if_neg q6, if_neg q7, if_pos q8, hkp 0 (by omega), hkp 1 (by omega)]
      have hk4 : k = 0 ∨ k = 1 ∨ k = 2 ∨ k = 3 := by omega
      rcases hk4 with rfl | rfl | rfl | rfl <;> rfl
    · exact ⟨⟨n, ⟨rfl, hR, hN, hXY, wl, ws, rfl, hwl, rfl, hws, hF⟩, ⟨TR, O, hTri, rfl, rfl, hL, rfl, hLP, hz, hpl⟩⟩, ⟨len, hlen, rfl, rfl, hsg⟩, ⟨k, hk, rfl, hkp, hk0, hk1⟩⟩
  · refine ⟨-2, nI TR.length, l9, r9, a9, g9, i9, ?_, ?_, ?_⟩
    · unfold m_X5_count
      rw [if_neg q0, if_neg q1, if_neg q2, if_neg q3, if_neg q4, if_neg q5, if_neg q6, if_neg q7, if_neg q8]
    · unfold m_X6_count
      rw [hlay, bd6_s, if_neg q0, if_neg q1, if_neg q2, if_neg q3, if_neg q4, if_neg q5, if_neg q6, if_neg q7, if_neg q8]
    · exact ⟨⟨n, ⟨rfl, hR, hN, hXY, wl, ws, rfl, hwl, rfl, hws, hF⟩, ⟨TR, O, hTri, rfl, rfl, hL, rfl, hLP, hz, hpl⟩⟩, ⟨len, hlen, rfl, rfl, hsg⟩, ⟨k, hk, rfl, hkp, hk0, hk1⟩⟩
