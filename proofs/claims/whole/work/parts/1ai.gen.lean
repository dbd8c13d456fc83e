def m_X4_isOfNeighbours (t_oft : Int32) (p1 : Int32) : Option (Int32) := if p1 < t_oft then (some ((0 : Int32))) else (some ((1 : Int32)))
theorem ds_X4_isOfNeighbours : (yX4_isOfNeighbours).cls ≠ "java/lang/invoke/MethodHandle" ∧ (yX4_isOfNeighbours).cls ≠ "java/lang/invoke/VarHandle" ∧ (parseMethodDescriptor (yX4_isOfNeighbours).desc).map (fun d => d.parameters.length) = some 1 := by decide +kernel
set_option maxHeartbeats 4000000 in
set_option maxRecDepth 100000 in
theorem c_X4_isOfNeighbours (E : En) {at0 at1 at2 at3 at4 : Nat} {t_total : Int32} {t_oft : Int32} {t_left : Ar} {t_right : Ar} {t_group : Ar} {t_paired : Ar} {p1 : Int32} {rr : Int32} (h : m_X4_isOfNeighbours t_oft p1 = some rr) : Ci E yX4_isOfNeighbours (wU yX4_isOfNeighbours cX4_isOfNeighbours 2 (some .boolean)) (RM 0 0) [.ref at0, .int p1] (V_T E.2.2 at0 at1 at2 at3 at4 t_total t_oft t_left t_right t_group t_paired) (V_T E.2.2 at0 at1 at2 at3 at4 t_total t_oft t_left t_right t_group t_paired) rr := by
  refine Ci.of (by decide) (Nat.le_of_ble_eq_true rfl) ?_
  intro x hE C
  subst hE
  have C : CX RX4 cX4_isOfNeighbours 2 (some .boolean) x := C
  refine p_locals [0, 1] (lv' := [(0, .ref at0), (1, .int p1)]) rfl ?_
  unfold m_X4_isOfNeighbours at h
  refine p_iload_n C dX4_isOfNeighbours_0 rfl 1 rfl ?_
  refine p_aload_n C dX4_isOfNeighbours_1 rfl 0 rfl ?_
  refine p_get C dX4_isOfNeighbours_2 rfl 0 3 inlX4 fl_X4_22 rfl rfl (by decide) rfl rfl ?_
  refine p_icmp_lt C dX4_isOfNeighbours_5 (tgt := 12) (by decide) rfl (fun c1 => ?_) (fun c1 => ?_)
  · have h := if_t c1 h
    refine p_iconst (v := (0 : Int32)) C dX4_isOfNeighbours_12 rfl (by decide) ?_
    cases h
    exact p_zret C dX4_isOfNeighbours_13 rfl
  · have h := if_f c1 h
    refine p_iconst (v := (1 : Int32)) C dX4_isOfNeighbours_8 rfl (by decide) ?_
    refine p_goto C dX4_isOfNeighbours_9 (pc' := 13) (by decide) ?_
    cases h
    exact p_zret C dX4_isOfNeighbours_13 rfl
def m_X4_layOut (t_total : Int32) (t_oft : Int32) (t_left : Ar) (t_right : Ar) (t_group : Ar) (t_paired : Ar) (b_points : Int32) (b_near : Int32) (b_nets : Ar) (b_xs : Ar) (b_ys : Ar)  : Option (Int32 × Int32 × Ar × Ar × Ar × Ar) := bd2 (m_X4_growTrees t_group t_paired b_points b_nets b_xs b_ys) (fun z_group1 z_paired2 => bd3 (m_X4_addTrees ((0 : Int32)) t_left t_right z_paired2 b_points b_nets b_xs) (fun z_total4 z_left5 z_right6 => bd3 (m_X4_addNeighbours z_total4 z_left5 z_right6 b_points b_near b_nets b_xs b_ys) (fun z_total8 z_left9 z_right10 => some (z_total8, z_total4, z_left9, z_right10, z_group1, z_paired2))))
theorem ds_X4_layOut : (yX4_layOut).cls ≠ "java/lang/invoke/MethodHandle" ∧ (yX4_layOut).cls ≠ "java/lang/invoke/VarHandle" ∧ (parseMethodDescriptor (yX4_layOut).desc).map (fun d => d.parameters.length) = some 1 := by decide +kernel
set_option maxHeartbeats 4000000 in
set_option maxRecDepth 100000 in
theorem c_X4_layOut (E : En) {at0 at1 at2 at3 at4 ab0 ab1 ab2 ab3 : Nat} {t_total : Int32} {t_oft : Int32} {t_left : Ar} {t_right : Ar} {t_group : Ar} {t_paired : Ar} {b_points : Int32} {b_near : Int32} {b_loose : Int32} {b_short : Int32} {b_nets : Ar} {b_xs : Ar} {b_ys : Ar}  {q_t_total : Int32} {q_t_oft : Int32} {q_t_left : Ar} {q_t_right : Ar} {q_t_group : Ar} {q_t_paired : Ar} (h : m_X4_layOut t_total t_oft t_left t_right t_group t_paired b_points b_near b_nets b_xs b_ys = some (q_t_total, q_t_oft, q_t_left, q_t_right, q_t_group, q_t_paired)) : Cv E yX4_layOut (wU yX4_layOut cX4_layOut 2 none) (RM 4 97) [.ref at0, .ref ab0] (V_TB E.2.2 at0 at1 at2 at3 at4 ab0 ab1 ab2 ab3 t_total t_oft t_left t_right t_group t_paired b_points b_near b_loose b_short b_nets b_xs b_ys) (V_TB E.2.2 at0 at1 at2 at3 at4 ab0 ab1 ab2 ab3 q_t_total q_t_oft q_t_left q_t_right q_t_group q_t_paired b_points b_near b_loose b_short b_nets b_xs b_ys) := by
  refine Cv.of (by decide) (Nat.le_of_ble_eq_true rfl) ?_
  intro x hE C
  subst hE
  have C : CX RX4 cX4_layOut 2 none x := C
  refine p_locals [0, 1] (lv' := [(0, .ref at0), (1, .ref ab0)]) rfl ?_
  unfold m_X4_layOut at h
  refine p_aload_n C dX4_layOut_0 rfl 0 rfl ?_
  refine p_iconst (v := (0 : Int32)) C dX4_layOut_1 rfl (by decide) ?_
  refine p_put (Wd' := (V_TB x.1.2.2 at0 at1 at2 at3 at4 ab0 ab1 ab2 ab3 ((0 : Int32)) t_oft t_left t_right t_group t_paired b_points b_near b_loose b_short b_nets b_xs b_ys)) (ty := .int) C dX4_layOut_2 rfl 0 2 inlX4 tyX4 tyX4_ok nmX4 fl_X4_18 rfl rfl (by decide) rfl rfl (by decide +kernel) rfl rfl (Nat.le_of_ble_eq_true rfl) rfl ?_
  refine p_aload_n C dX4_layOut_5 rfl 0 rfl ?_
  refine p_aload_n C dX4_layOut_6 rfl 1 rfl ?_
  obtain ⟨z_group1, z_paired2, hc3, h⟩ := bd2_of h
  refine p_callVv_s (As := [.ref ab0]) (st' := []) (Wc' := (V_TB x.1.2.2 at0 at1 at2 at3 at4 ab0 ab1 ab2 ab3 ((0 : Int32)) t_oft t_left t_right z_group1 z_paired2 b_points b_near b_loose b_short b_nets b_xs b_ys)) C (c_X4_growTrees x.1 (at0 := at0) (at1 := at1) (at2 := at2) (at3 := at3) (at4 := at4) (ab0 := ab0) (ab1 := ab1) (ab2 := ab2) (ab3 := ab3) (t_total := (0 : Int32)) (t_oft := t_oft) (t_left := t_left) (t_right := t_right) (b_near := b_near) (b_loose := b_loose) (b_short := b_short) hc3) dX4_layOut_7 rfl ml_X4_31 kv_X4_growTrees ds_X4_growTrees ⟨rfl, rfl, by decide, by decide⟩ 0 rfl rfl rfl rfl (by decide) ⟨by decide, by decide⟩ ?_
  refine p_aload_n C dX4_layOut_10 rfl 0 rfl ?_
  refine p_aload_n C dX4_layOut_11 rfl 1 rfl ?_
  obtain ⟨z_total4, z_left5, z_right6, hc7, h⟩ := bd3_of h
  refine p_callVv_s (As := [.ref ab0]) (st' := []) (Wc' := (V_TB x.1.2.2 at0 at1 at2 at3 at4 ab0 ab1 ab2 ab3 z_total4 t_oft z_left5 z_right6 z_group1 z_paired2 b_points b_near b_loose b_short b_nets b_xs b_ys)) C (c_X4_addTrees x.1 (at0 := at0) (at1 := at1) (at2 := at2) (at3 := at3) (at4 := at4) (ab0 := ab0) (ab1 := ab1) (ab2 := ab2) (ab3 := ab3) (t_oft := t_oft) (t_group := z_group1) (b_near := b_near) (b_loose := b_loose) (b_short := b_short) (b_ys := b_ys) hc7) dX4_layOut_12 rfl ml_X4_35 kv_X4_addTrees ds_X4_addTrees ⟨rfl, rfl, by decide, by decide⟩ 0 rfl rfl rfl rfl (by decide) ⟨by decide, by decide⟩ ?_
  refine p_aload_n C dX4_layOut_15 rfl 0 rfl ?_
  refine p_aload_n C dX4_layOut_16 rfl 0 rfl ?_
  refine p_get C dX4_layOut_17 rfl 0 2 inlX4 fl_X4_18 rfl rfl (by decide) rfl rfl ?_
  refine p_put (Wd' := (V_TB x.1.2.2 at0 at1 at2 at3 at4 ab0 ab1 ab2 ab3 z_total4 z_total4 z_left5 z_right6 z_group1 z_paired2 b_points b_near b_loose b_short b_nets b_xs b_ys)) (ty := .int) C dX4_layOut_20 rfl 0 3 inlX4 tyX4 tyX4_ok nmX4 fl_X4_22 rfl rfl (by decide) rfl rfl (by decide +kernel) rfl rfl (Nat.le_of_ble_eq_true rfl) rfl ?_
  refine p_aload_n C dX4_layOut_23 rfl 0 rfl ?_
  refine p_aload_n C dX4_layOut_24 rfl 1 rfl ?_
  obtain ⟨z_total8, z_left9, z_right10, hc11, h⟩ := bd3_of h
  refine p_callVv_s (As := [.ref ab0]) (st' := []) (Wc' := (V_TB x.1.2.2 at0 at1 at2 at3 at4 ab0 ab1 ab2 ab3 z_total8 z_total4 z_left9 z_right10 z_group1 z_paired2 b_points b_near b_loose b_short b_nets b_xs b_ys)) C (c_X4_addNeighbours x.1 (at0 := at0) (at1 := at1) (at2 := at2) (at3 := at3) (at4 := at4) (ab0 := ab0) (ab1 := ab1) (ab2 := ab2) (ab3 := ab3) (t_oft := z_total4) (t_group := z_group1) (t_paired := z_paired2) (b_loose := b_loose) (b_short := b_short) hc11) dX4_layOut_25 rfl ml_X4_38 kv_X4_addNeighbours ds_X4_addNeighbours ⟨rfl, rfl, by decide, by decide⟩ 0 rfl rfl rfl rfl (by decide) ⟨by decide, by decide⟩ ?_
  cases h
  exact p_vret C dX4_layOut_28
def J_X4_seenSet_42 (t_total : Int32) (t_oft : Int32) (t_left : Ar) (t_right : Ar) (b_nets : Ar) (k6 : Int32 → Int32 → Option (Int32))  (v2 : Int32) (v3 : Int32) (v4 : Int32) (v5 : Int32) : Option (Int32) := k6 v4 (v5 + 1)
set_option maxHeartbeats 4000000 in
set_option maxRecDepth 100000 in
theorem tj_X4_seenSet_42 {x : Cxt} {at0 at1 at2 at3 at4 ab0 ab1 ab2 ab3 : Nat} {t_total : Int32} {t_oft : Int32} {t_left : Ar} {t_right : Ar} {t_group : Ar} {t_paired : Ar} {b_points : Int32} {b_near : Int32} {b_loose : Int32} {b_short : Int32} {b_nets : Ar} {b_xs : Ar} {b_ys : Ar} {k6 : Int32 → Int32 → Option (Int32)}  {v2 : Int32} {v3 : Int32} {v4 : Int32} {v5 : Int32} {rr : Int32} (C : CX RX4 cX4_seenSet 6 (some .int) x) (hk6 : ∀ (w4 : Int32) (w5 : Int32) , k6 w4 w5 = some rr → PT (RM 3 72) 6 x 6 [(0, .ref at0), (1, .ref ab0), (2, .int v2), (3, .int v3), (4, .int w4), (5, .int w5)] [] (V_TB x.1.2.2 at0 at1 at2 at3 at4 ab0 ab1 ab2 ab3 t_total t_oft t_left t_right t_group t_paired b_points b_near b_loose b_short b_nets b_xs b_ys) 0 0 (QI x rr (V_TB x.1.2.2 at0 at1 at2 at3 at4 ab0 ab1 ab2 ab3 t_total t_oft t_left t_right t_group t_paired b_points b_near b_loose b_short b_nets b_xs b_ys))) (h : J_X4_seenSet_42 t_total t_oft t_left t_right b_nets k6 v2 v3 v4 v5 = some rr) : PT (RM 3 72) 6 x 42 [(0, .ref at0), (1, .ref ab0), (2, .int v2), (3, .int v3), (4, .int v4), (5, .int v5)] [] (V_TB x.1.2.2 at0 at1 at2 at3 at4 ab0 ab1 ab2 ab3 t_total t_oft t_left t_right t_group t_paired b_points b_near b_loose b_short b_nets b_xs b_ys) 0 0 (QI x rr (V_TB x.1.2.2 at0 at1 at2 at3 at4 ab0 ab1 ab2 ab3 t_total t_oft t_left t_right t_group t_paired b_points b_near b_loose b_short b_nets b_xs b_ys)) := by
  unfold J_X4_seenSet_42 at h
  refine p_iinc (w := v5 + 1) (lv' := [(5, .int (v5 + 1)), (0, .ref at0), (1, .ref ab0), (2, .int v2), (3, .int v3), (4, .int v4)]) C dX4_seenSet_42 rfl 5 rfl rfl (by decide) rfl ?_
  refine p_goto C dX4_seenSet_45 (pc' := 6) (by decide) ?_
  refine p_locals [1, 2, 3, 4, 5, 0] (lv' := [(0, .ref at0), (1, .ref ab0), (2, .int v2), (3, .int v3), (4, .int v4), (5, .int (v5 + 1))]) rfl ?_
  exact hk6 _ _ h
def B_X4_seenSet_6 (t_total : Int32) (t_oft : Int32) (t_left : Ar) (t_right : Ar) (b_nets : Ar)  (v2 : Int32) (v3 : Int32) (kk : Int32 → Int32 → Option (Int32)) (v4 : Int32) (v5 : Int32)  : Option (Int32) := if t_total ≤ v5 then (some v4) else (bd1 (m_X4_conducts t_left t_right b_nets v5 v2 v3) (fun r2 => bd1 (m_X4_isOfNeighbours t_oft v5) (fun r4 => if r2 = r4 then (J_X4_seenSet_42 t_total t_oft t_left t_right b_nets (kk) v2 v3 (v4 ||| (((1 : Int32)) <<< (v5 &&& 31))) v5) else (J_X4_seenSet_42 t_total t_oft t_left t_right b_nets (kk) v2 v3 v4 v5))))
def L_X4_seenSet_6 (t_total : Int32) (t_oft : Int32) (t_left : Ar) (t_right : Ar) (b_nets : Ar)  (v2 : Int32) (v3 : Int32) : Nat → Int32 → Int32 → Option (Int32) := lpG (fun _ _ => none) (B_X4_seenSet_6 t_total t_oft t_left t_right b_nets v2 v3)
set_option maxHeartbeats 4000000 in
set_option maxRecDepth 100000 in
theorem tl_X4_seenSet_6 {x : Cxt} {at0 at1 at2 at3 at4 ab0 ab1 ab2 ab3 : Nat} {t_total : Int32} {t_oft : Int32} {t_left : Ar} {t_right : Ar} {t_group : Ar} {t_paired : Ar} {b_points : Int32} {b_near : Int32} {b_loose : Int32} {b_short : Int32} {b_nets : Ar} {b_xs : Ar} {b_ys : Ar}  {v2 : Int32} {v3 : Int32} {rr : Int32} (C : CX RX4 cX4_seenSet 6 (some .int) x)  : ∀ (n : Nat) (v4 : Int32) (v5 : Int32) , L_X4_seenSet_6 t_total t_oft t_left t_right b_nets v2 v3 n v4 v5 = some rr → PT (RM 3 72) 6 x 6 [(0, .ref at0), (1, .ref ab0), (2, .int v2), (3, .int v3), (4, .int v4), (5, .int v5)] [] (V_TB x.1.2.2 at0 at1 at2 at3 at4 ab0 ab1 ab2 ab3 t_total t_oft t_left t_right t_group t_paired b_points b_near b_loose b_short b_nets b_xs b_ys) 0 0 (QI x rr (V_TB x.1.2.2 at0 at1 at2 at3 at4 ab0 ab1 ab2 ab3 t_total t_oft t_left t_right t_group t_paired b_points b_near b_loose b_short b_nets b_xs b_ys)) := by
  intro n
  induction n with
  | zero =>
    intro v4 v5 h
    cases h
  | succ n ih =>
    intro v4 v5 h
    have h : B_X4_seenSet_6 t_total t_oft t_left t_right b_nets v2 v3 (L_X4_seenSet_6 t_total t_oft t_left t_right b_nets v2 v3 n) v4 v5 = some rr := h
    unfold B_X4_seenSet_6 at h
    refine p_iload C dX4_seenSet_6 rfl 5 rfl ?_
    refine p_aload_n C dX4_seenSet_8 rfl 0 rfl ?_
    refine p_get C dX4_seenSet_9 rfl 0 2 inlX4 fl_X4_18 rfl rfl (by decide) rfl rfl ?_
    refine p_icmp_ge C dX4_seenSet_12 (tgt := 48) (by decide) rfl (fun c1 => ?_) (fun c1 => ?_)
    · have h := if_t c1 h
      refine p_iload C dX4_seenSet_48 rfl 4 rfl ?_
      cases h
      exact p_iret C dX4_seenSet_50
    · have h := if_f c1 h
      refine p_aload_n C dX4_seenSet_15 rfl 0 rfl ?_
      refine p_aload_n C dX4_seenSet_16 rfl 1 rfl ?_
      refine p_iload C dX4_seenSet_17 rfl 5 rfl ?_
      refine p_iload_n C dX4_seenSet_19 rfl 2 rfl ?_
      refine p_iload_n C dX4_seenSet_20 rfl 3 rfl ?_
      obtain ⟨r2, hc3, h⟩ := bd1_of h
      refine p_callVi_s (As := [.ref ab0, .int v5, .int v2, .int v3]) (st' := []) (Wc' := (V_TB x.1.2.2 at0 at1 at2 at3 at4 ab0 ab1 ab2 ab3 t_total t_oft t_left t_right t_group t_paired b_points b_near b_loose b_short b_nets b_xs b_ys)) C (c_X4_conducts x.1 (at0 := at0) (at1 := at1) (at2 := at2) (at3 := at3) (at4 := at4) (ab0 := ab0) (ab1 := ab1) (ab2 := ab2) (ab3 := ab3) (t_total := t_total) (t_oft := t_oft) (t_group := t_group) (t_paired := t_paired) (b_points := b_points) (b_near := b_near) (b_loose := b_loose) (b_short := b_short) (b_xs := b_xs) (b_ys := b_ys) hc3) dX4_seenSet_21 rfl ml_X4_87 kv_X4_conducts ds_X4_conducts ⟨rfl, rfl, by decide, by decide⟩ 0 rfl rfl rfl rfl (by decide) ⟨by decide, by decide⟩ ?_
      refine p_aload_n C dX4_seenSet_24 rfl 0 rfl ?_
      refine p_iload C dX4_seenSet_25 rfl 5 rfl ?_
      obtain ⟨r4, hc5, h⟩ := bd1_of h
      refine p_callVi (As := [.int v5]) (st' := [.int r2]) (Wd' := (V_TB x.1.2.2 at0 at1 at2 at3 at4 ab0 ab1 ab2 ab3 t_total t_oft t_left t_right t_group t_paired b_points b_near b_loose b_short b_nets b_xs b_ys)) C (c_X4_isOfNeighbours x.1 (at0 := at0) (at1 := at1) (at2 := at2) (at3 := at3) (at4 := at4) (t_total := t_total) (t_left := t_left) (t_right := t_right) (t_group := t_group) (t_paired := t_paired) hc5) dX4_seenSet_27 rfl ml_X4_91 kv_X4_isOfNeighbours ds_X4_isOfNeighbours ⟨rfl, rfl, by decide, by decide⟩ 0 rfl rfl [0, 1, 2, 3, 4] rfl rfl rfl rfl (Nat.le_of_ble_eq_true rfl) ⟨by decide, by decide⟩ rfl ?_
      refine p_icmp_ne C dX4_seenSet_30 (tgt := 42) (by decide) rfl (fun c6 => ?_) (fun c6 => ?_)
      · have h := if_f c6 h
        refine p_locals [0, 1, 2, 3, 4, 5] (lv' := [(0, .ref at0), (1, .ref ab0), (2, .int v2), (3, .int v3), (4, .int v4), (5, .int v5)]) rfl ?_
        exact tj_X4_seenSet_42 C (fun u0 u1 h => ih u0 u1 h) h
      · have h := if_t c6 h
        refine p_iload C dX4_seenSet_33 rfl 4 rfl ?_
        refine p_iconst (v := (1 : Int32)) C dX4_seenSet_35 rfl (by decide) ?_
        refine p_iload C dX4_seenSet_36 rfl 5 rfl ?_
        refine p_ishl C dX4_seenSet_38 rfl ?_
        refine p_ior C dX4_seenSet_39 rfl ?_
        refine p_istore (lv' := [(4, .int (v4 ||| (((1 : Int32)) <<< (v5 &&& 31)))), (0, .ref at0), (1, .ref ab0), (2, .int v2), (3, .int v3), (5, .int v5)]) C dX4_seenSet_40 rfl (by decide) rfl ?_
        refine p_locals [1, 2, 3, 4, 0, 5] (lv' := [(0, .ref at0), (1, .ref ab0), (2, .int v2), (3, .int v3), (4, .int (v4 ||| (((1 : Int32)) <<< (v5 &&& 31)))), (5, .int v5)]) rfl ?_
        exact tj_X4_seenSet_42 C (fun u0 u1 h => ih u0 u1 h) h
def m_X4_seenSet (t_total : Int32) (t_oft : Int32) (t_left : Ar) (t_right : Ar) (b_nets : Ar) (p2 : Int32) (p3 : Int32) : Option (Int32) := L_X4_seenSet_6 t_total t_oft t_left t_right b_nets p2 p3 FU ((0 : Int32)) ((0 : Int32))
theorem ds_X4_seenSet : (yX4_seenSet).cls ≠ "java/lang/invoke/MethodHandle" ∧ (yX4_seenSet).cls ≠ "java/lang/invoke/VarHandle" ∧ (parseMethodDescriptor (yX4_seenSet).desc).map (fun d => d.parameters.length) = some 3 := by decide +kernel
set_option maxHeartbeats 4000000 in
set_option maxRecDepth 100000 in
theorem c_X4_seenSet (E : En) {at0 at1 at2 at3 at4 ab0 ab1 ab2 ab3 : Nat} {t_total : Int32} {t_oft : Int32} {t_left : Ar} {t_right : Ar} {t_group : Ar} {t_paired : Ar} {b_points : Int32} {b_near : Int32} {b_loose : Int32} {b_short : Int32} {b_nets : Ar} {b_xs : Ar} {b_ys : Ar} {p2 : Int32} {p3 : Int32} {rr : Int32} (h : m_X4_seenSet t_total t_oft t_left t_right b_nets p2 p3 = some rr) : Ci E yX4_seenSet (wU yX4_seenSet cX4_seenSet 6 (some .int)) (RM 3 72) [.ref at0, .ref ab0, .int p2, .int p3] (V_TB E.2.2 at0 at1 at2 at3 at4 ab0 ab1 ab2 ab3 t_total t_oft t_left t_right t_group t_paired b_points b_near b_loose b_short b_nets b_xs b_ys) (V_TB E.2.2 at0 at1 at2 at3 at4 ab0 ab1 ab2 ab3 t_total t_oft t_left t_right t_group t_paired b_points b_near b_loose b_short b_nets b_xs b_ys) rr := by
  refine Ci.of (by decide) (Nat.le_of_ble_eq_true rfl) ?_
  intro x hE C
  subst hE
  have C : CX RX4 cX4_seenSet 6 (some .int) x := C
  refine p_locals [0, 1, 2, 3] (lv' := [(0, .ref at0), (1, .ref ab0), (2, .int p2), (3, .int p3)]) rfl ?_
  unfold m_X4_seenSet at h
  refine p_iconst (v := (0 : Int32)) C dX4_seenSet_0 rfl (by decide) ?_
  refine p_istore (lv' := [(4, .int ((0 : Int32))), (0, .ref at0), (1, .ref ab0), (2, .int p2), (3, .int p3)]) C dX4_seenSet_1 rfl (by decide) rfl ?_
  refine p_iconst (v := (0 : Int32)) C dX4_seenSet_3 rfl (by decide) ?_
  refine p_istore (lv' := [(5, .int ((0 : Int32))), (4, .int ((0 : Int32))), (0, .ref at0), (1, .ref ab0), (2, .int p2), (3, .int p3)]) C dX4_seenSet_4 rfl (by decide) rfl ?_
  refine p_locals [2, 3, 4, 5, 1, 0] (lv' := [(0, .ref at0), (1, .ref ab0), (2, .int p2), (3, .int p3), (4, .int ((0 : Int32))), (5, .int ((0 : Int32)))]) rfl ?_
  exact tl_X4_seenSet_6 C  FU _ _ h
def m_X5_asNumber  (p0 : Int32) : Option (Int32) := if p0 = 0 then (some ((0 : Int32))) else (some ((1 : Int32)))
theorem ds_X5_asNumber : (yX5_asNumber).cls ≠ "java/lang/invoke/MethodHandle" ∧ (yX5_asNumber).cls ≠ "java/lang/invoke/VarHandle" ∧ (parseMethodDescriptor (yX5_asNumber).desc).map (fun d => d.parameters.length) = some 1 := by decide +kernel
set_option maxHeartbeats 4000000 in
set_option maxRecDepth 100000 in
theorem c_X5_asNumber (E : En)  {p0 : Int32} {rr : Int32} (h : m_X5_asNumber p0 = some rr) : Ci E yX5_asNumber (wU yX5_asNumber cX5_asNumber 1 (some .int)) (RM 0 0) [.int p0] ([] : va_W) ([] : va_W) rr := by
  refine Ci.of (by decide) (Nat.le_of_ble_eq_true rfl) ?_
  intro x hE C
  subst hE
  have C : CX RX5 cX5_asNumber 1 (some .int) x := C
  refine p_locals [0] (lv' := [(0, .int p0)]) rfl ?_
  unfold m_X5_asNumber at h
  refine p_iload_n C dX5_asNumber_0 rfl 0 rfl ?_
  refine p_if_eq C dX5_asNumber_1 (tgt := 8) (by decide) rfl (fun c1 => ?_) (fun c1 => ?_)
  · have h := if_t c1 h
    refine p_iconst (v := (0 : Int32)) C dX5_asNumber_8 rfl (by decide) ?_
    cases h
    exact p_iret C dX5_asNumber_9
  · have h := if_f c1 h
    refine p_iconst (v := (1 : Int32)) C dX5_asNumber_4 rfl (by decide) ?_
    refine p_goto C dX5_asNumber_5 (pc' := 9) (by decide) ?_
    cases h
    exact p_iret C dX5_asNumber_9
def m_X5_seenNow (b_loose : Int32) (b_short : Int32) (b_nets : Ar) (t_total : Int32) (t_oft : Int32) (t_left : Ar) (t_right : Ar)  : Option (Int32) := bd1 (m_X4_seenSet t_total t_oft t_left t_right b_nets b_loose b_short) (fun r1 => some r1)
theorem ds_X5_seenNow : (yX5_seenNow).cls ≠ "java/lang/invoke/MethodHandle" ∧ (yX5_seenNow).cls ≠ "java/lang/invoke/VarHandle" ∧ (parseMethodDescriptor (yX5_seenNow).desc).map (fun d => d.parameters.length) = some 0 := by decide +kernel
set_option maxHeartbeats 4000000 in
set_option maxRecDepth 100000 in
theorem c_X5_seenNow (E : En) {as0 ab0 ab1 ab2 ab3 at0 at1 at2 at3 at4 an0 an1 an2 anb0 anb1 ann0 ann1 ap0 ap1 as1 ai0 ai1 ai2 ai3 aj0 aj1 aj2 aj3 : Nat} {s_kept : Int32} {b_points : Int32} {b_near : Int32} {b_loose : Int32} {b_short : Int32} {b_nets : Ar} {b_xs : Ar} {b_ys : Ar} {t_total : Int32} {t_oft : Int32} {t_left : Ar} {t_right : Ar} {t_group : Ar} {t_paired : Ar} {n_total : Int32} {n_planned : Int32} {n_leaps : Ar} {n_onward : Ar} {nb_len : Int32} {nb_sum : Int32} {nb_tries : Ar} {nn_len : Int32} {nn_sum : Int32} {nn_tries : Ar} {p_len : Int32} {p_signs : Ar} {i_points : Int32} {i_near : Int32} {i_loose : Int32} {i_short : Int32} {i_nets : Ar} {i_xs : Ar} {i_ys : Ar} {j_points : Int32} {j_near : Int32} {j_loose : Int32} {j_short : Int32} {j_nets : Ar} {j_xs : Ar} {j_ys : Ar}  {rr : Int32} (h : m_X5_seenNow b_loose b_short b_nets t_total t_oft t_left t_right = some rr) : Ci E yX5_seenNow (wU yX5_seenNow cX5_seenNow 1 (some .int)) (RM 4 97) [.ref as0] (V_S E.2.2 as0 ab0 ab1 ab2 ab3 at0 at1 at2 at3 at4 an0 an1 an2 anb0 anb1 ann0 ann1 ap0 ap1 as1 ai0 ai1 ai2 ai3 aj0 aj1 aj2 aj3 s_kept b_points b_near b_loose b_short b_nets b_xs b_ys t_total t_oft t_left t_right t_group t_paired n_total n_planned n_leaps n_onward nb_len nb_sum nb_tries nn_len nn_sum nn_tries p_len p_signs i_points i_near i_loose i_short i_nets i_xs i_ys j_points j_near j_loose j_short j_nets j_xs j_ys) (V_S E.2.2 as0 ab0 ab1 ab2 ab3 at0 at1 at2 at3 at4 an0 an1 an2 anb0 anb1 ann0 ann1 ap0 ap1 as1 ai0 ai1 ai2 ai3 aj0 aj1 aj2 aj3 s_kept b_points b_near b_loose b_short b_nets b_xs b_ys t_total t_oft t_left t_right t_group t_paired n_total n_planned n_leaps n_onward nb_len nb_sum nb_tries nn_len nn_sum nn_tries p_len p_signs i_points i_near i_loose i_short i_nets i_xs i_ys j_points j_near j_loose j_short j_nets j_xs j_ys) rr := by
  refine Ci.of (by decide) (Nat.le_of_ble_eq_true rfl) ?_
  intro x hE C
  subst hE
  have C : CX RX5 cX5_seenNow 1 (some .int) x := C
  refine p_locals [0] (lv' := [(0, .ref as0)]) rfl ?_
  unfold m_X5_seenNow at h
  refine p_aload_n C dX5_seenNow_0 rfl 0 rfl ?_
  refine p_get C dX5_seenNow_1 rfl 0 1 inlX5 fl_X5_19 rfl rfl (by decide) rfl rfl ?_
  refine p_aload_n C dX5_seenNow_4 rfl 0 rfl ?_
  refine p_get C dX5_seenNow_5 rfl 0 0 inlX5 fl_X5_12 rfl rfl (by decide) rfl rfl ?_
  refine p_aload_n C dX5_seenNow_8 rfl 0 rfl ?_
  refine p_get C dX5_seenNow_9 rfl 0 0 inlX5 fl_X5_12 rfl rfl (by decide) rfl rfl ?_
  refine p_getN C dX5_seenNow_12 rfl 1 5 inlX0 nf_X5_82 rfl rfl (by decide) rfl rfl ?_
  refine p_aload_n C dX5_seenNow_15 rfl 0 rfl ?_
  refine p_get C dX5_seenNow_16 rfl 0 0 inlX5 fl_X5_12 rfl rfl (by decide) rfl rfl ?_
  refine p_getN C dX5_seenNow_19 rfl 1 6 inlX0 nf_X5_108 rfl rfl (by decide) rfl rfl ?_
  obtain ⟨r1, hc2, h⟩ := bd1_of h
  refine p_callVNi (As := [.ref ab0, .int b_loose, .int b_short]) (st' := []) (Wd' := (V_S x.1.2.2 as0 ab0 ab1 ab2 ab3 at0 at1 at2 at3 at4 an0 an1 an2 anb0 anb1 ann0 ann1 ap0 ap1 as1 ai0 ai1 ai2 ai3 aj0 aj1 aj2 aj3 s_kept b_points b_near b_loose b_short b_nets b_xs b_ys t_total t_oft t_left t_right t_group t_paired n_total n_planned n_leaps n_onward nb_len nb_sum nb_tries nn_len nn_sum nn_tries p_len p_signs i_points i_near i_loose i_short i_nets i_xs i_ys j_points j_near j_loose j_short j_nets j_xs j_ys)) C (c_X4_seenSet x.1 (at0 := at0) (at1 := at1) (at2 := at2) (at3 := at3) (at4 := at4) (ab0 := ab0) (ab1 := ab1) (ab2 := ab2) (ab3 := ab3) (t_group := t_group) (t_paired := t_paired) (b_points := b_points) (b_near := b_near) (b_loose := b_loose) (b_short := b_short) (b_xs := b_xs) (b_ys := b_ys) hc2) dX5_seenNow_22 rfl nm_X5_203 kv_X4_seenSet ds_X4_seenSet ⟨rfl, rfl, by decide, by decide⟩ 0 rfl rfl [5, 6, 7, 8, 9, 1, 2, 3, 4] rfl rfl rfl rfl (by decide) ⟨by decide, by decide⟩ rfl ?_
  cases h
  exact p_iret C dX5_seenNow_25
def m_X5_attempt (b_loose : Int32) (b_short : Int32) (b_nets : Ar) (t_total : Int32) (t_oft : Int32) (t_left : Ar) (t_right : Ar) (p1 : Int32) (p2 : Int32) : Option (Int32) := bd1 (m_X4_hasTry t_total p1) (fun r1 => if r1 = 0 then (some ((-1 : Int32))) else (if p2 = 0 then (grd (gI p1 10) (some (t_left p1.toNatClampNeg))) else (if p2 = 1 then (grd (gI p1 10) (some (t_right p1.toNatClampNeg))) else (if p2 = 2 then (bd1 (m_X4_isOfNeighbours t_oft p1) (fun r9 => bd1 (m_X5_asNumber r9) (fun r11 => some r11))) else (if p2 = 3 then (bd1 (m_X4_conducts t_left t_right b_nets p1 b_loose b_short) (fun r14 => bd1 (m_X5_asNumber r14) (fun r16 => some r16))) else (if p2 = 4 then (bd1 (m_X5_seenNow b_loose b_short b_nets t_total t_oft t_left t_right) (fun r19 => bd1 (m_X5_isIn r19 p1) (fun r21 => bd1 (m_X5_asNumber r21) (fun r23 => some r23)))) else (some ((-2 : Int32)))))))))
theorem ds_X5_attempt : (yX5_attempt).cls ≠ "java/lang/invoke/MethodHandle" ∧ (yX5_attempt).cls ≠ "java/lang/invoke/VarHandle" ∧ (parseMethodDescriptor (yX5_attempt).desc).map (fun d => d.parameters.length) = some 2 := by decide +kernel
set_option maxHeartbeats 4000000 in
set_option maxRecDepth 100000 in
theorem c_X5_attempt (E : En) {as0 ab0 ab1 ab2 ab3 at0 at1 at2 at3 at4 an0 an1 an2 anb0 anb1 ann0 ann1 ap0 ap1 as1 ai0 ai1 ai2 ai3 aj0 aj1 aj2 aj3 : Nat} {s_kept : Int32} {b_points : Int32} {b_near : Int32} {b_loose : Int32} {b_short : Int32} {b_nets : Ar} {b_xs : Ar} {b_ys : Ar} {t_total : Int32} {t_oft : Int32} {t_left : Ar} {t_right : Ar} {t_group : Ar} {t_paired : Ar} {n_total : Int32} {n_planned : Int32} {n_leaps : Ar} {n_onward : Ar} {nb_len : Int32} {nb_sum : Int32} {nb_tries : Ar} {nn_len : Int32} {nn_sum : Int32} {nn_tries : Ar} {p_len : Int32} {p_signs : Ar} {i_points : Int32} {i_near : Int32} {i_loose : Int32} {i_short : Int32} {i_nets : Ar} {i_xs : Ar} {i_ys : Ar} {j_points : Int32} {j_near : Int32} {j_loose : Int32} {j_short : Int32} {j_nets : Ar} {j_xs : Ar} {j_ys : Ar} {p1 : Int32} {p2 : Int32} {rr : Int32} (h : m_X5_attempt b_loose b_short b_nets t_total t_oft t_left t_right p1 p2 = some rr) : Ci E yX5_attempt (wU yX5_attempt cX5_attempt 3 (some .int)) (RM 5 117) [.ref as0, .int p1, .int p2] (V_S E.2.2 as0 ab0 ab1 ab2 ab3 at0 at1 at2 at3 at4 an0 an1 an2 anb0 anb1 ann0 ann1 ap0 ap1 as1 ai0 ai1 ai2 ai3 aj0 aj1 aj2 aj3 s_kept b_points b_near b_loose b_short b_nets b_xs b_ys t_total t_oft t_left t_right t_group t_paired n_total n_planned n_leaps n_onward nb_len nb_sum nb_tries nn_len nn_sum nn_tries p_len p_signs i_points i_near i_loose i_short i_nets i_xs i_ys j_points j_near j_loose j_short j_nets j_xs j_ys) (V_S E.2.2 as0 ab0 ab1 ab2 ab3 at0 at1 at2 at3 at4 an0 an1 an2 anb0 anb1 ann0 ann1 ap0 ap1 as1 ai0 ai1 ai2 ai3 aj0 aj1 aj2 aj3 s_kept b_points b_near b_loose b_short b_nets b_xs b_ys t_total t_oft t_left t_right t_group t_paired n_total n_planned n_leaps n_onward nb_len nb_sum nb_tries nn_len nn_sum nn_tries p_len p_signs i_points i_near i_loose i_short i_nets i_xs i_ys j_points j_near j_loose j_short j_nets j_xs j_ys) rr := by
  refine Ci.of (by decide) (Nat.le_of_ble_eq_true rfl) ?_
  intro x hE C
  subst hE
  have C : CX RX5 cX5_attempt 3 (some .int) x := C
  refine p_locals [0, 1, 2] (lv' := [(0, .ref as0), (1, .int p1), (2, .int p2)]) rfl ?_
  unfold m_X5_attempt at h
  refine p_aload_n C dX5_attempt_0 rfl 0 rfl ?_
  refine p_get C dX5_attempt_1 rfl 0 1 inlX5 fl_X5_19 rfl rfl (by decide) rfl rfl ?_
  refine p_iload_n C dX5_attempt_4 rfl 1 rfl ?_
  obtain ⟨r1, hc2, h⟩ := bd1_of h
  refine p_callVNi (As := [.int p1]) (st' := []) (Wd' := (V_S x.1.2.2 as0 ab0 ab1 ab2 ab3 at0 at1 at2 at3 at4 an0 an1 an2 anb0 anb1 ann0 ann1 ap0 ap1 as1 ai0 ai1 ai2 ai3 aj0 aj1 aj2 aj3 s_kept b_points b_near b_loose b_short b_nets b_xs b_ys t_total t_oft t_left t_right t_group t_paired n_total n_planned n_leaps n_onward nb_len nb_sum nb_tries nn_len nn_sum nn_tries p_len p_signs i_points i_near i_loose i_short i_nets i_xs i_ys j_points j_near j_loose j_short j_nets j_xs j_ys)) C (c_X4_hasTry x.1 (at0 := at0) (at1 := at1) (at2 := at2) (at3 := at3) (at4 := at4) (t_oft := t_oft) (t_left := t_left) (t_right := t_right) (t_group := t_group) (t_paired := t_paired) hc2) dX5_attempt_5 rfl nm_X5_96 kv_X4_hasTry ds_X4_hasTry ⟨rfl, rfl, by decide, by decide⟩ 0 rfl rfl [5, 6, 7, 8, 9] rfl rfl rfl rfl (by decide) ⟨by decide, by decide⟩ rfl ?_
  refine p_if_ne C dX5_attempt_8 (tgt := 13) (by decide) rfl (fun c3 => ?_) (fun c3 => ?_)
  · have h := if_f c3 h
    refine p_iload_n C dX5_attempt_13 rfl 2 rfl ?_
    by_cases c4 : p2 = 0
    · have h := if_t c4 h
      refine p_tabIn C dX5_attempt_14 (pc' := 48) (off := 34) c4 (by decide +kernel) (by decide +kernel) (by decide +kernel) (by decide) ?_
      refine p_aload_n C dX5_attempt_48 rfl 0 rfl ?_
      refine p_get C dX5_attempt_49 rfl 0 1 inlX5 fl_X5_19 rfl rfl (by decide) rfl rfl ?_
      refine p_getN C dX5_attempt_52 rfl 5 0 inlX4 nf_X5_99 rfl rfl (by decide) rfl rfl ?_
      refine p_iload_n C dX5_attempt_55 rfl 1 rfl ?_
      obtain ⟨g5, h⟩ := grd_of h
      refine p_iald C dX5_attempt_56 rfl 6 rfl g5 ?_
      cases h
      exact p_iret C dX5_attempt_57
    · have h := if_f c4 h
      by_cases c6 : p2 = 1
      · have h := if_t c6 h
        refine p_tabIn C dX5_attempt_14 (pc' := 58) (off := 44) c6 (by decide +kernel) (by decide +kernel) (by decide +kernel) (by decide) ?_
        refine p_aload_n C dX5_attempt_58 rfl 0 rfl ?_
        refine p_get C dX5_attempt_59 rfl 0 1 inlX5 fl_X5_19 rfl rfl (by decide) rfl rfl ?_
        refine p_getN C dX5_attempt_62 rfl 5 1 inlX4 nf_X5_102 rfl rfl (by decide) rfl rfl ?_
        refine p_iload_n C dX5_attempt_65 rfl 1 rfl ?_
        obtain ⟨g7, h⟩ := grd_of h
        refine p_iald C dX5_attempt_66 rfl 7 rfl g7 ?_
        cases h
        exact p_iret C dX5_attempt_67
      · have h := if_f c6 h
        by_cases c8 : p2 = 2
        · have h := if_t c8 h
          refine p_tabIn C dX5_attempt_14 (pc' := 68) (off := 54) c8 (by decide +kernel) (by decide +kernel) (by decide +kernel) (by decide) ?_
          refine p_aload_n C dX5_attempt_68 rfl 0 rfl ?_
          refine p_get C dX5_attempt_69 rfl 0 1 inlX5 fl_X5_19 rfl rfl (by decide) rfl rfl ?_
          refine p_iload_n C dX5_attempt_72 rfl 1 rfl ?_
          obtain ⟨r9, hc10, h⟩ := bd1_of h
          refine p_callVNi (As := [.int p1]) (st' := []) (Wd' := (V_S x.1.2.2 as0 ab0 ab1 ab2 ab3 at0 at1 at2 at3 at4 an0 an1 an2 anb0 anb1 ann0 ann1 ap0 ap1 as1 ai0 ai1 ai2 ai3 aj0 aj1 aj2 aj3 s_kept b_points b_near b_loose b_short b_nets b_xs b_ys t_total t_oft t_left t_right t_group t_paired n_total n_planned n_leaps n_onward nb_len nb_sum nb_tries nn_len nn_sum nn_tries p_len p_signs i_points i_near i_loose i_short i_nets i_xs i_ys j_points j_near j_loose j_short j_nets j_xs j_ys)) C (c_X4_isOfNeighbours x.1 (at0 := at0) (at1 := at1) (at2 := at2) (at3 := at3) (at4 := at4) (t_total := t_total) (t_left := t_left) (t_right := t_right) (t_group := t_group) (t_paired := t_paired) hc10) dX5_attempt_73 rfl nm_X5_105 kv_X4_isOfNeighbours ds_X4_isOfNeighbours ⟨rfl, rfl, by decide, by decide⟩ 0 rfl rfl [5, 6, 7, 8, 9] rfl rfl rfl rfl (by decide) ⟨by decide, by decide⟩ rfl ?_
          obtain ⟨r11, hc12, h⟩ := bd1_of h
          refine p_callSi (As := [.int r9]) (st' := []) (Wd' := (V_S x.1.2.2 as0 ab0 ab1 ab2 ab3 at0 at1 at2 at3 at4 an0 an1 an2 anb0 anb1 ann0 ann1 ap0 ap1 as1 ai0 ai1 ai2 ai3 aj0 aj1 aj2 aj3 s_kept b_points b_near b_loose b_short b_nets b_xs b_ys t_total t_oft t_left t_right t_group t_paired n_total n_planned n_leaps n_onward nb_len nb_sum nb_tries nn_len nn_sum nn_tries p_len p_signs i_points i_near i_loose i_short i_nets i_xs i_ys j_points j_near j_loose j_short j_nets j_xs j_ys)) C (c_X5_asNumber x.1 hc12) dX5_attempt_76 rfl ml_X5_88 ks_X5_asNumber ds_X5_asNumber ⟨rfl, rfl, by decide, by decide⟩ [] rfl rfl rfl rfl (by decide) ⟨by decide, by decide⟩ rfl ?_
          cases h
          exact p_iret C dX5_attempt_79
        · have h := if_f c8 h
          by_cases c13 : p2 = 3
          · have h := if_t c13 h
            refine p_tabIn C dX5_attempt_14 (pc' := 80) (off := 66) c13 (by decide +kernel) (by decide +kernel) (by decide +kernel) (by decide) ?_
            refine p_aload_n C dX5_attempt_80 rfl 0 rfl ?_
            refine p_get C dX5_attempt_81 rfl 0 1 inlX5 fl_X5_19 rfl rfl (by decide) rfl rfl ?_
            refine p_aload_n C dX5_attempt_84 rfl 0 rfl ?_
            refine p_get C dX5_attempt_85 rfl 0 0 inlX5 fl_X5_12 rfl rfl (by decide) rfl rfl ?_
            refine p_iload_n C dX5_attempt_88 rfl 1 rfl ?_
            refine p_aload_n C dX5_attempt_89 rfl 0 rfl ?_
            refine p_get C dX5_attempt_90 rfl 0 0 inlX5 fl_X5_12 rfl rfl (by decide) rfl rfl ?_
            refine p_getN C dX5_attempt_93 rfl 1 5 inlX0 nf_X5_82 rfl rfl (by decide) rfl rfl ?_
            refine p_aload_n C dX5_attempt_96 rfl 0 rfl ?_
            refine p_get C dX5_attempt_97 rfl 0 0 inlX5 fl_X5_12 rfl rfl (by decide) rfl rfl ?_
            refine p_getN C dX5_attempt_100 rfl 1 6 inlX0 nf_X5_108 rfl rfl (by decide) rfl rfl ?_
            obtain ⟨r14, hc15, h⟩ := bd1_of h
            refine p_callVNi (As := [.ref ab0, .int p1, .int b_loose, .int b_short]) (st' := []) (Wd' := (V_S x.1.2.2 as0 ab0 ab1 ab2 ab3 at0 at1 at2 at3 at4 an0 an1 an2 anb0 anb1 ann0 ann1 ap0 ap1 as1 ai0 ai1 ai2 ai3 aj0 aj1 aj2 aj3 s_kept b_points b_near b_loose b_short b_nets b_xs b_ys t_total t_oft t_left t_right t_group t_paired n_total n_planned n_leaps n_onward nb_len nb_sum nb_tries nn_len nn_sum nn_tries p_len p_signs i_points i_near i_loose i_short i_nets i_xs i_ys j_points j_near j_loose j_short j_nets j_xs j_ys)) C (c_X4_conducts x.1 (at0 := at0) (at1 := at1) (at2 := at2) (at3 := at3) (at4 := at4) (ab0 := ab0) (ab1 := ab1) (ab2 := ab2) (ab3 := ab3) (t_total := t_total) (t_oft := t_oft) (t_group := t_group) (t_paired := t_paired) (b_points := b_points) (b_near := b_near) (b_loose := b_loose) (b_short := b_short) (b_xs := b_xs) (b_ys := b_ys) hc15) dX5_attempt_103 rfl nm_X5_111 kv_X4_conducts ds_X4_conducts ⟨rfl, rfl, by decide, by decide⟩ 0 rfl rfl [5, 6, 7, 8, 9, 1, 2, 3, 4] rfl rfl rfl rfl (by decide) ⟨by decide, by decide⟩ rfl ?_
            obtain ⟨r16, hc17, h⟩ := bd1_of h
            refine p_callSi (As := [.int r14]) (st' := []) (Wd' := (V_S x.1.2.2 as0 ab0 ab1 ab2 ab3 at0 at1 at2 at3 at4 an0 an1 an2 anb0 anb1 ann0 ann1 ap0 ap1 as1 ai0 ai1 ai2 ai3 aj0 aj1 aj2 aj3 s_kept b_points b_near b_loose b_short b_nets b_xs b_ys t_total t_oft t_left t_right t_group t_paired n_total n_planned n_leaps n_onward nb_len nb_sum nb_tries nn_len nn_sum nn_tries p_len p_signs i_points i_near i_loose i_short i_nets i_xs i_ys j_points j_near j_loose j_short j_nets j_xs j_ys)) C (c_X5_asNumber x.1 hc17) dX5_attempt_106 rfl ml_X5_88 ks_X5_asNumber ds_X5_asNumber ⟨rfl, rfl, by decide, by decide⟩ [] rfl rfl rfl rfl (by decide) ⟨by decide, by decide⟩ rfl ?_
            cases h
            exact p_iret C dX5_attempt_109
          · have h := if_f c13 h
            by_cases c18 : p2 = 4
            · have h := if_t c18 h
              refine p_tabIn C dX5_attempt_14 (pc' := 110) (off := 96) c18 (by decide +kernel) (by decide +kernel) (by decide +kernel) (by decide) ?_
              refine p_aload_n C dX5_attempt_110 rfl 0 rfl ?_
              obtain ⟨r19, hc20, h⟩ := bd1_of h
              refine p_callVi_s (As := []) (st' := []) (Wc' := (V_S x.1.2.2 as0 ab0 ab1 ab2 ab3 at0 at1 at2 at3 at4 an0 an1 an2 anb0 anb1 ann0 ann1 ap0 ap1 as1 ai0 ai1 ai2 ai3 aj0 aj1 aj2 aj3 s_kept b_points b_near b_loose b_short b_nets b_xs b_ys t_total t_oft t_left t_right t_group t_paired n_total n_planned n_leaps n_onward nb_len nb_sum nb_tries nn_len nn_sum nn_tries p_len p_signs i_points i_near i_loose i_short i_nets i_xs i_ys j_points j_near j_loose j_short j_nets j_xs j_ys)) C (c_X5_seenNow x.1 (as0 := as0) (ab0 := ab0) (ab1 := ab1) (ab2 := ab2) (ab3 := ab3) (at0 := at0) (at1 := at1) (at2 := at2) (at3 := at3) (at4 := at4) (an0 := an0) (an1 := an1) (an2 := an2) (anb0 := anb0) (anb1 := anb1) (ann0 := ann0) (ann1 := ann1) (ap0 := ap0) (ap1 := ap1) (as1 := as1) (ai0 := ai0) (ai1 := ai1) (ai2 := ai2) (ai3 := ai3) (aj0 := aj0) (aj1 := aj1) (aj2 := aj2) (aj3 := aj3) (s_kept := s_kept) (b_points := b_points) (b_near := b_near) (b_xs := b_xs) (b_ys := b_ys) (t_group := t_group) (t_paired := t_paired) (n_total := n_total) (n_planned := n_planned) (n_leaps := n_leaps) (n_onward := n_onward) (nb_len := nb_len) (nb_sum := nb_sum) (nb_tries := nb_tries) (nn_len := nn_len) (nn_sum := nn_sum) (nn_tries := nn_tries) (p_len := p_len) (p_signs := p_signs) (i_points := i_points) (i_near := i_near) (i_loose := i_loose) (i_short := i_short) (i_nets := i_nets) (i_xs := i_xs) (i_ys := i_ys) (j_points := j_points) (j_near := j_near) (j_loose := j_loose) (j_short := j_short) (j_nets := j_nets) (j_xs := j_xs) (j_ys := j_ys) hc20) dX5_attempt_111 rfl ml_X5_115 kv_X5_seenNow ds_X5_seenNow ⟨rfl, rfl, by decide, by decide⟩ 0 rfl rfl rfl rfl (by decide) ⟨by decide, by decide⟩ ?_
              refine p_iload_n C dX5_attempt_114 rfl 1 rfl ?_
              obtain ⟨r21, hc22, h⟩ := bd1_of h
              refine p_callSi (As := [.int r19, .int p1]) (st' := []) (Wd' := (V_S x.1.2.2 as0 ab0 ab1 ab2 ab3 at0 at1 at2 at3 at4 an0 an1 an2 anb0 anb1 ann0 ann1 ap0 ap1 as1 ai0 ai1 ai2 ai3 aj0 aj1 aj2 aj3 s_kept b_points b_near b_loose b_short b_nets b_xs b_ys t_total t_oft t_left t_right t_group t_paired n_total n_planned n_leaps n_onward nb_len nb_sum nb_tries nn_len nn_sum nn_tries p_len p_signs i_points i_near i_loose i_short i_nets i_xs i_ys j_points j_near j_loose j_short j_nets j_xs j_ys)) C (c_X5_isIn x.1 hc22) dX5_attempt_115 rfl ml_X5_85 ks_X5_isIn ds_X5_isIn ⟨rfl, rfl, by decide, by decide⟩ [] rfl rfl rfl rfl (by decide) ⟨by decide, by decide⟩ rfl ?_
              obtain ⟨r23, hc24, h⟩ := bd1_of h
              refine p_callSi (As := [.int r21]) (st' := []) (Wd' := (V_S x.1.2.2 as0 ab0 ab1 ab2 ab3 at0 at1 at2 at3 at4 an0 an1 an2 anb0 anb1 ann0 ann1 ap0 ap1 as1 ai0 ai1 ai2 ai3 aj0 aj1 aj2 aj3 s_kept b_points b_near b_loose b_short b_nets b_xs b_ys t_total t_oft t_left t_right t_group t_paired n_total n_planned n_leaps n_onward nb_len nb_sum nb_tries nn_len nn_sum nn_tries p_len p_signs i_points i_near i_loose i_short i_nets i_xs i_ys j_points j_near j_loose j_short j_nets j_xs j_ys)) C (c_X5_asNumber x.1 hc24) dX5_attempt_118 rfl ml_X5_88 ks_X5_asNumber ds_X5_asNumber ⟨rfl, rfl, by decide, by decide⟩ [] rfl rfl rfl rfl (by decide) ⟨by decide, by decide⟩ rfl ?_
              cases h
              exact p_iret C dX5_attempt_121
            · have h := if_f c18 h
              refine p_tabOut C dX5_attempt_14 (pc' := 122) (n := 5) (by decide) (by decide) (by intro k hk; match k, hk with | 0, _ => exact tabne (by decide) c4 | 1, _ => exact tabne (by decide) c6 | 2, _ => exact tabne (by decide) c8 | 3, _ => exact tabne (by decide) c13 | 4, _ => exact tabne (by decide) c18 | _ + 5, hk => exact absurd hk (by omega)) (by decide) ?_
              refine p_bipush (v := (-2 : Int32)) C dX5_attempt_122 rfl (by decide) ?_
              cases h
              exact p_iret C dX5_attempt_124
  · have h := if_t c3 h
    refine p_iconst (v := (-1 : Int32)) C dX5_attempt_11 rfl (by decide) ?_
    cases h
    exact p_iret C dX5_attempt_12
def m_X5_best (n_total : Int32) (n_planned : Int32) (n_leaps : Ar) (n_onward : Ar) (nb_len : Int32) (nb_sum : Int32) (nb_tries : Ar) (p1 : Int32) : Option (Int32 × Int32 × Ar × Int32 × Int32 × Ar) := if ((-1 : Int32)) ≤ p1 then (bd5 (m_X1_planBest n_total n_planned n_leaps n_onward nb_len nb_sum nb_tries) (fun z_planned2 z_onward3 z_len4 z_sum5 z_tries6 => bd1 (m_X2_tell z_len4 z_sum5 z_tries6 p1) (fun r8 => some (r8, z_planned2, z_onward3, z_len4, z_sum5, z_tries6)))) else (some ((-2 : Int32), n_planned, n_onward, nb_len, nb_sum, nb_tries))
theorem ds_X5_best : (yX5_best).cls ≠ "java/lang/invoke/MethodHandle" ∧ (yX5_best).cls ≠ "java/lang/invoke/VarHandle" ∧ (parseMethodDescriptor (yX5_best).desc).map (fun d => d.parameters.length) = some 1 := by decide +kernel
set_option maxHeartbeats 4000000 in
set_option maxRecDepth 100000 in
theorem c_X5_best (E : En) {as0 ab0 ab1 ab2 ab3 at0 at1 at2 at3 at4 an0 an1 an2 anb0 anb1 ann0 ann1 ap0 ap1 as1 ai0 ai1 ai2 ai3 aj0 aj1 aj2 aj3 : Nat} {s_kept : Int32} {b_points : Int32} {b_near : Int32} {b_loose : Int32} {b_short : Int32} {b_nets : Ar} {b_xs : Ar} {b_ys : Ar} {t_total : Int32} {t_oft : Int32} {t_left : Ar} {t_right : Ar} {t_group : Ar} {t_paired : Ar} {n_total : Int32} {n_planned : Int32} {n_leaps : Ar} {n_onward : Ar} {nb_len : Int32} {nb_sum : Int32} {nb_tries : Ar} {nn_len : Int32} {nn_sum : Int32} {nn_tries : Ar} {p_len : Int32} {p_signs : Ar} {i_points : Int32} {i_near : Int32} {i_loose : Int32} {i_short : Int32} {i_nets : Ar} {i_xs : Ar} {i_ys : Ar} {j_points : Int32} {j_near : Int32} {j_loose : Int32} {j_short : Int32} {j_nets : Ar} {j_xs : Ar} {j_ys : Ar} {p1 : Int32} {rr : Int32} {q_n_planned : Int32} {q_n_onward : Ar} {q_nb_len : Int32} {q_nb_sum : Int32} {q_nb_tries : Ar} (h : m_X5_best n_total n_planned n_leaps n_onward nb_len nb_sum nb_tries p1 = some (rr, q_n_planned, q_n_onward, q_nb_len, q_nb_sum, q_nb_tries)) : Ci E yX5_best (wU yX5_best cX5_best 2 (some .int)) (RM 4 98) [.ref as0, .int p1] (V_S E.2.2 as0 ab0 ab1 ab2 ab3 at0 at1 at2 at3 at4 an0 an1 an2 anb0 anb1 ann0 ann1 ap0 ap1 as1 ai0 ai1 ai2 ai3 aj0 aj1 aj2 aj3 s_kept b_points b_near b_loose b_short b_nets b_xs b_ys t_total t_oft t_left t_right t_group t_paired n_total n_planned n_leaps n_onward nb_len nb_sum nb_tries nn_len nn_sum nn_tries p_len p_signs i_points i_near i_loose i_short i_nets i_xs i_ys j_points j_near j_loose j_short j_nets j_xs j_ys) (V_S E.2.2 as0 ab0 ab1 ab2 ab3 at0 at1 at2 at3 at4 an0 an1 an2 anb0 anb1 ann0 ann1 ap0 ap1 as1 ai0 ai1 ai2 ai3 aj0 aj1 aj2 aj3 s_kept b_points b_near b_loose b_short b_nets b_xs b_ys t_total t_oft t_left t_right t_group t_paired n_total q_n_planned n_leaps q_n_onward q_nb_len q_nb_sum q_nb_tries nn_len nn_sum nn_tries p_len p_signs i_points i_near i_loose i_short i_nets i_xs i_ys j_points j_near j_loose j_short j_nets j_xs j_ys) rr := by
  refine Ci.of (by decide) (Nat.le_of_ble_eq_true rfl) ?_
  intro x hE C
  subst hE
  have C : CX RX5 cX5_best 2 (some .int) x := C
  refine p_locals [0, 1] (lv' := [(0, .ref as0), (1, .int p1)]) rfl ?_
  unfold m_X5_best at h
  refine p_iload_n C dX5_best_0 rfl 1 rfl ?_
  refine p_iconst (v := (-1 : Int32)) C dX5_best_1 rfl (by decide) ?_
  refine p_icmp_ge C dX5_best_2 (tgt := 8) (by decide) rfl (fun c1 => ?_) (fun c1 => ?_)
  · have h := if_t c1 h
    refine p_aload_n C dX5_best_8 rfl 0 rfl ?_
    refine p_get C dX5_best_9 rfl 0 2 inlX5 fl_X5_26 rfl rfl (by decide) rfl rfl ?_
    obtain ⟨z_planned2, z_onward3, z_len4, z_sum5, z_tries6, hc7, h⟩ := bd5_of h
    refine p_callVNv (As := []) (st' := []) (Wd' := (V_S x.1.2.2 as0 ab0 ab1 ab2 ab3 at0 at1 at2 at3 at4 an0 an1 an2 anb0 anb1 ann0 ann1 ap0 ap1 as1 ai0 ai1 ai2 ai3 aj0 aj1 aj2 aj3 s_kept b_points b_near b_loose b_short b_nets b_xs b_ys t_total t_oft t_left t_right t_group t_paired n_total z_planned2 n_leaps z_onward3 z_len4 z_sum5 z_tries6 nn_len nn_sum nn_tries p_len p_signs i_points i_near i_loose i_short i_nets i_xs i_ys j_points j_near j_loose j_short j_nets j_xs j_ys)) C (c_X1_planBest x.1 (an0 := an0) (an1 := an1) (an2 := an2) (anb0 := anb0) (anb1 := anb1) (ann0 := ann0) (ann1 := ann1) (nn_len := nn_len) (nn_sum := nn_sum) (nn_tries := nn_tries) hc7) dX5_best_12 rfl nm_X5_139 kv_X1_planBest ds_X1_planBest ⟨rfl, rfl, by decide, by decide⟩ 0 rfl rfl [10, 11, 12, 13, 14, 15, 16] rfl rfl rfl rfl (by decide) ⟨by decide, by decide⟩ rfl ?_
    refine p_aload_n C dX5_best_15 rfl 0 rfl ?_
    refine p_get C dX5_best_16 rfl 0 2 inlX5 fl_X5_26 rfl rfl (by decide) rfl rfl ?_
    refine p_getN C dX5_best_19 rfl 10 3 inlX1 nf_X5_142 rfl rfl (by decide) rfl rfl ?_
    refine p_iload_n C dX5_best_22 rfl 1 rfl ?_
    obtain ⟨r8, hc9, h⟩ := bd1_of h
    refine p_callVNi (As := [.int p1]) (st' := []) (Wd' := (V_S x.1.2.2 as0 ab0 ab1 ab2 ab3 at0 at1 at2 at3 at4 an0 an1 an2 anb0 anb1 ann0 ann1 ap0 ap1 as1 ai0 ai1 ai2 ai3 aj0 aj1 aj2 aj3 s_kept b_points b_near b_loose b_short b_nets b_xs b_ys t_total t_oft t_left t_right t_group t_paired n_total z_planned2 n_leaps z_onward3 z_len4 z_sum5 z_tries6 nn_len nn_sum nn_tries p_len p_signs i_points i_near i_loose i_short i_nets i_xs i_ys j_points j_near j_loose j_short j_nets j_xs j_ys)) C (c_X2_tell x.1 (ao0 := anb0) (ao1 := anb1) hc9) dX5_best_23 rfl nm_X5_146 kv_X2_tell ds_X2_tell ⟨rfl, rfl, by decide, by decide⟩ 0 rfl rfl [13, 14] rfl rfl rfl rfl (by decide) ⟨by decide, by decide⟩ rfl ?_
    cases h
    exact p_iret C dX5_best_26
  · have h := if_f c1 h
    refine p_bipush (v := (-2 : Int32)) C dX5_best_5 rfl (by decide) ?_
    cases h
    exact p_iret C dX5_best_7
