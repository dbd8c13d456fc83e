def m_X5_fits (b_points : Int32) (b_loose : Int32) (b_short : Int32) (b_nets : Ar) (t_total : Int32) (t_oft : Int32) (t_left : Ar) (t_right : Ar) (p1 : Int32) : Option (Int32) := bd1 (m_X5_seenNow b_loose b_short b_nets t_total t_oft t_left t_right) (fun r1 => bd1 (m_X5_flawSeenAs b_points b_nets t_total t_oft t_left t_right r1 p1) (fun r3 => some r3))
theorem ds_X5_fits : (yX5_fits).cls ≠ "java/lang/invoke/MethodHandle" ∧ (yX5_fits).cls ≠ "java/lang/invoke/VarHandle" ∧ (parseMethodDescriptor (yX5_fits).desc).map (fun d => d.parameters.length) = some 1 := by decide +kernel
set_option maxHeartbeats 4000000 in
set_option maxRecDepth 100000 in
theorem c_X5_fits (E : En) {as0 ab0 ab1 ab2 ab3 at0 at1 at2 at3 at4 an0 an1 an2 anb0 anb1 ann0 ann1 ap0 ap1 as1 ai0 ai1 ai2 ai3 aj0 aj1 aj2 aj3 : Nat} {s_kept : Int32} {b_points : Int32} {b_near : Int32} {b_loose : Int32} {b_short : Int32} {b_nets : Ar} {b_xs : Ar} {b_ys : Ar} {t_total : Int32} {t_oft : Int32} {t_left : Ar} {t_right : Ar} {t_group : Ar} {t_paired : Ar} {n_total : Int32} {n_planned : Int32} {n_leaps : Ar} {n_onward : Ar} {nb_len : Int32} {nb_sum : Int32} {nb_tries : Ar} {nn_len : Int32} {nn_sum : Int32} {nn_tries : Ar} {p_len : Int32} {p_signs : Ar} {i_points : Int32} {i_near : Int32} {i_loose : Int32} {i_short : Int32} {i_nets : Ar} {i_xs : Ar} {i_ys : Ar} {j_points : Int32} {j_near : Int32} {j_loose : Int32} {j_short : Int32} {j_nets : Ar} {j_xs : Ar} {j_ys : Ar} {p1 : Int32} {rr : Int32} (h : m_X5_fits b_points b_loose b_short b_nets t_total t_oft t_left t_right p1 = some rr) : Ci E yX5_fits (wU yX5_fits cX5_fits 2 (some .int)) (RM 6 142) [.ref as0, .int p1] (V_S E.2.2 as0 ab0 ab1 ab2 ab3 at0 at1 at2 at3 at4 an0 an1 an2 anb0 anb1 ann0 ann1 ap0 ap1 as1 ai0 ai1 ai2 ai3 aj0 aj1 aj2 aj3 s_kept b_points b_near b_loose b_short b_nets b_xs b_ys t_total t_oft t_left t_right t_group t_paired n_total n_planned n_leaps n_onward nb_len nb_sum nb_tries nn_len nn_sum nn_tries p_len p_signs i_points i_near i_loose i_short i_nets i_xs i_ys j_points j_near j_loose j_short j_nets j_xs j_ys) (V_S E.2.2 as0 ab0 ab1 ab2 ab3 at0 at1 at2 at3 at4 an0 an1 an2 anb0 anb1 ann0 ann1 ap0 ap1 as1 ai0 ai1 ai2 ai3 aj0 aj1 aj2 aj3 s_kept b_points b_near b_loose b_short b_nets b_xs b_ys t_total t_oft t_left t_right t_group t_paired n_total n_planned n_leaps n_onward nb_len nb_sum nb_tries nn_len nn_sum nn_tries p_len p_signs i_points i_near i_loose i_short i_nets i_xs i_ys j_points j_near j_loose j_short j_nets j_xs j_ys) rr := by
  refine Ci.of (by decide) (Nat.le_of_ble_eq_true rfl) ?_
  intro x hE C
  subst hE
  have C : CX RX5 cX5_fits 2 (some .int) x := C
  refine p_locals [0, 1] (lv' := [(0, .ref as0), (1, .int p1)]) rfl ?_
  unfold m_X5_fits at h
  refine p_aload_n C dX5_fits_0 rfl 0 rfl ?_
  refine p_aload_n C dX5_fits_1 rfl 0 rfl ?_
  obtain ⟨r1, hc2, h⟩ := bd1_of h
  refine p_callVi_s (As := []) (st' := [.ref as0]) (Wc' := (V_S x.1.2.2 as0 ab0 ab1 ab2 ab3 at0 at1 at2 at3 at4 an0 an1 an2 anb0 anb1 ann0 ann1 ap0 ap1 as1 ai0 ai1 ai2 ai3 aj0 aj1 aj2 aj3 s_kept b_points b_near b_loose b_short b_nets b_xs b_ys t_total t_oft t_left t_right t_group t_paired n_total n_planned n_leaps n_onward nb_len nb_sum nb_tries nn_len nn_sum nn_tries p_len p_signs i_points i_near i_loose i_short i_nets i_xs i_ys j_points j_near j_loose j_short j_nets j_xs j_ys)) C (c_X5_seenNow x.1 (as0 := as0) (ab0 := ab0) (ab1 := ab1) (ab2 := ab2) (ab3 := ab3) (at0 := at0) (at1 := at1) (at2 := at2) (at3 := at3) (at4 := at4) (an0 := an0) (an1 := an1) (an2 := an2) (anb0 := anb0) (anb1 := anb1) (ann0 := ann0) (ann1 := ann1) (ap0 := ap0) (ap1 := ap1) (as1 := as1) (ai0 := ai0) (ai1 := ai1) (ai2 := ai2) (ai3 := ai3) (aj0 := aj0) (aj1 := aj1) (aj2 := aj2) (aj3 := aj3) (s_kept := s_kept) (b_points := b_points) (b_near := b_near) (b_xs := b_xs) (b_ys := b_ys) (t_group := t_group) (t_paired := t_paired) (n_total := n_total) (n_planned := n_planned) (n_leaps := n_leaps) (n_onward := n_onward) (nb_len := nb_len) (nb_sum := nb_sum) (nb_tries := nb_tries) (nn_len := nn_len) (nn_sum := nn_sum) (nn_tries := nn_tries) (p_len := p_len) (p_signs := p_signs) (i_points := i_points) (i_near := i_near) (i_loose := i_loose) (i_short := i_short) (i_nets := i_nets) (i_xs := i_xs) (i_ys := i_ys) (j_points := j_points) (j_near := j_near) (j_loose := j_loose) (j_short := j_short) (j_nets := j_nets) (j_xs := j_xs) (j_ys := j_ys) hc2) dX5_fits_2 rfl ml_X5_115 kv_X5_seenNow ds_X5_seenNow ⟨rfl, rfl, by decide, by decide⟩ 0 rfl rfl rfl rfl (Nat.le_of_ble_eq_true rfl) ⟨by decide, by decide⟩ ?_
  refine p_iload_n C dX5_fits_5 rfl 1 rfl ?_
  obtain ⟨r3, hc4, h⟩ := bd1_of h
  refine p_callVi_s (As := [.int r1, .int p1]) (st' := []) (Wc' := (V_S x.1.2.2 as0 ab0 ab1 ab2 ab3 at0 at1 at2 at3 at4 an0 an1 an2 anb0 anb1 ann0 ann1 ap0 ap1 as1 ai0 ai1 ai2 ai3 aj0 aj1 aj2 aj3 s_kept b_points b_near b_loose b_short b_nets b_xs b_ys t_total t_oft t_left t_right t_group t_paired n_total n_planned n_leaps n_onward nb_len nb_sum nb_tries nn_len nn_sum nn_tries p_len p_signs i_points i_near i_loose i_short i_nets i_xs i_ys j_points j_near j_loose j_short j_nets j_xs j_ys)) C (c_X5_flawSeenAs x.1 (as0 := as0) (ab0 := ab0) (ab1 := ab1) (ab2 := ab2) (ab3 := ab3) (at0 := at0) (at1 := at1) (at2 := at2) (at3 := at3) (at4 := at4) (an0 := an0) (an1 := an1) (an2 := an2) (anb0 := anb0) (anb1 := anb1) (ann0 := ann0) (ann1 := ann1) (ap0 := ap0) (ap1 := ap1) (as1 := as1) (ai0 := ai0) (ai1 := ai1) (ai2 := ai2) (ai3 := ai3) (aj0 := aj0) (aj1 := aj1) (aj2 := aj2) (aj3 := aj3) (s_kept := s_kept) (b_near := b_near) (b_loose := b_loose) (b_short := b_short) (b_xs := b_xs) (b_ys := b_ys) (t_group := t_group) (t_paired := t_paired) (n_total := n_total) (n_planned := n_planned) (n_leaps := n_leaps) (n_onward := n_onward) (nb_len := nb_len) (nb_sum := nb_sum) (nb_tries := nb_tries) (nn_len := nn_len) (nn_sum := nn_sum) (nn_tries := nn_tries) (p_len := p_len) (p_signs := p_signs) (i_points := i_points) (i_near := i_near) (i_loose := i_loose) (i_short := i_short) (i_nets := i_nets) (i_xs := i_xs) (i_ys := i_ys) (j_points := j_points) (j_near := j_near) (j_loose := j_loose) (j_short := j_short) (j_nets := j_nets) (j_xs := j_xs) (j_ys := j_ys) hc4) dX5_fits_6 rfl ml_X5_171 kv_X5_flawSeenAs ds_X5_flawSeenAs ⟨rfl, rfl, by decide, by decide⟩ 0 rfl rfl rfl rfl (by decide) ⟨by decide, by decide⟩ ?_
  cases h
  exact p_iret C dX5_fits_9
def m_X5_isNet  (p0 : Int32) : Option (Int32) := if p0 < 0 then (some ((0 : Int32))) else (if ((4 : Int32)) ≤ p0 then (some ((0 : Int32))) else (some ((1 : Int32))))
theorem ds_X5_isNet : (yX5_isNet).cls ≠ "java/lang/invoke/MethodHandle" ∧ (yX5_isNet).cls ≠ "java/lang/invoke/VarHandle" ∧ (parseMethodDescriptor (yX5_isNet).desc).map (fun d => d.parameters.length) = some 1 := by decide +kernel
set_option maxHeartbeats 4000000 in
set_option maxRecDepth 100000 in
theorem c_X5_isNet (E : En)  {p0 : Int32} {rr : Int32} (h : m_X5_isNet p0 = some rr) : Ci E yX5_isNet (wU yX5_isNet cX5_isNet 1 (some .boolean)) (RM 0 0) [.int p0] ([] : va_W) ([] : va_W) rr := by
  refine Ci.of (by decide) (Nat.le_of_ble_eq_true rfl) ?_
  intro x hE C
  subst hE
  have C : CX RX5 cX5_isNet 1 (some .boolean) x := C
  refine p_locals [0] (lv' := [(0, .int p0)]) rfl ?_
  unfold m_X5_isNet at h
  refine p_iload_n C dX5_isNet_0 rfl 0 rfl ?_
  refine p_if_lt C dX5_isNet_1 (tgt := 13) (by decide) rfl (fun c1 => ?_) (fun c1 => ?_)
  · have h := if_t c1 h
    refine p_iconst (v := (0 : Int32)) C dX5_isNet_13 rfl (by decide) ?_
    cases h
    exact p_zret C dX5_isNet_14 rfl
  · have h := if_f c1 h
    refine p_iload_n C dX5_isNet_4 rfl 0 rfl ?_
    refine p_iconst (v := (4 : Int32)) C dX5_isNet_5 rfl (by decide) ?_
    refine p_icmp_ge C dX5_isNet_6 (tgt := 13) (by decide) rfl (fun c2 => ?_) (fun c2 => ?_)
    · have h := if_t c2 h
      refine p_iconst (v := (0 : Int32)) C dX5_isNet_13 rfl (by decide) ?_
      cases h
      exact p_zret C dX5_isNet_14 rfl
    · have h := if_f c2 h
      refine p_iconst (v := (1 : Int32)) C dX5_isNet_9 rfl (by decide) ?_
      refine p_goto C dX5_isNet_10 (pc' := 14) (by decide) ?_
      cases h
      exact p_zret C dX5_isNet_14 rfl
def J_X5_isSwitch_9     : Option (Int32) := some ((1 : Int32))
set_option maxHeartbeats 4000000 in
set_option maxRecDepth 100000 in
theorem tj_X5_isSwitch_9 {x : Cxt}     {rr : Int32} (C : CX RX5 cX5_isSwitch 1 (some .boolean) x)  (h : J_X5_isSwitch_9  = some rr) : PT (RM 0 0) 1 x 9 [] [] ([] : va_W) 0 0 (QI x rr ([] : va_W)) := by
  unfold J_X5_isSwitch_9 at h
  refine p_iconst (v := (1 : Int32)) C dX5_isSwitch_9 rfl (by decide) ?_
  refine p_goto C dX5_isSwitch_10 (pc' := 14) (by decide) ?_
  cases h
  exact p_zret C dX5_isSwitch_14 rfl
def m_X5_isSwitch  (p0 : Int32) : Option (Int32) := if p0 = 0 then (J_X5_isSwitch_9 ) else (if p0 = ((1 : Int32)) then (J_X5_isSwitch_9 ) else (some ((0 : Int32))))
theorem ds_X5_isSwitch : (yX5_isSwitch).cls ≠ "java/lang/invoke/MethodHandle" ∧ (yX5_isSwitch).cls ≠ "java/lang/invoke/VarHandle" ∧ (parseMethodDescriptor (yX5_isSwitch).desc).map (fun d => d.parameters.length) = some 1 := by decide +kernel
set_option maxHeartbeats 4000000 in
set_option maxRecDepth 100000 in
theorem c_X5_isSwitch (E : En)  {p0 : Int32} {rr : Int32} (h : m_X5_isSwitch p0 = some rr) : Ci E yX5_isSwitch (wU yX5_isSwitch cX5_isSwitch 1 (some .boolean)) (RM 0 0) [.int p0] ([] : va_W) ([] : va_W) rr := by
  refine Ci.of (by decide) (Nat.le_of_ble_eq_true rfl) ?_
  intro x hE C
  subst hE
  have C : CX RX5 cX5_isSwitch 1 (some .boolean) x := C
  refine p_locals [0] (lv' := [(0, .int p0)]) rfl ?_
  unfold m_X5_isSwitch at h
  refine p_iload_n C dX5_isSwitch_0 rfl 0 rfl ?_
  refine p_if_eq C dX5_isSwitch_1 (tgt := 9) (by decide) rfl (fun c1 => ?_) (fun c1 => ?_)
  · have h := if_t c1 h
    refine p_locals [] (lv' := []) rfl ?_
    exact tj_X5_isSwitch_9 C  h
  · have h := if_f c1 h
    refine p_iload_n C dX5_isSwitch_4 rfl 0 rfl ?_
    refine p_iconst (v := (1 : Int32)) C dX5_isSwitch_5 rfl (by decide) ?_
    refine p_icmp_ne C dX5_isSwitch_6 (tgt := 13) (by decide) rfl (fun c2 => ?_) (fun c2 => ?_)
    · have h := if_f c2 h
      refine p_iconst (v := (0 : Int32)) C dX5_isSwitch_13 rfl (by decide) ?_
      cases h
      exact p_zret C dX5_isSwitch_14 rfl
    · have h := if_t c2 h
      refine p_locals [] (lv' := []) rfl ?_
      exact tj_X5_isSwitch_9 C  h
def J_X5_leastMembers_31  (k4 : Int32 → Int32 → Option (Int32))  (v0 : Int32) (v1 : Int32) (v2 : Int32) (v3 : Int32) : Option (Int32) := k4 v2 (v3 + 1)
set_option maxHeartbeats 4000000 in
set_option maxRecDepth 100000 in
theorem tj_X5_leastMembers_31 {x : Cxt}  {k4 : Int32 → Int32 → Option (Int32)}  {v0 : Int32} {v1 : Int32} {v2 : Int32} {v3 : Int32} {rr : Int32} (C : CX RX5 cX5_leastMembers 4 (some .int) x) (hk4 : ∀ (w2 : Int32) (w3 : Int32) , k4 w2 w3 = some rr → PT (RM 1 21) 4 x 4 [(0, .int v0), (1, .int v1), (2, .int w2), (3, .int w3)] [] ([] : va_W) 0 0 (QI x rr ([] : va_W))) (h : J_X5_leastMembers_31 k4 v0 v1 v2 v3 = some rr) : PT (RM 1 21) 4 x 31 [(0, .int v0), (1, .int v1), (2, .int v2), (3, .int v3)] [] ([] : va_W) 0 0 (QI x rr ([] : va_W)) := by
  unfold J_X5_leastMembers_31 at h
  refine p_iinc (w := v3 + 1) (lv' := [(3, .int (v3 + 1)), (0, .int v0), (1, .int v1), (2, .int v2)]) C dX5_leastMembers_31 rfl 3 rfl rfl (by decide) rfl ?_
  refine p_goto C dX5_leastMembers_34 (pc' := 4) (by decide) ?_
  refine p_locals [1, 2, 3, 0] (lv' := [(0, .int v0), (1, .int v1), (2, .int v2), (3, .int (v3 + 1))]) rfl ?_
  exact hk4 _ _ h
def B_X5_leastMembers_4   (v0 : Int32) (v1 : Int32) (kk : Int32 → Int32 → Option (Int32)) (v2 : Int32) (v3 : Int32)  : Option (Int32) := if ((4 : Int32)) ≤ v3 then (some v2) else (bd1 (m_X5_isIn v0 v3) (fun r2 => if r2 = 0 then (J_X5_leastMembers_31 (kk) v0 v1 v2 v3) else (bd1 (m_J6_bitCount_0f7a4 v2) (fun r5 => if v1 ≤ r5 then (J_X5_leastMembers_31 (kk) v0 v1 v2 v3) else (J_X5_leastMembers_31 (kk) v0 v1 (v2 ||| (((1 : Int32)) <<< (v3 &&& 31))) v3)))))
def L_X5_leastMembers_4   (v0 : Int32) (v1 : Int32) : Nat → Int32 → Int32 → Option (Int32) := lpG (fun _ _ => none) (B_X5_leastMembers_4 v0 v1)
set_option maxHeartbeats 4000000 in
set_option maxRecDepth 100000 in
theorem tl_X5_leastMembers_4 {x : Cxt}   {v0 : Int32} {v1 : Int32} {rr : Int32} (C : CX RX5 cX5_leastMembers 4 (some .int) x)  : ∀ (n : Nat) (v2 : Int32) (v3 : Int32) , L_X5_leastMembers_4 v0 v1 n v2 v3 = some rr → PT (RM 1 21) 4 x 4 [(0, .int v0), (1, .int v1), (2, .int v2), (3, .int v3)] [] ([] : va_W) 0 0 (QI x rr ([] : va_W)) := by
  intro n
  induction n with
  | zero =>
    intro v2 v3 h
    cases h
  | succ n ih =>
    intro v2 v3 h
    have h : B_X5_leastMembers_4 v0 v1 (L_X5_leastMembers_4 v0 v1 n) v2 v3 = some rr := h
    unfold B_X5_leastMembers_4 at h
    refine p_iload_n C dX5_leastMembers_4 rfl 3 rfl ?_
    refine p_iconst (v := (4 : Int32)) C dX5_leastMembers_5 rfl (by decide) ?_
    refine p_icmp_ge C dX5_leastMembers_6 (tgt := 37) (by decide) rfl (fun c1 => ?_) (fun c1 => ?_)
    · have h := if_t c1 h
      refine p_iload_n C dX5_leastMembers_37 rfl 2 rfl ?_
      cases h
      exact p_iret C dX5_leastMembers_38
    · have h := if_f c1 h
      refine p_iload_n C dX5_leastMembers_9 rfl 0 rfl ?_
      refine p_iload_n C dX5_leastMembers_10 rfl 3 rfl ?_
      obtain ⟨r2, hc3, h⟩ := bd1_of h
      refine p_callSi_s (As := [.int v0, .int v3]) (st' := []) (Wc' := ([] : va_W)) C (c_X5_isIn x.1 hc3) dX5_leastMembers_11 rfl ml_X5_85 ks_X5_isIn ds_X5_isIn ⟨rfl, rfl, by decide, by decide⟩ rfl rfl (by decide) ⟨by decide, by decide⟩ ?_
      refine p_if_eq C dX5_leastMembers_14 (tgt := 31) (by decide) rfl (fun c4 => ?_) (fun c4 => ?_)
      · have h := if_t c4 h
        refine p_locals [0, 1, 2, 3] (lv' := [(0, .int v0), (1, .int v1), (2, .int v2), (3, .int v3)]) rfl ?_
        exact tj_X5_leastMembers_31 C (fun u0 u1 h => ih u0 u1 h) h
      · have h := if_f c4 h
        refine p_iload_n C dX5_leastMembers_17 rfl 2 rfl ?_
        obtain ⟨r5, hc6, h⟩ := bd1_of h
        refine p_callSi_s (As := [.int v2]) (st' := []) (Wc' := ([] : va_W)) C (c_J6_bitCount_0f7a4 x.1 hc6) dX5_leastMembers_18 rfl ml_X5_163 ks_J6_bitCount_0f7a4 ds_J6_bitCount_0f7a4 ⟨rfl, rfl, by decide, by decide⟩ rfl rfl (by decide) ⟨by decide, by decide⟩ ?_
        refine p_iload_n C dX5_leastMembers_21 rfl 1 rfl ?_
        refine p_icmp_ge C dX5_leastMembers_22 (tgt := 31) (by decide) rfl (fun c7 => ?_) (fun c7 => ?_)
        · have h := if_t c7 h
          refine p_locals [0, 1, 2, 3] (lv' := [(0, .int v0), (1, .int v1), (2, .int v2), (3, .int v3)]) rfl ?_
          exact tj_X5_leastMembers_31 C (fun u0 u1 h => ih u0 u1 h) h
        · have h := if_f c7 h
          refine p_iload_n C dX5_leastMembers_25 rfl 2 rfl ?_
          refine p_iconst (v := (1 : Int32)) C dX5_leastMembers_26 rfl (by decide) ?_
          refine p_iload_n C dX5_leastMembers_27 rfl 3 rfl ?_
          refine p_ishl C dX5_leastMembers_28 rfl ?_
          refine p_ior C dX5_leastMembers_29 rfl ?_
          refine p_istore_n (lv' := [(2, .int (v2 ||| (((1 : Int32)) <<< (v3 &&& 31)))), (0, .int v0), (1, .int v1), (3, .int v3)]) C dX5_leastMembers_30 rfl (by decide) rfl ?_
          refine p_locals [1, 2, 0, 3] (lv' := [(0, .int v0), (1, .int v1), (2, .int (v2 ||| (((1 : Int32)) <<< (v3 &&& 31)))), (3, .int v3)]) rfl ?_
          exact tj_X5_leastMembers_31 C (fun u0 u1 h => ih u0 u1 h) h
def m_X5_leastMembers  (p0 : Int32) (p1 : Int32) : Option (Int32) := L_X5_leastMembers_4 p0 p1 FU ((0 : Int32)) ((0 : Int32))
theorem ds_X5_leastMembers : (yX5_leastMembers).cls ≠ "java/lang/invoke/MethodHandle" ∧ (yX5_leastMembers).cls ≠ "java/lang/invoke/VarHandle" ∧ (parseMethodDescriptor (yX5_leastMembers).desc).map (fun d => d.parameters.length) = some 2 := by decide +kernel
set_option maxHeartbeats 4000000 in
set_option maxRecDepth 100000 in
theorem c_X5_leastMembers (E : En)  {p0 : Int32} {p1 : Int32} {rr : Int32} (h : m_X5_leastMembers p0 p1 = some rr) : Ci E yX5_leastMembers (wU yX5_leastMembers cX5_leastMembers 4 (some .int)) (RM 1 21) [.int p0, .int p1] ([] : va_W) ([] : va_W) rr := by
  refine Ci.of (by decide) (Nat.le_of_ble_eq_true rfl) ?_
  intro x hE C
  subst hE
  have C : CX RX5 cX5_leastMembers 4 (some .int) x := C
  refine p_locals [0, 1] (lv' := [(0, .int p0), (1, .int p1)]) rfl ?_
  unfold m_X5_leastMembers at h
  refine p_iconst (v := (0 : Int32)) C dX5_leastMembers_0 rfl (by decide) ?_
  refine p_istore_n (lv' := [(2, .int ((0 : Int32))), (0, .int p0), (1, .int p1)]) C dX5_leastMembers_1 rfl (by decide) rfl ?_
  refine p_iconst (v := (0 : Int32)) C dX5_leastMembers_2 rfl (by decide) ?_
  refine p_istore_n (lv' := [(3, .int ((0 : Int32))), (2, .int ((0 : Int32))), (0, .int p0), (1, .int p1)]) C dX5_leastMembers_3 rfl (by decide) rfl ?_
  refine p_locals [2, 3, 1, 0] (lv' := [(0, .int p0), (1, .int p1), (2, .int ((0 : Int32))), (3, .int ((0 : Int32)))]) rfl ?_
  exact tl_X5_leastMembers_4 C  FU _ _ h
def B_X5_leastNet_2   (v0 : Int32) (kk : Int32 → Option (Int32)) (v1 : Int32)  : Option (Int32) := if ((4 : Int32)) ≤ v1 then (some ((-6 : Int32))) else (bd1 (m_X5_isIn v0 v1) (fun r2 => if r2 = 0 then (kk (v1 + 1)) else (some v1)))
def L_X5_leastNet_2   (v0 : Int32) : Nat → Int32 → Option (Int32) := lpG (fun _ => none) (B_X5_leastNet_2 v0)
set_option maxHeartbeats 4000000 in
set_option maxRecDepth 100000 in
theorem tl_X5_leastNet_2 {x : Cxt}   {v0 : Int32} {rr : Int32} (C : CX RX5 cX5_leastNet 2 (some .int) x)  : ∀ (n : Nat) (v1 : Int32) , L_X5_leastNet_2 v0 n v1 = some rr → PT (RM 1 21) 2 x 2 [(0, .int v0), (1, .int v1)] [] ([] : va_W) 0 0 (QI x rr ([] : va_W)) := by
  intro n
  induction n with
  | zero =>
    intro v1 h
    cases h
  | succ n ih =>
    intro v1 h
    have h : B_X5_leastNet_2 v0 (L_X5_leastNet_2 v0 n) v1 = some rr := h
    unfold B_X5_leastNet_2 at h
    refine p_iload_n C dX5_leastNet_2 rfl 1 rfl ?_
    refine p_iconst (v := (4 : Int32)) C dX5_leastNet_3 rfl (by decide) ?_
    refine p_icmp_ge C dX5_leastNet_4 (tgt := 23) (by decide) rfl (fun c1 => ?_) (fun c1 => ?_)
    · have h := if_t c1 h
      refine p_bipush (v := (-6 : Int32)) C dX5_leastNet_23 rfl (by decide) ?_
      cases h
      exact p_iret C dX5_leastNet_25
    · have h := if_f c1 h
      refine p_iload_n C dX5_leastNet_7 rfl 0 rfl ?_
      refine p_iload_n C dX5_leastNet_8 rfl 1 rfl ?_
      obtain ⟨r2, hc3, h⟩ := bd1_of h
      refine p_callSi_s (As := [.int v0, .int v1]) (st' := []) (Wc' := ([] : va_W)) C (c_X5_isIn x.1 hc3) dX5_leastNet_9 rfl ml_X5_85 ks_X5_isIn ds_X5_isIn ⟨rfl, rfl, by decide, by decide⟩ rfl rfl (by decide) ⟨by decide, by decide⟩ ?_
      refine p_if_eq C dX5_leastNet_12 (tgt := 17) (by decide) rfl (fun c4 => ?_) (fun c4 => ?_)
      · have h := if_t c4 h
        refine p_iinc (w := v1 + 1) (lv' := [(1, .int (v1 + 1)), (0, .int v0)]) C dX5_leastNet_17 rfl 1 rfl rfl (by decide) rfl ?_
        refine p_goto C dX5_leastNet_20 (pc' := 2) (by decide) ?_
        refine p_locals [1, 0] (lv' := [(0, .int v0), (1, .int (v1 + 1))]) rfl ?_
        exact ih _ h
      · have h := if_f c4 h
        refine p_iload_n C dX5_leastNet_15 rfl 1 rfl ?_
        cases h
        exact p_iret C dX5_leastNet_16
def m_X5_leastNet  (p0 : Int32) : Option (Int32) := L_X5_leastNet_2 p0 FU ((0 : Int32))
theorem ds_X5_leastNet : (yX5_leastNet).cls ≠ "java/lang/invoke/MethodHandle" ∧ (yX5_leastNet).cls ≠ "java/lang/invoke/VarHandle" ∧ (parseMethodDescriptor (yX5_leastNet).desc).map (fun d => d.parameters.length) = some 1 := by decide +kernel
set_option maxHeartbeats 4000000 in
set_option maxRecDepth 100000 in
theorem c_X5_leastNet (E : En)  {p0 : Int32} {rr : Int32} (h : m_X5_leastNet p0 = some rr) : Ci E yX5_leastNet (wU yX5_leastNet cX5_leastNet 2 (some .int)) (RM 1 21) [.int p0] ([] : va_W) ([] : va_W) rr := by
  refine Ci.of (by decide) (Nat.le_of_ble_eq_true rfl) ?_
  intro x hE C
  subst hE
  have C : CX RX5 cX5_leastNet 2 (some .int) x := C
  refine p_locals [0] (lv' := [(0, .int p0)]) rfl ?_
  unfold m_X5_leastNet at h
  refine p_iconst (v := (0 : Int32)) C dX5_leastNet_0 rfl (by decide) ?_
  refine p_istore_n (lv' := [(1, .int ((0 : Int32))), (0, .int p0)]) C dX5_leastNet_1 rfl (by decide) rfl ?_
  refine p_locals [1, 0] (lv' := [(0, .int p0), (1, .int ((0 : Int32)))]) rfl ?_
  exact tl_X5_leastNet_2 C  FU _ h
def J_X5_halves_106 (b_short : Int32)   (v2 : Int32) (v3 : Int32) (v4 : Int32) (v5 : Int32) : Option (Int32) := if v2 = 0 then (some (v5 + 1)) else (bd1 (m_X5_leastNet (v4 &&& v3)) (fun r2 => some r2))
set_option maxHeartbeats 4000000 in
set_option maxRecDepth 100000 in
theorem tj_X5_halves_106 {x : Cxt} {as0 ab0 ab1 ab2 ab3 at0 at1 at2 at3 at4 an0 an1 an2 anb0 anb1 ann0 ann1 ap0 ap1 as1 ai0 ai1 ai2 ai3 aj0 aj1 aj2 aj3 : Nat} {s_kept : Int32} {b_points : Int32} {b_near : Int32} {b_loose : Int32} {b_short : Int32} {b_nets : Ar} {b_xs : Ar} {b_ys : Ar} {t_total : Int32} {t_oft : Int32} {t_left : Ar} {t_right : Ar} {t_group : Ar} {t_paired : Ar} {n_total : Int32} {n_planned : Int32} {n_leaps : Ar} {n_onward : Ar} {nb_len : Int32} {nb_sum : Int32} {nb_tries : Ar} {nn_len : Int32} {nn_sum : Int32} {nn_tries : Ar} {p_len : Int32} {p_signs : Ar} {i_points : Int32} {i_near : Int32} {i_loose : Int32} {i_short : Int32} {i_nets : Ar} {i_xs : Ar} {i_ys : Ar} {j_points : Int32} {j_near : Int32} {j_loose : Int32} {j_short : Int32} {j_nets : Ar} {j_xs : Ar} {j_ys : Ar}   {v2 : Int32} {v3 : Int32} {v4 : Int32} {v5 : Int32} {rr : Int32} (C : CX RX5 cX5_halves 8 (some .int) x)  (h : J_X5_halves_106 b_short v2 v3 v4 v5 = some rr) : PT (RM 2 46) 8 x 106 [(0, .ref as0), (2, .int v2), (3, .int v3), (4, .int v4), (5, .int v5)] [] (V_S x.1.2.2 as0 ab0 ab1 ab2 ab3 at0 at1 at2 at3 at4 an0 an1 an2 anb0 anb1 ann0 ann1 ap0 ap1 as1 ai0 ai1 ai2 ai3 aj0 aj1 aj2 aj3 s_kept b_points b_near b_loose b_short b_nets b_xs b_ys t_total t_oft t_left t_right t_group t_paired n_total n_planned n_leaps n_onward nb_len nb_sum nb_tries nn_len nn_sum nn_tries p_len p_signs i_points i_near i_loose i_short i_nets i_xs i_ys j_points j_near j_loose j_short j_nets j_xs j_ys) 0 0 (QI x rr (V_S x.1.2.2 as0 ab0 ab1 ab2 ab3 at0 at1 at2 at3 at4 an0 an1 an2 anb0 anb1 ann0 ann1 ap0 ap1 as1 ai0 ai1 ai2 ai3 aj0 aj1 aj2 aj3 s_kept b_points b_near b_loose b_short b_nets b_xs b_ys t_total t_oft t_left t_right t_group t_paired n_total n_planned n_leaps n_onward nb_len nb_sum nb_tries nn_len nn_sum nn_tries p_len p_signs i_points i_near i_loose i_short i_nets i_xs i_ys j_points j_near j_loose j_short j_nets j_xs j_ys)) := by
  unfold J_X5_halves_106 at h
  refine p_iinc (w := v5 + 1) (lv' := [(5, .int (v5 + 1)), (0, .ref as0), (2, .int v2), (3, .int v3), (4, .int v4)]) C dX5_halves_106 rfl 4 rfl rfl (by decide) rfl ?_
  refine p_iload_n C dX5_halves_109 rfl 2 rfl ?_
  refine p_if_ne C dX5_halves_110 (tgt := 116) (by decide) rfl (fun c1 => ?_) (fun c1 => ?_)
  · have h := if_f c1 h
    refine p_iload C dX5_halves_116 rfl 4 rfl ?_
    refine p_iload_n C dX5_halves_118 rfl 3 rfl ?_
    refine p_iand C dX5_halves_119 rfl ?_
    obtain ⟨r2, hc3, h⟩ := bd1_of h
    refine p_callSi (As := [.int (v4 &&& v3)]) (st' := []) (Wd' := (V_S x.1.2.2 as0 ab0 ab1 ab2 ab3 at0 at1 at2 at3 at4 an0 an1 an2 anb0 anb1 ann0 ann1 ap0 ap1 as1 ai0 ai1 ai2 ai3 aj0 aj1 aj2 aj3 s_kept b_points b_near b_loose b_short b_nets b_xs b_ys t_total t_oft t_left t_right t_group t_paired n_total n_planned n_leaps n_onward nb_len nb_sum nb_tries nn_len nn_sum nn_tries p_len p_signs i_points i_near i_loose i_short i_nets i_xs i_ys j_points j_near j_loose j_short j_nets j_xs j_ys)) C (c_X5_leastNet x.1 hc3) dX5_halves_120 rfl ml_X5_180 ks_X5_leastNet ds_X5_leastNet ⟨rfl, rfl, by decide, by decide⟩ [] rfl rfl rfl rfl (by decide) ⟨by decide, by decide⟩ rfl ?_
    cases h
    exact p_iret C dX5_halves_123
  · have h := if_t c1 h
    refine p_iload C dX5_halves_113 rfl 0 rfl ?_
    cases h
    exact p_iret C dX5_halves_115
def J_X5_halves_95 (b_short : Int32) (k47 : Int32 → Int32 → Int32 → Option (Int32)) (e0 : Int32) (v2 : Int32) (v3 : Int32) (v5 : Int32) (v6 : Int32) : Option (Int32) := k47 e0 (v5 + 1) (v6 + 1)
set_option maxHeartbeats 4000000 in
set_option maxRecDepth 100000 in
theorem tj_X5_halves_95 {x : Cxt} {as0 ab0 ab1 ab2 ab3 at0 at1 at2 at3 at4 an0 an1 an2 anb0 anb1 ann0 ann1 ap0 ap1 as1 ai0 ai1 ai2 ai3 aj0 aj1 aj2 aj3 : Nat} {s_kept : Int32} {b_points : Int32} {b_near : Int32} {b_loose : Int32} {b_short : Int32} {b_nets : Ar} {b_xs : Ar} {b_ys : Ar} {t_total : Int32} {t_oft : Int32} {t_left : Ar} {t_right : Ar} {t_group : Ar} {t_paired : Ar} {n_total : Int32} {n_planned : Int32} {n_leaps : Ar} {n_onward : Ar} {nb_len : Int32} {nb_sum : Int32} {nb_tries : Ar} {nn_len : Int32} {nn_sum : Int32} {nn_tries : Ar} {p_len : Int32} {p_signs : Ar} {i_points : Int32} {i_near : Int32} {i_loose : Int32} {i_short : Int32} {i_nets : Ar} {i_xs : Ar} {i_ys : Ar} {j_points : Int32} {j_near : Int32} {j_loose : Int32} {j_short : Int32} {j_nets : Ar} {j_xs : Ar} {j_ys : Ar} {k47 : Int32 → Int32 → Int32 → Option (Int32)} {e0 : Int32} {v2 : Int32} {v3 : Int32} {v5 : Int32} {v6 : Int32} {rr : Int32} (C : CX RX5 cX5_halves 8 (some .int) x) (hk47 : ∀ (w4 : Int32) (w5 : Int32) (w6 : Int32) , k47 w4 w5 w6 = some rr → PT (RM 2 46) 8 x 47 [(0, .ref as0), (2, .int v2), (3, .int v3), (4, .int w4), (5, .int w5), (6, .int w6)] [] (V_S x.1.2.2 as0 ab0 ab1 ab2 ab3 at0 at1 at2 at3 at4 an0 an1 an2 anb0 anb1 ann0 ann1 ap0 ap1 as1 ai0 ai1 ai2 ai3 aj0 aj1 aj2 aj3 s_kept b_points b_near b_loose b_short b_nets b_xs b_ys t_total t_oft t_left t_right t_group t_paired n_total n_planned n_leaps n_onward nb_len nb_sum nb_tries nn_len nn_sum nn_tries p_len p_signs i_points i_near i_loose i_short i_nets i_xs i_ys j_points j_near j_loose j_short j_nets j_xs j_ys) 0 0 (QI x rr (V_S x.1.2.2 as0 ab0 ab1 ab2 ab3 at0 at1 at2 at3 at4 an0 an1 an2 anb0 anb1 ann0 ann1 ap0 ap1 as1 ai0 ai1 ai2 ai3 aj0 aj1 aj2 aj3 s_kept b_points b_near b_loose b_short b_nets b_xs b_ys t_total t_oft t_left t_right t_group t_paired n_total n_planned n_leaps n_onward nb_len nb_sum nb_tries nn_len nn_sum nn_tries p_len p_signs i_points i_near i_loose i_short i_nets i_xs i_ys j_points j_near j_loose j_short j_nets j_xs j_ys))) (h : J_X5_halves_95 b_short k47 e0 v2 v3 v5 v6 = some rr) : PT (RM 2 46) 8 x 95 [(0, .ref as0), (2, .int v2), (3, .int v3), (5, .int v5), (6, .int v6)] [.int e0] (V_S x.1.2.2 as0 ab0 ab1 ab2 ab3 at0 at1 at2 at3 at4 an0 an1 an2 anb0 anb1 ann0 ann1 ap0 ap1 as1 ai0 ai1 ai2 ai3 aj0 aj1 aj2 aj3 s_kept b_points b_near b_loose b_short b_nets b_xs b_ys t_total t_oft t_left t_right t_group t_paired n_total n_planned n_leaps n_onward nb_len nb_sum nb_tries nn_len nn_sum nn_tries p_len p_signs i_points i_near i_loose i_short i_nets i_xs i_ys j_points j_near j_loose j_short j_nets j_xs j_ys) 0 0 (QI x rr (V_S x.1.2.2 as0 ab0 ab1 ab2 ab3 at0 at1 at2 at3 at4 an0 an1 an2 anb0 anb1 ann0 ann1 ap0 ap1 as1 ai0 ai1 ai2 ai3 aj0 aj1 aj2 aj3 s_kept b_points b_near b_loose b_short b_nets b_xs b_ys t_total t_oft t_left t_right t_group t_paired n_total n_planned n_leaps n_onward nb_len nb_sum nb_tries nn_len nn_sum nn_tries p_len p_signs i_points i_near i_loose i_short i_nets i_xs i_ys j_points j_near j_loose j_short j_nets j_xs j_ys)) := by
  unfold J_X5_halves_95 at h
  refine p_istore (lv' := [(4, .int e0), (0, .ref as0), (2, .int v2), (3, .int v3), (5, .int v5), (6, .int v6)]) C dX5_halves_95 rfl (by decide) rfl ?_
  refine p_iinc (w := v5 + 1) (lv' := [(5, .int (v5 + 1)), (4, .int e0), (0, .ref as0), (2, .int v2), (3, .int v3), (6, .int v6)]) C dX5_halves_97 rfl 4 rfl rfl (by decide) rfl ?_
  refine p_iinc (w := v6 + 1) (lv' := [(6, .int (v6 + 1)), (5, .int (v5 + 1)), (4, .int e0), (0, .ref as0), (2, .int v2), (3, .int v3)]) C dX5_halves_100 rfl 5 rfl rfl (by decide) rfl ?_
  refine p_goto C dX5_halves_103 (pc' := 47) (by decide) ?_
  refine p_locals [3, 4, 5, 2, 1, 0] (lv' := [(0, .ref as0), (2, .int v2), (3, .int v3), (4, .int e0), (5, .int (v5 + 1)), (6, .int (v6 + 1))]) rfl ?_
  exact hk47 _ _ _ h
def B_X5_halves_47 (b_short : Int32)  (v2 : Int32) (v3 : Int32) (kk : Int32 → Int32 → Int32 → Option (Int32)) (v4 : Int32) (v5 : Int32) (v6 : Int32)  : Option (Int32) := if ((4 : Int32)) ≤ v6 then (J_X5_halves_106 b_short v2 v3 v4 v5) else (bd1 (m_J6_bitCount_0f7a4 v4) (fun r2 => if r2 < ((2 : Int32)) then (J_X5_halves_106 b_short v2 v3 v4 v5) else (bd1 (m_J6_bitCount_0f7a4 v4) (fun r5 => bd1 (m_X5_leastMembers v4 (r5 / ((2 : Int32)))) (fun r7 => if (r7 &&& v3) = 0 then (J_X5_halves_95 b_short (kk) (v4 &&& (r7 ^^^ ((-1 : Int32)))) v2 v3 v5 v6) else (J_X5_halves_95 b_short (kk) r7 v2 v3 v5 v6))))))
def L_X5_halves_47 (b_short : Int32)  (v2 : Int32) (v3 : Int32) : Nat → Int32 → Int32 → Int32 → Option (Int32) := lpG (fun _ _ _ => none) (B_X5_halves_47 b_short v2 v3)
set_option maxHeartbeats 4000000 in
set_option maxRecDepth 100000 in
theorem tl_X5_halves_47 {x : Cxt} {as0 ab0 ab1 ab2 ab3 at0 at1 at2 at3 at4 an0 an1 an2 anb0 anb1 ann0 ann1 ap0 ap1 as1 ai0 ai1 ai2 ai3 aj0 aj1 aj2 aj3 : Nat} {s_kept : Int32} {b_points : Int32} {b_near : Int32} {b_loose : Int32} {b_short : Int32} {b_nets : Ar} {b_xs : Ar} {b_ys : Ar} {t_total : Int32} {t_oft : Int32} {t_left : Ar} {t_right : Ar} {t_group : Ar} {t_paired : Ar} {n_total : Int32} {n_planned : Int32} {n_leaps : Ar} {n_onward : Ar} {nb_len : Int32} {nb_sum : Int32} {nb_tries : Ar} {nn_len : Int32} {nn_sum : Int32} {nn_tries : Ar} {p_len : Int32} {p_signs : Ar} {i_points : Int32} {i_near : Int32} {i_loose : Int32} {i_short : Int32} {i_nets : Ar} {i_xs : Ar} {i_ys : Ar} {j_points : Int32} {j_near : Int32} {j_loose : Int32} {j_short : Int32} {j_nets : Ar} {j_xs : Ar} {j_ys : Ar}  {v2 : Int32} {v3 : Int32} {rr : Int32} (C : CX RX5 cX5_halves 8 (some .int) x)  : ∀ (n : Nat) (v4 : Int32) (v5 : Int32) (v6 : Int32) , L_X5_halves_47 b_short v2 v3 n v4 v5 v6 = some rr → PT (RM 2 46) 8 x 47 [(0, .ref as0), (2, .int v2), (3, .int v3), (4, .int v4), (5, .int v5), (6, .int v6)] [] (V_S x.1.2.2 as0 ab0 ab1 ab2 ab3 at0 at1 at2 at3 at4 an0 an1 an2 anb0 anb1 ann0 ann1 ap0 ap1 as1 ai0 ai1 ai2 ai3 aj0 aj1 aj2 aj3 s_kept b_points b_near b_loose b_short b_nets b_xs b_ys t_total t_oft t_left t_right t_group t_paired n_total n_planned n_leaps n_onward nb_len nb_sum nb_tries nn_len nn_sum nn_tries p_len p_signs i_points i_near i_loose i_short i_nets i_xs i_ys j_points j_near j_loose j_short j_nets j_xs j_ys) 0 0 (QI x rr (V_S x.1.2.2 as0 ab0 ab1 ab2 ab3 at0 at1 at2 at3 at4 an0 an1 an2 anb0 anb1 ann0 ann1 ap0 ap1 as1 ai0 ai1 ai2 ai3 aj0 aj1 aj2 aj3 s_kept b_points b_near b_loose b_short b_nets b_xs b_ys t_total t_oft t_left t_right t_group t_paired n_total n_planned n_leaps n_onward nb_len nb_sum nb_tries nn_len nn_sum nn_tries p_len p_signs i_points i_near i_loose i_short i_nets i_xs i_ys j_points j_near j_loose j_short j_nets j_xs j_ys)) := by
  intro n
  induction n with
  | zero =>
    intro v4 v5 v6 h
    cases h
  | succ n ih =>
    intro v4 v5 v6 h
    have h : B_X5_halves_47 b_short v2 v3 (L_X5_halves_47 b_short v2 v3 n) v4 v5 v6 = some rr := h
    unfold B_X5_halves_47 at h
    refine p_iload C dX5_halves_47 rfl 5 rfl ?_
    refine p_iconst (v := (4 : Int32)) C dX5_halves_49 rfl (by decide) ?_
    refine p_icmp_ge C dX5_halves_50 (tgt := 106) (by decide) rfl (fun c1 => ?_) (fun c1 => ?_)
    · have h := if_t c1 h
      refine p_locals [0, 1, 2, 3, 4] (lv' := [(0, .ref as0), (2, .int v2), (3, .int v3), (4, .int v4), (5, .int v5)]) rfl ?_
      exact tj_X5_halves_106 C  h
    · have h := if_f c1 h
      refine p_iload C dX5_halves_53 rfl 3 rfl ?_
      obtain ⟨r2, hc3, h⟩ := bd1_of h
      refine p_callSi (As := [.int v4]) (st' := []) (Wd' := (V_S x.1.2.2 as0 ab0 ab1 ab2 ab3 at0 at1 at2 at3 at4 an0 an1 an2 anb0 anb1 ann0 ann1 ap0 ap1 as1 ai0 ai1 ai2 ai3 aj0 aj1 aj2 aj3 s_kept b_points b_near b_loose b_short b_nets b_xs b_ys t_total t_oft t_left t_right t_group t_paired n_total n_planned n_leaps n_onward nb_len nb_sum nb_tries nn_len nn_sum nn_tries p_len p_signs i_points i_near i_loose i_short i_nets i_xs i_ys j_points j_near j_loose j_short j_nets j_xs j_ys)) C (c_J6_bitCount_0f7a4 x.1 hc3) dX5_halves_55 rfl ml_X5_163 ks_J6_bitCount_0f7a4 ds_J6_bitCount_0f7a4 ⟨rfl, rfl, by decide, by decide⟩ [] rfl rfl rfl rfl (by decide) ⟨by decide, by decide⟩ rfl ?_
      refine p_iconst (v := (2 : Int32)) C dX5_halves_58 rfl (by decide) ?_
      refine p_icmp_lt C dX5_halves_59 (tgt := 106) (by decide) rfl (fun c4 => ?_) (fun c4 => ?_)
      · have h := if_t c4 h
        refine p_locals [0, 1, 2, 3, 4] (lv' := [(0, .ref as0), (2, .int v2), (3, .int v3), (4, .int v4), (5, .int v5)]) rfl ?_
        exact tj_X5_halves_106 C  h
      · have h := if_f c4 h
        refine p_iload C dX5_halves_62 rfl 3 rfl ?_
        refine p_iload C dX5_halves_64 rfl 3 rfl ?_
        obtain ⟨r5, hc6, h⟩ := bd1_of h
        refine p_callSi (As := [.int v4]) (st' := [.int v4]) (Wd' := (V_S x.1.2.2 as0 ab0 ab1 ab2 ab3 at0 at1 at2 at3 at4 an0 an1 an2 anb0 anb1 ann0 ann1 ap0 ap1 as1 ai0 ai1 ai2 ai3 aj0 aj1 aj2 aj3 s_kept b_points b_near b_loose b_short b_nets b_xs b_ys t_total t_oft t_left t_right t_group t_paired n_total n_planned n_leaps n_onward nb_len nb_sum nb_tries nn_len nn_sum nn_tries p_len p_signs i_points i_near i_loose i_short i_nets i_xs i_ys j_points j_near j_loose j_short j_nets j_xs j_ys)) C (c_J6_bitCount_0f7a4 x.1 hc6) dX5_halves_66 rfl ml_X5_163 ks_J6_bitCount_0f7a4 ds_J6_bitCount_0f7a4 ⟨rfl, rfl, by decide, by decide⟩ [] rfl rfl rfl rfl (Nat.le_of_ble_eq_true rfl) ⟨by decide, by decide⟩ rfl ?_
        refine p_iconst (v := (2 : Int32)) C dX5_halves_69 rfl (by decide) ?_
        refine p_idiv C dX5_halves_70 rfl (by decide) ?_
        obtain ⟨r7, hc8, h⟩ := bd1_of h
        refine p_callSi (As := [.int v4, .int (r5 / ((2 : Int32)))]) (st' := []) (Wd' := (V_S x.1.2.2 as0 ab0 ab1 ab2 ab3 at0 at1 at2 at3 at4 an0 an1 an2 anb0 anb1 ann0 ann1 ap0 ap1 as1 ai0 ai1 ai2 ai3 aj0 aj1 aj2 aj3 s_kept b_points b_near b_loose b_short b_nets b_xs b_ys t_total t_oft t_left t_right t_group t_paired n_total n_planned n_leaps n_onward nb_len nb_sum nb_tries nn_len nn_sum nn_tries p_len p_signs i_points i_near i_loose i_short i_nets i_xs i_ys j_points j_near j_loose j_short j_nets j_xs j_ys)) C (c_X5_leastMembers x.1 hc8) dX5_halves_71 rfl ml_X5_177 ks_X5_leastMembers ds_X5_leastMembers ⟨rfl, rfl, by decide, by decide⟩ [] rfl rfl rfl rfl (by decide) ⟨by decide, by decide⟩ rfl ?_
        refine p_istore (lv' := [(7, .int r7), (0, .ref as0), (2, .int v2), (3, .int v3), (4, .int v4), (5, .int v5), (6, .int v6)]) C dX5_halves_74 rfl (by decide) rfl ?_
        refine p_iload C dX5_halves_76 rfl 0 rfl ?_
        refine p_iload_n C dX5_halves_78 rfl 3 rfl ?_
        refine p_iand C dX5_halves_79 rfl ?_
        refine p_if_eq C dX5_halves_80 (tgt := 88) (by decide) rfl (fun c9 => ?_) (fun c9 => ?_)
        · have h := if_t c9 h
          refine p_iload C dX5_halves_88 rfl 4 rfl ?_
          refine p_iload C dX5_halves_90 rfl 0 rfl ?_
          refine p_iconst (v := (-1 : Int32)) C dX5_halves_92 rfl (by decide) ?_
          refine p_ixor C dX5_halves_93 rfl ?_
          refine p_iand C dX5_halves_94 rfl ?_
          refine p_locals [1, 2, 3, 5, 6] (lv' := [(0, .ref as0), (2, .int v2), (3, .int v3), (5, .int v5), (6, .int v6)]) rfl ?_
          exact tj_X5_halves_95 C (fun u0 u1 u2 h => ih u0 u1 u2 h) h
        · have h := if_f c9 h
          refine p_iload C dX5_halves_83 rfl 0 rfl ?_
          refine p_goto C dX5_halves_85 (pc' := 95) (by decide) ?_
          refine p_locals [1, 2, 3, 5, 6] (lv' := [(0, .ref as0), (2, .int v2), (3, .int v3), (5, .int v5), (6, .int v6)]) rfl ?_
          exact tj_X5_halves_95 C (fun u0 u1 u2 h => ih u0 u1 u2 h) h
def m_X5_halves (b_short : Int32) (p1 : Int32) (p2 : Int32) : Option (Int32) := bd1 (m_X5_isNet p1) (fun r1 => if r1 = 0 then (some ((-1 : Int32))) else (bd1 (m_X5_isSwitch p2) (fun r4 => if r4 = 0 then (some ((-2 : Int32))) else (bd1 (m_X5_netsOneWith p1 b_short) (fun r7 => bd1 (some (((15 : Int32)) &&& ((((1 : Int32)) <<< (p1 &&& 31)) ^^^ ((-1 : Int32))))) (fun x9 => L_X5_halves_47 b_short p2 r7 FU x9 ((0 : Int32)) ((0 : Int32))))))))
theorem ds_X5_halves : (yX5_halves).cls ≠ "java/lang/invoke/MethodHandle" ∧ (yX5_halves).cls ≠ "java/lang/invoke/VarHandle" ∧ (parseMethodDescriptor (yX5_halves).desc).map (fun d => d.parameters.length) = some 2 := by decide +kernel
set_option maxHeartbeats 4000000 in
set_option maxRecDepth 100000 in
theorem c_X5_halves (E : En) {as0 ab0 ab1 ab2 ab3 at0 at1 at2 at3 at4 an0 an1 an2 anb0 anb1 ann0 ann1 ap0 ap1 as1 ai0 ai1 ai2 ai3 aj0 aj1 aj2 aj3 : Nat} {s_kept : Int32} {b_points : Int32} {b_near : Int32} {b_loose : Int32} {b_short : Int32} {b_nets : Ar} {b_xs : Ar} {b_ys : Ar} {t_total : Int32} {t_oft : Int32} {t_left : Ar} {t_right : Ar} {t_group : Ar} {t_paired : Ar} {n_total : Int32} {n_planned : Int32} {n_leaps : Ar} {n_onward : Ar} {nb_len : Int32} {nb_sum : Int32} {nb_tries : Ar} {nn_len : Int32} {nn_sum : Int32} {nn_tries : Ar} {p_len : Int32} {p_signs : Ar} {i_points : Int32} {i_near : Int32} {i_loose : Int32} {i_short : Int32} {i_nets : Ar} {i_xs : Ar} {i_ys : Ar} {j_points : Int32} {j_near : Int32} {j_loose : Int32} {j_short : Int32} {j_nets : Ar} {j_xs : Ar} {j_ys : Ar} {p1 : Int32} {p2 : Int32} {rr : Int32} (h : m_X5_halves b_short p1 p2 = some rr) : Ci E yX5_halves (wU yX5_halves cX5_halves 8 (some .int)) (RM 2 46) [.ref as0, .int p1, .int p2] (V_S E.2.2 as0 ab0 ab1 ab2 ab3 at0 at1 at2 at3 at4 an0 an1 an2 anb0 anb1 ann0 ann1 ap0 ap1 as1 ai0 ai1 ai2 ai3 aj0 aj1 aj2 aj3 s_kept b_points b_near b_loose b_short b_nets b_xs b_ys t_total t_oft t_left t_right t_group t_paired n_total n_planned n_leaps n_onward nb_len nb_sum nb_tries nn_len nn_sum nn_tries p_len p_signs i_points i_near i_loose i_short i_nets i_xs i_ys j_points j_near j_loose j_short j_nets j_xs j_ys) (V_S E.2.2 as0 ab0 ab1 ab2 ab3 at0 at1 at2 at3 at4 an0 an1 an2 anb0 anb1 ann0 ann1 ap0 ap1 as1 ai0 ai1 ai2 ai3 aj0 aj1 aj2 aj3 s_kept b_points b_near b_loose b_short b_nets b_xs b_ys t_total t_oft t_left t_right t_group t_paired n_total n_planned n_leaps n_onward nb_len nb_sum nb_tries nn_len nn_sum nn_tries p_len p_signs i_points i_near i_loose i_short i_nets i_xs i_ys j_points j_near j_loose j_short j_nets j_xs j_ys) rr := by
  refine Ci.of (by decide) (Nat.le_of_ble_eq_true rfl) ?_
  intro x hE C
  subst hE
  have C : CX RX5 cX5_halves 8 (some .int) x := C
  refine p_locals [0, 1, 2] (lv' := [(0, .ref as0), (1, .int p1), (2, .int p2)]) rfl ?_
  unfold m_X5_halves at h
  refine p_iload_n C dX5_halves_0 rfl 1 rfl ?_
  obtain ⟨r1, hc2, h⟩ := bd1_of h
  refine p_callSi (As := [.int p1]) (st' := []) (Wd' := (V_S x.1.2.2 as0 ab0 ab1 ab2 ab3 at0 at1 at2 at3 at4 an0 an1 an2 anb0 anb1 ann0 ann1 ap0 ap1 as1 ai0 ai1 ai2 ai3 aj0 aj1 aj2 aj3 s_kept b_points b_near b_loose b_short b_nets b_xs b_ys t_total t_oft t_left t_right t_group t_paired n_total n_planned n_leaps n_onward nb_len nb_sum nb_tries nn_len nn_sum nn_tries p_len p_signs i_points i_near i_loose i_short i_nets i_xs i_ys j_points j_near j_loose j_short j_nets j_xs j_ys)) C (c_X5_isNet x.1 hc2) dX5_halves_1 rfl ml_X5_45 ks_X5_isNet ds_X5_isNet ⟨rfl, rfl, by decide, by decide⟩ [] rfl rfl rfl rfl (by decide) ⟨by decide, by decide⟩ rfl ?_
  refine p_if_ne C dX5_halves_4 (tgt := 9) (by decide) rfl (fun c3 => ?_) (fun c3 => ?_)
  · have h := if_f c3 h
    refine p_iload_n C dX5_halves_9 rfl 2 rfl ?_
    obtain ⟨r4, hc5, h⟩ := bd1_of h
    refine p_callSi (As := [.int p2]) (st' := []) (Wd' := (V_S x.1.2.2 as0 ab0 ab1 ab2 ab3 at0 at1 at2 at3 at4 an0 an1 an2 anb0 anb1 ann0 ann1 ap0 ap1 as1 ai0 ai1 ai2 ai3 aj0 aj1 aj2 aj3 s_kept b_points b_near b_loose b_short b_nets b_xs b_ys t_total t_oft t_left t_right t_group t_paired n_total n_planned n_leaps n_onward nb_len nb_sum nb_tries nn_len nn_sum nn_tries p_len p_signs i_points i_near i_loose i_short i_nets i_xs i_ys j_points j_near j_loose j_short j_nets j_xs j_ys)) C (c_X5_isSwitch x.1 hc5) dX5_halves_10 rfl ml_X5_157 ks_X5_isSwitch ds_X5_isSwitch ⟨rfl, rfl, by decide, by decide⟩ [] rfl rfl rfl rfl (by decide) ⟨by decide, by decide⟩ rfl ?_
    refine p_if_ne C dX5_halves_13 (tgt := 19) (by decide) rfl (fun c6 => ?_) (fun c6 => ?_)
    · have h := if_f c6 h
      refine p_iload_n C dX5_halves_19 rfl 1 rfl ?_
      refine p_aload_n C dX5_halves_20 rfl 0 rfl ?_
      refine p_get C dX5_halves_21 rfl 0 0 inlX5 fl_X5_12 rfl rfl (by decide) rfl rfl ?_
      refine p_getN C dX5_halves_24 rfl 1 6 inlX0 nf_X5_108 rfl rfl (by decide) rfl rfl ?_
      obtain ⟨r7, hc8, h⟩ := bd1_of h
      refine p_callSi (As := [.int p1, .int b_short]) (st' := []) (Wd' := (V_S x.1.2.2 as0 ab0 ab1 ab2 ab3 at0 at1 at2 at3 at4 an0 an1 an2 anb0 anb1 ann0 ann1 ap0 ap1 as1 ai0 ai1 ai2 ai3 aj0 aj1 aj2 aj3 s_kept b_points b_near b_loose b_short b_nets b_xs b_ys t_total t_oft t_left t_right t_group t_paired n_total n_planned n_leaps n_onward nb_len nb_sum nb_tries nn_len nn_sum nn_tries p_len p_signs i_points i_near i_loose i_short i_nets i_xs i_ys j_points j_near j_loose j_short j_nets j_xs j_ys)) C (c_X5_netsOneWith x.1 hc8) dX5_halves_27 rfl ml_X5_174 ks_X5_netsOneWith ds_X5_netsOneWith ⟨rfl, rfl, by decide, by decide⟩ [] rfl rfl rfl rfl (by decide) ⟨by decide, by decide⟩ rfl ?_
      refine p_istore_n (lv' := [(3, .int r7), (0, .ref as0), (1, .int p1), (2, .int p2)]) C dX5_halves_30 rfl (by decide) rfl ?_
      refine p_bipush (v := (15 : Int32)) C dX5_halves_31 rfl (by decide) ?_
      refine p_iconst (v := (1 : Int32)) C dX5_halves_33 rfl (by decide) ?_
      refine p_iload_n C dX5_halves_34 rfl 2 rfl ?_
      refine p_ishl C dX5_halves_35 rfl ?_
      refine p_iconst (v := (-1 : Int32)) C dX5_halves_36 rfl (by decide) ?_
      refine p_ixor C dX5_halves_37 rfl ?_
      refine p_iand C dX5_halves_38 rfl ?_
      obtain ⟨x9, hx10, h⟩ := bd1_of h
      have hx10 := Option.some.inj hx10
      rw [hx10]
      refine p_istore (lv' := [(4, .int x9), (3, .int r7), (0, .ref as0), (1, .int p1), (2, .int p2)]) C dX5_halves_39 rfl (by decide) rfl ?_
      refine p_iconst (v := (0 : Int32)) C dX5_halves_41 rfl (by decide) ?_
      refine p_istore (lv' := [(5, .int ((0 : Int32))), (4, .int x9), (3, .int r7), (0, .ref as0), (1, .int p1), (2, .int p2)]) C dX5_halves_42 rfl (by decide) rfl ?_
      refine p_iconst (v := (0 : Int32)) C dX5_halves_44 rfl (by decide) ?_
      refine p_istore (lv' := [(6, .int ((0 : Int32))), (5, .int ((0 : Int32))), (4, .int x9), (3, .int r7), (0, .ref as0), (1, .int p1), (2, .int p2)]) C dX5_halves_45 rfl (by decide) rfl ?_
      refine p_locals [4, 6, 3, 2, 1, 0] (lv' := [(0, .ref as0), (2, .int p2), (3, .int r7), (4, .int x9), (5, .int ((0 : Int32))), (6, .int ((0 : Int32)))]) rfl ?_
      exact tl_X5_halves_47 C  FU _ _ _ h
    · have h := if_t c6 h
      refine p_bipush (v := (-2 : Int32)) C dX5_halves_16 rfl (by decide) ?_
      cases h
      exact p_iret C dX5_halves_18
  · have h := if_t c3 h
    refine p_iconst (v := (-1 : Int32)) C dX5_halves_7 rfl (by decide) ?_
    cases h
    exact p_iret C dX5_halves_8
