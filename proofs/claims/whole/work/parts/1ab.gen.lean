def m_X0_distance (b_xs : Ar) (b_ys : Ar) (p1 : Int32) (p2 : Int32) : Option (Int32) := grd (gI p1 8) (grd (gI p2 8) (grd (gI p1 8) (grd (gI p2 8) (some ((((b_xs p1.toNatClampNeg) - (b_xs p2.toNatClampNeg)) * ((b_xs p1.toNatClampNeg) - (b_xs p2.toNatClampNeg))) + (((b_ys p1.toNatClampNeg) - (b_ys p2.toNatClampNeg)) * ((b_ys p1.toNatClampNeg) - (b_ys p2.toNatClampNeg))))))))
theorem ds_X0_distance : (yX0_distance).cls ≠ "java/lang/invoke/MethodHandle" ∧ (yX0_distance).cls ≠ "java/lang/invoke/VarHandle" ∧ (parseMethodDescriptor (yX0_distance).desc).map (fun d => d.parameters.length) = some 2 := by decide +kernel
set_option maxHeartbeats 4000000 in
set_option maxRecDepth 100000 in
theorem c_X0_distance (E : En) {ab0 ab1 ab2 ab3 : Nat} {b_points : Int32} {b_near : Int32} {b_loose : Int32} {b_short : Int32} {b_nets : Ar} {b_xs : Ar} {b_ys : Ar} {p1 : Int32} {p2 : Int32} {rr : Int32} (h : m_X0_distance b_xs b_ys p1 p2 = some rr) : Ci E yX0_distance (wU yX0_distance cX0_distance 5 (some .int)) (RM 0 0) [.ref ab0, .int p1, .int p2] (V_B E.2.2 ab0 ab1 ab2 ab3 b_points b_near b_loose b_short b_nets b_xs b_ys) (V_B E.2.2 ab0 ab1 ab2 ab3 b_points b_near b_loose b_short b_nets b_xs b_ys) rr := by
  refine Ci.of (by decide) (Nat.le_of_ble_eq_true rfl) ?_
  intro x hE C
  subst hE
  have C : CX RX0 cX0_distance 5 (some .int) x := C
  refine p_locals [0, 1, 2] (lv' := [(0, .ref ab0), (1, .int p1), (2, .int p2)]) rfl ?_
  unfold m_X0_distance at h
  refine p_aload_n C dX0_distance_0 rfl 0 rfl ?_
  refine p_get C dX0_distance_1 rfl 0 1 inlX0 fl_X0_15 rfl rfl (by decide) rfl rfl ?_
  refine p_iload_n C dX0_distance_4 rfl 1 rfl ?_
  obtain ⟨g1, h⟩ := grd_of h
  refine p_iald C dX0_distance_5 rfl 2 rfl g1 ?_
  refine p_aload_n C dX0_distance_6 rfl 0 rfl ?_
  refine p_get C dX0_distance_7 rfl 0 1 inlX0 fl_X0_15 rfl rfl (by decide) rfl rfl ?_
  refine p_iload_n C dX0_distance_10 rfl 2 rfl ?_
  obtain ⟨g2, h⟩ := grd_of h
  refine p_iald C dX0_distance_11 rfl 2 rfl g2 ?_
  refine p_isub C dX0_distance_12 rfl ?_
  refine p_istore_n (lv' := [(3, .int ((b_xs p1.toNatClampNeg) - (b_xs p2.toNatClampNeg))), (0, .ref ab0), (1, .int p1), (2, .int p2)]) C dX0_distance_13 rfl (by decide) rfl ?_
  refine p_aload_n C dX0_distance_14 rfl 1 rfl ?_
  refine p_get C dX0_distance_15 rfl 0 2 inlX0 fl_X0_18 rfl rfl (by decide) rfl rfl ?_
  refine p_iload_n C dX0_distance_18 rfl 2 rfl ?_
  obtain ⟨g3, h⟩ := grd_of h
  refine p_iald C dX0_distance_19 rfl 3 rfl g3 ?_
  refine p_aload_n C dX0_distance_20 rfl 1 rfl ?_
  refine p_get C dX0_distance_21 rfl 0 2 inlX0 fl_X0_18 rfl rfl (by decide) rfl rfl ?_
  refine p_iload_n C dX0_distance_24 rfl 3 rfl ?_
  obtain ⟨g4, h⟩ := grd_of h
  refine p_iald C dX0_distance_25 rfl 3 rfl g4 ?_
  refine p_isub C dX0_distance_26 rfl ?_
  refine p_istore (lv' := [(4, .int ((b_ys p1.toNatClampNeg) - (b_ys p2.toNatClampNeg))), (3, .int ((b_xs p1.toNatClampNeg) - (b_xs p2.toNatClampNeg))), (0, .ref ab0), (1, .int p1), (2, .int p2)]) C dX0_distance_27 rfl (by decide) rfl ?_
  refine p_iload_n C dX0_distance_29 rfl 1 rfl ?_
  refine p_iload_n C dX0_distance_30 rfl 1 rfl ?_
  refine p_imul C dX0_distance_31 rfl ?_
  refine p_iload C dX0_distance_32 rfl 0 rfl ?_
  refine p_iload C dX0_distance_34 rfl 0 rfl ?_
  refine p_imul C dX0_distance_36 rfl ?_
  refine p_iadd C dX0_distance_37 rfl ?_
  cases h
  exact p_iret C dX0_distance_38
def m_X0_hasPoint (b_points : Int32) (p1 : Int32) : Option (Int32) := if p1 < 0 then (some ((0 : Int32))) else (if b_points ≤ p1 then (some ((0 : Int32))) else (some ((1 : Int32))))
theorem ds_X0_hasPoint : (yX0_hasPoint).cls ≠ "java/lang/invoke/MethodHandle" ∧ (yX0_hasPoint).cls ≠ "java/lang/invoke/VarHandle" ∧ (parseMethodDescriptor (yX0_hasPoint).desc).map (fun d => d.parameters.length) = some 1 := by decide +kernel
set_option maxHeartbeats 4000000 in
set_option maxRecDepth 100000 in
theorem c_X0_hasPoint (E : En) {ab0 ab1 ab2 ab3 : Nat} {b_points : Int32} {b_near : Int32} {b_loose : Int32} {b_short : Int32} {b_nets : Ar} {b_xs : Ar} {b_ys : Ar} {p1 : Int32} {rr : Int32} (h : m_X0_hasPoint b_points p1 = some rr) : Ci E yX0_hasPoint (wU yX0_hasPoint cX0_hasPoint 2 (some .boolean)) (RM 0 0) [.ref ab0, .int p1] (V_B E.2.2 ab0 ab1 ab2 ab3 b_points b_near b_loose b_short b_nets b_xs b_ys) (V_B E.2.2 ab0 ab1 ab2 ab3 b_points b_near b_loose b_short b_nets b_xs b_ys) rr := by
  refine Ci.of (by decide) (Nat.le_of_ble_eq_true rfl) ?_
  intro x hE C
  subst hE
  have C : CX RX0 cX0_hasPoint 2 (some .boolean) x := C
  refine p_locals [0, 1] (lv' := [(0, .ref ab0), (1, .int p1)]) rfl ?_
  unfold m_X0_hasPoint at h
  refine p_iload_n C dX0_hasPoint_0 rfl 1 rfl ?_
  refine p_if_lt C dX0_hasPoint_1 (tgt := 16) (by decide) rfl (fun c1 => ?_) (fun c1 => ?_)
  · have h := if_t c1 h
    refine p_iconst (v := (0 : Int32)) C dX0_hasPoint_16 rfl (by decide) ?_
    cases h
    exact p_zret C dX0_hasPoint_17 rfl
  · have h := if_f c1 h
    refine p_iload_n C dX0_hasPoint_4 rfl 1 rfl ?_
    refine p_aload_n C dX0_hasPoint_5 rfl 0 rfl ?_
    refine p_get C dX0_hasPoint_6 rfl 0 3 inlX0 fl_X0_21 rfl rfl (by decide) rfl rfl ?_
    refine p_icmp_ge C dX0_hasPoint_9 (tgt := 16) (by decide) rfl (fun c2 => ?_) (fun c2 => ?_)
    · have h := if_t c2 h
      refine p_iconst (v := (0 : Int32)) C dX0_hasPoint_16 rfl (by decide) ?_
      cases h
      exact p_zret C dX0_hasPoint_17 rfl
    · have h := if_f c2 h
      refine p_iconst (v := (1 : Int32)) C dX0_hasPoint_12 rfl (by decide) ?_
      refine p_goto C dX0_hasPoint_13 (pc' := 17) (by decide) ?_
      cases h
      exact p_zret C dX0_hasPoint_17 rfl
def J_X0_isLeftOf_35 (b_xs : Ar)    : Option (Int32) := some ((1 : Int32))
set_option maxHeartbeats 4000000 in
set_option maxRecDepth 100000 in
theorem tj_X0_isLeftOf_35 {x : Cxt} {ab0 ab1 ab2 ab3 : Nat} {b_points : Int32} {b_near : Int32} {b_loose : Int32} {b_short : Int32} {b_nets : Ar} {b_xs : Ar} {b_ys : Ar}    {rr : Int32} (C : CX RX0 cX0_isLeftOf 3 (some .boolean) x)  (h : J_X0_isLeftOf_35 b_xs = some rr) : PT (RM 0 0) 3 x 35 [(0, .ref ab0)] [] (V_B x.1.2.2 ab0 ab1 ab2 ab3 b_points b_near b_loose b_short b_nets b_xs b_ys) 0 0 (QI x rr (V_B x.1.2.2 ab0 ab1 ab2 ab3 b_points b_near b_loose b_short b_nets b_xs b_ys)) := by
  unfold J_X0_isLeftOf_35 at h
  refine p_iconst (v := (1 : Int32)) C dX0_isLeftOf_35 rfl (by decide) ?_
  refine p_goto C dX0_isLeftOf_36 (pc' := 40) (by decide) ?_
  cases h
  exact p_zret C dX0_isLeftOf_40 rfl
def m_X0_isLeftOf (b_xs : Ar) (p1 : Int32) (p2 : Int32) : Option (Int32) := grd (gI p1 8) (grd (gI p2 8) (if (b_xs p1.toNatClampNeg) < (b_xs p2.toNatClampNeg) then (J_X0_isLeftOf_35 b_xs) else (grd (gI p1 8) (grd (gI p2 8) (if (b_xs p1.toNatClampNeg) = (b_xs p2.toNatClampNeg) then (if p2 ≤ p1 then (some ((0 : Int32))) else (J_X0_isLeftOf_35 b_xs)) else (some ((0 : Int32))))))))
theorem ds_X0_isLeftOf : (yX0_isLeftOf).cls ≠ "java/lang/invoke/MethodHandle" ∧ (yX0_isLeftOf).cls ≠ "java/lang/invoke/VarHandle" ∧ (parseMethodDescriptor (yX0_isLeftOf).desc).map (fun d => d.parameters.length) = some 2 := by decide +kernel
set_option maxHeartbeats 4000000 in
set_option maxRecDepth 100000 in
theorem c_X0_isLeftOf (E : En) {ab0 ab1 ab2 ab3 : Nat} {b_points : Int32} {b_near : Int32} {b_loose : Int32} {b_short : Int32} {b_nets : Ar} {b_xs : Ar} {b_ys : Ar} {p1 : Int32} {p2 : Int32} {rr : Int32} (h : m_X0_isLeftOf b_xs p1 p2 = some rr) : Ci E yX0_isLeftOf (wU yX0_isLeftOf cX0_isLeftOf 3 (some .boolean)) (RM 0 0) [.ref ab0, .int p1, .int p2] (V_B E.2.2 ab0 ab1 ab2 ab3 b_points b_near b_loose b_short b_nets b_xs b_ys) (V_B E.2.2 ab0 ab1 ab2 ab3 b_points b_near b_loose b_short b_nets b_xs b_ys) rr := by
  refine Ci.of (by decide) (Nat.le_of_ble_eq_true rfl) ?_
  intro x hE C
  subst hE
  have C : CX RX0 cX0_isLeftOf 3 (some .boolean) x := C
  refine p_locals [0, 1, 2] (lv' := [(0, .ref ab0), (1, .int p1), (2, .int p2)]) rfl ?_
  unfold m_X0_isLeftOf at h
  refine p_aload_n C dX0_isLeftOf_0 rfl 0 rfl ?_
  refine p_get C dX0_isLeftOf_1 rfl 0 1 inlX0 fl_X0_15 rfl rfl (by decide) rfl rfl ?_
  refine p_iload_n C dX0_isLeftOf_4 rfl 1 rfl ?_
  obtain ⟨g1, h⟩ := grd_of h
  refine p_iald C dX0_isLeftOf_5 rfl 2 rfl g1 ?_
  refine p_aload_n C dX0_isLeftOf_6 rfl 0 rfl ?_
  refine p_get C dX0_isLeftOf_7 rfl 0 1 inlX0 fl_X0_15 rfl rfl (by decide) rfl rfl ?_
  refine p_iload_n C dX0_isLeftOf_10 rfl 2 rfl ?_
  obtain ⟨g2, h⟩ := grd_of h
  refine p_iald C dX0_isLeftOf_11 rfl 2 rfl g2 ?_
  refine p_icmp_lt C dX0_isLeftOf_12 (tgt := 35) (by decide) rfl (fun c3 => ?_) (fun c3 => ?_)
  · have h := if_t c3 h
    refine p_locals [0] (lv' := [(0, .ref ab0)]) rfl ?_
    exact tj_X0_isLeftOf_35 C  h
  · have h := if_f c3 h
    refine p_aload_n C dX0_isLeftOf_15 rfl 0 rfl ?_
    refine p_get C dX0_isLeftOf_16 rfl 0 1 inlX0 fl_X0_15 rfl rfl (by decide) rfl rfl ?_
    refine p_iload_n C dX0_isLeftOf_19 rfl 1 rfl ?_
    obtain ⟨g4, h⟩ := grd_of h
    refine p_iald C dX0_isLeftOf_20 rfl 2 rfl g4 ?_
    refine p_aload_n C dX0_isLeftOf_21 rfl 0 rfl ?_
    refine p_get C dX0_isLeftOf_22 rfl 0 1 inlX0 fl_X0_15 rfl rfl (by decide) rfl rfl ?_
    refine p_iload_n C dX0_isLeftOf_25 rfl 2 rfl ?_
    obtain ⟨g5, h⟩ := grd_of h
    refine p_iald C dX0_isLeftOf_26 rfl 2 rfl g5 ?_
    refine p_icmp_ne C dX0_isLeftOf_27 (tgt := 39) (by decide) rfl (fun c6 => ?_) (fun c6 => ?_)
    · have h := if_f c6 h
      refine p_iconst (v := (0 : Int32)) C dX0_isLeftOf_39 rfl (by decide) ?_
      cases h
      exact p_zret C dX0_isLeftOf_40 rfl
    · have h := if_t c6 h
      refine p_iload_n C dX0_isLeftOf_30 rfl 1 rfl ?_
      refine p_iload_n C dX0_isLeftOf_31 rfl 2 rfl ?_
      refine p_icmp_ge C dX0_isLeftOf_32 (tgt := 39) (by decide) rfl (fun c7 => ?_) (fun c7 => ?_)
      · have h := if_t c7 h
        refine p_iconst (v := (0 : Int32)) C dX0_isLeftOf_39 rfl (by decide) ?_
        cases h
        exact p_zret C dX0_isLeftOf_40 rfl
      · have h := if_f c7 h
        refine p_locals [0] (lv' := [(0, .ref ab0)]) rfl ?_
        exact tj_X0_isLeftOf_35 C  h
def m_X5_withMember  (p0 : Int32) (p1 : Int32) (p2 : Int32) : Option (Int32) := if p2 = ((1 : Int32)) then (some (p0 ||| (((1 : Int32)) <<< (p1 &&& 31)))) else (some (p0 &&& ((((1 : Int32)) <<< (p1 &&& 31)) ^^^ ((-1 : Int32)))))
theorem ds_X5_withMember : (yX5_withMember).cls ≠ "java/lang/invoke/MethodHandle" ∧ (yX5_withMember).cls ≠ "java/lang/invoke/VarHandle" ∧ (parseMethodDescriptor (yX5_withMember).desc).map (fun d => d.parameters.length) = some 3 := by decide +kernel
set_option maxHeartbeats 4000000 in
set_option maxRecDepth 100000 in
theorem c_X5_withMember (E : En)  {p0 : Int32} {p1 : Int32} {p2 : Int32} {rr : Int32} (h : m_X5_withMember p0 p1 p2 = some rr) : Ci E yX5_withMember (wU yX5_withMember cX5_withMember 3 (some .int)) (RM 0 0) [.int p0, .int p1, .int p2] ([] : va_W) ([] : va_W) rr := by
  refine Ci.of (by decide) (Nat.le_of_ble_eq_true rfl) ?_
  intro x hE C
  subst hE
  have C : CX RX5 cX5_withMember 3 (some .int) x := C
  refine p_locals [0, 1, 2] (lv' := [(0, .int p0), (1, .int p1), (2, .int p2)]) rfl ?_
  unfold m_X5_withMember at h
  refine p_iload_n C dX5_withMember_0 rfl 2 rfl ?_
  refine p_iconst (v := (1 : Int32)) C dX5_withMember_1 rfl (by decide) ?_
  refine p_icmp_ne C dX5_withMember_2 (tgt := 13) (by decide) rfl (fun c1 => ?_) (fun c1 => ?_)
  · have h := if_f c1 h
    refine p_iload_n C dX5_withMember_13 rfl 0 rfl ?_
    refine p_iconst (v := (1 : Int32)) C dX5_withMember_14 rfl (by decide) ?_
    refine p_iload_n C dX5_withMember_15 rfl 1 rfl ?_
    refine p_ishl C dX5_withMember_16 rfl ?_
    refine p_iconst (v := (-1 : Int32)) C dX5_withMember_17 rfl (by decide) ?_
    refine p_ixor C dX5_withMember_18 rfl ?_
    refine p_iand C dX5_withMember_19 rfl ?_
    cases h
    exact p_iret C dX5_withMember_20
  · have h := if_t c1 h
    refine p_iload_n C dX5_withMember_5 rfl 0 rfl ?_
    refine p_iconst (v := (1 : Int32)) C dX5_withMember_6 rfl (by decide) ?_
    refine p_iload_n C dX5_withMember_7 rfl 1 rfl ?_
    refine p_ishl C dX5_withMember_8 rfl ?_
    refine p_ior C dX5_withMember_9 rfl ?_
    refine p_goto C dX5_withMember_10 (pc' := 20) (by decide) ?_
    cases h
    exact p_iret C dX5_withMember_20
def m_X0_removeLastPoint (b_points : Int32) (b_loose : Int32)  : Option (Int32 × Int32) := bd1 (m_X5_withMember b_loose (b_points - ((1 : Int32))) ((0 : Int32))) (fun r1 => some (b_points - ((1 : Int32)), r1))
theorem ds_X0_removeLastPoint : (yX0_removeLastPoint).cls ≠ "java/lang/invoke/MethodHandle" ∧ (yX0_removeLastPoint).cls ≠ "java/lang/invoke/VarHandle" ∧ (parseMethodDescriptor (yX0_removeLastPoint).desc).map (fun d => d.parameters.length) = some 0 := by decide +kernel
set_option maxHeartbeats 4000000 in
set_option maxRecDepth 100000 in
theorem c_X0_removeLastPoint (E : En) {ab0 ab1 ab2 ab3 : Nat} {b_points : Int32} {b_near : Int32} {b_loose : Int32} {b_short : Int32} {b_nets : Ar} {b_xs : Ar} {b_ys : Ar}  {q_b_points : Int32} {q_b_loose : Int32} (h : m_X0_removeLastPoint b_points b_loose = some (q_b_points, q_b_loose)) : Cv E yX0_removeLastPoint (wU yX0_removeLastPoint cX0_removeLastPoint 1 none) (RM 1 22) [.ref ab0] (V_B E.2.2 ab0 ab1 ab2 ab3 b_points b_near b_loose b_short b_nets b_xs b_ys) (V_B E.2.2 ab0 ab1 ab2 ab3 q_b_points b_near q_b_loose b_short b_nets b_xs b_ys) := by
  refine Cv.of (by decide) (Nat.le_of_ble_eq_true rfl) ?_
  intro x hE C
  subst hE
  have C : CX RX0 cX0_removeLastPoint 1 none x := C
  refine p_locals [0] (lv' := [(0, .ref ab0)]) rfl ?_
  unfold m_X0_removeLastPoint at h
  refine p_aload_n C dX0_removeLastPoint_0 rfl 0 rfl ?_
  refine p_dup C dX0_removeLastPoint_1 rfl rfl ?_
  refine p_get C dX0_removeLastPoint_2 rfl 0 3 inlX0 fl_X0_21 rfl rfl (by decide) rfl rfl ?_
  refine p_iconst (v := (1 : Int32)) C dX0_removeLastPoint_5 rfl (by decide) ?_
  refine p_isub C dX0_removeLastPoint_6 rfl ?_
  refine p_put (Wd' := (V_B x.1.2.2 ab0 ab1 ab2 ab3 (b_points - ((1 : Int32))) b_near b_loose b_short b_nets b_xs b_ys)) (ty := .int) C dX0_removeLastPoint_7 rfl 0 3 inlX0 tyX0 tyX0_ok nmX0 fl_X0_21 rfl rfl (by decide) rfl rfl (by decide +kernel) rfl rfl (Nat.le_of_ble_eq_true rfl) rfl ?_
  refine p_aload_n C dX0_removeLastPoint_10 rfl 0 rfl ?_
  refine p_aload_n C dX0_removeLastPoint_11 rfl 0 rfl ?_
  refine p_get C dX0_removeLastPoint_12 rfl 0 5 inlX0 fl_X0_28 rfl rfl (by decide) rfl rfl ?_
  refine p_aload_n C dX0_removeLastPoint_15 rfl 0 rfl ?_
  refine p_get C dX0_removeLastPoint_16 rfl 0 3 inlX0 fl_X0_21 rfl rfl (by decide) rfl rfl ?_
  refine p_iconst (v := (0 : Int32)) C dX0_removeLastPoint_19 rfl (by decide) ?_
  obtain ⟨r1, hc2, h⟩ := bd1_of h
  refine p_callSNi (As := [.int b_loose, .int (b_points - ((1 : Int32))), .int ((0 : Int32))]) (st' := [.ref ab0]) (Wd' := (V_B x.1.2.2 ab0 ab1 ab2 ab3 (b_points - ((1 : Int32))) b_near b_loose b_short b_nets b_xs b_ys)) C (c_X5_withMember x.1 hc2) dX0_removeLastPoint_20 rfl nm_X0_34 ks_X5_withMember ds_X5_withMember ⟨rfl, rfl, by decide, by decide⟩ [] rfl rfl rfl rfl (Nat.le_of_ble_eq_true rfl) ⟨by decide, by decide⟩ rfl ?_
  refine p_put (Wd' := (V_B x.1.2.2 ab0 ab1 ab2 ab3 (b_points - ((1 : Int32))) b_near r1 b_short b_nets b_xs b_ys)) (ty := .int) C dX0_removeLastPoint_23 rfl 0 5 inlX0 tyX0 tyX0_ok nmX0 fl_X0_28 rfl rfl (by decide) rfl rfl (by decide +kernel) rfl rfl (Nat.le_of_ble_eq_true rfl) rfl ?_
  cases h
  exact p_vret C dX0_removeLastPoint_26
def m_X1_allTries (n_total : Int32)  : Option (Int32) := some ((((1 : Int32)) <<< (n_total &&& 31)) - ((1 : Int32)))
theorem ds_X1_allTries : (yX1_allTries).cls ≠ "java/lang/invoke/MethodHandle" ∧ (yX1_allTries).cls ≠ "java/lang/invoke/VarHandle" ∧ (parseMethodDescriptor (yX1_allTries).desc).map (fun d => d.parameters.length) = some 0 := by decide +kernel
set_option maxHeartbeats 4000000 in
set_option maxRecDepth 100000 in
theorem c_X1_allTries (E : En) {an0 an1 an2 anb0 anb1 ann0 ann1 : Nat} {n_total : Int32} {n_planned : Int32} {n_leaps : Ar} {n_onward : Ar} {nb_len : Int32} {nb_sum : Int32} {nb_tries : Ar} {nn_len : Int32} {nn_sum : Int32} {nn_tries : Ar}  {rr : Int32} (h : m_X1_allTries n_total = some rr) : Ci E yX1_allTries (wU yX1_allTries cX1_allTries 1 (some .int)) (RM 0 0) [.ref an0] (V_N E.2.2 an0 an1 an2 anb0 anb1 ann0 ann1 n_total n_planned n_leaps n_onward nb_len nb_sum nb_tries nn_len nn_sum nn_tries) (V_N E.2.2 an0 an1 an2 anb0 anb1 ann0 ann1 n_total n_planned n_leaps n_onward nb_len nb_sum nb_tries nn_len nn_sum nn_tries) rr := by
  refine Ci.of (by decide) (Nat.le_of_ble_eq_true rfl) ?_
  intro x hE C
  subst hE
  have C : CX RX1 cX1_allTries 1 (some .int) x := C
  refine p_locals [0] (lv' := [(0, .ref an0)]) rfl ?_
  unfold m_X1_allTries at h
  refine p_iconst (v := (1 : Int32)) C dX1_allTries_0 rfl (by decide) ?_
  refine p_aload_n C dX1_allTries_1 rfl 0 rfl ?_
  refine p_get C dX1_allTries_2 rfl 0 0 inlX1 fl_X1_9 rfl rfl (by decide) rfl rfl ?_
  refine p_ishl C dX1_allTries_5 rfl ?_
  refine p_iconst (v := (1 : Int32)) C dX1_allTries_6 rfl (by decide) ?_
  refine p_isub C dX1_allTries_7 rfl ?_
  cases h
  exact p_iret C dX1_allTries_8
def m_X1_leap (n_leaps : Ar) (p1 : Int32) (p2 : Int32) : Option (Int32) := grd (gI ((p1 * ((10 : Int32))) + p2) 110) (some (n_leaps ((p1 * ((10 : Int32))) + p2).toNatClampNeg))
theorem ds_X1_leap : (yX1_leap).cls ≠ "java/lang/invoke/MethodHandle" ∧ (yX1_leap).cls ≠ "java/lang/invoke/VarHandle" ∧ (parseMethodDescriptor (yX1_leap).desc).map (fun d => d.parameters.length) = some 2 := by decide +kernel
set_option maxHeartbeats 4000000 in
set_option maxRecDepth 100000 in
theorem c_X1_leap (E : En) {an0 an1 an2 anb0 anb1 ann0 ann1 : Nat} {n_total : Int32} {n_planned : Int32} {n_leaps : Ar} {n_onward : Ar} {nb_len : Int32} {nb_sum : Int32} {nb_tries : Ar} {nn_len : Int32} {nn_sum : Int32} {nn_tries : Ar} {p1 : Int32} {p2 : Int32} {rr : Int32} (h : m_X1_leap n_leaps p1 p2 = some rr) : Ci E yX1_leap (wU yX1_leap cX1_leap 3 (some .int)) (RM 0 0) [.ref an0, .int p1, .int p2] (V_N E.2.2 an0 an1 an2 anb0 anb1 ann0 ann1 n_total n_planned n_leaps n_onward nb_len nb_sum nb_tries nn_len nn_sum nn_tries) (V_N E.2.2 an0 an1 an2 anb0 anb1 ann0 ann1 n_total n_planned n_leaps n_onward nb_len nb_sum nb_tries nn_len nn_sum nn_tries) rr := by
  refine Ci.of (by decide) (Nat.le_of_ble_eq_true rfl) ?_
  intro x hE C
  subst hE
  have C : CX RX1 cX1_leap 3 (some .int) x := C
  refine p_locals [0, 1, 2] (lv' := [(0, .ref an0), (1, .int p1), (2, .int p2)]) rfl ?_
  unfold m_X1_leap at h
  refine p_aload_n C dX1_leap_0 rfl 0 rfl ?_
  refine p_get C dX1_leap_1 rfl 0 1 inlX1 fl_X1_15 rfl rfl (by decide) rfl rfl ?_
  refine p_iload_n C dX1_leap_4 rfl 1 rfl ?_
  refine p_bipush (v := (10 : Int32)) C dX1_leap_5 rfl (by decide) ?_
  refine p_imul C dX1_leap_7 rfl ?_
  refine p_iload_n C dX1_leap_8 rfl 2 rfl ?_
  refine p_iadd C dX1_leap_9 rfl ?_
  obtain ⟨g1, h⟩ := grd_of h
  refine p_iald C dX1_leap_10 rfl 1 rfl g1 ?_
  cases h
  exact p_iret C dX1_leap_11
def J_X1_leastThrough_68 (n_total : Int32) (n_leaps : Ar) (n_onward : Ar) (k7 : Int32 → Int32 → Option (Int32))  (v1 : Int32) (v2 : Int32) (v3 : Int32) (v4 : Int32) : Option (Int32) := k7 v3 (v4 + 1)
set_option maxHeartbeats 4000000 in
set_option maxRecDepth 100000 in
theorem tj_X1_leastThrough_68 {x : Cxt} {an0 an1 an2 anb0 anb1 ann0 ann1 : Nat} {n_total : Int32} {n_planned : Int32} {n_leaps : Ar} {n_onward : Ar} {nb_len : Int32} {nb_sum : Int32} {nb_tries : Ar} {nn_len : Int32} {nn_sum : Int32} {nn_tries : Ar} {k7 : Int32 → Int32 → Option (Int32)}  {v1 : Int32} {v2 : Int32} {v3 : Int32} {v4 : Int32} {rr : Int32} (C : CX RX1 cX1_leastThrough 7 (some .int) x) (hk7 : ∀ (w3 : Int32) (w4 : Int32) , k7 w3 w4 = some rr → PT (RM 0 0) 7 x 7 [(0, .ref an0), (1, .int v1), (2, .int v2), (3, .int w3), (4, .int w4)] [] (V_N x.1.2.2 an0 an1 an2 anb0 anb1 ann0 ann1 n_total n_planned n_leaps n_onward nb_len nb_sum nb_tries nn_len nn_sum nn_tries) 0 0 (QI x rr (V_N x.1.2.2 an0 an1 an2 anb0 anb1 ann0 ann1 n_total n_planned n_leaps n_onward nb_len nb_sum nb_tries nn_len nn_sum nn_tries))) (h : J_X1_leastThrough_68 n_total n_leaps n_onward k7 v1 v2 v3 v4 = some rr) : PT (RM 0 0) 7 x 68 [(0, .ref an0), (1, .int v1), (2, .int v2), (3, .int v3), (4, .int v4)] [] (V_N x.1.2.2 an0 an1 an2 anb0 anb1 ann0 ann1 n_total n_planned n_leaps n_onward nb_len nb_sum nb_tries nn_len nn_sum nn_tries) 0 0 (QI x rr (V_N x.1.2.2 an0 an1 an2 anb0 anb1 ann0 ann1 n_total n_planned n_leaps n_onward nb_len nb_sum nb_tries nn_len nn_sum nn_tries)) := by
  unfold J_X1_leastThrough_68 at h
  refine p_iinc (w := v4 + 1) (lv' := [(4, .int (v4 + 1)), (0, .ref an0), (1, .int v1), (2, .int v2), (3, .int v3)]) C dX1_leastThrough_68 rfl 4 rfl rfl (by decide) rfl ?_
  refine p_goto C dX1_leastThrough_71 (pc' := 7) (by decide) ?_
  refine p_locals [1, 2, 3, 4, 0] (lv' := [(0, .ref an0), (1, .int v1), (2, .int v2), (3, .int v3), (4, .int (v4 + 1))]) rfl ?_
  exact hk7 _ _ h
def B_X1_leastThrough_7 (n_total : Int32) (n_leaps : Ar) (n_onward : Ar)  (v1 : Int32) (v2 : Int32) (kk : Int32 → Int32 → Option (Int32)) (v3 : Int32) (v4 : Int32)  : Option (Int32) := if n_total ≤ v4 then (some v3) else (if (v2 &&& (((1 : Int32)) <<< (v4 &&& 31))) = 0 then (J_X1_leastThrough_68 n_total n_leaps n_onward (kk) v1 v2 v3 v4) else (grd (gI ((v1 * ((10 : Int32))) + v4) 110) (grd (gI (((v2 ^^^ (((1 : Int32)) <<< (v4 &&& 31))) * ((10 : Int32))) + v4) 10240) (bd1 (some ((n_leaps ((v1 * ((10 : Int32))) + v4).toNatClampNeg) + (n_onward (((v2 ^^^ (((1 : Int32)) <<< (v4 &&& 31))) * ((10 : Int32))) + v4).toNatClampNeg))) (fun x5 => if v3 ≤ x5 then (J_X1_leastThrough_68 n_total n_leaps n_onward (kk) v1 v2 v3 v4) else (J_X1_leastThrough_68 n_total n_leaps n_onward (kk) v1 v2 x5 v4))))))
def L_X1_leastThrough_7 (n_total : Int32) (n_leaps : Ar) (n_onward : Ar)  (v1 : Int32) (v2 : Int32) : Nat → Int32 → Int32 → Option (Int32) := lpG (fun _ _ => none) (B_X1_leastThrough_7 n_total n_leaps n_onward v1 v2)
set_option maxHeartbeats 4000000 in
set_option maxRecDepth 100000 in
theorem tl_X1_leastThrough_7 {x : Cxt} {an0 an1 an2 anb0 anb1 ann0 ann1 : Nat} {n_total : Int32} {n_planned : Int32} {n_leaps : Ar} {n_onward : Ar} {nb_len : Int32} {nb_sum : Int32} {nb_tries : Ar} {nn_len : Int32} {nn_sum : Int32} {nn_tries : Ar}  {v1 : Int32} {v2 : Int32} {rr : Int32} (C : CX RX1 cX1_leastThrough 7 (some .int) x)  : ∀ (n : Nat) (v3 : Int32) (v4 : Int32) , L_X1_leastThrough_7 n_total n_leaps n_onward v1 v2 n v3 v4 = some rr → PT (RM 0 0) 7 x 7 [(0, .ref an0), (1, .int v1), (2, .int v2), (3, .int v3), (4, .int v4)] [] (V_N x.1.2.2 an0 an1 an2 anb0 anb1 ann0 ann1 n_total n_planned n_leaps n_onward nb_len nb_sum nb_tries nn_len nn_sum nn_tries) 0 0 (QI x rr (V_N x.1.2.2 an0 an1 an2 anb0 anb1 ann0 ann1 n_total n_planned n_leaps n_onward nb_len nb_sum nb_tries nn_len nn_sum nn_tries)) := by
  intro n
  induction n with
  | zero =>
    intro v3 v4 h
    cases h
  | succ n ih =>
    intro v3 v4 h
    have h : B_X1_leastThrough_7 n_total n_leaps n_onward v1 v2 (L_X1_leastThrough_7 n_total n_leaps n_onward v1 v2 n) v3 v4 = some rr := h
    unfold B_X1_leastThrough_7 at h
    refine p_iload C dX1_leastThrough_7 rfl 4 rfl ?_
    refine p_aload_n C dX1_leastThrough_9 rfl 0 rfl ?_
    refine p_get C dX1_leastThrough_10 rfl 0 0 inlX1 fl_X1_9 rfl rfl (by decide) rfl rfl ?_
    refine p_icmp_ge C dX1_leastThrough_13 (tgt := 74) (by decide) rfl (fun c1 => ?_) (fun c1 => ?_)
    · have h := if_t c1 h
      refine p_iload_n C dX1_leastThrough_74 rfl 3 rfl ?_
      cases h
      exact p_iret C dX1_leastThrough_75
    · have h := if_f c1 h
      refine p_iconst (v := (1 : Int32)) C dX1_leastThrough_16 rfl (by decide) ?_
      refine p_iload C dX1_leastThrough_17 rfl 4 rfl ?_
      refine p_ishl C dX1_leastThrough_19 rfl ?_
      refine p_istore (lv' := [(5, .int (((1 : Int32)) <<< (v4 &&& 31))), (0, .ref an0), (1, .int v1), (2, .int v2), (3, .int v3), (4, .int v4)]) C dX1_leastThrough_20 rfl (by decide) rfl ?_
      refine p_iload_n C dX1_leastThrough_22 rfl 3 rfl ?_
      refine p_iload C dX1_leastThrough_23 rfl 0 rfl ?_
      refine p_iand C dX1_leastThrough_25 rfl ?_
      refine p_if_eq C dX1_leastThrough_26 (tgt := 68) (by decide) rfl (fun c2 => ?_) (fun c2 => ?_)
      · have h := if_t c2 h
        refine p_locals [1, 2, 3, 4, 5] (lv' := [(0, .ref an0), (1, .int v1), (2, .int v2), (3, .int v3), (4, .int v4)]) rfl ?_
        exact tj_X1_leastThrough_68 C (fun u0 u1 h => ih u0 u1 h) h
      · have h := if_f c2 h
        refine p_aload_n C dX1_leastThrough_29 rfl 1 rfl ?_
        refine p_get C dX1_leastThrough_30 rfl 0 1 inlX1 fl_X1_15 rfl rfl (by decide) rfl rfl ?_
        refine p_iload_n C dX1_leastThrough_33 rfl 2 rfl ?_
        refine p_bipush (v := (10 : Int32)) C dX1_leastThrough_34 rfl (by decide) ?_
        refine p_imul C dX1_leastThrough_36 rfl ?_
        refine p_iload C dX1_leastThrough_37 rfl 5 rfl ?_
        refine p_iadd C dX1_leastThrough_39 rfl ?_
        obtain ⟨g3, h⟩ := grd_of h
        refine p_iald C dX1_leastThrough_40 rfl 1 rfl g3 ?_
        refine p_aload_n C dX1_leastThrough_41 rfl 1 rfl ?_
        refine p_get C dX1_leastThrough_42 rfl 0 2 inlX1 fl_X1_19 rfl rfl (by decide) rfl rfl ?_
        refine p_iload_n C dX1_leastThrough_45 rfl 3 rfl ?_
        refine p_iload C dX1_leastThrough_46 rfl 0 rfl ?_
        refine p_ixor C dX1_leastThrough_48 rfl ?_
        refine p_bipush (v := (10 : Int32)) C dX1_leastThrough_49 rfl (by decide) ?_
        refine p_imul C dX1_leastThrough_51 rfl ?_
        refine p_iload C dX1_leastThrough_52 rfl 5 rfl ?_
        refine p_iadd C dX1_leastThrough_54 rfl ?_
        obtain ⟨g4, h⟩ := grd_of h
        refine p_iald C dX1_leastThrough_55 rfl 2 rfl g4 ?_
        refine p_iadd C dX1_leastThrough_56 rfl ?_
        obtain ⟨x5, hx6, h⟩ := bd1_of h
        have hx6 := Option.some.inj hx6
        rw [hx6]
        refine p_istore (lv' := [(6, .int x5), (5, .int (((1 : Int32)) <<< (v4 &&& 31))), (0, .ref an0), (1, .int v1), (2, .int v2), (3, .int v3), (4, .int v4)]) C dX1_leastThrough_57 rfl (by decide) rfl ?_
        refine p_iload C dX1_leastThrough_59 rfl 0 rfl ?_
        refine p_iload_n C dX1_leastThrough_61 rfl 5 rfl ?_
        refine p_icmp_ge C dX1_leastThrough_62 (tgt := 68) (by decide) rfl (fun c7 => ?_) (fun c7 => ?_)
        · have h := if_t c7 h
          refine p_locals [2, 3, 4, 5, 6] (lv' := [(0, .ref an0), (1, .int v1), (2, .int v2), (3, .int v3), (4, .int v4)]) rfl ?_
          exact tj_X1_leastThrough_68 C (fun u0 u1 h => ih u0 u1 h) h
        · have h := if_f c7 h
          refine p_iload C dX1_leastThrough_65 rfl 0 rfl ?_
          refine p_istore_n (lv' := [(3, .int x5), (6, .int x5), (5, .int (((1 : Int32)) <<< (v4 &&& 31))), (0, .ref an0), (1, .int v1), (2, .int v2), (4, .int v4)]) C dX1_leastThrough_67 rfl (by decide) rfl ?_
          refine p_locals [3, 4, 5, 0, 6] (lv' := [(0, .ref an0), (1, .int v1), (2, .int v2), (3, .int x5), (4, .int v4)]) rfl ?_
          exact tj_X1_leastThrough_68 C (fun u0 u1 h => ih u0 u1 h) h
def m_X1_leastThrough (n_total : Int32) (n_leaps : Ar) (n_onward : Ar) (p1 : Int32) (p2 : Int32) : Option (Int32) := L_X1_leastThrough_7 n_total n_leaps n_onward p1 p2 FU ((201 : Int32)) ((0 : Int32))
theorem ds_X1_leastThrough : (yX1_leastThrough).cls ≠ "java/lang/invoke/MethodHandle" ∧ (yX1_leastThrough).cls ≠ "java/lang/invoke/VarHandle" ∧ (parseMethodDescriptor (yX1_leastThrough).desc).map (fun d => d.parameters.length) = some 2 := by decide +kernel
set_option maxHeartbeats 4000000 in
set_option maxRecDepth 100000 in
theorem c_X1_leastThrough (E : En) {an0 an1 an2 anb0 anb1 ann0 ann1 : Nat} {n_total : Int32} {n_planned : Int32} {n_leaps : Ar} {n_onward : Ar} {nb_len : Int32} {nb_sum : Int32} {nb_tries : Ar} {nn_len : Int32} {nn_sum : Int32} {nn_tries : Ar} {p1 : Int32} {p2 : Int32} {rr : Int32} (h : m_X1_leastThrough n_total n_leaps n_onward p1 p2 = some rr) : Ci E yX1_leastThrough (wU yX1_leastThrough cX1_leastThrough 7 (some .int)) (RM 0 0) [.ref an0, .int p1, .int p2] (V_N E.2.2 an0 an1 an2 anb0 anb1 ann0 ann1 n_total n_planned n_leaps n_onward nb_len nb_sum nb_tries nn_len nn_sum nn_tries) (V_N E.2.2 an0 an1 an2 anb0 anb1 ann0 ann1 n_total n_planned n_leaps n_onward nb_len nb_sum nb_tries nn_len nn_sum nn_tries) rr := by
  refine Ci.of (by decide) (Nat.le_of_ble_eq_true rfl) ?_
  intro x hE C
  subst hE
  have C : CX RX1 cX1_leastThrough 7 (some .int) x := C
  refine p_locals [0, 1, 2] (lv' := [(0, .ref an0), (1, .int p1), (2, .int p2)]) rfl ?_
  unfold m_X1_leastThrough at h
  refine p_sipush (v := (201 : Int32)) C dX1_leastThrough_0 rfl (by decide) ?_
  refine p_istore_n (lv' := [(3, .int ((201 : Int32))), (0, .ref an0), (1, .int p1), (2, .int p2)]) C dX1_leastThrough_3 rfl (by decide) rfl ?_
  refine p_iconst (v := (0 : Int32)) C dX1_leastThrough_4 rfl (by decide) ?_
  refine p_istore (lv' := [(4, .int ((0 : Int32))), (3, .int ((201 : Int32))), (0, .ref an0), (1, .int p1), (2, .int p2)]) C dX1_leastThrough_5 rfl (by decide) rfl ?_
  refine p_locals [2, 3, 4, 1, 0] (lv' := [(0, .ref an0), (1, .int p1), (2, .int p2), (3, .int ((201 : Int32))), (4, .int ((0 : Int32)))]) rfl ?_
  exact tl_X1_leastThrough_7 C  FU _ _ h
