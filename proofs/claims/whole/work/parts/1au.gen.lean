def J_X6_timeOfOrder_30 (m_tries : Int32) (m_state : Ar) (m_leftOf : Ar) (m_rightOf : Ar) (m_order : Ar) (k4 : Int32 → Int32 → Option (Int32)) (e0 : Int32) (e2 : Int32) (v2 : Int32) : Option (Int32) := grd (gI v2 16) (bd1 (m_X6_timeOf m_state m_leftOf m_rightOf e0 (m_order v2.toNatClampNeg)) (fun r2 => k4 (e2 + r2) (v2 + 1)))
set_option maxHeartbeats 4000000 in
set_option maxRecDepth 100000 in
theorem tj_X6_timeOfOrder_30 {x : Cxt} {am0 am1 am2 am3 am4 am5 am6 am7 am8 am9 am10 am11 am12 am13 am14 : Nat} {m_said : Int32} {m_tries : Int32} {m_state : Ar} {m_images : Ar} {m_isKept : Ar} {m_pad : Ar} {m_leftOf : Ar} {m_rightOf : Ar} {m_isApart : Ar} {m_group : Ar} {m_isPair : Ar} {m_isOne : Ar} {m_order : Ar} {m_rest : Ar} {m_aside : Ar} {m_others : Ar} {k4 : Int32 → Int32 → Option (Int32)} {e0 : Int32} {e2 : Int32} {v2 : Int32} {rr : Int32} (C : CX RX6 cX6_timeOfOrder 3 (some .int) x) (hk4 : ∀ (w1 : Int32) (w2 : Int32) , k4 w1 w2 = some rr → PT (RM 2 49) 3 x 4 [(0, .ref am0), (1, .int w1), (2, .int w2)] [] (V_M x.1.2.2 am0 am1 am2 am3 am4 am5 am6 am7 am8 am9 am10 am11 am12 am13 am14 m_said m_tries m_state m_images m_isKept m_pad m_leftOf m_rightOf m_isApart m_group m_isPair m_isOne m_order m_rest m_aside m_others) 0 0 (QI x rr (V_M x.1.2.2 am0 am1 am2 am3 am4 am5 am6 am7 am8 am9 am10 am11 am12 am13 am14 m_said m_tries m_state m_images m_isKept m_pad m_leftOf m_rightOf m_isApart m_group m_isPair m_isOne m_order m_rest m_aside m_others))) (h : J_X6_timeOfOrder_30 m_tries m_state m_leftOf m_rightOf m_order k4 e0 e2 v2 = some rr) : PT (RM 2 49) 3 x 30 [(0, .ref am0), (2, .int v2)] [.int e0, .ref am0, .int e2] (V_M x.1.2.2 am0 am1 am2 am3 am4 am5 am6 am7 am8 am9 am10 am11 am12 am13 am14 m_said m_tries m_state m_images m_isKept m_pad m_leftOf m_rightOf m_isApart m_group m_isPair m_isOne m_order m_rest m_aside m_others) 0 0 (QI x rr (V_M x.1.2.2 am0 am1 am2 am3 am4 am5 am6 am7 am8 am9 am10 am11 am12 am13 am14 m_said m_tries m_state m_images m_isKept m_pad m_leftOf m_rightOf m_isApart m_group m_isPair m_isOne m_order m_rest m_aside m_others)) := by
  unfold J_X6_timeOfOrder_30 at h
  refine p_aload_n C dX6_timeOfOrder_30 rfl 0 rfl ?_
  refine p_get C dX6_timeOfOrder_31 rfl 0 12 inlX6 fl_X6_41 rfl rfl (by decide) rfl rfl ?_
  refine p_iload_n C dX6_timeOfOrder_34 rfl 1 rfl ?_
  obtain ⟨g1, h⟩ := grd_of h
  refine p_iald C dX6_timeOfOrder_35 rfl 11 rfl g1 ?_
  obtain ⟨r2, hc3, h⟩ := bd1_of h
  refine p_callVi_s (As := [.int e0, .int (m_order v2.toNatClampNeg)]) (st' := [.int e2]) (Wc' := (V_M x.1.2.2 am0 am1 am2 am3 am4 am5 am6 am7 am8 am9 am10 am11 am12 am13 am14 m_said m_tries m_state m_images m_isKept m_pad m_leftOf m_rightOf m_isApart m_group m_isPair m_isOne m_order m_rest m_aside m_others)) C (c_X6_timeOf x.1 (am0 := am0) (am1 := am1) (am2 := am2) (am3 := am3) (am4 := am4) (am5 := am5) (am6 := am6) (am7 := am7) (am8 := am8) (am9 := am9) (am10 := am10) (am11 := am11) (am12 := am12) (am13 := am13) (am14 := am14) (m_said := m_said) (m_tries := m_tries) (m_images := m_images) (m_isKept := m_isKept) (m_pad := m_pad) (m_isApart := m_isApart) (m_group := m_group) (m_isPair := m_isPair) (m_isOne := m_isOne) (m_order := m_order) (m_rest := m_rest) (m_aside := m_aside) (m_others := m_others) hc3) dX6_timeOfOrder_36 rfl ml_X6_123 kv_X6_timeOf ds_X6_timeOf ⟨rfl, rfl, by decide, by decide⟩ 0 rfl rfl rfl rfl (Nat.le_of_ble_eq_true rfl) ⟨by decide, by decide⟩ ?_
  refine p_iadd C dX6_timeOfOrder_39 rfl ?_
  refine p_istore_n (lv' := [(1, .int (e2 + r2)), (0, .ref am0), (2, .int v2)]) C dX6_timeOfOrder_40 rfl (by decide) rfl ?_
  refine p_iinc (w := v2 + 1) (lv' := [(2, .int (v2 + 1)), (1, .int (e2 + r2)), (0, .ref am0)]) C dX6_timeOfOrder_41 rfl 2 rfl rfl (by decide) rfl ?_
  refine p_goto C dX6_timeOfOrder_44 (pc' := 4) (by decide) ?_
  refine p_locals [2, 1, 0] (lv' := [(0, .ref am0), (1, .int (e2 + r2)), (2, .int (v2 + 1))]) rfl ?_
  exact hk4 _ _ h
def B_X6_timeOfOrder_4 (m_tries : Int32) (m_state : Ar) (m_leftOf : Ar) (m_rightOf : Ar) (m_order : Ar)   (kk : Int32 → Int32 → Option (Int32)) (v1 : Int32) (v2 : Int32)  : Option (Int32) := if m_tries ≤ v2 then (some v1) else (if v2 = 0 then (J_X6_timeOfOrder_30 m_tries m_state m_leftOf m_rightOf m_order (kk) ((-1 : Int32)) v1 v2) else (grd (gI (v2 - ((1 : Int32))) 16) (J_X6_timeOfOrder_30 m_tries m_state m_leftOf m_rightOf m_order (kk) (m_order (v2 - ((1 : Int32))).toNatClampNeg) v1 v2)))
def L_X6_timeOfOrder_4 (m_tries : Int32) (m_state : Ar) (m_leftOf : Ar) (m_rightOf : Ar) (m_order : Ar)   : Nat → Int32 → Int32 → Option (Int32) := lpG (fun _ _ => none) (B_X6_timeOfOrder_4 m_tries m_state m_leftOf m_rightOf m_order)
set_option maxHeartbeats 4000000 in
set_option maxRecDepth 100000 in
theorem tl_X6_timeOfOrder_4 {x : Cxt} {am0 am1 am2 am3 am4 am5 am6 am7 am8 am9 am10 am11 am12 am13 am14 : Nat} {m_said : Int32} {m_tries : Int32} {m_state : Ar} {m_images : Ar} {m_isKept : Ar} {m_pad : Ar} {m_leftOf : Ar} {m_rightOf : Ar} {m_isApart : Ar} {m_group : Ar} {m_isPair : Ar} {m_isOne : Ar} {m_order : Ar} {m_rest : Ar} {m_aside : Ar} {m_others : Ar}   {rr : Int32} (C : CX RX6 cX6_timeOfOrder 3 (some .int) x)  : ∀ (n : Nat) (v1 : Int32) (v2 : Int32) , L_X6_timeOfOrder_4 m_tries m_state m_leftOf m_rightOf m_order n v1 v2 = some rr → PT (RM 2 49) 3 x 4 [(0, .ref am0), (1, .int v1), (2, .int v2)] [] (V_M x.1.2.2 am0 am1 am2 am3 am4 am5 am6 am7 am8 am9 am10 am11 am12 am13 am14 m_said m_tries m_state m_images m_isKept m_pad m_leftOf m_rightOf m_isApart m_group m_isPair m_isOne m_order m_rest m_aside m_others) 0 0 (QI x rr (V_M x.1.2.2 am0 am1 am2 am3 am4 am5 am6 am7 am8 am9 am10 am11 am12 am13 am14 m_said m_tries m_state m_images m_isKept m_pad m_leftOf m_rightOf m_isApart m_group m_isPair m_isOne m_order m_rest m_aside m_others)) := by
  intro n
  induction n with
  | zero =>
    intro v1 v2 h
    cases h
  | succ n ih =>
    intro v1 v2 h
    have h : B_X6_timeOfOrder_4 m_tries m_state m_leftOf m_rightOf m_order (L_X6_timeOfOrder_4 m_tries m_state m_leftOf m_rightOf m_order n) v1 v2 = some rr := h
    unfold B_X6_timeOfOrder_4 at h
    refine p_iload_n C dX6_timeOfOrder_4 rfl 2 rfl ?_
    refine p_aload_n C dX6_timeOfOrder_5 rfl 0 rfl ?_
    refine p_get C dX6_timeOfOrder_6 rfl 0 8 inlX6 fl_X6_72 rfl rfl (by decide) rfl rfl ?_
    refine p_icmp_ge C dX6_timeOfOrder_9 (tgt := 47) (by decide) rfl (fun c1 => ?_) (fun c1 => ?_)
    · have h := if_t c1 h
      refine p_iload_n C dX6_timeOfOrder_47 rfl 1 rfl ?_
      cases h
      exact p_iret C dX6_timeOfOrder_48
    · have h := if_f c1 h
      refine p_iload_n C dX6_timeOfOrder_12 rfl 1 rfl ?_
      refine p_aload_n C dX6_timeOfOrder_13 rfl 0 rfl ?_
      refine p_iload_n C dX6_timeOfOrder_14 rfl 2 rfl ?_
      refine p_if_ne C dX6_timeOfOrder_15 (tgt := 22) (by decide) rfl (fun c2 => ?_) (fun c2 => ?_)
      · have h := if_f c2 h
        refine p_aload_n C dX6_timeOfOrder_22 rfl 0 rfl ?_
        refine p_get C dX6_timeOfOrder_23 rfl 0 12 inlX6 fl_X6_41 rfl rfl (by decide) rfl rfl ?_
        refine p_iload_n C dX6_timeOfOrder_26 rfl 2 rfl ?_
        refine p_iconst (v := (1 : Int32)) C dX6_timeOfOrder_27 rfl (by decide) ?_
        refine p_isub C dX6_timeOfOrder_28 rfl ?_
        obtain ⟨g3, h⟩ := grd_of h
        refine p_iald C dX6_timeOfOrder_29 rfl 11 rfl g3 ?_
        refine p_locals [0, 2] (lv' := [(0, .ref am0), (2, .int v2)]) rfl ?_
        exact tj_X6_timeOfOrder_30 C (fun u0 u1 h => ih u0 u1 h) h
      · have h := if_t c2 h
        refine p_iconst (v := (-1 : Int32)) C dX6_timeOfOrder_18 rfl (by decide) ?_
        refine p_goto C dX6_timeOfOrder_19 (pc' := 30) (by decide) ?_
        refine p_locals [0, 2] (lv' := [(0, .ref am0), (2, .int v2)]) rfl ?_
        exact tj_X6_timeOfOrder_30 C (fun u0 u1 h => ih u0 u1 h) h
def m_X6_timeOfOrder (m_tries : Int32) (m_state : Ar) (m_leftOf : Ar) (m_rightOf : Ar) (m_order : Ar)  : Option (Int32) := L_X6_timeOfOrder_4 m_tries m_state m_leftOf m_rightOf m_order FU ((0 : Int32)) ((0 : Int32))
theorem ds_X6_timeOfOrder : (yX6_timeOfOrder).cls ≠ "java/lang/invoke/MethodHandle" ∧ (yX6_timeOfOrder).cls ≠ "java/lang/invoke/VarHandle" ∧ (parseMethodDescriptor (yX6_timeOfOrder).desc).map (fun d => d.parameters.length) = some 0 := by decide +kernel
set_option maxHeartbeats 4000000 in
set_option maxRecDepth 100000 in
theorem c_X6_timeOfOrder (E : En) {am0 am1 am2 am3 am4 am5 am6 am7 am8 am9 am10 am11 am12 am13 am14 : Nat} {m_said : Int32} {m_tries : Int32} {m_state : Ar} {m_images : Ar} {m_isKept : Ar} {m_pad : Ar} {m_leftOf : Ar} {m_rightOf : Ar} {m_isApart : Ar} {m_group : Ar} {m_isPair : Ar} {m_isOne : Ar} {m_order : Ar} {m_rest : Ar} {m_aside : Ar} {m_others : Ar}  {rr : Int32} (h : m_X6_timeOfOrder m_tries m_state m_leftOf m_rightOf m_order = some rr) : Ci E yX6_timeOfOrder (wU yX6_timeOfOrder cX6_timeOfOrder 3 (some .int)) (RM 2 49) [.ref am0] (V_M E.2.2 am0 am1 am2 am3 am4 am5 am6 am7 am8 am9 am10 am11 am12 am13 am14 m_said m_tries m_state m_images m_isKept m_pad m_leftOf m_rightOf m_isApart m_group m_isPair m_isOne m_order m_rest m_aside m_others) (V_M E.2.2 am0 am1 am2 am3 am4 am5 am6 am7 am8 am9 am10 am11 am12 am13 am14 m_said m_tries m_state m_images m_isKept m_pad m_leftOf m_rightOf m_isApart m_group m_isPair m_isOne m_order m_rest m_aside m_others) rr := by
  refine Ci.of (by decide) (Nat.le_of_ble_eq_true rfl) ?_
  intro x hE C
  subst hE
  have C : CX RX6 cX6_timeOfOrder 3 (some .int) x := C
  refine p_locals [0] (lv' := [(0, .ref am0)]) rfl ?_
  unfold m_X6_timeOfOrder at h
  refine p_iconst (v := (0 : Int32)) C dX6_timeOfOrder_0 rfl (by decide) ?_
  refine p_istore_n (lv' := [(1, .int ((0 : Int32))), (0, .ref am0)]) C dX6_timeOfOrder_1 rfl (by decide) rfl ?_
  refine p_iconst (v := (0 : Int32)) C dX6_timeOfOrder_2 rfl (by decide) ?_
  refine p_istore_n (lv' := [(2, .int ((0 : Int32))), (1, .int ((0 : Int32))), (0, .ref am0)]) C dX6_timeOfOrder_3 rfl (by decide) rfl ?_
  refine p_locals [2, 1, 0] (lv' := [(0, .ref am0), (1, .int ((0 : Int32))), (2, .int ((0 : Int32)))]) rfl ?_
  exact tl_X6_timeOfOrder_4 C  FU _ _ h
def m_X6_orderAt (m_tries : Int32) (m_state : Ar) (m_leftOf : Ar) (m_rightOf : Ar) (m_order : Ar) (p1 : Int32) : Option (Int32) := if p1 = ((-1 : Int32)) then (bd1 (m_X6_timeOfOrder m_tries m_state m_leftOf m_rightOf m_order) (fun r4 => some r4)) else (if m_tries ≤ p1 then (some ((-6 : Int32))) else (grd (gI p1 16) (some (m_order p1.toNatClampNeg))))
theorem ds_X6_orderAt : (yX6_orderAt).cls ≠ "java/lang/invoke/MethodHandle" ∧ (yX6_orderAt).cls ≠ "java/lang/invoke/VarHandle" ∧ (parseMethodDescriptor (yX6_orderAt).desc).map (fun d => d.parameters.length) = some 1 := by decide +kernel
set_option maxHeartbeats 4000000 in
set_option maxRecDepth 100000 in
theorem c_X6_orderAt (E : En) {am0 am1 am2 am3 am4 am5 am6 am7 am8 am9 am10 am11 am12 am13 am14 : Nat} {m_said : Int32} {m_tries : Int32} {m_state : Ar} {m_images : Ar} {m_isKept : Ar} {m_pad : Ar} {m_leftOf : Ar} {m_rightOf : Ar} {m_isApart : Ar} {m_group : Ar} {m_isPair : Ar} {m_isOne : Ar} {m_order : Ar} {m_rest : Ar} {m_aside : Ar} {m_others : Ar} {p1 : Int32} {rr : Int32} (h : m_X6_orderAt m_tries m_state m_leftOf m_rightOf m_order p1 = some rr) : Ci E yX6_orderAt (wU yX6_orderAt cX6_orderAt 2 (some .int)) (RM 3 71) [.ref am0, .int p1] (V_M E.2.2 am0 am1 am2 am3 am4 am5 am6 am7 am8 am9 am10 am11 am12 am13 am14 m_said m_tries m_state m_images m_isKept m_pad m_leftOf m_rightOf m_isApart m_group m_isPair m_isOne m_order m_rest m_aside m_others) (V_M E.2.2 am0 am1 am2 am3 am4 am5 am6 am7 am8 am9 am10 am11 am12 am13 am14 m_said m_tries m_state m_images m_isKept m_pad m_leftOf m_rightOf m_isApart m_group m_isPair m_isOne m_order m_rest m_aside m_others) rr := by
  refine Ci.of (by decide) (Nat.le_of_ble_eq_true rfl) ?_
  intro x hE C
  subst hE
  have C : CX RX6 cX6_orderAt 2 (some .int) x := C
  refine p_locals [0, 1] (lv' := [(0, .ref am0), (1, .int p1)]) rfl ?_
  unfold m_X6_orderAt at h
  refine p_iload_n C dX6_orderAt_0 rfl 1 rfl ?_
  refine p_iconst (v := (-1 : Int32)) C dX6_orderAt_1 rfl (by decide) ?_
  refine p_icmp_ne C dX6_orderAt_2 (tgt := 12) (by decide) rfl (fun c1 => ?_) (fun c1 => ?_)
  · have h := if_f c1 h
    refine p_iload_n C dX6_orderAt_12 rfl 1 rfl ?_
    refine p_aload_n C dX6_orderAt_13 rfl 0 rfl ?_
    refine p_get C dX6_orderAt_14 rfl 0 8 inlX6 fl_X6_72 rfl rfl (by decide) rfl rfl ?_
    refine p_icmp_ge C dX6_orderAt_17 (tgt := 29) (by decide) rfl (fun c2 => ?_) (fun c2 => ?_)
    · have h := if_t c2 h
      refine p_bipush (v := (-6 : Int32)) C dX6_orderAt_29 rfl (by decide) ?_
      cases h
      exact p_iret C dX6_orderAt_31
    · have h := if_f c2 h
      refine p_aload_n C dX6_orderAt_20 rfl 0 rfl ?_
      refine p_get C dX6_orderAt_21 rfl 0 12 inlX6 fl_X6_41 rfl rfl (by decide) rfl rfl ?_
      refine p_iload_n C dX6_orderAt_24 rfl 1 rfl ?_
      obtain ⟨g3, h⟩ := grd_of h
      refine p_iald C dX6_orderAt_25 rfl 11 rfl g3 ?_
      refine p_goto C dX6_orderAt_26 (pc' := 31) (by decide) ?_
      cases h
      exact p_iret C dX6_orderAt_31
  · have h := if_t c1 h
    refine p_aload_n C dX6_orderAt_5 rfl 0 rfl ?_
    obtain ⟨r4, hc5, h⟩ := bd1_of h
    refine p_callVi_s (As := []) (st' := []) (Wc' := (V_M x.1.2.2 am0 am1 am2 am3 am4 am5 am6 am7 am8 am9 am10 am11 am12 am13 am14 m_said m_tries m_state m_images m_isKept m_pad m_leftOf m_rightOf m_isApart m_group m_isPair m_isOne m_order m_rest m_aside m_others)) C (c_X6_timeOfOrder x.1 (am0 := am0) (am1 := am1) (am2 := am2) (am3 := am3) (am4 := am4) (am5 := am5) (am6 := am6) (am7 := am7) (am8 := am8) (am9 := am9) (am10 := am10) (am11 := am11) (am12 := am12) (am13 := am13) (am14 := am14) (m_said := m_said) (m_images := m_images) (m_isKept := m_isKept) (m_pad := m_pad) (m_isApart := m_isApart) (m_group := m_group) (m_isPair := m_isPair) (m_isOne := m_isOne) (m_rest := m_rest) (m_aside := m_aside) (m_others := m_others) hc5) dX6_orderAt_6 rfl ml_X6_129 kv_X6_timeOfOrder ds_X6_timeOfOrder ⟨rfl, rfl, by decide, by decide⟩ 0 rfl rfl rfl rfl (by decide) ⟨by decide, by decide⟩ ?_
    refine p_goto C dX6_orderAt_9 (pc' := 31) (by decide) ?_
    cases h
    exact p_iret C dX6_orderAt_31
def m_X6_best (m_tries : Int32) (m_state : Ar) (m_leftOf : Ar) (m_rightOf : Ar) (m_isApart : Ar) (m_group : Ar) (m_isPair : Ar) (m_order : Ar) (m_rest : Ar) (p1 : Int32) : Option (Int32 × Int32 × Ar × Ar × Ar × Ar × Ar × Ar × Ar) := if ((-1 : Int32)) ≤ p1 then (bd6 (m_X6_layTries m_tries m_state m_leftOf m_rightOf m_isApart m_group m_isPair) (fun z_tries2 z_leftOf3 z_rightOf4 z_isApart5 z_group6 z_isPair7 => bd2 (m_X6_layBest z_tries2 m_state z_leftOf3 z_rightOf4 m_order m_rest) (fun z_order9 z_rest10 => bd1 (m_X6_orderAt z_tries2 m_state z_leftOf3 z_rightOf4 z_order9 p1) (fun r12 => some (r12, z_tries2, z_leftOf3, z_rightOf4, z_isApart5, z_group6, z_isPair7, z_order9, z_rest10))))) else (some ((-2 : Int32), m_tries, m_leftOf, m_rightOf, m_isApart, m_group, m_isPair, m_order, m_rest))
theorem ds_X6_best : (yX6_best).cls ≠ "java/lang/invoke/MethodHandle" ∧ (yX6_best).cls ≠ "java/lang/invoke/VarHandle" ∧ (parseMethodDescriptor (yX6_best).desc).map (fun d => d.parameters.length) = some 1 := by decide +kernel
set_option maxHeartbeats 4000000 in
set_option maxRecDepth 100000 in
theorem c_X6_best (E : En) {am0 am1 am2 am3 am4 am5 am6 am7 am8 am9 am10 am11 am12 am13 am14 : Nat} {m_said : Int32} {m_tries : Int32} {m_state : Ar} {m_images : Ar} {m_isKept : Ar} {m_pad : Ar} {m_leftOf : Ar} {m_rightOf : Ar} {m_isApart : Ar} {m_group : Ar} {m_isPair : Ar} {m_isOne : Ar} {m_order : Ar} {m_rest : Ar} {m_aside : Ar} {m_others : Ar} {p1 : Int32} {rr : Int32} {q_m_tries : Int32} {q_m_leftOf : Ar} {q_m_rightOf : Ar} {q_m_isApart : Ar} {q_m_group : Ar} {q_m_isPair : Ar} {q_m_order : Ar} {q_m_rest : Ar} (h : m_X6_best m_tries m_state m_leftOf m_rightOf m_isApart m_group m_isPair m_order m_rest p1 = some (rr, q_m_tries, q_m_leftOf, q_m_rightOf, q_m_isApart, q_m_group, q_m_isPair, q_m_order, q_m_rest)) : Ci E yX6_best (wU yX6_best cX6_best 2 (some .int)) (RM 5 123) [.ref am0, .int p1] (V_M E.2.2 am0 am1 am2 am3 am4 am5 am6 am7 am8 am9 am10 am11 am12 am13 am14 m_said m_tries m_state m_images m_isKept m_pad m_leftOf m_rightOf m_isApart m_group m_isPair m_isOne m_order m_rest m_aside m_others) (V_M E.2.2 am0 am1 am2 am3 am4 am5 am6 am7 am8 am9 am10 am11 am12 am13 am14 m_said q_m_tries m_state m_images m_isKept m_pad q_m_leftOf q_m_rightOf q_m_isApart q_m_group q_m_isPair m_isOne q_m_order q_m_rest m_aside m_others) rr := by
  refine Ci.of (by decide) (Nat.le_of_ble_eq_true rfl) ?_
  intro x hE C
  subst hE
  have C : CX RX6 cX6_best 2 (some .int) x := C
  refine p_locals [0, 1] (lv' := [(0, .ref am0), (1, .int p1)]) rfl ?_
  unfold m_X6_best at h
  refine p_iload_n C dX6_best_0 rfl 1 rfl ?_
  refine p_iconst (v := (-1 : Int32)) C dX6_best_1 rfl (by decide) ?_
  refine p_icmp_ge C dX6_best_2 (tgt := 8) (by decide) rfl (fun c1 => ?_) (fun c1 => ?_)
  · have h := if_t c1 h
    refine p_aload_n C dX6_best_8 rfl 0 rfl ?_
    obtain ⟨z_tries2, z_leftOf3, z_rightOf4, z_isApart5, z_group6, z_isPair7, hc8, h⟩ := bd6_of h
    refine p_callVv_s (As := []) (st' := []) (Wc' := (V_M x.1.2.2 am0 am1 am2 am3 am4 am5 am6 am7 am8 am9 am10 am11 am12 am13 am14 m_said z_tries2 m_state m_images m_isKept m_pad z_leftOf3 z_rightOf4 z_isApart5 z_group6 z_isPair7 m_isOne m_order m_rest m_aside m_others)) C (c_X6_layTries x.1 (am0 := am0) (am1 := am1) (am2 := am2) (am3 := am3) (am4 := am4) (am5 := am5) (am6 := am6) (am7 := am7) (am8 := am8) (am9 := am9) (am10 := am10) (am11 := am11) (am12 := am12) (am13 := am13) (am14 := am14) (m_said := m_said) (m_images := m_images) (m_isKept := m_isKept) (m_pad := m_pad) (m_isOne := m_isOne) (m_order := m_order) (m_rest := m_rest) (m_aside := m_aside) (m_others := m_others) hc8) dX6_best_9 rfl ml_X6_107 kv_X6_layTries ds_X6_layTries ⟨rfl, rfl, by decide, by decide⟩ 0 rfl rfl rfl rfl (by decide) ⟨by decide, by decide⟩ ?_
    refine p_aload_n C dX6_best_12 rfl 0 rfl ?_
    obtain ⟨z_order9, z_rest10, hc11, h⟩ := bd2_of h
    refine p_callVv_s (As := []) (st' := []) (Wc' := (V_M x.1.2.2 am0 am1 am2 am3 am4 am5 am6 am7 am8 am9 am10 am11 am12 am13 am14 m_said z_tries2 m_state m_images m_isKept m_pad z_leftOf3 z_rightOf4 z_isApart5 z_group6 z_isPair7 m_isOne z_order9 z_rest10 m_aside m_others)) C (c_X6_layBest x.1 (am0 := am0) (am1 := am1) (am2 := am2) (am3 := am3) (am4 := am4) (am5 := am5) (am6 := am6) (am7 := am7) (am8 := am8) (am9 := am9) (am10 := am10) (am11 := am11) (am12 := am12) (am13 := am13) (am14 := am14) (m_said := m_said) (m_images := m_images) (m_isKept := m_isKept) (m_pad := m_pad) (m_isApart := z_isApart5) (m_group := z_group6) (m_isPair := z_isPair7) (m_isOne := m_isOne) (m_aside := m_aside) (m_others := m_others) hc11) dX6_best_13 rfl ml_X6_138 kv_X6_layBest ds_X6_layBest ⟨rfl, rfl, by decide, by decide⟩ 0 rfl rfl rfl rfl (by decide) ⟨by decide, by decide⟩ ?_
    refine p_aload_n C dX6_best_16 rfl 0 rfl ?_
    refine p_iload_n C dX6_best_17 rfl 1 rfl ?_
    obtain ⟨r12, hc13, h⟩ := bd1_of h
    refine p_callVi_s (As := [.int p1]) (st' := []) (Wc' := (V_M x.1.2.2 am0 am1 am2 am3 am4 am5 am6 am7 am8 am9 am10 am11 am12 am13 am14 m_said z_tries2 m_state m_images m_isKept m_pad z_leftOf3 z_rightOf4 z_isApart5 z_group6 z_isPair7 m_isOne z_order9 z_rest10 m_aside m_others)) C (c_X6_orderAt x.1 (am0 := am0) (am1 := am1) (am2 := am2) (am3 := am3) (am4 := am4) (am5 := am5) (am6 := am6) (am7 := am7) (am8 := am8) (am9 := am9) (am10 := am10) (am11 := am11) (am12 := am12) (am13 := am13) (am14 := am14) (m_said := m_said) (m_images := m_images) (m_isKept := m_isKept) (m_pad := m_pad) (m_isApart := z_isApart5) (m_group := z_group6) (m_isPair := z_isPair7) (m_isOne := m_isOne) (m_rest := z_rest10) (m_aside := m_aside) (m_others := m_others) hc13) dX6_best_18 rfl ml_X6_141 kv_X6_orderAt ds_X6_orderAt ⟨rfl, rfl, by decide, by decide⟩ 0 rfl rfl rfl rfl (by decide) ⟨by decide, by decide⟩ ?_
    cases h
    exact p_iret C dX6_best_21
  · have h := if_f c1 h
    refine p_bipush (v := (-2 : Int32)) C dX6_best_5 rfl (by decide) ?_
    cases h
    exact p_iret C dX6_best_7
def B_X6_looseMany_4 (m_state : Ar)   (kk : Int32 → Int32 → Option (Int32)) (v1 : Int32) (v2 : Int32)  : Option (Int32) := if (m_state 0) ≤ v2 then (some v1) else (grd (gI (((25 : Int32)) + v2) 40) (kk (v1 + (m_state (((25 : Int32)) + v2).toNatClampNeg)) (v2 + 1)))
def L_X6_looseMany_4 (m_state : Ar)   : Nat → Int32 → Int32 → Option (Int32) := lpG (fun _ _ => none) (B_X6_looseMany_4 m_state)
set_option maxHeartbeats 4000000 in
set_option maxRecDepth 100000 in
theorem tl_X6_looseMany_4 {x : Cxt} {am0 am1 am2 am3 am4 am5 am6 am7 am8 am9 am10 am11 am12 am13 am14 : Nat} {m_said : Int32} {m_tries : Int32} {m_state : Ar} {m_images : Ar} {m_isKept : Ar} {m_pad : Ar} {m_leftOf : Ar} {m_rightOf : Ar} {m_isApart : Ar} {m_group : Ar} {m_isPair : Ar} {m_isOne : Ar} {m_order : Ar} {m_rest : Ar} {m_aside : Ar} {m_others : Ar}   {rr : Int32} (C : CX RX6 cX6_looseMany 3 (some .int) x)  : ∀ (n : Nat) (v1 : Int32) (v2 : Int32) , L_X6_looseMany_4 m_state n v1 v2 = some rr → PT (RM 0 0) 3 x 4 [(0, .ref am0), (1, .int v1), (2, .int v2)] [] (V_M x.1.2.2 am0 am1 am2 am3 am4 am5 am6 am7 am8 am9 am10 am11 am12 am13 am14 m_said m_tries m_state m_images m_isKept m_pad m_leftOf m_rightOf m_isApart m_group m_isPair m_isOne m_order m_rest m_aside m_others) 0 0 (QI x rr (V_M x.1.2.2 am0 am1 am2 am3 am4 am5 am6 am7 am8 am9 am10 am11 am12 am13 am14 m_said m_tries m_state m_images m_isKept m_pad m_leftOf m_rightOf m_isApart m_group m_isPair m_isOne m_order m_rest m_aside m_others)) := by
  intro n
  induction n with
  | zero =>
    intro v1 v2 h
    cases h
  | succ n ih =>
    intro v1 v2 h
    have h : B_X6_looseMany_4 m_state (L_X6_looseMany_4 m_state n) v1 v2 = some rr := h
    unfold B_X6_looseMany_4 at h
    refine p_iload_n C dX6_looseMany_4 rfl 2 rfl ?_
    refine p_aload_n C dX6_looseMany_5 rfl 0 rfl ?_
    refine p_get C dX6_looseMany_6 rfl 0 0 inlX6 fl_X6_7 rfl rfl (by decide) rfl rfl ?_
    refine p_iconst (v := (0 : Int32)) C dX6_looseMany_9 rfl (by decide) ?_
    refine p_ialdj (j := 0) C dX6_looseMany_10 rfl 1 rfl (by decide) (by decide) ?_
    refine p_icmp_ge C dX6_looseMany_11 (tgt := 32) (by decide) rfl (fun c2 => ?_) (fun c2 => ?_)
    · have h := if_t c2 h
      refine p_iload_n C dX6_looseMany_32 rfl 1 rfl ?_
      cases h
      exact p_iret C dX6_looseMany_33
    · have h := if_f c2 h
      refine p_iload_n C dX6_looseMany_14 rfl 1 rfl ?_
      refine p_aload_n C dX6_looseMany_15 rfl 0 rfl ?_
      refine p_get C dX6_looseMany_16 rfl 0 0 inlX6 fl_X6_7 rfl rfl (by decide) rfl rfl ?_
      refine p_bipush (v := (25 : Int32)) C dX6_looseMany_19 rfl (by decide) ?_
      refine p_iload_n C dX6_looseMany_21 rfl 2 rfl ?_
      refine p_iadd C dX6_looseMany_22 rfl ?_
      obtain ⟨g3, h⟩ := grd_of h
      refine p_iald C dX6_looseMany_23 rfl 1 rfl g3 ?_
      refine p_iadd C dX6_looseMany_24 rfl ?_
      refine p_istore_n (lv' := [(1, .int (v1 + (m_state (((25 : Int32)) + v2).toNatClampNeg))), (0, .ref am0), (2, .int v2)]) C dX6_looseMany_25 rfl (by decide) rfl ?_
      refine p_iinc (w := v2 + 1) (lv' := [(2, .int (v2 + 1)), (1, .int (v1 + (m_state (((25 : Int32)) + v2).toNatClampNeg))), (0, .ref am0)]) C dX6_looseMany_26 rfl 2 rfl rfl (by decide) rfl ?_
      refine p_goto C dX6_looseMany_29 (pc' := 4) (by decide) ?_
      refine p_locals [2, 1, 0] (lv' := [(0, .ref am0), (1, .int (v1 + (m_state (((25 : Int32)) + v2).toNatClampNeg))), (2, .int (v2 + 1))]) rfl ?_
      exact ih _ _ h
def m_X6_looseMany (m_state : Ar)  : Option (Int32) := L_X6_looseMany_4 m_state FU ((0 : Int32)) ((0 : Int32))
theorem ds_X6_looseMany : (yX6_looseMany).cls ≠ "java/lang/invoke/MethodHandle" ∧ (yX6_looseMany).cls ≠ "java/lang/invoke/VarHandle" ∧ (parseMethodDescriptor (yX6_looseMany).desc).map (fun d => d.parameters.length) = some 0 := by decide +kernel
set_option maxHeartbeats 4000000 in
set_option maxRecDepth 100000 in
theorem c_X6_looseMany (E : En) {am0 am1 am2 am3 am4 am5 am6 am7 am8 am9 am10 am11 am12 am13 am14 : Nat} {m_said : Int32} {m_tries : Int32} {m_state : Ar} {m_images : Ar} {m_isKept : Ar} {m_pad : Ar} {m_leftOf : Ar} {m_rightOf : Ar} {m_isApart : Ar} {m_group : Ar} {m_isPair : Ar} {m_isOne : Ar} {m_order : Ar} {m_rest : Ar} {m_aside : Ar} {m_others : Ar}  {rr : Int32} (h : m_X6_looseMany m_state = some rr) : Ci E yX6_looseMany (wU yX6_looseMany cX6_looseMany 3 (some .int)) (RM 0 0) [.ref am0] (V_M E.2.2 am0 am1 am2 am3 am4 am5 am6 am7 am8 am9 am10 am11 am12 am13 am14 m_said m_tries m_state m_images m_isKept m_pad m_leftOf m_rightOf m_isApart m_group m_isPair m_isOne m_order m_rest m_aside m_others) (V_M E.2.2 am0 am1 am2 am3 am4 am5 am6 am7 am8 am9 am10 am11 am12 am13 am14 m_said m_tries m_state m_images m_isKept m_pad m_leftOf m_rightOf m_isApart m_group m_isPair m_isOne m_order m_rest m_aside m_others) rr := by
  refine Ci.of (by decide) (Nat.le_of_ble_eq_true rfl) ?_
  intro x hE C
  subst hE
  have C : CX RX6 cX6_looseMany 3 (some .int) x := C
  refine p_locals [0] (lv' := [(0, .ref am0)]) rfl ?_
  unfold m_X6_looseMany at h
  refine p_iconst (v := (0 : Int32)) C dX6_looseMany_0 rfl (by decide) ?_
  refine p_istore_n (lv' := [(1, .int ((0 : Int32))), (0, .ref am0)]) C dX6_looseMany_1 rfl (by decide) rfl ?_
  refine p_iconst (v := (0 : Int32)) C dX6_looseMany_2 rfl (by decide) ?_
  refine p_istore_n (lv' := [(2, .int ((0 : Int32))), (1, .int ((0 : Int32))), (0, .ref am0)]) C dX6_looseMany_3 rfl (by decide) rfl ?_
  refine p_locals [2, 1, 0] (lv' := [(0, .ref am0), (1, .int ((0 : Int32))), (2, .int ((0 : Int32)))]) rfl ?_
  exact tl_X6_looseMany_4 C  FU _ _ h
def B_X6_netsUsed_4 (m_state : Ar)   (kk : Int32 → Int32 → Option (Int32)) (v1 : Int32) (v2 : Int32)  : Option (Int32) := if (m_state 0) ≤ v2 then (some ((((v1 &&& ((1 : Int32))) + ((v1 >>> (((1 : Int32)) &&& 31)) &&& ((1 : Int32)))) + ((v1 >>> (((2 : Int32)) &&& 31)) &&& ((1 : Int32)))) + ((v1 >>> (((3 : Int32)) &&& 31)) &&& ((1 : Int32))))) else (grd (gI (((1 : Int32)) + v2) 40) (bd1 (some (v1 ||| (((1 : Int32)) <<< ((m_state (((1 : Int32)) + v2).toNatClampNeg) &&& 31)))) (fun x4 => kk x4 (v2 + 1))))
def L_X6_netsUsed_4 (m_state : Ar)   : Nat → Int32 → Int32 → Option (Int32) := lpG (fun _ _ => none) (B_X6_netsUsed_4 m_state)
set_option maxHeartbeats 4000000 in
set_option maxRecDepth 100000 in
theorem tl_X6_netsUsed_4 {x : Cxt} {am0 am1 am2 am3 am4 am5 am6 am7 am8 am9 am10 am11 am12 am13 am14 : Nat} {m_said : Int32} {m_tries : Int32} {m_state : Ar} {m_images : Ar} {m_isKept : Ar} {m_pad : Ar} {m_leftOf : Ar} {m_rightOf : Ar} {m_isApart : Ar} {m_group : Ar} {m_isPair : Ar} {m_isOne : Ar} {m_order : Ar} {m_rest : Ar} {m_aside : Ar} {m_others : Ar}   {rr : Int32} (C : CX RX6 cX6_netsUsed 3 (some .int) x)  : ∀ (n : Nat) (v1 : Int32) (v2 : Int32) , L_X6_netsUsed_4 m_state n v1 v2 = some rr → PT (RM 0 0) 3 x 4 [(0, .ref am0), (1, .int v1), (2, .int v2)] [] (V_M x.1.2.2 am0 am1 am2 am3 am4 am5 am6 am7 am8 am9 am10 am11 am12 am13 am14 m_said m_tries m_state m_images m_isKept m_pad m_leftOf m_rightOf m_isApart m_group m_isPair m_isOne m_order m_rest m_aside m_others) 0 0 (QI x rr (V_M x.1.2.2 am0 am1 am2 am3 am4 am5 am6 am7 am8 am9 am10 am11 am12 am13 am14 m_said m_tries m_state m_images m_isKept m_pad m_leftOf m_rightOf m_isApart m_group m_isPair m_isOne m_order m_rest m_aside m_others)) := by
  intro n
  induction n with
  | zero =>
    intro v1 v2 h
    cases h
  | succ n ih =>
    intro v1 v2 h
    have h : B_X6_netsUsed_4 m_state (L_X6_netsUsed_4 m_state n) v1 v2 = some rr := h
    unfold B_X6_netsUsed_4 at h
    refine p_iload_n C dX6_netsUsed_4 rfl 2 rfl ?_
    refine p_aload_n C dX6_netsUsed_5 rfl 0 rfl ?_
    refine p_get C dX6_netsUsed_6 rfl 0 0 inlX6 fl_X6_7 rfl rfl (by decide) rfl rfl ?_
    refine p_iconst (v := (0 : Int32)) C dX6_netsUsed_9 rfl (by decide) ?_
    refine p_ialdj (j := 0) C dX6_netsUsed_10 rfl 1 rfl (by decide) (by decide) ?_
    refine p_icmp_ge C dX6_netsUsed_11 (tgt := 33) (by decide) rfl (fun c2 => ?_) (fun c2 => ?_)
    · have h := if_t c2 h
      refine p_iload_n C dX6_netsUsed_33 rfl 1 rfl ?_
      refine p_iconst (v := (1 : Int32)) C dX6_netsUsed_34 rfl (by decide) ?_
      refine p_iand C dX6_netsUsed_35 rfl ?_
      refine p_iload_n C dX6_netsUsed_36 rfl 1 rfl ?_
      refine p_iconst (v := (1 : Int32)) C dX6_netsUsed_37 rfl (by decide) ?_
      refine p_ishr C dX6_netsUsed_38 rfl ?_
      refine p_iconst (v := (1 : Int32)) C dX6_netsUsed_39 rfl (by decide) ?_
      refine p_iand C dX6_netsUsed_40 rfl ?_
      refine p_iadd C dX6_netsUsed_41 rfl ?_
      refine p_iload_n C dX6_netsUsed_42 rfl 1 rfl ?_
      refine p_iconst (v := (2 : Int32)) C dX6_netsUsed_43 rfl (by decide) ?_
      refine p_ishr C dX6_netsUsed_44 rfl ?_
      refine p_iconst (v := (1 : Int32)) C dX6_netsUsed_45 rfl (by decide) ?_
      refine p_iand C dX6_netsUsed_46 rfl ?_
      refine p_iadd C dX6_netsUsed_47 rfl ?_
      refine p_iload_n C dX6_netsUsed_48 rfl 1 rfl ?_
      refine p_iconst (v := (3 : Int32)) C dX6_netsUsed_49 rfl (by decide) ?_
      refine p_ishr C dX6_netsUsed_50 rfl ?_
      refine p_iconst (v := (1 : Int32)) C dX6_netsUsed_51 rfl (by decide) ?_
      refine p_iand C dX6_netsUsed_52 rfl ?_
      refine p_iadd C dX6_netsUsed_53 rfl ?_
      cases h
      exact p_iret C dX6_netsUsed_54
    · have h := if_f c2 h
      refine p_iload_n C dX6_netsUsed_14 rfl 1 rfl ?_
      refine p_iconst (v := (1 : Int32)) C dX6_netsUsed_15 rfl (by decide) ?_
      refine p_aload_n C dX6_netsUsed_16 rfl 0 rfl ?_
      refine p_get C dX6_netsUsed_17 rfl 0 0 inlX6 fl_X6_7 rfl rfl (by decide) rfl rfl ?_
      refine p_iconst (v := (1 : Int32)) C dX6_netsUsed_20 rfl (by decide) ?_
      refine p_iload_n C dX6_netsUsed_21 rfl 2 rfl ?_
      refine p_iadd C dX6_netsUsed_22 rfl ?_
      obtain ⟨g3, h⟩ := grd_of h
      refine p_iald C dX6_netsUsed_23 rfl 1 rfl g3 ?_
      refine p_ishl C dX6_netsUsed_24 rfl ?_
      refine p_ior C dX6_netsUsed_25 rfl ?_
      obtain ⟨x4, hx5, h⟩ := bd1_of h
      have hx5 := Option.some.inj hx5
      rw [hx5]
      refine p_istore_n (lv' := [(1, .int x4), (0, .ref am0), (2, .int v2)]) C dX6_netsUsed_26 rfl (by decide) rfl ?_
      refine p_iinc (w := v2 + 1) (lv' := [(2, .int (v2 + 1)), (1, .int x4), (0, .ref am0)]) C dX6_netsUsed_27 rfl 2 rfl rfl (by decide) rfl ?_
      refine p_goto C dX6_netsUsed_30 (pc' := 4) (by decide) ?_
      refine p_locals [2, 1, 0] (lv' := [(0, .ref am0), (1, .int x4), (2, .int (v2 + 1))]) rfl ?_
      exact ih _ _ h
def m_X6_netsUsed (m_state : Ar)  : Option (Int32) := L_X6_netsUsed_4 m_state FU ((0 : Int32)) ((0 : Int32))
theorem ds_X6_netsUsed : (yX6_netsUsed).cls ≠ "java/lang/invoke/MethodHandle" ∧ (yX6_netsUsed).cls ≠ "java/lang/invoke/VarHandle" ∧ (parseMethodDescriptor (yX6_netsUsed).desc).map (fun d => d.parameters.length) = some 0 := by decide +kernel
set_option maxHeartbeats 4000000 in
set_option maxRecDepth 100000 in
theorem c_X6_netsUsed (E : En) {am0 am1 am2 am3 am4 am5 am6 am7 am8 am9 am10 am11 am12 am13 am14 : Nat} {m_said : Int32} {m_tries : Int32} {m_state : Ar} {m_images : Ar} {m_isKept : Ar} {m_pad : Ar} {m_leftOf : Ar} {m_rightOf : Ar} {m_isApart : Ar} {m_group : Ar} {m_isPair : Ar} {m_isOne : Ar} {m_order : Ar} {m_rest : Ar} {m_aside : Ar} {m_others : Ar}  {rr : Int32} (h : m_X6_netsUsed m_state = some rr) : Ci E yX6_netsUsed (wU yX6_netsUsed cX6_netsUsed 3 (some .int)) (RM 0 0) [.ref am0] (V_M E.2.2 am0 am1 am2 am3 am4 am5 am6 am7 am8 am9 am10 am11 am12 am13 am14 m_said m_tries m_state m_images m_isKept m_pad m_leftOf m_rightOf m_isApart m_group m_isPair m_isOne m_order m_rest m_aside m_others) (V_M E.2.2 am0 am1 am2 am3 am4 am5 am6 am7 am8 am9 am10 am11 am12 am13 am14 m_said m_tries m_state m_images m_isKept m_pad m_leftOf m_rightOf m_isApart m_group m_isPair m_isOne m_order m_rest m_aside m_others) rr := by
  refine Ci.of (by decide) (Nat.le_of_ble_eq_true rfl) ?_
  intro x hE C
  subst hE
  have C : CX RX6 cX6_netsUsed 3 (some .int) x := C
  refine p_locals [0] (lv' := [(0, .ref am0)]) rfl ?_
  unfold m_X6_netsUsed at h
  refine p_iconst (v := (0 : Int32)) C dX6_netsUsed_0 rfl (by decide) ?_
  refine p_istore_n (lv' := [(1, .int ((0 : Int32))), (0, .ref am0)]) C dX6_netsUsed_1 rfl (by decide) rfl ?_
  refine p_iconst (v := (0 : Int32)) C dX6_netsUsed_2 rfl (by decide) ?_
  refine p_istore_n (lv' := [(2, .int ((0 : Int32))), (1, .int ((0 : Int32))), (0, .ref am0)]) C dX6_netsUsed_3 rfl (by decide) rfl ?_
  refine p_locals [2, 1, 0] (lv' := [(0, .ref am0), (1, .int ((0 : Int32))), (2, .int ((0 : Int32)))]) rfl ?_
  exact tl_X6_netsUsed_4 C  FU _ _ h
