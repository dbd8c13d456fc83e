def m_X6_in  (p0 : Int32) (p1 : Int32) (p2 : Int32) : Option (Int32) := if p0 < p1 then (some ((0 : Int32))) else (if p2 < p0 then (some ((0 : Int32))) else (some ((1 : Int32))))
theorem ds_X6_in : (yX6_in).cls ≠ "java/lang/invoke/MethodHandle" ∧ (yX6_in).cls ≠ "java/lang/invoke/VarHandle" ∧ (parseMethodDescriptor (yX6_in).desc).map (fun d => d.parameters.length) = some 3 := by decide +kernel
set_option maxHeartbeats 4000000 in
set_option maxRecDepth 100000 in
theorem c_X6_in (E : En)  {p0 : Int32} {p1 : Int32} {p2 : Int32} {rr : Int32} (h : m_X6_in p0 p1 p2 = some rr) : Ci E yX6_in (wU yX6_in cX6_in 3 (some .boolean)) (RM 0 0) [.int p0, .int p1, .int p2] ([] : va_W) ([] : va_W) rr := by
  refine Ci.of (by decide) (Nat.le_of_ble_eq_true rfl) ?_
  intro x hE C
  subst hE
  have C : CX RX6 cX6_in 3 (some .boolean) x := C
  refine p_locals [0, 1, 2] (lv' := [(0, .int p0), (1, .int p1), (2, .int p2)]) rfl ?_
  unfold m_X6_in at h
  refine p_iload_n C dX6_in_0 rfl 0 rfl ?_
  refine p_iload_n C dX6_in_1 rfl 1 rfl ?_
  refine p_icmp_lt C dX6_in_2 (tgt := 14) (by decide) rfl (fun c1 => ?_) (fun c1 => ?_)
  · have h := if_t c1 h
    refine p_iconst (v := (0 : Int32)) C dX6_in_14 rfl (by decide) ?_
    cases h
    exact p_zret C dX6_in_15 rfl
  · have h := if_f c1 h
    refine p_iload_n C dX6_in_5 rfl 0 rfl ?_
    refine p_iload_n C dX6_in_6 rfl 2 rfl ?_
    refine p_icmp_gt C dX6_in_7 (tgt := 14) (by decide) rfl (fun c2 => ?_) (fun c2 => ?_)
    · have h := if_t c2 h
      refine p_iconst (v := (0 : Int32)) C dX6_in_14 rfl (by decide) ?_
      cases h
      exact p_zret C dX6_in_15 rfl
    · have h := if_f c2 h
      refine p_iconst (v := (1 : Int32)) C dX6_in_10 rfl (by decide) ?_
      refine p_goto C dX6_in_11 (pc' := 15) (by decide) ?_
      cases h
      exact p_zret C dX6_in_15 rfl
def m_X6_isTry (m_tries : Int32) (p1 : Int32) : Option (Int32) := bd1 (m_X6_in p1 ((0 : Int32)) (m_tries - ((1 : Int32)))) (fun r1 => grd (zb r1) (some r1))
theorem ds_X6_isTry : (yX6_isTry).cls ≠ "java/lang/invoke/MethodHandle" ∧ (yX6_isTry).cls ≠ "java/lang/invoke/VarHandle" ∧ (parseMethodDescriptor (yX6_isTry).desc).map (fun d => d.parameters.length) = some 1 := by decide +kernel
set_option maxHeartbeats 4000000 in
set_option maxRecDepth 100000 in
theorem c_X6_isTry (E : En) {am0 am1 am2 am3 am4 am5 am6 am7 am8 am9 am10 am11 am12 am13 am14 : Nat} {m_said : Int32} {m_tries : Int32} {m_state : Ar} {m_images : Ar} {m_isKept : Ar} {m_pad : Ar} {m_leftOf : Ar} {m_rightOf : Ar} {m_isApart : Ar} {m_group : Ar} {m_isPair : Ar} {m_isOne : Ar} {m_order : Ar} {m_rest : Ar} {m_aside : Ar} {m_others : Ar} {p1 : Int32} {rr : Int32} (h : m_X6_isTry m_tries p1 = some rr) : Ci E yX6_isTry (wU yX6_isTry cX6_isTry 2 (some .boolean)) (RM 1 22) [.ref am0, .int p1] (V_M E.2.2 am0 am1 am2 am3 am4 am5 am6 am7 am8 am9 am10 am11 am12 am13 am14 m_said m_tries m_state m_images m_isKept m_pad m_leftOf m_rightOf m_isApart m_group m_isPair m_isOne m_order m_rest m_aside m_others) (V_M E.2.2 am0 am1 am2 am3 am4 am5 am6 am7 am8 am9 am10 am11 am12 am13 am14 m_said m_tries m_state m_images m_isKept m_pad m_leftOf m_rightOf m_isApart m_group m_isPair m_isOne m_order m_rest m_aside m_others) rr := by
  refine Ci.of (by decide) (Nat.le_of_ble_eq_true rfl) ?_
  intro x hE C
  subst hE
  have C : CX RX6 cX6_isTry 2 (some .boolean) x := C
  refine p_locals [0, 1] (lv' := [(0, .ref am0), (1, .int p1)]) rfl ?_
  unfold m_X6_isTry at h
  refine p_iload_n C dX6_isTry_0 rfl 1 rfl ?_
  refine p_iconst (v := (0 : Int32)) C dX6_isTry_1 rfl (by decide) ?_
  refine p_aload_n C dX6_isTry_2 rfl 0 rfl ?_
  refine p_get C dX6_isTry_3 rfl 0 8 inlX6 fl_X6_72 rfl rfl (by decide) rfl rfl ?_
  refine p_iconst (v := (1 : Int32)) C dX6_isTry_6 rfl (by decide) ?_
  refine p_isub C dX6_isTry_7 rfl ?_
  obtain ⟨r1, hc2, h⟩ := bd1_of h
  refine p_callSi (As := [.int p1, .int ((0 : Int32)), .int (m_tries - ((1 : Int32)))]) (st' := []) (Wd' := (V_M x.1.2.2 am0 am1 am2 am3 am4 am5 am6 am7 am8 am9 am10 am11 am12 am13 am14 m_said m_tries m_state m_images m_isKept m_pad m_leftOf m_rightOf m_isApart m_group m_isPair m_isOne m_order m_rest m_aside m_others)) C (c_X6_in x.1 hc2) dX6_isTry_8 rfl ml_X6_53 ks_X6_in ds_X6_in ⟨rfl, rfl, by decide, by decide⟩ [] rfl rfl rfl rfl (by decide) ⟨by decide, by decide⟩ rfl ?_
  obtain ⟨g3, h⟩ := grd_of h
  cases h
  exact p_zret C dX6_isTry_11 (zb_ok g3)
def m_X6_farOf (m_state : Ar) (p1 : Int32) (p2 : Int32) : Option (Int32) := grd (gI (((9 : Int32)) + p1) 40) (grd (gI (((9 : Int32)) + p2) 40) (bd1 (some ((m_state (((9 : Int32)) + p1).toNatClampNeg) - (m_state (((9 : Int32)) + p2).toNatClampNeg))) (fun x3 => grd (gI (((17 : Int32)) + p1) 40) (grd (gI (((17 : Int32)) + p2) 40) (bd1 (some ((m_state (((17 : Int32)) + p1).toNatClampNeg) - (m_state (((17 : Int32)) + p2).toNatClampNeg))) (fun x7 => some ((x3 * x3) + (x7 * x7))))))))
theorem ds_X6_farOf : (yX6_farOf).cls ≠ "java/lang/invoke/MethodHandle" ∧ (yX6_farOf).cls ≠ "java/lang/invoke/VarHandle" ∧ (parseMethodDescriptor (yX6_farOf).desc).map (fun d => d.parameters.length) = some 2 := by decide +kernel
set_option maxHeartbeats 4000000 in
set_option maxRecDepth 100000 in
theorem c_X6_farOf (E : En) {am0 am1 am2 am3 am4 am5 am6 am7 am8 am9 am10 am11 am12 am13 am14 : Nat} {m_said : Int32} {m_tries : Int32} {m_state : Ar} {m_images : Ar} {m_isKept : Ar} {m_pad : Ar} {m_leftOf : Ar} {m_rightOf : Ar} {m_isApart : Ar} {m_group : Ar} {m_isPair : Ar} {m_isOne : Ar} {m_order : Ar} {m_rest : Ar} {m_aside : Ar} {m_others : Ar} {p1 : Int32} {p2 : Int32} {rr : Int32} (h : m_X6_farOf m_state p1 p2 = some rr) : Ci E yX6_farOf (wU yX6_farOf cX6_farOf 5 (some .int)) (RM 0 0) [.ref am0, .int p1, .int p2] (V_M E.2.2 am0 am1 am2 am3 am4 am5 am6 am7 am8 am9 am10 am11 am12 am13 am14 m_said m_tries m_state m_images m_isKept m_pad m_leftOf m_rightOf m_isApart m_group m_isPair m_isOne m_order m_rest m_aside m_others) (V_M E.2.2 am0 am1 am2 am3 am4 am5 am6 am7 am8 am9 am10 am11 am12 am13 am14 m_said m_tries m_state m_images m_isKept m_pad m_leftOf m_rightOf m_isApart m_group m_isPair m_isOne m_order m_rest m_aside m_others) rr := by
  refine Ci.of (by decide) (Nat.le_of_ble_eq_true rfl) ?_
  intro x hE C
  subst hE
  have C : CX RX6 cX6_farOf 5 (some .int) x := C
  refine p_locals [0, 1, 2] (lv' := [(0, .ref am0), (1, .int p1), (2, .int p2)]) rfl ?_
  unfold m_X6_farOf at h
  refine p_aload_n C dX6_farOf_0 rfl 0 rfl ?_
  refine p_get C dX6_farOf_1 rfl 0 0 inlX6 fl_X6_7 rfl rfl (by decide) rfl rfl ?_
  refine p_bipush (v := (9 : Int32)) C dX6_farOf_4 rfl (by decide) ?_
  refine p_iload_n C dX6_farOf_6 rfl 1 rfl ?_
  refine p_iadd C dX6_farOf_7 rfl ?_
  obtain ⟨g1, h⟩ := grd_of h
  refine p_iald C dX6_farOf_8 rfl 1 rfl g1 ?_
  refine p_aload_n C dX6_farOf_9 rfl 0 rfl ?_
  refine p_get C dX6_farOf_10 rfl 0 0 inlX6 fl_X6_7 rfl rfl (by decide) rfl rfl ?_
  refine p_bipush (v := (9 : Int32)) C dX6_farOf_13 rfl (by decide) ?_
  refine p_iload_n C dX6_farOf_15 rfl 2 rfl ?_
  refine p_iadd C dX6_farOf_16 rfl ?_
  obtain ⟨g2, h⟩ := grd_of h
  refine p_iald C dX6_farOf_17 rfl 1 rfl g2 ?_
  refine p_isub C dX6_farOf_18 rfl ?_
  obtain ⟨x3, hx4, h⟩ := bd1_of h
  have hx4 := Option.some.inj hx4
  rw [hx4]
  refine p_istore_n (lv' := [(3, .int x3), (0, .ref am0), (1, .int p1), (2, .int p2)]) C dX6_farOf_19 rfl (by decide) rfl ?_
  refine p_aload_n C dX6_farOf_20 rfl 1 rfl ?_
  refine p_get C dX6_farOf_21 rfl 0 0 inlX6 fl_X6_7 rfl rfl (by decide) rfl rfl ?_
  refine p_bipush (v := (17 : Int32)) C dX6_farOf_24 rfl (by decide) ?_
  refine p_iload_n C dX6_farOf_26 rfl 2 rfl ?_
  refine p_iadd C dX6_farOf_27 rfl ?_
  obtain ⟨g5, h⟩ := grd_of h
  refine p_iald C dX6_farOf_28 rfl 1 rfl g5 ?_
  refine p_aload_n C dX6_farOf_29 rfl 1 rfl ?_
  refine p_get C dX6_farOf_30 rfl 0 0 inlX6 fl_X6_7 rfl rfl (by decide) rfl rfl ?_
  refine p_bipush (v := (17 : Int32)) C dX6_farOf_33 rfl (by decide) ?_
  refine p_iload_n C dX6_farOf_35 rfl 3 rfl ?_
  refine p_iadd C dX6_farOf_36 rfl ?_
  obtain ⟨g6, h⟩ := grd_of h
  refine p_iald C dX6_farOf_37 rfl 1 rfl g6 ?_
  refine p_isub C dX6_farOf_38 rfl ?_
  obtain ⟨x7, hx8, h⟩ := bd1_of h
  have hx8 := Option.some.inj hx8
  rw [hx8]
  refine p_istore (lv' := [(4, .int x7), (3, .int x3), (0, .ref am0), (1, .int p1), (2, .int p2)]) C dX6_farOf_39 rfl (by decide) rfl ?_
  refine p_iload_n C dX6_farOf_41 rfl 1 rfl ?_
  refine p_iload_n C dX6_farOf_42 rfl 1 rfl ?_
  refine p_imul C dX6_farOf_43 rfl ?_
  refine p_iload C dX6_farOf_44 rfl 0 rfl ?_
  refine p_iload C dX6_farOf_46 rfl 0 rfl ?_
  refine p_imul C dX6_farOf_48 rfl ?_
  refine p_iadd C dX6_farOf_49 rfl ?_
  cases h
  exact p_iret C dX6_farOf_50
def J_X6_layNeighbours_105 (m_tries : Int32) (m_state : Ar) (m_leftOf : Ar) (m_rightOf : Ar) (m_isApart : Ar) (k20 : Int32 → Int32 → Option (Int32 × Ar × Ar × Ar)) (k6 : Int32 → Int32 → Option (Int32 × Ar × Ar × Ar))  (v1 : Int32) (v2 : Int32) (v3 : Int32) (v4 : Int32) (v5 : Int32) : Option (Int32 × Ar × Ar × Ar) := k20 v3 (v5 + 1)
set_option maxHeartbeats 4000000 in
set_option maxRecDepth 100000 in
theorem tj_X6_layNeighbours_105 {x : Cxt} {am0 am1 am2 am3 am4 am5 am6 am7 am8 am9 am10 am11 am12 am13 am14 : Nat} {m_said : Int32} {m_tries : Int32} {m_state : Ar} {m_images : Ar} {m_isKept : Ar} {m_pad : Ar} {m_leftOf : Ar} {m_rightOf : Ar} {m_isApart : Ar} {m_group : Ar} {m_isPair : Ar} {m_isOne : Ar} {m_order : Ar} {m_rest : Ar} {m_aside : Ar} {m_others : Ar} {k20 : Int32 → Int32 → Option (Int32 × Ar × Ar × Ar)} {k6 : Int32 → Int32 → Option (Int32 × Ar × Ar × Ar)}  {v1 : Int32} {v2 : Int32} {v3 : Int32} {v4 : Int32} {v5 : Int32} {q_m_tries : Int32} {q_m_leftOf : Ar} {q_m_rightOf : Ar} {q_m_isApart : Ar} (C : CX RX6 cX6_layNeighbours 7 none x) (hk20 : ∀ (w3 : Int32) (w5 : Int32) , k20 w3 w5 = some (q_m_tries, q_m_leftOf, q_m_rightOf, q_m_isApart) → PT (RM 1 24) 7 x 20 [(0, .ref am0), (1, .int v1), (2, .int v2), (3, .int w3), (4, .int v4), (5, .int w5)] [] (V_M x.1.2.2 am0 am1 am2 am3 am4 am5 am6 am7 am8 am9 am10 am11 am12 am13 am14 m_said m_tries m_state m_images m_isKept m_pad m_leftOf m_rightOf m_isApart m_group m_isPair m_isOne m_order m_rest m_aside m_others) 0 0 (QV x (V_M x.1.2.2 am0 am1 am2 am3 am4 am5 am6 am7 am8 am9 am10 am11 am12 am13 am14 m_said q_m_tries m_state m_images m_isKept m_pad q_m_leftOf q_m_rightOf q_m_isApart m_group m_isPair m_isOne m_order m_rest m_aside m_others))) (hk6 : ∀ (w3 : Int32) (w4 : Int32) , k6 w3 w4 = some (q_m_tries, q_m_leftOf, q_m_rightOf, q_m_isApart) → PT (RM 1 24) 7 x 6 [(0, .ref am0), (1, .int v1), (2, .int v2), (3, .int w3), (4, .int w4)] [] (V_M x.1.2.2 am0 am1 am2 am3 am4 am5 am6 am7 am8 am9 am10 am11 am12 am13 am14 m_said m_tries m_state m_images m_isKept m_pad m_leftOf m_rightOf m_isApart m_group m_isPair m_isOne m_order m_rest m_aside m_others) 0 0 (QV x (V_M x.1.2.2 am0 am1 am2 am3 am4 am5 am6 am7 am8 am9 am10 am11 am12 am13 am14 m_said q_m_tries m_state m_images m_isKept m_pad q_m_leftOf q_m_rightOf q_m_isApart m_group m_isPair m_isOne m_order m_rest m_aside m_others))) (h : J_X6_layNeighbours_105 m_tries m_state m_leftOf m_rightOf m_isApart k20 k6 v1 v2 v3 v4 v5 = some (q_m_tries, q_m_leftOf, q_m_rightOf, q_m_isApart)) : PT (RM 1 24) 7 x 105 [(0, .ref am0), (1, .int v1), (2, .int v2), (3, .int v3), (4, .int v4), (5, .int v5)] [] (V_M x.1.2.2 am0 am1 am2 am3 am4 am5 am6 am7 am8 am9 am10 am11 am12 am13 am14 m_said m_tries m_state m_images m_isKept m_pad m_leftOf m_rightOf m_isApart m_group m_isPair m_isOne m_order m_rest m_aside m_others) 0 0 (QV x (V_M x.1.2.2 am0 am1 am2 am3 am4 am5 am6 am7 am8 am9 am10 am11 am12 am13 am14 m_said q_m_tries m_state m_images m_isKept m_pad q_m_leftOf q_m_rightOf q_m_isApart m_group m_isPair m_isOne m_order m_rest m_aside m_others)) := by
  unfold J_X6_layNeighbours_105 at h
  refine p_iinc (w := v5 + 1) (lv' := [(5, .int (v5 + 1)), (0, .ref am0), (1, .int v1), (2, .int v2), (3, .int v3), (4, .int v4)]) C dX6_layNeighbours_105 rfl 5 rfl rfl (by decide) rfl ?_
  refine p_goto C dX6_layNeighbours_108 (pc' := 20) (by decide) ?_
  refine p_locals [1, 2, 3, 4, 5, 0] (lv' := [(0, .ref am0), (1, .int v1), (2, .int v2), (3, .int v3), (4, .int v4), (5, .int (v5 + 1))]) rfl ?_
  exact hk20 _ _ h
def J_X6_layNeighbours_96 (m_tries : Int32) (m_state : Ar) (m_leftOf : Ar) (m_rightOf : Ar) (m_isApart : Ar) (k20 : Int32 → Int32 → Option (Int32 × Ar × Ar × Ar)) (k6 : Int32 → Int32 → Option (Int32 × Ar × Ar × Ar))  (v1 : Int32) (v2 : Int32) (v4 : Int32) (v5 : Int32) : Option (Int32 × Ar × Ar × Ar) := J_X6_layNeighbours_105 m_tries m_state m_leftOf m_rightOf m_isApart (k20) (k6) v1 v2 ((((8 : Int32)) * v4) + v5) v4 v5
set_option maxHeartbeats 4000000 in
set_option maxRecDepth 100000 in
theorem tj_X6_layNeighbours_96 {x : Cxt} {am0 am1 am2 am3 am4 am5 am6 am7 am8 am9 am10 am11 am12 am13 am14 : Nat} {m_said : Int32} {m_tries : Int32} {m_state : Ar} {m_images : Ar} {m_isKept : Ar} {m_pad : Ar} {m_leftOf : Ar} {m_rightOf : Ar} {m_isApart : Ar} {m_group : Ar} {m_isPair : Ar} {m_isOne : Ar} {m_order : Ar} {m_rest : Ar} {m_aside : Ar} {m_others : Ar} {k20 : Int32 → Int32 → Option (Int32 × Ar × Ar × Ar)} {k6 : Int32 → Int32 → Option (Int32 × Ar × Ar × Ar)}  {v1 : Int32} {v2 : Int32} {v4 : Int32} {v5 : Int32} {q_m_tries : Int32} {q_m_leftOf : Ar} {q_m_rightOf : Ar} {q_m_isApart : Ar} (C : CX RX6 cX6_layNeighbours 7 none x) (hk20 : ∀ (w3 : Int32) (w5 : Int32) , k20 w3 w5 = some (q_m_tries, q_m_leftOf, q_m_rightOf, q_m_isApart) → PT (RM 1 24) 7 x 20 [(0, .ref am0), (1, .int v1), (2, .int v2), (3, .int w3), (4, .int v4), (5, .int w5)] [] (V_M x.1.2.2 am0 am1 am2 am3 am4 am5 am6 am7 am8 am9 am10 am11 am12 am13 am14 m_said m_tries m_state m_images m_isKept m_pad m_leftOf m_rightOf m_isApart m_group m_isPair m_isOne m_order m_rest m_aside m_others) 0 0 (QV x (V_M x.1.2.2 am0 am1 am2 am3 am4 am5 am6 am7 am8 am9 am10 am11 am12 am13 am14 m_said q_m_tries m_state m_images m_isKept m_pad q_m_leftOf q_m_rightOf q_m_isApart m_group m_isPair m_isOne m_order m_rest m_aside m_others))) (hk6 : ∀ (w3 : Int32) (w4 : Int32) , k6 w3 w4 = some (q_m_tries, q_m_leftOf, q_m_rightOf, q_m_isApart) → PT (RM 1 24) 7 x 6 [(0, .ref am0), (1, .int v1), (2, .int v2), (3, .int w3), (4, .int w4)] [] (V_M x.1.2.2 am0 am1 am2 am3 am4 am5 am6 am7 am8 am9 am10 am11 am12 am13 am14 m_said m_tries m_state m_images m_isKept m_pad m_leftOf m_rightOf m_isApart m_group m_isPair m_isOne m_order m_rest m_aside m_others) 0 0 (QV x (V_M x.1.2.2 am0 am1 am2 am3 am4 am5 am6 am7 am8 am9 am10 am11 am12 am13 am14 m_said q_m_tries m_state m_images m_isKept m_pad q_m_leftOf q_m_rightOf q_m_isApart m_group m_isPair m_isOne m_order m_rest m_aside m_others))) (h : J_X6_layNeighbours_96 m_tries m_state m_leftOf m_rightOf m_isApart k20 k6 v1 v2 v4 v5 = some (q_m_tries, q_m_leftOf, q_m_rightOf, q_m_isApart)) : PT (RM 1 24) 7 x 96 [(0, .ref am0), (1, .int v1), (2, .int v2), (4, .int v4), (5, .int v5)] [] (V_M x.1.2.2 am0 am1 am2 am3 am4 am5 am6 am7 am8 am9 am10 am11 am12 am13 am14 m_said m_tries m_state m_images m_isKept m_pad m_leftOf m_rightOf m_isApart m_group m_isPair m_isOne m_order m_rest m_aside m_others) 0 0 (QV x (V_M x.1.2.2 am0 am1 am2 am3 am4 am5 am6 am7 am8 am9 am10 am11 am12 am13 am14 m_said q_m_tries m_state m_images m_isKept m_pad q_m_leftOf q_m_rightOf q_m_isApart m_group m_isPair m_isOne m_order m_rest m_aside m_others)) := by
  unfold J_X6_layNeighbours_96 at h
  refine p_bipush (v := (8 : Int32)) C dX6_layNeighbours_96 rfl (by decide) ?_
  refine p_iload C dX6_layNeighbours_98 rfl 3 rfl ?_
  refine p_imul C dX6_layNeighbours_100 rfl ?_
  refine p_iload C dX6_layNeighbours_101 rfl 4 rfl ?_
  refine p_iadd C dX6_layNeighbours_103 rfl ?_
  refine p_istore_n (lv' := [(3, .int ((((8 : Int32)) * v4) + v5)), (0, .ref am0), (1, .int v1), (2, .int v2), (4, .int v4), (5, .int v5)]) C dX6_layNeighbours_104 rfl (by decide) rfl ?_
  refine p_locals [1, 2, 3, 0, 4, 5] (lv' := [(0, .ref am0), (1, .int v1), (2, .int v2), (3, .int ((((8 : Int32)) * v4) + v5)), (4, .int v4), (5, .int v5)]) rfl ?_
  exact tj_X6_layNeighbours_105 C (fun u0 u1 h => hk20 u0 u1 h) (fun u0 u1 h => hk6 u0 u1 h) h
def J_X6_layNeighbours_62 (m_tries : Int32) (m_state : Ar) (m_leftOf : Ar) (m_rightOf : Ar) (m_isApart : Ar) (k20 : Int32 → Int32 → Option (Int32 × Ar × Ar × Ar)) (k6 : Int32 → Int32 → Option (Int32 × Ar × Ar × Ar)) (e0 : Int32) (v1 : Int32) (v2 : Int32) (v3 : Int32) (v4 : Int32) (v5 : Int32) : Option (Int32 × Ar × Ar × Ar) := if e0 = 0 then (J_X6_layNeighbours_105 m_tries m_state m_leftOf m_rightOf m_isApart (k20) (k6) v1 v2 v3 v4 v5) else (if v3 < 0 then (J_X6_layNeighbours_96 m_tries m_state m_leftOf m_rightOf m_isApart (k20) (k6) v1 v2 v4 v5) else (bd1 (m_X6_farOf m_state v4 v5) (fun r3 => bd1 (m_X6_farOf m_state (v3 / ((8 : Int32))) (v3 - v3 / ((8 : Int32)) * ((8 : Int32)))) (fun r5 => if r5 ≤ r3 then (J_X6_layNeighbours_105 m_tries m_state m_leftOf m_rightOf m_isApart (k20) (k6) v1 v2 v3 v4 v5) else (J_X6_layNeighbours_96 m_tries m_state m_leftOf m_rightOf m_isApart (k20) (k6) v1 v2 v4 v5)))))
set_option maxHeartbeats 4000000 in
set_option maxRecDepth 100000 in
theorem tj_X6_layNeighbours_62 {x : Cxt} {am0 am1 am2 am3 am4 am5 am6 am7 am8 am9 am10 am11 am12 am13 am14 : Nat} {m_said : Int32} {m_tries : Int32} {m_state : Ar} {m_images : Ar} {m_isKept : Ar} {m_pad : Ar} {m_leftOf : Ar} {m_rightOf : Ar} {m_isApart : Ar} {m_group : Ar} {m_isPair : Ar} {m_isOne : Ar} {m_order : Ar} {m_rest : Ar} {m_aside : Ar} {m_others : Ar} {k20 : Int32 → Int32 → Option (Int32 × Ar × Ar × Ar)} {k6 : Int32 → Int32 → Option (Int32 × Ar × Ar × Ar)} {e0 : Int32} {v1 : Int32} {v2 : Int32} {v3 : Int32} {v4 : Int32} {v5 : Int32} {q_m_tries : Int32} {q_m_leftOf : Ar} {q_m_rightOf : Ar} {q_m_isApart : Ar} (C : CX RX6 cX6_layNeighbours 7 none x) (hk20 : ∀ (w3 : Int32) (w5 : Int32) , k20 w3 w5 = some (q_m_tries, q_m_leftOf, q_m_rightOf, q_m_isApart) → PT (RM 1 24) 7 x 20 [(0, .ref am0), (1, .int v1), (2, .int v2), (3, .int w3), (4, .int v4), (5, .int w5)] [] (V_M x.1.2.2 am0 am1 am2 am3 am4 am5 am6 am7 am8 am9 am10 am11 am12 am13 am14 m_said m_tries m_state m_images m_isKept m_pad m_leftOf m_rightOf m_isApart m_group m_isPair m_isOne m_order m_rest m_aside m_others) 0 0 (QV x (V_M x.1.2.2 am0 am1 am2 am3 am4 am5 am6 am7 am8 am9 am10 am11 am12 am13 am14 m_said q_m_tries m_state m_images m_isKept m_pad q_m_leftOf q_m_rightOf q_m_isApart m_group m_isPair m_isOne m_order m_rest m_aside m_others))) (hk6 : ∀ (w3 : Int32) (w4 : Int32) , k6 w3 w4 = some (q_m_tries, q_m_leftOf, q_m_rightOf, q_m_isApart) → PT (RM 1 24) 7 x 6 [(0, .ref am0), (1, .int v1), (2, .int v2), (3, .int w3), (4, .int w4)] [] (V_M x.1.2.2 am0 am1 am2 am3 am4 am5 am6 am7 am8 am9 am10 am11 am12 am13 am14 m_said m_tries m_state m_images m_isKept m_pad m_leftOf m_rightOf m_isApart m_group m_isPair m_isOne m_order m_rest m_aside m_others) 0 0 (QV x (V_M x.1.2.2 am0 am1 am2 am3 am4 am5 am6 am7 am8 am9 am10 am11 am12 am13 am14 m_said q_m_tries m_state m_images m_isKept m_pad q_m_leftOf q_m_rightOf q_m_isApart m_group m_isPair m_isOne m_order m_rest m_aside m_others))) (h : J_X6_layNeighbours_62 m_tries m_state m_leftOf m_rightOf m_isApart k20 k6 e0 v1 v2 v3 v4 v5 = some (q_m_tries, q_m_leftOf, q_m_rightOf, q_m_isApart)) : PT (RM 1 24) 7 x 62 [(0, .ref am0), (1, .int v1), (2, .int v2), (3, .int v3), (4, .int v4), (5, .int v5)] [.int e0] (V_M x.1.2.2 am0 am1 am2 am3 am4 am5 am6 am7 am8 am9 am10 am11 am12 am13 am14 m_said m_tries m_state m_images m_isKept m_pad m_leftOf m_rightOf m_isApart m_group m_isPair m_isOne m_order m_rest m_aside m_others) 0 0 (QV x (V_M x.1.2.2 am0 am1 am2 am3 am4 am5 am6 am7 am8 am9 am10 am11 am12 am13 am14 m_said q_m_tries m_state m_images m_isKept m_pad q_m_leftOf q_m_rightOf q_m_isApart m_group m_isPair m_isOne m_order m_rest m_aside m_others)) := by
  unfold J_X6_layNeighbours_62 at h
  refine p_istore (lv' := [(6, .int e0), (0, .ref am0), (1, .int v1), (2, .int v2), (3, .int v3), (4, .int v4), (5, .int v5)]) C dX6_layNeighbours_62 rfl (by decide) rfl ?_
  refine p_iload C dX6_layNeighbours_64 rfl 0 rfl ?_
  refine p_if_eq C dX6_layNeighbours_66 (tgt := 105) (by decide) rfl (fun c1 => ?_) (fun c1 => ?_)
  · have h := if_t c1 h
    refine p_locals [1, 2, 3, 4, 5, 6] (lv' := [(0, .ref am0), (1, .int v1), (2, .int v2), (3, .int v3), (4, .int v4), (5, .int v5)]) rfl ?_
    exact tj_X6_layNeighbours_105 C (fun u0 u1 h => hk20 u0 u1 h) (fun u0 u1 h => hk6 u0 u1 h) h
  · have h := if_f c1 h
    refine p_iload_n C dX6_layNeighbours_69 rfl 4 rfl ?_
    refine p_if_lt C dX6_layNeighbours_70 (tgt := 96) (by decide) rfl (fun c2 => ?_) (fun c2 => ?_)
    · have h := if_t c2 h
      refine p_locals [1, 2, 3, 5, 6] (lv' := [(0, .ref am0), (1, .int v1), (2, .int v2), (4, .int v4), (5, .int v5)]) rfl ?_
      exact tj_X6_layNeighbours_96 C (fun u0 u1 h => hk20 u0 u1 h) (fun u0 u1 h => hk6 u0 u1 h) h
    · have h := if_f c2 h
      refine p_aload_n C dX6_layNeighbours_73 rfl 1 rfl ?_
      refine p_iload C dX6_layNeighbours_74 rfl 5 rfl ?_
      refine p_iload C dX6_layNeighbours_76 rfl 6 rfl ?_
      obtain ⟨r3, hc4, h⟩ := bd1_of h
      refine p_callVi_s (As := [.int v4, .int v5]) (st' := []) (Wc' := (V_M x.1.2.2 am0 am1 am2 am3 am4 am5 am6 am7 am8 am9 am10 am11 am12 am13 am14 m_said m_tries m_state m_images m_isKept m_pad m_leftOf m_rightOf m_isApart m_group m_isPair m_isOne m_order m_rest m_aside m_others)) C (c_X6_farOf x.1 (am0 := am0) (am1 := am1) (am2 := am2) (am3 := am3) (am4 := am4) (am5 := am5) (am6 := am6) (am7 := am7) (am8 := am8) (am9 := am9) (am10 := am10) (am11 := am11) (am12 := am12) (am13 := am13) (am14 := am14) (m_said := m_said) (m_tries := m_tries) (m_images := m_images) (m_isKept := m_isKept) (m_pad := m_pad) (m_leftOf := m_leftOf) (m_rightOf := m_rightOf) (m_isApart := m_isApart) (m_group := m_group) (m_isPair := m_isPair) (m_isOne := m_isOne) (m_order := m_order) (m_rest := m_rest) (m_aside := m_aside) (m_others := m_others) hc4) dX6_layNeighbours_78 rfl ml_X6_68 kv_X6_farOf ds_X6_farOf ⟨rfl, rfl, by decide, by decide⟩ 0 rfl rfl rfl rfl (by decide) ⟨by decide, by decide⟩ ?_
      refine p_aload_n C dX6_layNeighbours_81 rfl 1 rfl ?_
      refine p_iload_n C dX6_layNeighbours_82 rfl 4 rfl ?_
      refine p_bipush (v := (8 : Int32)) C dX6_layNeighbours_83 rfl (by decide) ?_
      refine p_idiv C dX6_layNeighbours_85 rfl (by decide) ?_
      refine p_iload_n C dX6_layNeighbours_86 rfl 4 rfl ?_
      refine p_bipush (v := (8 : Int32)) C dX6_layNeighbours_87 rfl (by decide) ?_
      refine p_irem C dX6_layNeighbours_89 rfl (by decide) ?_
      obtain ⟨r5, hc6, h⟩ := bd1_of h
      refine p_callVi_s (As := [.int (v3 / ((8 : Int32))), .int (v3 - v3 / ((8 : Int32)) * ((8 : Int32)))]) (st' := [.int r3]) (Wc' := (V_M x.1.2.2 am0 am1 am2 am3 am4 am5 am6 am7 am8 am9 am10 am11 am12 am13 am14 m_said m_tries m_state m_images m_isKept m_pad m_leftOf m_rightOf m_isApart m_group m_isPair m_isOne m_order m_rest m_aside m_others)) C (c_X6_farOf x.1 (am0 := am0) (am1 := am1) (am2 := am2) (am3 := am3) (am4 := am4) (am5 := am5) (am6 := am6) (am7 := am7) (am8 := am8) (am9 := am9) (am10 := am10) (am11 := am11) (am12 := am12) (am13 := am13) (am14 := am14) (m_said := m_said) (m_tries := m_tries) (m_images := m_images) (m_isKept := m_isKept) (m_pad := m_pad) (m_leftOf := m_leftOf) (m_rightOf := m_rightOf) (m_isApart := m_isApart) (m_group := m_group) (m_isPair := m_isPair) (m_isOne := m_isOne) (m_order := m_order) (m_rest := m_rest) (m_aside := m_aside) (m_others := m_others) hc6) dX6_layNeighbours_90 rfl ml_X6_68 kv_X6_farOf ds_X6_farOf ⟨rfl, rfl, by decide, by decide⟩ 0 rfl rfl rfl rfl (Nat.le_of_ble_eq_true rfl) ⟨by decide, by decide⟩ ?_
      refine p_icmp_ge C dX6_layNeighbours_93 (tgt := 105) (by decide) rfl (fun c7 => ?_) (fun c7 => ?_)
      · have h := if_t c7 h
        refine p_locals [1, 2, 3, 4, 5, 6] (lv' := [(0, .ref am0), (1, .int v1), (2, .int v2), (3, .int v3), (4, .int v4), (5, .int v5)]) rfl ?_
        exact tj_X6_layNeighbours_105 C (fun u0 u1 h => hk20 u0 u1 h) (fun u0 u1 h => hk6 u0 u1 h) h
      · have h := if_f c7 h
        refine p_locals [1, 2, 3, 5, 6] (lv' := [(0, .ref am0), (1, .int v1), (2, .int v2), (4, .int v4), (5, .int v5)]) rfl ?_
        exact tj_X6_layNeighbours_96 C (fun u0 u1 h => hk20 u0 u1 h) (fun u0 u1 h => hk6 u0 u1 h) h
def J_X6_layNeighbours_61 (m_tries : Int32) (m_state : Ar) (m_leftOf : Ar) (m_rightOf : Ar) (m_isApart : Ar) (k20 : Int32 → Int32 → Option (Int32 × Ar × Ar × Ar)) (k6 : Int32 → Int32 → Option (Int32 × Ar × Ar × Ar))  (v1 : Int32) (v2 : Int32) (v3 : Int32) (v4 : Int32) (v5 : Int32) : Option (Int32 × Ar × Ar × Ar) := J_X6_layNeighbours_62 m_tries m_state m_leftOf m_rightOf m_isApart (k20) (k6) ((0 : Int32)) v1 v2 v3 v4 v5
set_option maxHeartbeats 4000000 in
set_option maxRecDepth 100000 in
theorem tj_X6_layNeighbours_61 {x : Cxt} {am0 am1 am2 am3 am4 am5 am6 am7 am8 am9 am10 am11 am12 am13 am14 : Nat} {m_said : Int32} {m_tries : Int32} {m_state : Ar} {m_images : Ar} {m_isKept : Ar} {m_pad : Ar} {m_leftOf : Ar} {m_rightOf : Ar} {m_isApart : Ar} {m_group : Ar} {m_isPair : Ar} {m_isOne : Ar} {m_order : Ar} {m_rest : Ar} {m_aside : Ar} {m_others : Ar} {k20 : Int32 → Int32 → Option (Int32 × Ar × Ar × Ar)} {k6 : Int32 → Int32 → Option (Int32 × Ar × Ar × Ar)}  {v1 : Int32} {v2 : Int32} {v3 : Int32} {v4 : Int32} {v5 : Int32} {q_m_tries : Int32} {q_m_leftOf : Ar} {q_m_rightOf : Ar} {q_m_isApart : Ar} (C : CX RX6 cX6_layNeighbours 7 none x) (hk20 : ∀ (w3 : Int32) (w5 : Int32) , k20 w3 w5 = some (q_m_tries, q_m_leftOf, q_m_rightOf, q_m_isApart) → PT (RM 1 24) 7 x 20 [(0, .ref am0), (1, .int v1), (2, .int v2), (3, .int w3), (4, .int v4), (5, .int w5)] [] (V_M x.1.2.2 am0 am1 am2 am3 am4 am5 am6 am7 am8 am9 am10 am11 am12 am13 am14 m_said m_tries m_state m_images m_isKept m_pad m_leftOf m_rightOf m_isApart m_group m_isPair m_isOne m_order m_rest m_aside m_others) 0 0 (QV x (V_M x.1.2.2 am0 am1 am2 am3 am4 am5 am6 am7 am8 am9 am10 am11 am12 am13 am14 m_said q_m_tries m_state m_images m_isKept m_pad q_m_leftOf q_m_rightOf q_m_isApart m_group m_isPair m_isOne m_order m_rest m_aside m_others))) (hk6 : ∀ (w3 : Int32) (w4 : Int32) , k6 w3 w4 = some (q_m_tries, q_m_leftOf, q_m_rightOf, q_m_isApart) → PT (RM 1 24) 7 x 6 [(0, .ref am0), (1, .int v1), (2, .int v2), (3, .int w3), (4, .int w4)] [] (V_M x.1.2.2 am0 am1 am2 am3 am4 am5 am6 am7 am8 am9 am10 am11 am12 am13 am14 m_said m_tries m_state m_images m_isKept m_pad m_leftOf m_rightOf m_isApart m_group m_isPair m_isOne m_order m_rest m_aside m_others) 0 0 (QV x (V_M x.1.2.2 am0 am1 am2 am3 am4 am5 am6 am7 am8 am9 am10 am11 am12 am13 am14 m_said q_m_tries m_state m_images m_isKept m_pad q_m_leftOf q_m_rightOf q_m_isApart m_group m_isPair m_isOne m_order m_rest m_aside m_others))) (h : J_X6_layNeighbours_61 m_tries m_state m_leftOf m_rightOf m_isApart k20 k6 v1 v2 v3 v4 v5 = some (q_m_tries, q_m_leftOf, q_m_rightOf, q_m_isApart)) : PT (RM 1 24) 7 x 61 [(0, .ref am0), (1, .int v1), (2, .int v2), (3, .int v3), (4, .int v4), (5, .int v5)] [] (V_M x.1.2.2 am0 am1 am2 am3 am4 am5 am6 am7 am8 am9 am10 am11 am12 am13 am14 m_said m_tries m_state m_images m_isKept m_pad m_leftOf m_rightOf m_isApart m_group m_isPair m_isOne m_order m_rest m_aside m_others) 0 0 (QV x (V_M x.1.2.2 am0 am1 am2 am3 am4 am5 am6 am7 am8 am9 am10 am11 am12 am13 am14 m_said q_m_tries m_state m_images m_isKept m_pad q_m_leftOf q_m_rightOf q_m_isApart m_group m_isPair m_isOne m_order m_rest m_aside m_others)) := by
  unfold J_X6_layNeighbours_61 at h
  refine p_iconst (v := (0 : Int32)) C dX6_layNeighbours_61 rfl (by decide) ?_
  refine p_locals [0, 1, 2, 3, 4, 5] (lv' := [(0, .ref am0), (1, .int v1), (2, .int v2), (3, .int v3), (4, .int v4), (5, .int v5)]) rfl ?_
  exact tj_X6_layNeighbours_62 C (fun u0 u1 h => hk20 u0 u1 h) (fun u0 u1 h => hk6 u0 u1 h) h
def B_X6_layNeighbours_20 (m_tries : Int32) (m_state : Ar) (m_leftOf : Ar) (m_rightOf : Ar) (m_isApart : Ar) (k6 : Int32 → Int32 → Option (Int32 × Ar × Ar × Ar)) (v1 : Int32) (v2 : Int32) (v4 : Int32) (kk : Int32 → Int32 → Option (Int32 × Ar × Ar × Ar)) (v3 : Int32) (v5 : Int32)  : Option (Int32 × Ar × Ar × Ar) := if (m_state 0) ≤ v5 then (k6 v3 (v4 + 1)) else (grd (gI (((1 : Int32)) + v4) 40) (if (m_state (((1 : Int32)) + v4).toNatClampNeg) = v1 then (grd (gI (((1 : Int32)) + v5) 40) (if (m_state (((1 : Int32)) + v5).toNatClampNeg) = v2 then (J_X6_layNeighbours_62 m_tries m_state m_leftOf m_rightOf m_isApart (kk) (k6) ((1 : Int32)) v1 v2 v3 v4 v5) else (J_X6_layNeighbours_61 m_tries m_state m_leftOf m_rightOf m_isApart (kk) (k6) v1 v2 v3 v4 v5))) else (J_X6_layNeighbours_61 m_tries m_state m_leftOf m_rightOf m_isApart (kk) (k6) v1 v2 v3 v4 v5)))
def L_X6_layNeighbours_20 (m_tries : Int32) (m_state : Ar) (m_leftOf : Ar) (m_rightOf : Ar) (m_isApart : Ar) (k6 : Int32 → Int32 → Option (Int32 × Ar × Ar × Ar)) (v1 : Int32) (v2 : Int32) (v4 : Int32) : Nat → Int32 → Int32 → Option (Int32 × Ar × Ar × Ar) := lpG (fun _ _ => none) (B_X6_layNeighbours_20 m_tries m_state m_leftOf m_rightOf m_isApart k6 v1 v2 v4)
set_option maxHeartbeats 4000000 in
set_option maxRecDepth 100000 in
theorem tl_X6_layNeighbours_20 {x : Cxt} {am0 am1 am2 am3 am4 am5 am6 am7 am8 am9 am10 am11 am12 am13 am14 : Nat} {m_said : Int32} {m_tries : Int32} {m_state : Ar} {m_images : Ar} {m_isKept : Ar} {m_pad : Ar} {m_leftOf : Ar} {m_rightOf : Ar} {m_isApart : Ar} {m_group : Ar} {m_isPair : Ar} {m_isOne : Ar} {m_order : Ar} {m_rest : Ar} {m_aside : Ar} {m_others : Ar} {k6 : Int32 → Int32 → Option (Int32 × Ar × Ar × Ar)} {v1 : Int32} {v2 : Int32} {v4 : Int32} {q_m_tries : Int32} {q_m_leftOf : Ar} {q_m_rightOf : Ar} {q_m_isApart : Ar} (C : CX RX6 cX6_layNeighbours 7 none x) (hk6 : ∀ (w3 : Int32) (w4 : Int32) , k6 w3 w4 = some (q_m_tries, q_m_leftOf, q_m_rightOf, q_m_isApart) → PT (RM 1 24) 7 x 6 [(0, .ref am0), (1, .int v1), (2, .int v2), (3, .int w3), (4, .int w4)] [] (V_M x.1.2.2 am0 am1 am2 am3 am4 am5 am6 am7 am8 am9 am10 am11 am12 am13 am14 m_said m_tries m_state m_images m_isKept m_pad m_leftOf m_rightOf m_isApart m_group m_isPair m_isOne m_order m_rest m_aside m_others) 0 0 (QV x (V_M x.1.2.2 am0 am1 am2 am3 am4 am5 am6 am7 am8 am9 am10 am11 am12 am13 am14 m_said q_m_tries m_state m_images m_isKept m_pad q_m_leftOf q_m_rightOf q_m_isApart m_group m_isPair m_isOne m_order m_rest m_aside m_others))) : ∀ (n : Nat) (v3 : Int32) (v5 : Int32) , L_X6_layNeighbours_20 m_tries m_state m_leftOf m_rightOf m_isApart k6 v1 v2 v4 n v3 v5 = some (q_m_tries, q_m_leftOf, q_m_rightOf, q_m_isApart) → PT (RM 1 24) 7 x 20 [(0, .ref am0), (1, .int v1), (2, .int v2), (3, .int v3), (4, .int v4), (5, .int v5)] [] (V_M x.1.2.2 am0 am1 am2 am3 am4 am5 am6 am7 am8 am9 am10 am11 am12 am13 am14 m_said m_tries m_state m_images m_isKept m_pad m_leftOf m_rightOf m_isApart m_group m_isPair m_isOne m_order m_rest m_aside m_others) 0 0 (QV x (V_M x.1.2.2 am0 am1 am2 am3 am4 am5 am6 am7 am8 am9 am10 am11 am12 am13 am14 m_said q_m_tries m_state m_images m_isKept m_pad q_m_leftOf q_m_rightOf q_m_isApart m_group m_isPair m_isOne m_order m_rest m_aside m_others)) := by
  intro n
  induction n with
  | zero =>
    intro v3 v5 h
    cases h
  | succ n ih =>
    intro v3 v5 h
    have h : B_X6_layNeighbours_20 m_tries m_state m_leftOf m_rightOf m_isApart k6 v1 v2 v4 (L_X6_layNeighbours_20 m_tries m_state m_leftOf m_rightOf m_isApart k6 v1 v2 v4 n) v3 v5 = some (q_m_tries, q_m_leftOf, q_m_rightOf, q_m_isApart) := h
    unfold B_X6_layNeighbours_20 at h
    refine p_iload C dX6_layNeighbours_20 rfl 5 rfl ?_
    refine p_aload_n C dX6_layNeighbours_22 rfl 0 rfl ?_
    refine p_get C dX6_layNeighbours_23 rfl 0 0 inlX6 fl_X6_7 rfl rfl (by decide) rfl rfl ?_
    refine p_iconst (v := (0 : Int32)) C dX6_layNeighbours_26 rfl (by decide) ?_
    refine p_ialdj (j := 0) C dX6_layNeighbours_27 rfl 1 rfl (by decide) (by decide) ?_
    refine p_icmp_ge C dX6_layNeighbours_28 (tgt := 111) (by decide) rfl (fun c2 => ?_) (fun c2 => ?_)
    · have h := if_t c2 h
      refine p_iinc (w := v4 + 1) (lv' := [(4, .int (v4 + 1)), (0, .ref am0), (1, .int v1), (2, .int v2), (3, .int v3), (5, .int v5)]) C dX6_layNeighbours_111 rfl 4 rfl rfl (by decide) rfl ?_
      refine p_goto C dX6_layNeighbours_114 (pc' := 6) (by decide) ?_
      refine p_locals [1, 2, 3, 4, 0] (lv' := [(0, .ref am0), (1, .int v1), (2, .int v2), (3, .int v3), (4, .int (v4 + 1))]) rfl ?_
      exact hk6 _ _ h
    · have h := if_f c2 h
      refine p_aload_n C dX6_layNeighbours_31 rfl 0 rfl ?_
      refine p_get C dX6_layNeighbours_32 rfl 0 0 inlX6 fl_X6_7 rfl rfl (by decide) rfl rfl ?_
      refine p_iconst (v := (1 : Int32)) C dX6_layNeighbours_35 rfl (by decide) ?_
      refine p_iload C dX6_layNeighbours_36 rfl 4 rfl ?_
      refine p_iadd C dX6_layNeighbours_38 rfl ?_
      obtain ⟨g3, h⟩ := grd_of h
      refine p_iald C dX6_layNeighbours_39 rfl 1 rfl g3 ?_
      refine p_iload_n C dX6_layNeighbours_40 rfl 1 rfl ?_
      refine p_icmp_ne C dX6_layNeighbours_41 (tgt := 61) (by decide) rfl (fun c4 => ?_) (fun c4 => ?_)
      · have h := if_f c4 h
        refine p_locals [0, 1, 2, 3, 4, 5] (lv' := [(0, .ref am0), (1, .int v1), (2, .int v2), (3, .int v3), (4, .int v4), (5, .int v5)]) rfl ?_
        exact tj_X6_layNeighbours_61 C (fun u0 u1 h => ih u0 u1 h) (fun u0 u1 h => hk6 u0 u1 h) h
      · have h := if_t c4 h
        refine p_aload_n C dX6_layNeighbours_44 rfl 0 rfl ?_
        refine p_get C dX6_layNeighbours_45 rfl 0 0 inlX6 fl_X6_7 rfl rfl (by decide) rfl rfl ?_
        refine p_iconst (v := (1 : Int32)) C dX6_layNeighbours_48 rfl (by decide) ?_
        refine p_iload C dX6_layNeighbours_49 rfl 5 rfl ?_
        refine p_iadd C dX6_layNeighbours_51 rfl ?_
        obtain ⟨g5, h⟩ := grd_of h
        refine p_iald C dX6_layNeighbours_52 rfl 1 rfl g5 ?_
        refine p_iload_n C dX6_layNeighbours_53 rfl 2 rfl ?_
        refine p_icmp_ne C dX6_layNeighbours_54 (tgt := 61) (by decide) rfl (fun c6 => ?_) (fun c6 => ?_)
        · have h := if_f c6 h
          refine p_locals [0, 1, 2, 3, 4, 5] (lv' := [(0, .ref am0), (1, .int v1), (2, .int v2), (3, .int v3), (4, .int v4), (5, .int v5)]) rfl ?_
          exact tj_X6_layNeighbours_61 C (fun u0 u1 h => ih u0 u1 h) (fun u0 u1 h => hk6 u0 u1 h) h
        · have h := if_t c6 h
          refine p_iconst (v := (1 : Int32)) C dX6_layNeighbours_57 rfl (by decide) ?_
          refine p_goto C dX6_layNeighbours_58 (pc' := 62) (by decide) ?_
          refine p_locals [0, 1, 2, 3, 4, 5] (lv' := [(0, .ref am0), (1, .int v1), (2, .int v2), (3, .int v3), (4, .int v4), (5, .int v5)]) rfl ?_
          exact tj_X6_layNeighbours_62 C (fun u0 u1 h => ih u0 u1 h) (fun u0 u1 h => hk6 u0 u1 h) h
def B_X6_layNeighbours_6 (m_tries : Int32) (m_state : Ar) (m_leftOf : Ar) (m_rightOf : Ar) (m_isApart : Ar)  (v1 : Int32) (v2 : Int32) (kk : Int32 → Int32 → Option (Int32 × Ar × Ar × Ar)) (v3 : Int32) (v4 : Int32)  : Option (Int32 × Ar × Ar × Ar) := if (m_state 0) ≤ v4 then (if v3 < 0 then (some (m_tries, m_leftOf, m_rightOf, m_isApart)) else (bd1 (m_X6_farOf m_state (v3 / ((8 : Int32))) (v3 - v3 / ((8 : Int32)) * ((8 : Int32)))) (fun r4 => if (m_state 33) < r4 then (some (m_tries, m_leftOf, m_rightOf, m_isApart)) else (bd4 (m_X6_addTry m_tries m_state m_leftOf m_rightOf m_isApart (v3 / ((8 : Int32))) (v3 - v3 / ((8 : Int32)) * ((8 : Int32))) ((1 : Int32))) (fun z_tries8 z_leftOf9 z_rightOf10 z_isApart11 => some (z_tries8, z_leftOf9, z_rightOf10, z_isApart11)))))) else (L_X6_layNeighbours_20 m_tries m_state m_leftOf m_rightOf m_isApart kk v1 v2 v4 FU v3 ((0 : Int32)))
def L_X6_layNeighbours_6 (m_tries : Int32) (m_state : Ar) (m_leftOf : Ar) (m_rightOf : Ar) (m_isApart : Ar)  (v1 : Int32) (v2 : Int32) : Nat → Int32 → Int32 → Option (Int32 × Ar × Ar × Ar) := lpG (fun _ _ => none) (B_X6_layNeighbours_6 m_tries m_state m_leftOf m_rightOf m_isApart v1 v2)
set_option maxHeartbeats 4000000 in
set_option maxRecDepth 100000 in
theorem tl_X6_layNeighbours_6 {x : Cxt} {am0 am1 am2 am3 am4 am5 am6 am7 am8 am9 am10 am11 am12 am13 am14 : Nat} {m_said : Int32} {m_tries : Int32} {m_state : Ar} {m_images : Ar} {m_isKept : Ar} {m_pad : Ar} {m_leftOf : Ar} {m_rightOf : Ar} {m_isApart : Ar} {m_group : Ar} {m_isPair : Ar} {m_isOne : Ar} {m_order : Ar} {m_rest : Ar} {m_aside : Ar} {m_others : Ar}  {v1 : Int32} {v2 : Int32} {q_m_tries : Int32} {q_m_leftOf : Ar} {q_m_rightOf : Ar} {q_m_isApart : Ar} (C : CX RX6 cX6_layNeighbours 7 none x)  : ∀ (n : Nat) (v3 : Int32) (v4 : Int32) , L_X6_layNeighbours_6 m_tries m_state m_leftOf m_rightOf m_isApart v1 v2 n v3 v4 = some (q_m_tries, q_m_leftOf, q_m_rightOf, q_m_isApart) → PT (RM 1 24) 7 x 6 [(0, .ref am0), (1, .int v1), (2, .int v2), (3, .int v3), (4, .int v4)] [] (V_M x.1.2.2 am0 am1 am2 am3 am4 am5 am6 am7 am8 am9 am10 am11 am12 am13 am14 m_said m_tries m_state m_images m_isKept m_pad m_leftOf m_rightOf m_isApart m_group m_isPair m_isOne m_order m_rest m_aside m_others) 0 0 (QV x (V_M x.1.2.2 am0 am1 am2 am3 am4 am5 am6 am7 am8 am9 am10 am11 am12 am13 am14 m_said q_m_tries m_state m_images m_isKept m_pad q_m_leftOf q_m_rightOf q_m_isApart m_group m_isPair m_isOne m_order m_rest m_aside m_others)) := by
  intro n
  induction n with
  | zero =>
    intro v3 v4 h
    cases h
  | succ n ih =>
    intro v3 v4 h
    have h : B_X6_layNeighbours_6 m_tries m_state m_leftOf m_rightOf m_isApart v1 v2 (L_X6_layNeighbours_6 m_tries m_state m_leftOf m_rightOf m_isApart v1 v2 n) v3 v4 = some (q_m_tries, q_m_leftOf, q_m_rightOf, q_m_isApart) := h
    unfold B_X6_layNeighbours_6 at h
    refine p_iload C dX6_layNeighbours_6 rfl 4 rfl ?_
    refine p_aload_n C dX6_layNeighbours_8 rfl 0 rfl ?_
    refine p_get C dX6_layNeighbours_9 rfl 0 0 inlX6 fl_X6_7 rfl rfl (by decide) rfl rfl ?_
    refine p_iconst (v := (0 : Int32)) C dX6_layNeighbours_12 rfl (by decide) ?_
    refine p_ialdj (j := 0) C dX6_layNeighbours_13 rfl 1 rfl (by decide) (by decide) ?_
    refine p_icmp_ge C dX6_layNeighbours_14 (tgt := 117) (by decide) rfl (fun c2 => ?_) (fun c2 => ?_)
    · have h := if_t c2 h
      refine p_iload_n C dX6_layNeighbours_117 rfl 3 rfl ?_
      refine p_if_lt C dX6_layNeighbours_118 (tgt := 156) (by decide) rfl (fun c3 => ?_) (fun c3 => ?_)
      · have h := if_t c3 h
        cases h
        exact p_vret C dX6_layNeighbours_156
      · have h := if_f c3 h
        refine p_aload_n C dX6_layNeighbours_121 rfl 0 rfl ?_
        refine p_iload_n C dX6_layNeighbours_122 rfl 3 rfl ?_
        refine p_bipush (v := (8 : Int32)) C dX6_layNeighbours_123 rfl (by decide) ?_
        refine p_idiv C dX6_layNeighbours_125 rfl (by decide) ?_
        refine p_iload_n C dX6_layNeighbours_126 rfl 3 rfl ?_
        refine p_bipush (v := (8 : Int32)) C dX6_layNeighbours_127 rfl (by decide) ?_
        refine p_irem C dX6_layNeighbours_129 rfl (by decide) ?_
        obtain ⟨r4, hc5, h⟩ := bd1_of h
        refine p_callVi_s (As := [.int (v3 / ((8 : Int32))), .int (v3 - v3 / ((8 : Int32)) * ((8 : Int32)))]) (st' := []) (Wc' := (V_M x.1.2.2 am0 am1 am2 am3 am4 am5 am6 am7 am8 am9 am10 am11 am12 am13 am14 m_said m_tries m_state m_images m_isKept m_pad m_leftOf m_rightOf m_isApart m_group m_isPair m_isOne m_order m_rest m_aside m_others)) C (c_X6_farOf x.1 (am0 := am0) (am1 := am1) (am2 := am2) (am3 := am3) (am4 := am4) (am5 := am5) (am6 := am6) (am7 := am7) (am8 := am8) (am9 := am9) (am10 := am10) (am11 := am11) (am12 := am12) (am13 := am13) (am14 := am14) (m_said := m_said) (m_tries := m_tries) (m_images := m_images) (m_isKept := m_isKept) (m_pad := m_pad) (m_leftOf := m_leftOf) (m_rightOf := m_rightOf) (m_isApart := m_isApart) (m_group := m_group) (m_isPair := m_isPair) (m_isOne := m_isOne) (m_order := m_order) (m_rest := m_rest) (m_aside := m_aside) (m_others := m_others) hc5) dX6_layNeighbours_130 rfl ml_X6_68 kv_X6_farOf ds_X6_farOf ⟨rfl, rfl, by decide, by decide⟩ 0 rfl rfl rfl rfl (by decide) ⟨by decide, by decide⟩ ?_
        refine p_aload_n C dX6_layNeighbours_133 rfl 0 rfl ?_
        refine p_get C dX6_layNeighbours_134 rfl 0 0 inlX6 fl_X6_7 rfl rfl (by decide) rfl rfl ?_
        refine p_bipush (v := (33 : Int32)) C dX6_layNeighbours_137 rfl (by decide) ?_
        refine p_ialdj (j := 33) C dX6_layNeighbours_139 rfl 1 rfl (by decide) (by decide) ?_
        refine p_icmp_gt C dX6_layNeighbours_140 (tgt := 156) (by decide) rfl (fun c7 => ?_) (fun c7 => ?_)
        · have h := if_t c7 h
          cases h
          exact p_vret C dX6_layNeighbours_156
        · have h := if_f c7 h
          refine p_aload_n C dX6_layNeighbours_143 rfl 0 rfl ?_
          refine p_iload_n C dX6_layNeighbours_144 rfl 3 rfl ?_
          refine p_bipush (v := (8 : Int32)) C dX6_layNeighbours_145 rfl (by decide) ?_
          refine p_idiv C dX6_layNeighbours_147 rfl (by decide) ?_
          refine p_iload_n C dX6_layNeighbours_148 rfl 3 rfl ?_
          refine p_bipush (v := (8 : Int32)) C dX6_layNeighbours_149 rfl (by decide) ?_
          refine p_irem C dX6_layNeighbours_151 rfl (by decide) ?_
          refine p_iconst (v := (1 : Int32)) C dX6_layNeighbours_152 rfl (by decide) ?_
          obtain ⟨z_tries8, z_leftOf9, z_rightOf10, z_isApart11, hc12, h⟩ := bd4_of h
          refine p_callVv_s (As := [.int (v3 / ((8 : Int32))), .int (v3 - v3 / ((8 : Int32)) * ((8 : Int32))), .int ((1 : Int32))]) (st' := []) (Wc' := (V_M x.1.2.2 am0 am1 am2 am3 am4 am5 am6 am7 am8 am9 am10 am11 am12 am13 am14 m_said z_tries8 m_state m_images m_isKept m_pad z_leftOf9 z_rightOf10 z_isApart11 m_group m_isPair m_isOne m_order m_rest m_aside m_others)) C (c_X6_addTry x.1 (am0 := am0) (am1 := am1) (am2 := am2) (am3 := am3) (am4 := am4) (am5 := am5) (am6 := am6) (am7 := am7) (am8 := am8) (am9 := am9) (am10 := am10) (am11 := am11) (am12 := am12) (am13 := am13) (am14 := am14) (m_said := m_said) (m_images := m_images) (m_isKept := m_isKept) (m_pad := m_pad) (m_group := m_group) (m_isPair := m_isPair) (m_isOne := m_isOne) (m_order := m_order) (m_rest := m_rest) (m_aside := m_aside) (m_others := m_others) hc12) dX6_layNeighbours_153 rfl ml_X6_87 kv_X6_addTry ds_X6_addTry ⟨rfl, rfl, by decide, by decide⟩ 0 rfl rfl rfl rfl (by decide) ⟨by decide, by decide⟩ ?_
          cases h
          exact p_vret C dX6_layNeighbours_156
    · have h := if_f c2 h
      refine p_iconst (v := (0 : Int32)) C dX6_layNeighbours_17 rfl (by decide) ?_
      refine p_istore (lv' := [(5, .int ((0 : Int32))), (0, .ref am0), (1, .int v1), (2, .int v2), (3, .int v3), (4, .int v4)]) C dX6_layNeighbours_18 rfl (by decide) rfl ?_
      refine p_locals [1, 2, 3, 4, 5, 0] (lv' := [(0, .ref am0), (1, .int v1), (2, .int v2), (3, .int v3), (4, .int v4), (5, .int ((0 : Int32)))]) rfl ?_
      exact tl_X6_layNeighbours_20 C (fun u0 u1 h => ih u0 u1 h) FU _ _ h
def m_X6_layNeighbours (m_tries : Int32) (m_state : Ar) (m_leftOf : Ar) (m_rightOf : Ar) (m_isApart : Ar) (p1 : Int32) (p2 : Int32) : Option (Int32 × Ar × Ar × Ar) := L_X6_layNeighbours_6 m_tries m_state m_leftOf m_rightOf m_isApart p1 p2 FU ((-6 : Int32)) ((0 : Int32))
theorem ds_X6_layNeighbours : (yX6_layNeighbours).cls ≠ "java/lang/invoke/MethodHandle" ∧ (yX6_layNeighbours).cls ≠ "java/lang/invoke/VarHandle" ∧ (parseMethodDescriptor (yX6_layNeighbours).desc).map (fun d => d.parameters.length) = some 2 := by decide +kernel
set_option maxHeartbeats 4000000 in
set_option maxRecDepth 100000 in
theorem c_X6_layNeighbours (E : En) {am0 am1 am2 am3 am4 am5 am6 am7 am8 am9 am10 am11 am12 am13 am14 : Nat} {m_said : Int32} {m_tries : Int32} {m_state : Ar} {m_images : Ar} {m_isKept : Ar} {m_pad : Ar} {m_leftOf : Ar} {m_rightOf : Ar} {m_isApart : Ar} {m_group : Ar} {m_isPair : Ar} {m_isOne : Ar} {m_order : Ar} {m_rest : Ar} {m_aside : Ar} {m_others : Ar} {p1 : Int32} {p2 : Int32} {q_m_tries : Int32} {q_m_leftOf : Ar} {q_m_rightOf : Ar} {q_m_isApart : Ar} (h : m_X6_layNeighbours m_tries m_state m_leftOf m_rightOf m_isApart p1 p2 = some (q_m_tries, q_m_leftOf, q_m_rightOf, q_m_isApart)) : Cv E yX6_layNeighbours (wU yX6_layNeighbours cX6_layNeighbours 7 none) (RM 1 24) [.ref am0, .int p1, .int p2] (V_M E.2.2 am0 am1 am2 am3 am4 am5 am6 am7 am8 am9 am10 am11 am12 am13 am14 m_said m_tries m_state m_images m_isKept m_pad m_leftOf m_rightOf m_isApart m_group m_isPair m_isOne m_order m_rest m_aside m_others) (V_M E.2.2 am0 am1 am2 am3 am4 am5 am6 am7 am8 am9 am10 am11 am12 am13 am14 m_said q_m_tries m_state m_images m_isKept m_pad q_m_leftOf q_m_rightOf q_m_isApart m_group m_isPair m_isOne m_order m_rest m_aside m_others) := by
  refine Cv.of (by decide) (Nat.le_of_ble_eq_true rfl) ?_
  intro x hE C
  subst hE
  have C : CX RX6 cX6_layNeighbours 7 none x := C
  refine p_locals [0, 1, 2] (lv' := [(0, .ref am0), (1, .int p1), (2, .int p2)]) rfl ?_
  unfold m_X6_layNeighbours at h
  refine p_bipush (v := (-6 : Int32)) C dX6_layNeighbours_0 rfl (by decide) ?_
  refine p_istore_n (lv' := [(3, .int ((-6 : Int32))), (0, .ref am0), (1, .int p1), (2, .int p2)]) C dX6_layNeighbours_2 rfl (by decide) rfl ?_
  refine p_iconst (v := (0 : Int32)) C dX6_layNeighbours_3 rfl (by decide) ?_
  refine p_istore (lv' := [(4, .int ((0 : Int32))), (3, .int ((-6 : Int32))), (0, .ref am0), (1, .int p1), (2, .int p2)]) C dX6_layNeighbours_4 rfl (by decide) rfl ?_
  refine p_locals [2, 3, 4, 1, 0] (lv' := [(0, .ref am0), (1, .int p1), (2, .int p2), (3, .int ((-6 : Int32))), (4, .int ((0 : Int32)))]) rfl ?_
  exact tl_X6_layNeighbours_6 C  FU _ _ h
