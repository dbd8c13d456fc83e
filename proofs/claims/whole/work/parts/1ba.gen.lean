def m_X6_say (m_said : Int32) (m_pad : Ar) (p1 : Int32) : Option (Int32 × Int32 × Ar) := bd1 (m_X6_in p1 ((33 : Int32)) ((126 : Int32))) (fun r1 => if r1 = 0 then (some ((-2 : Int32), m_said, m_pad)) else (if m_said = ((24 : Int32)) then (some ((-4 : Int32), m_said, m_pad)) else (grd (gI m_said 24) (some (m_said + ((1 : Int32)), m_said + ((1 : Int32)), upd m_pad m_said.toNatClampNeg p1)))))
theorem ds_X6_say : (yX6_say).cls ≠ "java/lang/invoke/MethodHandle" ∧ (yX6_say).cls ≠ "java/lang/invoke/VarHandle" ∧ (parseMethodDescriptor (yX6_say).desc).map (fun d => d.parameters.length) = some 1 := by decide +kernel
set_option maxHeartbeats 4000000 in
set_option maxRecDepth 100000 in
theorem c_X6_say (E : En) {am0 am1 am2 am3 am4 am5 am6 am7 am8 am9 am10 am11 am12 am13 am14 : Nat} {m_said : Int32} {m_tries : Int32} {m_state : Ar} {m_images : Ar} {m_isKept : Ar} {m_pad : Ar} {m_leftOf : Ar} {m_rightOf : Ar} {m_isApart : Ar} {m_group : Ar} {m_isPair : Ar} {m_isOne : Ar} {m_order : Ar} {m_rest : Ar} {m_aside : Ar} {m_others : Ar} {p1 : Int32} {rr : Int32} {q_m_said : Int32} {q_m_pad : Ar} (h : m_X6_say m_said m_pad p1 = some (rr, q_m_said, q_m_pad)) : Ci E yX6_say (wU yX6_say cX6_say 2 (some .int)) (RM 1 22) [.ref am0, .int p1] (V_M E.2.2 am0 am1 am2 am3 am4 am5 am6 am7 am8 am9 am10 am11 am12 am13 am14 m_said m_tries m_state m_images m_isKept m_pad m_leftOf m_rightOf m_isApart m_group m_isPair m_isOne m_order m_rest m_aside m_others) (V_M E.2.2 am0 am1 am2 am3 am4 am5 am6 am7 am8 am9 am10 am11 am12 am13 am14 q_m_said m_tries m_state m_images m_isKept q_m_pad m_leftOf m_rightOf m_isApart m_group m_isPair m_isOne m_order m_rest m_aside m_others) rr := by
  refine Ci.of (by decide) (Nat.le_of_ble_eq_true rfl) ?_
  intro x hE C
  subst hE
  have C : CX RX6 cX6_say 2 (some .int) x := C
  refine p_locals [0, 1] (lv' := [(0, .ref am0), (1, .int p1)]) rfl ?_
  unfold m_X6_say at h
  refine p_iload_n C dX6_say_0 rfl 1 rfl ?_
  refine p_bipush (v := (33 : Int32)) C dX6_say_1 rfl (by decide) ?_
  refine p_bipush (v := (126 : Int32)) C dX6_say_3 rfl (by decide) ?_
  obtain ⟨r1, hc2, h⟩ := bd1_of h
  refine p_callSi (As := [.int p1, .int ((33 : Int32)), .int ((126 : Int32))]) (st' := []) (Wd' := (V_M x.1.2.2 am0 am1 am2 am3 am4 am5 am6 am7 am8 am9 am10 am11 am12 am13 am14 m_said m_tries m_state m_images m_isKept m_pad m_leftOf m_rightOf m_isApart m_group m_isPair m_isOne m_order m_rest m_aside m_others)) C (c_X6_in x.1 hc2) dX6_say_5 rfl ml_X6_53 ks_X6_in ds_X6_in ⟨rfl, rfl, by decide, by decide⟩ [] rfl rfl rfl rfl (by decide) ⟨by decide, by decide⟩ rfl ?_
  refine p_if_ne C dX6_say_8 (tgt := 14) (by decide) rfl (fun c3 => ?_) (fun c3 => ?_)
  · have h := if_f c3 h
    refine p_aload_n C dX6_say_14 rfl 0 rfl ?_
    refine p_get C dX6_say_15 rfl 0 4 inlX6 fl_X6_126 rfl rfl (by decide) rfl rfl ?_
    refine p_bipush (v := (24 : Int32)) C dX6_say_18 rfl (by decide) ?_
    refine p_icmp_ne C dX6_say_20 (tgt := 26) (by decide) rfl (fun c4 => ?_) (fun c4 => ?_)
    · have h := if_f c4 h
      refine p_aload_n C dX6_say_26 rfl 0 rfl ?_
      refine p_get C dX6_say_27 rfl 0 3 inlX6 fl_X6_20 rfl rfl (by decide) rfl rfl ?_
      refine p_aload_n C dX6_say_30 rfl 0 rfl ?_
      refine p_get C dX6_say_31 rfl 0 4 inlX6 fl_X6_126 rfl rfl (by decide) rfl rfl ?_
      refine p_iload_n C dX6_say_34 rfl 1 rfl ?_
      obtain ⟨g5, h⟩ := grd_of h
      refine p_iast (Wd' := (V_M x.1.2.2 am0 am1 am2 am3 am4 am5 am6 am7 am8 am9 am10 am11 am12 am13 am14 m_said m_tries m_state m_images m_isKept (upd m_pad m_said.toNatClampNeg p1) m_leftOf m_rightOf m_isApart m_group m_isPair m_isOne m_order m_rest m_aside m_others)) C dX6_say_35 rfl 4 rfl g5 rfl ?_
      refine p_aload_n C dX6_say_36 rfl 0 rfl ?_
      refine p_dup C dX6_say_37 rfl rfl ?_
      refine p_get C dX6_say_38 rfl 0 4 inlX6 fl_X6_126 rfl rfl (by decide) rfl rfl ?_
      refine p_iconst (v := (1 : Int32)) C dX6_say_41 rfl (by decide) ?_
      refine p_iadd C dX6_say_42 rfl ?_
      refine p_put (Wd' := (V_M x.1.2.2 am0 am1 am2 am3 am4 am5 am6 am7 am8 am9 am10 am11 am12 am13 am14 (m_said + ((1 : Int32))) m_tries m_state m_images m_isKept (upd m_pad m_said.toNatClampNeg p1) m_leftOf m_rightOf m_isApart m_group m_isPair m_isOne m_order m_rest m_aside m_others)) (ty := .int) C dX6_say_43 rfl 0 4 inlX6 tyX6 tyX6_ok nmX6 fl_X6_126 rfl rfl (by decide) rfl rfl (by decide +kernel) rfl rfl (Nat.le_of_ble_eq_true rfl) rfl ?_
      refine p_aload_n C dX6_say_46 rfl 0 rfl ?_
      refine p_get C dX6_say_47 rfl 0 4 inlX6 fl_X6_126 rfl rfl (by decide) rfl rfl ?_
      cases h
      exact p_iret C dX6_say_50
    · have h := if_t c4 h
      refine p_bipush (v := (-4 : Int32)) C dX6_say_23 rfl (by decide) ?_
      cases h
      exact p_iret C dX6_say_25
  · have h := if_t c3 h
    refine p_bipush (v := (-2 : Int32)) C dX6_say_11 rfl (by decide) ?_
    cases h
    exact p_iret C dX6_say_13
def m_X6_sees (m_tries : Int32) (m_state : Ar) (m_leftOf : Ar) (m_rightOf : Ar) (m_isApart : Ar) (m_group : Ar) (m_isPair : Ar) (m_isOne : Ar)  : Option (Int32 × Int32 × Ar × Ar × Ar × Ar × Ar × Ar) := bd6 (m_X6_layTries m_tries m_state m_leftOf m_rightOf m_isApart m_group m_isPair) (fun z_tries1 z_leftOf2 z_rightOf3 z_isApart4 z_group5 z_isPair6 => bd2 (m_X6_seen z_tries1 m_state z_leftOf2 z_rightOf3 z_isApart4 m_isOne) (fun r8 z_isOne9 => some (r8, z_tries1, z_leftOf2, z_rightOf3, z_isApart4, z_group5, z_isPair6, z_isOne9)))
theorem ds_X6_sees : (yX6_sees).cls ≠ "java/lang/invoke/MethodHandle" ∧ (yX6_sees).cls ≠ "java/lang/invoke/VarHandle" ∧ (parseMethodDescriptor (yX6_sees).desc).map (fun d => d.parameters.length) = some 0 := by decide +kernel
set_option maxHeartbeats 4000000 in
set_option maxRecDepth 100000 in
theorem c_X6_sees (E : En) {am0 am1 am2 am3 am4 am5 am6 am7 am8 am9 am10 am11 am12 am13 am14 : Nat} {m_said : Int32} {m_tries : Int32} {m_state : Ar} {m_images : Ar} {m_isKept : Ar} {m_pad : Ar} {m_leftOf : Ar} {m_rightOf : Ar} {m_isApart : Ar} {m_group : Ar} {m_isPair : Ar} {m_isOne : Ar} {m_order : Ar} {m_rest : Ar} {m_aside : Ar} {m_others : Ar}  {rr : Int32} {q_m_tries : Int32} {q_m_leftOf : Ar} {q_m_rightOf : Ar} {q_m_isApart : Ar} {q_m_group : Ar} {q_m_isPair : Ar} {q_m_isOne : Ar} (h : m_X6_sees m_tries m_state m_leftOf m_rightOf m_isApart m_group m_isPair m_isOne = some (rr, q_m_tries, q_m_leftOf, q_m_rightOf, q_m_isApart, q_m_group, q_m_isPair, q_m_isOne)) : Ci E yX6_sees (wU yX6_sees cX6_sees 1 (some .int)) (RM 4 93) [.ref am0] (V_M E.2.2 am0 am1 am2 am3 am4 am5 am6 am7 am8 am9 am10 am11 am12 am13 am14 m_said m_tries m_state m_images m_isKept m_pad m_leftOf m_rightOf m_isApart m_group m_isPair m_isOne m_order m_rest m_aside m_others) (V_M E.2.2 am0 am1 am2 am3 am4 am5 am6 am7 am8 am9 am10 am11 am12 am13 am14 m_said q_m_tries m_state m_images m_isKept m_pad q_m_leftOf q_m_rightOf q_m_isApart q_m_group q_m_isPair q_m_isOne m_order m_rest m_aside m_others) rr := by
  refine Ci.of (by decide) (Nat.le_of_ble_eq_true rfl) ?_
  intro x hE C
  subst hE
  have C : CX RX6 cX6_sees 1 (some .int) x := C
  refine p_locals [0] (lv' := [(0, .ref am0)]) rfl ?_
  unfold m_X6_sees at h
  refine p_aload_n C dX6_sees_0 rfl 0 rfl ?_
  obtain ⟨z_tries1, z_leftOf2, z_rightOf3, z_isApart4, z_group5, z_isPair6, hc7, h⟩ := bd6_of h
  refine p_callVv_s (As := []) (st' := []) (Wc' := (V_M x.1.2.2 am0 am1 am2 am3 am4 am5 am6 am7 am8 am9 am10 am11 am12 am13 am14 m_said z_tries1 m_state m_images m_isKept m_pad z_leftOf2 z_rightOf3 z_isApart4 z_group5 z_isPair6 m_isOne m_order m_rest m_aside m_others)) C (c_X6_layTries x.1 (am0 := am0) (am1 := am1) (am2 := am2) (am3 := am3) (am4 := am4) (am5 := am5) (am6 := am6) (am7 := am7) (am8 := am8) (am9 := am9) (am10 := am10) (am11 := am11) (am12 := am12) (am13 := am13) (am14 := am14) (m_said := m_said) (m_images := m_images) (m_isKept := m_isKept) (m_pad := m_pad) (m_isOne := m_isOne) (m_order := m_order) (m_rest := m_rest) (m_aside := m_aside) (m_others := m_others) hc7) dX6_sees_1 rfl ml_X6_107 kv_X6_layTries ds_X6_layTries ⟨rfl, rfl, by decide, by decide⟩ 0 rfl rfl rfl rfl (by decide) ⟨by decide, by decide⟩ ?_
  refine p_aload_n C dX6_sees_4 rfl 0 rfl ?_
  obtain ⟨r8, z_isOne9, hc10, h⟩ := bd2_of h
  refine p_callVi_s (As := []) (st' := []) (Wc' := (V_M x.1.2.2 am0 am1 am2 am3 am4 am5 am6 am7 am8 am9 am10 am11 am12 am13 am14 m_said z_tries1 m_state m_images m_isKept m_pad z_leftOf2 z_rightOf3 z_isApart4 z_group5 z_isPair6 z_isOne9 m_order m_rest m_aside m_others)) C (c_X6_seen x.1 (am0 := am0) (am1 := am1) (am2 := am2) (am3 := am3) (am4 := am4) (am5 := am5) (am6 := am6) (am7 := am7) (am8 := am8) (am9 := am9) (am10 := am10) (am11 := am11) (am12 := am12) (am13 := am13) (am14 := am14) (m_said := m_said) (m_images := m_images) (m_isKept := m_isKept) (m_pad := m_pad) (m_group := z_group5) (m_isPair := z_isPair6) (m_order := m_order) (m_rest := m_rest) (m_aside := m_aside) (m_others := m_others) hc10) dX6_sees_5 rfl ml_X6_113 kv_X6_seen ds_X6_seen ⟨rfl, rfl, by decide, by decide⟩ 0 rfl rfl rfl rfl (by decide) ⟨by decide, by decide⟩ ?_
  cases h
  exact p_iret C dX6_sees_8
def J_X6_time_17 (m_tries : Int32) (m_state : Ar) (m_leftOf : Ar) (m_rightOf : Ar) (m_isApart : Ar) (m_group : Ar) (m_isPair : Ar)   (v1 : Int32) (v2 : Int32) : Option (Int32 × Int32 × Ar × Ar × Ar × Ar × Ar) := bd1 (m_X6_isTry m_tries v2) (fun r1 => if r1 = 0 then (some ((-1 : Int32), m_tries, m_leftOf, m_rightOf, m_isApart, m_group, m_isPair)) else (bd1 (m_X6_timeOf m_state m_leftOf m_rightOf v1 v2) (fun r4 => some (r4, m_tries, m_leftOf, m_rightOf, m_isApart, m_group, m_isPair))))
set_option maxHeartbeats 4000000 in
set_option maxRecDepth 100000 in
theorem tj_X6_time_17 {x : Cxt} {am0 am1 am2 am3 am4 am5 am6 am7 am8 am9 am10 am11 am12 am13 am14 : Nat} {m_said : Int32} {m_tries : Int32} {m_state : Ar} {m_images : Ar} {m_isKept : Ar} {m_pad : Ar} {m_leftOf : Ar} {m_rightOf : Ar} {m_isApart : Ar} {m_group : Ar} {m_isPair : Ar} {m_isOne : Ar} {m_order : Ar} {m_rest : Ar} {m_aside : Ar} {m_others : Ar}   {v1 : Int32} {v2 : Int32} {rr : Int32} {q_m_tries : Int32} {q_m_leftOf : Ar} {q_m_rightOf : Ar} {q_m_isApart : Ar} {q_m_group : Ar} {q_m_isPair : Ar} (C : CX RX6 cX6_time 3 (some .int) x)  (h : J_X6_time_17 m_tries m_state m_leftOf m_rightOf m_isApart m_group m_isPair v1 v2 = some (rr, q_m_tries, q_m_leftOf, q_m_rightOf, q_m_isApart, q_m_group, q_m_isPair)) : PT (RM 4 93) 3 x 17 [(0, .ref am0), (1, .int v1), (2, .int v2)] [] (V_M x.1.2.2 am0 am1 am2 am3 am4 am5 am6 am7 am8 am9 am10 am11 am12 am13 am14 m_said m_tries m_state m_images m_isKept m_pad m_leftOf m_rightOf m_isApart m_group m_isPair m_isOne m_order m_rest m_aside m_others) 0 0 (QI x rr (V_M x.1.2.2 am0 am1 am2 am3 am4 am5 am6 am7 am8 am9 am10 am11 am12 am13 am14 m_said q_m_tries m_state m_images m_isKept m_pad q_m_leftOf q_m_rightOf q_m_isApart q_m_group q_m_isPair m_isOne m_order m_rest m_aside m_others)) := by
  unfold J_X6_time_17 at h
  refine p_aload_n C dX6_time_17 rfl 0 rfl ?_
  refine p_iload_n C dX6_time_18 rfl 2 rfl ?_
  obtain ⟨r1, hc2, h⟩ := bd1_of h
  refine p_callVi_s (As := [.int v2]) (st' := []) (Wc' := (V_M x.1.2.2 am0 am1 am2 am3 am4 am5 am6 am7 am8 am9 am10 am11 am12 am13 am14 m_said m_tries m_state m_images m_isKept m_pad m_leftOf m_rightOf m_isApart m_group m_isPair m_isOne m_order m_rest m_aside m_others)) C (c_X6_isTry x.1 (am0 := am0) (am1 := am1) (am2 := am2) (am3 := am3) (am4 := am4) (am5 := am5) (am6 := am6) (am7 := am7) (am8 := am8) (am9 := am9) (am10 := am10) (am11 := am11) (am12 := am12) (am13 := am13) (am14 := am14) (m_said := m_said) (m_state := m_state) (m_images := m_images) (m_isKept := m_isKept) (m_pad := m_pad) (m_leftOf := m_leftOf) (m_rightOf := m_rightOf) (m_isApart := m_isApart) (m_group := m_group) (m_isPair := m_isPair) (m_isOne := m_isOne) (m_order := m_order) (m_rest := m_rest) (m_aside := m_aside) (m_others := m_others) hc2) dX6_time_19 rfl ml_X6_110 kv_X6_isTry ds_X6_isTry ⟨rfl, rfl, by decide, by decide⟩ 0 rfl rfl rfl rfl (by decide) ⟨by decide, by decide⟩ ?_
  refine p_if_ne C dX6_time_22 (tgt := 27) (by decide) rfl (fun c3 => ?_) (fun c3 => ?_)
  · have h := if_f c3 h
    refine p_aload_n C dX6_time_27 rfl 0 rfl ?_
    refine p_iload_n C dX6_time_28 rfl 1 rfl ?_
    refine p_iload_n C dX6_time_29 rfl 2 rfl ?_
    obtain ⟨r4, hc5, h⟩ := bd1_of h
    refine p_callVi_s (As := [.int v1, .int v2]) (st' := []) (Wc' := (V_M x.1.2.2 am0 am1 am2 am3 am4 am5 am6 am7 am8 am9 am10 am11 am12 am13 am14 m_said m_tries m_state m_images m_isKept m_pad m_leftOf m_rightOf m_isApart m_group m_isPair m_isOne m_order m_rest m_aside m_others)) C (c_X6_timeOf x.1 (am0 := am0) (am1 := am1) (am2 := am2) (am3 := am3) (am4 := am4) (am5 := am5) (am6 := am6) (am7 := am7) (am8 := am8) (am9 := am9) (am10 := am10) (am11 := am11) (am12 := am12) (am13 := am13) (am14 := am14) (m_said := m_said) (m_tries := m_tries) (m_images := m_images) (m_isKept := m_isKept) (m_pad := m_pad) (m_isApart := m_isApart) (m_group := m_group) (m_isPair := m_isPair) (m_isOne := m_isOne) (m_order := m_order) (m_rest := m_rest) (m_aside := m_aside) (m_others := m_others) hc5) dX6_time_30 rfl ml_X6_123 kv_X6_timeOf ds_X6_timeOf ⟨rfl, rfl, by decide, by decide⟩ 0 rfl rfl rfl rfl (by decide) ⟨by decide, by decide⟩ ?_
    cases h
    exact p_iret C dX6_time_33
  · have h := if_t c3 h
    refine p_iconst (v := (-1 : Int32)) C dX6_time_25 rfl (by decide) ?_
    cases h
    exact p_iret C dX6_time_26
def m_X6_time (m_tries : Int32) (m_state : Ar) (m_leftOf : Ar) (m_rightOf : Ar) (m_isApart : Ar) (m_group : Ar) (m_isPair : Ar) (p1 : Int32) (p2 : Int32) : Option (Int32 × Int32 × Ar × Ar × Ar × Ar × Ar) := bd6 (m_X6_layTries m_tries m_state m_leftOf m_rightOf m_isApart m_group m_isPair) (fun z_tries1 z_leftOf2 z_rightOf3 z_isApart4 z_group5 z_isPair6 => if p1 = ((-1 : Int32)) then (J_X6_time_17 z_tries1 m_state z_leftOf2 z_rightOf3 z_isApart4 z_group5 z_isPair6 p1 p2) else (bd1 (m_X6_isTry z_tries1 p1) (fun r9 => if r9 = 0 then (some ((-1 : Int32), z_tries1, z_leftOf2, z_rightOf3, z_isApart4, z_group5, z_isPair6)) else (J_X6_time_17 z_tries1 m_state z_leftOf2 z_rightOf3 z_isApart4 z_group5 z_isPair6 p1 p2))))
theorem ds_X6_time : (yX6_time).cls ≠ "java/lang/invoke/MethodHandle" ∧ (yX6_time).cls ≠ "java/lang/invoke/VarHandle" ∧ (parseMethodDescriptor (yX6_time).desc).map (fun d => d.parameters.length) = some 2 := by decide +kernel
set_option maxHeartbeats 4000000 in
set_option maxRecDepth 100000 in
theorem c_X6_time (E : En) {am0 am1 am2 am3 am4 am5 am6 am7 am8 am9 am10 am11 am12 am13 am14 : Nat} {m_said : Int32} {m_tries : Int32} {m_state : Ar} {m_images : Ar} {m_isKept : Ar} {m_pad : Ar} {m_leftOf : Ar} {m_rightOf : Ar} {m_isApart : Ar} {m_group : Ar} {m_isPair : Ar} {m_isOne : Ar} {m_order : Ar} {m_rest : Ar} {m_aside : Ar} {m_others : Ar} {p1 : Int32} {p2 : Int32} {rr : Int32} {q_m_tries : Int32} {q_m_leftOf : Ar} {q_m_rightOf : Ar} {q_m_isApart : Ar} {q_m_group : Ar} {q_m_isPair : Ar} (h : m_X6_time m_tries m_state m_leftOf m_rightOf m_isApart m_group m_isPair p1 p2 = some (rr, q_m_tries, q_m_leftOf, q_m_rightOf, q_m_isApart, q_m_group, q_m_isPair)) : Ci E yX6_time (wU yX6_time cX6_time 3 (some .int)) (RM 4 93) [.ref am0, .int p1, .int p2] (V_M E.2.2 am0 am1 am2 am3 am4 am5 am6 am7 am8 am9 am10 am11 am12 am13 am14 m_said m_tries m_state m_images m_isKept m_pad m_leftOf m_rightOf m_isApart m_group m_isPair m_isOne m_order m_rest m_aside m_others) (V_M E.2.2 am0 am1 am2 am3 am4 am5 am6 am7 am8 am9 am10 am11 am12 am13 am14 m_said q_m_tries m_state m_images m_isKept m_pad q_m_leftOf q_m_rightOf q_m_isApart q_m_group q_m_isPair m_isOne m_order m_rest m_aside m_others) rr := by
  refine Ci.of (by decide) (Nat.le_of_ble_eq_true rfl) ?_
  intro x hE C
  subst hE
  have C : CX RX6 cX6_time 3 (some .int) x := C
  refine p_locals [0, 1, 2] (lv' := [(0, .ref am0), (1, .int p1), (2, .int p2)]) rfl ?_
  unfold m_X6_time at h
  refine p_aload_n C dX6_time_0 rfl 0 rfl ?_
  obtain ⟨z_tries1, z_leftOf2, z_rightOf3, z_isApart4, z_group5, z_isPair6, hc7, h⟩ := bd6_of h
  refine p_callVv_s (As := []) (st' := []) (Wc' := (V_M x.1.2.2 am0 am1 am2 am3 am4 am5 am6 am7 am8 am9 am10 am11 am12 am13 am14 m_said z_tries1 m_state m_images m_isKept m_pad z_leftOf2 z_rightOf3 z_isApart4 z_group5 z_isPair6 m_isOne m_order m_rest m_aside m_others)) C (c_X6_layTries x.1 (am0 := am0) (am1 := am1) (am2 := am2) (am3 := am3) (am4 := am4) (am5 := am5) (am6 := am6) (am7 := am7) (am8 := am8) (am9 := am9) (am10 := am10) (am11 := am11) (am12 := am12) (am13 := am13) (am14 := am14) (m_said := m_said) (m_images := m_images) (m_isKept := m_isKept) (m_pad := m_pad) (m_isOne := m_isOne) (m_order := m_order) (m_rest := m_rest) (m_aside := m_aside) (m_others := m_others) hc7) dX6_time_1 rfl ml_X6_107 kv_X6_layTries ds_X6_layTries ⟨rfl, rfl, by decide, by decide⟩ 0 rfl rfl rfl rfl (by decide) ⟨by decide, by decide⟩ ?_
  refine p_iload_n C dX6_time_4 rfl 1 rfl ?_
  refine p_iconst (v := (-1 : Int32)) C dX6_time_5 rfl (by decide) ?_
  refine p_icmp_eq C dX6_time_6 (tgt := 17) (by decide) rfl (fun c8 => ?_) (fun c8 => ?_)
  · have h := if_t c8 h
    refine p_locals [0, 1, 2] (lv' := [(0, .ref am0), (1, .int p1), (2, .int p2)]) rfl ?_
    exact tj_X6_time_17 C  h
  · have h := if_f c8 h
    refine p_aload_n C dX6_time_9 rfl 0 rfl ?_
    refine p_iload_n C dX6_time_10 rfl 1 rfl ?_
    obtain ⟨r9, hc10, h⟩ := bd1_of h
    refine p_callVi_s (As := [.int p1]) (st' := []) (Wc' := (V_M x.1.2.2 am0 am1 am2 am3 am4 am5 am6 am7 am8 am9 am10 am11 am12 am13 am14 m_said z_tries1 m_state m_images m_isKept m_pad z_leftOf2 z_rightOf3 z_isApart4 z_group5 z_isPair6 m_isOne m_order m_rest m_aside m_others)) C (c_X6_isTry x.1 (am0 := am0) (am1 := am1) (am2 := am2) (am3 := am3) (am4 := am4) (am5 := am5) (am6 := am6) (am7 := am7) (am8 := am8) (am9 := am9) (am10 := am10) (am11 := am11) (am12 := am12) (am13 := am13) (am14 := am14) (m_said := m_said) (m_state := m_state) (m_images := m_images) (m_isKept := m_isKept) (m_pad := m_pad) (m_leftOf := z_leftOf2) (m_rightOf := z_rightOf3) (m_isApart := z_isApart4) (m_group := z_group5) (m_isPair := z_isPair6) (m_isOne := m_isOne) (m_order := m_order) (m_rest := m_rest) (m_aside := m_aside) (m_others := m_others) hc10) dX6_time_11 rfl ml_X6_110 kv_X6_isTry ds_X6_isTry ⟨rfl, rfl, by decide, by decide⟩ 0 rfl rfl rfl rfl (by decide) ⟨by decide, by decide⟩ ?_
    refine p_if_eq C dX6_time_14 (tgt := 25) (by decide) rfl (fun c11 => ?_) (fun c11 => ?_)
    · have h := if_t c11 h
      refine p_iconst (v := (-1 : Int32)) C dX6_time_25 rfl (by decide) ?_
      cases h
      exact p_iret C dX6_time_26
    · have h := if_f c11 h
      refine p_locals [0, 1, 2] (lv' := [(0, .ref am0), (1, .int p1), (2, .int p2)]) rfl ?_
      exact tj_X6_time_17 C  h
def B_X6_told_22 (m_said : Int32) (m_tries : Int32) (m_state : Ar) (m_pad : Ar) (m_leftOf : Ar) (m_rightOf : Ar) (m_isApart : Ar) (m_group : Ar) (m_isPair : Ar)   (kk : Int32 → Int32 → Ar → Option (Int32 × Int32 × Ar × Ar × Ar × Ar × Ar × Ar)) (v1 : Int32) (v2 : Int32) (m_order : Ar) : Option (Int32 × Int32 × Ar × Ar × Ar × Ar × Ar × Ar) := if m_said ≤ v2 then (bd1 (m_X6_timeOfOrder m_tries m_state m_leftOf m_rightOf m_order) (fun r2 => some (r2, m_tries, m_leftOf, m_rightOf, m_isApart, m_group, m_isPair, m_order))) else (grd (gI v2 24) (grd (gI v2 16) (grd (gI v2 16) (bd1 (m_X6_isTry m_tries ((upd m_order v2.toNatClampNeg ((m_pad v2.toNatClampNeg) - ((97 : Int32)))) v2.toNatClampNeg)) (fun r7 => if r7 = 0 then (some ((-7 : Int32), m_tries, m_leftOf, m_rightOf, m_isApart, m_group, m_isPair, upd m_order v2.toNatClampNeg ((m_pad v2.toNatClampNeg) - ((97 : Int32))))) else (grd (gI v2 16) (if ((v1 >>> (((upd m_order v2.toNatClampNeg ((m_pad v2.toNatClampNeg) - ((97 : Int32)))) v2.toNatClampNeg) &&& 31)) &&& ((1 : Int32))) = ((1 : Int32)) then (some ((-7 : Int32), m_tries, m_leftOf, m_rightOf, m_isApart, m_group, m_isPair, upd m_order v2.toNatClampNeg ((m_pad v2.toNatClampNeg) - ((97 : Int32))))) else (grd (gI v2 16) (bd1 (some (v1 ||| (((1 : Int32)) <<< (((upd m_order v2.toNatClampNeg ((m_pad v2.toNatClampNeg) - ((97 : Int32)))) v2.toNatClampNeg) &&& 31)))) (fun x13 => kk x13 (v2 + 1) (upd m_order v2.toNatClampNeg ((m_pad v2.toNatClampNeg) - ((97 : Int32))))))))))))))
def L_X6_told_22 (m_said : Int32) (m_tries : Int32) (m_state : Ar) (m_pad : Ar) (m_leftOf : Ar) (m_rightOf : Ar) (m_isApart : Ar) (m_group : Ar) (m_isPair : Ar)   : Nat → Int32 → Int32 → Ar → Option (Int32 × Int32 × Ar × Ar × Ar × Ar × Ar × Ar) := lpG (fun _ _ _ => none) (B_X6_told_22 m_said m_tries m_state m_pad m_leftOf m_rightOf m_isApart m_group m_isPair)
set_option maxHeartbeats 4000000 in
set_option maxRecDepth 100000 in
theorem tl_X6_told_22 {x : Cxt} {am0 am1 am2 am3 am4 am5 am6 am7 am8 am9 am10 am11 am12 am13 am14 : Nat} {m_said : Int32} {m_tries : Int32} {m_state : Ar} {m_images : Ar} {m_isKept : Ar} {m_pad : Ar} {m_leftOf : Ar} {m_rightOf : Ar} {m_isApart : Ar} {m_group : Ar} {m_isPair : Ar} {m_isOne : Ar} {m_rest : Ar} {m_aside : Ar} {m_others : Ar}   {rr : Int32} {q_m_tries : Int32} {q_m_leftOf : Ar} {q_m_rightOf : Ar} {q_m_isApart : Ar} {q_m_group : Ar} {q_m_isPair : Ar} {q_m_order : Ar} (C : CX RX6 cX6_told 3 (some .int) x)  : ∀ (n : Nat) (v1 : Int32) (v2 : Int32) (m_order : Ar), L_X6_told_22 m_said m_tries m_state m_pad m_leftOf m_rightOf m_isApart m_group m_isPair n v1 v2 m_order = some (rr, q_m_tries, q_m_leftOf, q_m_rightOf, q_m_isApart, q_m_group, q_m_isPair, q_m_order) → PT (RM 4 93) 3 x 22 [(0, .ref am0), (1, .int v1), (2, .int v2)] [] (V_M x.1.2.2 am0 am1 am2 am3 am4 am5 am6 am7 am8 am9 am10 am11 am12 am13 am14 m_said m_tries m_state m_images m_isKept m_pad m_leftOf m_rightOf m_isApart m_group m_isPair m_isOne m_order m_rest m_aside m_others) 0 0 (QI x rr (V_M x.1.2.2 am0 am1 am2 am3 am4 am5 am6 am7 am8 am9 am10 am11 am12 am13 am14 m_said q_m_tries m_state m_images m_isKept m_pad q_m_leftOf q_m_rightOf q_m_isApart q_m_group q_m_isPair m_isOne q_m_order m_rest m_aside m_others)) := by
  intro n
  induction n with
  | zero =>
    intro v1 v2 m_order h
    cases h
  | succ n ih =>
    intro v1 v2 m_order h
    have h : B_X6_told_22 m_said m_tries m_state m_pad m_leftOf m_rightOf m_isApart m_group m_isPair (L_X6_told_22 m_said m_tries m_state m_pad m_leftOf m_rightOf m_isApart m_group m_isPair n) v1 v2 m_order = some (rr, q_m_tries, q_m_leftOf, q_m_rightOf, q_m_isApart, q_m_group, q_m_isPair, q_m_order) := h
    unfold B_X6_told_22 at h
    refine p_iload_n C dX6_told_22 rfl 2 rfl ?_
    refine p_aload_n C dX6_told_23 rfl 0 rfl ?_
    refine p_get C dX6_told_24 rfl 0 4 inlX6 fl_X6_126 rfl rfl (by decide) rfl rfl ?_
    refine p_icmp_ge C dX6_told_27 (tgt := 92) (by decide) rfl (fun c1 => ?_) (fun c1 => ?_)
    · have h := if_t c1 h
      refine p_aload_n C dX6_told_92 rfl 0 rfl ?_
      obtain ⟨r2, hc3, h⟩ := bd1_of h
      refine p_callVi_s (As := []) (st' := []) (Wc' := (V_M x.1.2.2 am0 am1 am2 am3 am4 am5 am6 am7 am8 am9 am10 am11 am12 am13 am14 m_said m_tries m_state m_images m_isKept m_pad m_leftOf m_rightOf m_isApart m_group m_isPair m_isOne m_order m_rest m_aside m_others)) C (c_X6_timeOfOrder x.1 (am0 := am0) (am1 := am1) (am2 := am2) (am3 := am3) (am4 := am4) (am5 := am5) (am6 := am6) (am7 := am7) (am8 := am8) (am9 := am9) (am10 := am10) (am11 := am11) (am12 := am12) (am13 := am13) (am14 := am14) (m_said := m_said) (m_images := m_images) (m_isKept := m_isKept) (m_pad := m_pad) (m_isApart := m_isApart) (m_group := m_group) (m_isPair := m_isPair) (m_isOne := m_isOne) (m_rest := m_rest) (m_aside := m_aside) (m_others := m_others) hc3) dX6_told_93 rfl ml_X6_129 kv_X6_timeOfOrder ds_X6_timeOfOrder ⟨rfl, rfl, by decide, by decide⟩ 0 rfl rfl rfl rfl (by decide) ⟨by decide, by decide⟩ ?_
      cases h
      exact p_iret C dX6_told_96
    · have h := if_f c1 h
      refine p_aload_n C dX6_told_30 rfl 0 rfl ?_
      refine p_get C dX6_told_31 rfl 0 12 inlX6 fl_X6_41 rfl rfl (by decide) rfl rfl ?_
      refine p_iload_n C dX6_told_34 rfl 2 rfl ?_
      refine p_aload_n C dX6_told_35 rfl 0 rfl ?_
      refine p_get C dX6_told_36 rfl 0 3 inlX6 fl_X6_20 rfl rfl (by decide) rfl rfl ?_
      refine p_iload_n C dX6_told_39 rfl 2 rfl ?_
      obtain ⟨g4, h⟩ := grd_of h
      refine p_iald C dX6_told_40 rfl 4 rfl g4 ?_
      refine p_bipush (v := (97 : Int32)) C dX6_told_41 rfl (by decide) ?_
      refine p_isub C dX6_told_43 rfl ?_
      obtain ⟨g5, h⟩ := grd_of h
      refine p_iast (Wd' := (V_M x.1.2.2 am0 am1 am2 am3 am4 am5 am6 am7 am8 am9 am10 am11 am12 am13 am14 m_said m_tries m_state m_images m_isKept m_pad m_leftOf m_rightOf m_isApart m_group m_isPair m_isOne (upd m_order v2.toNatClampNeg ((m_pad v2.toNatClampNeg) - ((97 : Int32)))) m_rest m_aside m_others)) C dX6_told_44 rfl 11 rfl g5 rfl ?_
      refine p_aload_n C dX6_told_45 rfl 0 rfl ?_
      refine p_aload_n C dX6_told_46 rfl 0 rfl ?_
      refine p_get C dX6_told_47 rfl 0 12 inlX6 fl_X6_41 rfl rfl (by decide) rfl rfl ?_
      refine p_iload_n C dX6_told_50 rfl 2 rfl ?_
      obtain ⟨g6, h⟩ := grd_of h
      refine p_iald C dX6_told_51 rfl 11 rfl g6 ?_
      obtain ⟨r7, hc8, h⟩ := bd1_of h
      refine p_callVi_s (As := [.int ((upd m_order v2.toNatClampNeg ((m_pad v2.toNatClampNeg) - ((97 : Int32)))) v2.toNatClampNeg)]) (st' := []) (Wc' := (V_M x.1.2.2 am0 am1 am2 am3 am4 am5 am6 am7 am8 am9 am10 am11 am12 am13 am14 m_said m_tries m_state m_images m_isKept m_pad m_leftOf m_rightOf m_isApart m_group m_isPair m_isOne (upd m_order v2.toNatClampNeg ((m_pad v2.toNatClampNeg) - ((97 : Int32)))) m_rest m_aside m_others)) C (c_X6_isTry x.1 (am0 := am0) (am1 := am1) (am2 := am2) (am3 := am3) (am4 := am4) (am5 := am5) (am6 := am6) (am7 := am7) (am8 := am8) (am9 := am9) (am10 := am10) (am11 := am11) (am12 := am12) (am13 := am13) (am14 := am14) (m_said := m_said) (m_state := m_state) (m_images := m_images) (m_isKept := m_isKept) (m_pad := m_pad) (m_leftOf := m_leftOf) (m_rightOf := m_rightOf) (m_isApart := m_isApart) (m_group := m_group) (m_isPair := m_isPair) (m_isOne := m_isOne) (m_order := upd m_order v2.toNatClampNeg ((m_pad v2.toNatClampNeg) - ((97 : Int32)))) (m_rest := m_rest) (m_aside := m_aside) (m_others := m_others) hc8) dX6_told_52 rfl ml_X6_110 kv_X6_isTry ds_X6_isTry ⟨rfl, rfl, by decide, by decide⟩ 0 rfl rfl rfl rfl (by decide) ⟨by decide, by decide⟩ ?_
      refine p_if_eq C dX6_told_55 (tgt := 72) (by decide) rfl (fun c9 => ?_) (fun c9 => ?_)
      · have h := if_t c9 h
        refine p_bipush (v := (-7 : Int32)) C dX6_told_72 rfl (by decide) ?_
        cases h
        exact p_iret C dX6_told_74
      · have h := if_f c9 h
        refine p_iload_n C dX6_told_58 rfl 1 rfl ?_
        refine p_aload_n C dX6_told_59 rfl 0 rfl ?_
        refine p_get C dX6_told_60 rfl 0 12 inlX6 fl_X6_41 rfl rfl (by decide) rfl rfl ?_
        refine p_iload_n C dX6_told_63 rfl 2 rfl ?_
        obtain ⟨g10, h⟩ := grd_of h
        refine p_iald C dX6_told_64 rfl 11 rfl g10 ?_
        refine p_ishr C dX6_told_65 rfl ?_
        refine p_iconst (v := (1 : Int32)) C dX6_told_66 rfl (by decide) ?_
        refine p_iand C dX6_told_67 rfl ?_
        refine p_iconst (v := (1 : Int32)) C dX6_told_68 rfl (by decide) ?_
        refine p_icmp_ne C dX6_told_69 (tgt := 75) (by decide) rfl (fun c11 => ?_) (fun c11 => ?_)
        · have h := if_f c11 h
          refine p_iload_n C dX6_told_75 rfl 1 rfl ?_
          refine p_iconst (v := (1 : Int32)) C dX6_told_76 rfl (by decide) ?_
          refine p_aload_n C dX6_told_77 rfl 0 rfl ?_
          refine p_get C dX6_told_78 rfl 0 12 inlX6 fl_X6_41 rfl rfl (by decide) rfl rfl ?_
          refine p_iload_n C dX6_told_81 rfl 2 rfl ?_
          obtain ⟨g12, h⟩ := grd_of h
          refine p_iald C dX6_told_82 rfl 11 rfl g12 ?_
          refine p_ishl C dX6_told_83 rfl ?_
          refine p_ior C dX6_told_84 rfl ?_
          obtain ⟨x13, hx14, h⟩ := bd1_of h
          have hx14 := Option.some.inj hx14
          rw [hx14]
          refine p_istore_n (lv' := [(1, .int x13), (0, .ref am0), (2, .int v2)]) C dX6_told_85 rfl (by decide) rfl ?_
          refine p_iinc (w := v2 + 1) (lv' := [(2, .int (v2 + 1)), (1, .int x13), (0, .ref am0)]) C dX6_told_86 rfl 2 rfl rfl (by decide) rfl ?_
          refine p_goto C dX6_told_89 (pc' := 22) (by decide) ?_
          refine p_locals [2, 1, 0] (lv' := [(0, .ref am0), (1, .int x13), (2, .int (v2 + 1))]) rfl ?_
          exact ih _ _ _ h
        · have h := if_t c11 h
          refine p_bipush (v := (-7 : Int32)) C dX6_told_72 rfl (by decide) ?_
          cases h
          exact p_iret C dX6_told_74
def m_X6_told (m_said : Int32) (m_tries : Int32) (m_state : Ar) (m_pad : Ar) (m_leftOf : Ar) (m_rightOf : Ar) (m_isApart : Ar) (m_group : Ar) (m_isPair : Ar) (m_order : Ar)  : Option (Int32 × Int32 × Ar × Ar × Ar × Ar × Ar × Ar) := bd6 (m_X6_layTries m_tries m_state m_leftOf m_rightOf m_isApart m_group m_isPair) (fun z_tries1 z_leftOf2 z_rightOf3 z_isApart4 z_group5 z_isPair6 => if m_said = z_tries1 then (L_X6_told_22 m_said z_tries1 m_state m_pad z_leftOf2 z_rightOf3 z_isApart4 z_group5 z_isPair6 FU ((0 : Int32)) ((0 : Int32)) m_order) else (some ((-7 : Int32), z_tries1, z_leftOf2, z_rightOf3, z_isApart4, z_group5, z_isPair6, m_order)))
theorem ds_X6_told : (yX6_told).cls ≠ "java/lang/invoke/MethodHandle" ∧ (yX6_told).cls ≠ "java/lang/invoke/VarHandle" ∧ (parseMethodDescriptor (yX6_told).desc).map (fun d => d.parameters.length) = some 0 := by decide +kernel
set_option maxHeartbeats 4000000 in
set_option maxRecDepth 100000 in
theorem c_X6_told (E : En) {am0 am1 am2 am3 am4 am5 am6 am7 am8 am9 am10 am11 am12 am13 am14 : Nat} {m_said : Int32} {m_tries : Int32} {m_state : Ar} {m_images : Ar} {m_isKept : Ar} {m_pad : Ar} {m_leftOf : Ar} {m_rightOf : Ar} {m_isApart : Ar} {m_group : Ar} {m_isPair : Ar} {m_isOne : Ar} {m_order : Ar} {m_rest : Ar} {m_aside : Ar} {m_others : Ar}  {rr : Int32} {q_m_tries : Int32} {q_m_leftOf : Ar} {q_m_rightOf : Ar} {q_m_isApart : Ar} {q_m_group : Ar} {q_m_isPair : Ar} {q_m_order : Ar} (h : m_X6_told m_said m_tries m_state m_pad m_leftOf m_rightOf m_isApart m_group m_isPair m_order = some (rr, q_m_tries, q_m_leftOf, q_m_rightOf, q_m_isApart, q_m_group, q_m_isPair, q_m_order)) : Ci E yX6_told (wU yX6_told cX6_told 3 (some .int)) (RM 4 93) [.ref am0] (V_M E.2.2 am0 am1 am2 am3 am4 am5 am6 am7 am8 am9 am10 am11 am12 am13 am14 m_said m_tries m_state m_images m_isKept m_pad m_leftOf m_rightOf m_isApart m_group m_isPair m_isOne m_order m_rest m_aside m_others) (V_M E.2.2 am0 am1 am2 am3 am4 am5 am6 am7 am8 am9 am10 am11 am12 am13 am14 m_said q_m_tries m_state m_images m_isKept m_pad q_m_leftOf q_m_rightOf q_m_isApart q_m_group q_m_isPair m_isOne q_m_order m_rest m_aside m_others) rr := by
  refine Ci.of (by decide) (Nat.le_of_ble_eq_true rfl) ?_
  intro x hE C
  subst hE
  have C : CX RX6 cX6_told 3 (some .int) x := C
  refine p_locals [0] (lv' := [(0, .ref am0)]) rfl ?_
  unfold m_X6_told at h
  refine p_aload_n C dX6_told_0 rfl 0 rfl ?_
  obtain ⟨z_tries1, z_leftOf2, z_rightOf3, z_isApart4, z_group5, z_isPair6, hc7, h⟩ := bd6_of h
  refine p_callVv_s (As := []) (st' := []) (Wc' := (V_M x.1.2.2 am0 am1 am2 am3 am4 am5 am6 am7 am8 am9 am10 am11 am12 am13 am14 m_said z_tries1 m_state m_images m_isKept m_pad z_leftOf2 z_rightOf3 z_isApart4 z_group5 z_isPair6 m_isOne m_order m_rest m_aside m_others)) C (c_X6_layTries x.1 (am0 := am0) (am1 := am1) (am2 := am2) (am3 := am3) (am4 := am4) (am5 := am5) (am6 := am6) (am7 := am7) (am8 := am8) (am9 := am9) (am10 := am10) (am11 := am11) (am12 := am12) (am13 := am13) (am14 := am14) (m_said := m_said) (m_images := m_images) (m_isKept := m_isKept) (m_pad := m_pad) (m_isOne := m_isOne) (m_order := m_order) (m_rest := m_rest) (m_aside := m_aside) (m_others := m_others) hc7) dX6_told_1 rfl ml_X6_107 kv_X6_layTries ds_X6_layTries ⟨rfl, rfl, by decide, by decide⟩ 0 rfl rfl rfl rfl (by decide) ⟨by decide, by decide⟩ ?_
  refine p_aload_n C dX6_told_4 rfl 0 rfl ?_
  refine p_get C dX6_told_5 rfl 0 4 inlX6 fl_X6_126 rfl rfl (by decide) rfl rfl ?_
  refine p_aload_n C dX6_told_8 rfl 0 rfl ?_
  refine p_get C dX6_told_9 rfl 0 8 inlX6 fl_X6_72 rfl rfl (by decide) rfl rfl ?_
  refine p_icmp_eq C dX6_told_12 (tgt := 18) (by decide) rfl (fun c8 => ?_) (fun c8 => ?_)
  · have h := if_t c8 h
    refine p_iconst (v := (0 : Int32)) C dX6_told_18 rfl (by decide) ?_
    refine p_istore_n (lv' := [(1, .int ((0 : Int32))), (0, .ref am0)]) C dX6_told_19 rfl (by decide) rfl ?_
    refine p_iconst (v := (0 : Int32)) C dX6_told_20 rfl (by decide) ?_
    refine p_istore_n (lv' := [(2, .int ((0 : Int32))), (1, .int ((0 : Int32))), (0, .ref am0)]) C dX6_told_21 rfl (by decide) rfl ?_
    refine p_locals [2, 1, 0] (lv' := [(0, .ref am0), (1, .int ((0 : Int32))), (2, .int ((0 : Int32)))]) rfl ?_
    exact tl_X6_told_22 C  FU _ _ _ h
  · have h := if_f c8 h
    refine p_bipush (v := (-7 : Int32)) C dX6_told_15 rfl (by decide) ?_
    cases h
    exact p_iret C dX6_told_17
def m_X6_wipe (m_said : Int32)  : Option (Int32 × Int32) := some (m_said, (0 : Int32))
theorem ds_X6_wipe : (yX6_wipe).cls ≠ "java/lang/invoke/MethodHandle" ∧ (yX6_wipe).cls ≠ "java/lang/invoke/VarHandle" ∧ (parseMethodDescriptor (yX6_wipe).desc).map (fun d => d.parameters.length) = some 0 := by decide +kernel
set_option maxHeartbeats 4000000 in
set_option maxRecDepth 100000 in
theorem c_X6_wipe (E : En) {am0 am1 am2 am3 am4 am5 am6 am7 am8 am9 am10 am11 am12 am13 am14 : Nat} {m_said : Int32} {m_tries : Int32} {m_state : Ar} {m_images : Ar} {m_isKept : Ar} {m_pad : Ar} {m_leftOf : Ar} {m_rightOf : Ar} {m_isApart : Ar} {m_group : Ar} {m_isPair : Ar} {m_isOne : Ar} {m_order : Ar} {m_rest : Ar} {m_aside : Ar} {m_others : Ar}  {rr : Int32} {q_m_said : Int32} (h : m_X6_wipe m_said = some (rr, q_m_said)) : Ci E yX6_wipe (wU yX6_wipe cX6_wipe 2 (some .int)) (RM 0 0) [.ref am0] (V_M E.2.2 am0 am1 am2 am3 am4 am5 am6 am7 am8 am9 am10 am11 am12 am13 am14 m_said m_tries m_state m_images m_isKept m_pad m_leftOf m_rightOf m_isApart m_group m_isPair m_isOne m_order m_rest m_aside m_others) (V_M E.2.2 am0 am1 am2 am3 am4 am5 am6 am7 am8 am9 am10 am11 am12 am13 am14 q_m_said m_tries m_state m_images m_isKept m_pad m_leftOf m_rightOf m_isApart m_group m_isPair m_isOne m_order m_rest m_aside m_others) rr := by
  refine Ci.of (by decide) (Nat.le_of_ble_eq_true rfl) ?_
  intro x hE C
  subst hE
  have C : CX RX6 cX6_wipe 2 (some .int) x := C
  refine p_locals [0] (lv' := [(0, .ref am0)]) rfl ?_
  unfold m_X6_wipe at h
  refine p_aload_n C dX6_wipe_0 rfl 0 rfl ?_
  refine p_get C dX6_wipe_1 rfl 0 4 inlX6 fl_X6_126 rfl rfl (by decide) rfl rfl ?_
  refine p_istore_n (lv' := [(1, .int m_said), (0, .ref am0)]) C dX6_wipe_4 rfl (by decide) rfl ?_
  refine p_aload_n C dX6_wipe_5 rfl 1 rfl ?_
  refine p_iconst (v := (0 : Int32)) C dX6_wipe_6 rfl (by decide) ?_
  refine p_put (Wd' := (V_M x.1.2.2 am0 am1 am2 am3 am4 am5 am6 am7 am8 am9 am10 am11 am12 am13 am14 ((0 : Int32)) m_tries m_state m_images m_isKept m_pad m_leftOf m_rightOf m_isApart m_group m_isPair m_isOne m_order m_rest m_aside m_others)) (ty := .int) C dX6_wipe_7 rfl 0 4 inlX6 tyX6 tyX6_ok nmX6 fl_X6_126 rfl rfl (by decide) rfl rfl (by decide +kernel) rfl rfl (Nat.le_of_ble_eq_true rfl) rfl ?_
  refine p_iload_n C dX6_wipe_10 rfl 0 rfl ?_
  cases h
  exact p_iret C dX6_wipe_11
