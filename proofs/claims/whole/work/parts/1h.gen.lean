def J_X6_seen_38 (m_tries : Int32) (m_state : Ar) (m_leftOf : Ar) (m_rightOf : Ar) (m_isApart : Ar) (m_isOne : Ar) (k8 : Int32 → Int32 → Option (Int32 × Ar)) (e0 : Int32) (e1 : Int32) (v2 : Int32) : Option (Int32 × Ar) := k8 (e1 ||| e0) (v2 + 1)
set_option maxHeartbeats 4000000 in
set_option maxRecDepth 100000 in
theorem tj_X6_seen_38 {x : Cxt} {am0 am1 am2 am3 am4 am5 am6 am7 am8 am9 am10 am11 am12 am13 am14 : Nat} {m_said : Int32} {m_tries : Int32} {m_state : Ar} {m_images : Ar} {m_isKept : Ar} {m_pad : Ar} {m_leftOf : Ar} {m_rightOf : Ar} {m_isApart : Ar} {m_group : Ar} {m_isPair : Ar} {m_isOne : Ar} {m_order : Ar} {m_rest : Ar} {m_aside : Ar} {m_others : Ar} {k8 : Int32 → Int32 → Option (Int32 × Ar)} {e0 : Int32} {e1 : Int32} {v2 : Int32} {rr : Int32} {q_m_isOne : Ar} (C : CX RX6 cX6_seen 3 (some .int) x) (hk8 : ∀ (w1 : Int32) (w2 : Int32) , k8 w1 w2 = some (rr, q_m_isOne) → PT (RM 2 45) 3 x 8 [(0, .ref am0), (1, .int w1), (2, .int w2)] [] (V_M x.1.2.2 am0 am1 am2 am3 am4 am5 am6 am7 am8 am9 am10 am11 am12 am13 am14 m_said m_tries m_state m_images m_isKept m_pad m_leftOf m_rightOf m_isApart m_group m_isPair m_isOne m_order m_rest m_aside m_others) 0 0 (QI x rr (V_M x.1.2.2 am0 am1 am2 am3 am4 am5 am6 am7 am8 am9 am10 am11 am12 am13 am14 m_said m_tries m_state m_images m_isKept m_pad m_leftOf m_rightOf m_isApart m_group m_isPair q_m_isOne m_order m_rest m_aside m_others))) (h : J_X6_seen_38 m_tries m_state m_leftOf m_rightOf m_isApart m_isOne k8 e0 e1 v2 = some (rr, q_m_isOne)) : PT (RM 2 45) 3 x 38 [(0, .ref am0), (2, .int v2)] [.int e0, .int e1] (V_M x.1.2.2 am0 am1 am2 am3 am4 am5 am6 am7 am8 am9 am10 am11 am12 am13 am14 m_said m_tries m_state m_images m_isKept m_pad m_leftOf m_rightOf m_isApart m_group m_isPair m_isOne m_order m_rest m_aside m_others) 0 0 (QI x rr (V_M x.1.2.2 am0 am1 am2 am3 am4 am5 am6 am7 am8 am9 am10 am11 am12 am13 am14 m_said m_tries m_state m_images m_isKept m_pad m_leftOf m_rightOf m_isApart m_group m_isPair q_m_isOne m_order m_rest m_aside m_others)) := by
  unfold J_X6_seen_38 at h
  refine p_ior C dX6_seen_38 rfl ?_
  refine p_istore_n (lv' := [(1, .int (e1 ||| e0)), (0, .ref am0), (2, .int v2)]) C dX6_seen_39 rfl (by decide) rfl ?_
  refine p_iinc (w := v2 + 1) (lv' := [(2, .int (v2 + 1)), (1, .int (e1 ||| e0)), (0, .ref am0)]) C dX6_seen_40 rfl 2 rfl rfl (by decide) rfl ?_
  refine p_goto C dX6_seen_43 (pc' := 8) (by decide) ?_
  refine p_locals [2, 1, 0] (lv' := [(0, .ref am0), (1, .int (e1 ||| e0)), (2, .int (v2 + 1))]) rfl ?_
  exact hk8 _ _ h
def B_X6_seen_8 (m_tries : Int32) (m_state : Ar) (m_leftOf : Ar) (m_rightOf : Ar) (m_isApart : Ar) (m_isOne : Ar)   (kk : Int32 → Int32 → Option (Int32 × Ar)) (v1 : Int32) (v2 : Int32)  : Option (Int32 × Ar) := if m_tries ≤ v2 then (some (v1, m_isOne)) else (bd1 (m_X6_conducts m_state m_leftOf m_rightOf m_isOne v2) (fun r2 => grd (gI v2 16) (if r2 = (m_isApart v2.toNatClampNeg) then (J_X6_seen_38 m_tries m_state m_leftOf m_rightOf m_isApart m_isOne (kk) (((1 : Int32)) <<< (v2 &&& 31)) v1 v2) else (J_X6_seen_38 m_tries m_state m_leftOf m_rightOf m_isApart m_isOne (kk) ((0 : Int32)) v1 v2))))
def L_X6_seen_8 (m_tries : Int32) (m_state : Ar) (m_leftOf : Ar) (m_rightOf : Ar) (m_isApart : Ar) (m_isOne : Ar)   : Nat → Int32 → Int32 → Option (Int32 × Ar) := lpG (fun _ _ => none) (B_X6_seen_8 m_tries m_state m_leftOf m_rightOf m_isApart m_isOne)
set_option maxHeartbeats 4000000 in
set_option maxRecDepth 100000 in
theorem tl_X6_seen_8 {x : Cxt} {am0 am1 am2 am3 am4 am5 am6 am7 am8 am9 am10 am11 am12 am13 am14 : Nat} {m_said : Int32} {m_tries : Int32} {m_state : Ar} {m_images : Ar} {m_isKept : Ar} {m_pad : Ar} {m_leftOf : Ar} {m_rightOf : Ar} {m_isApart : Ar} {m_group : Ar} {m_isPair : Ar} {m_isOne : Ar} {m_order : Ar} {m_rest : Ar} {m_aside : Ar} {m_others : Ar}   {rr : Int32} {q_m_isOne : Ar} (C : CX RX6 cX6_seen 3 (some .int) x)  : ∀ (n : Nat) (v1 : Int32) (v2 : Int32) , L_X6_seen_8 m_tries m_state m_leftOf m_rightOf m_isApart m_isOne n v1 v2 = some (rr, q_m_isOne) → PT (RM 2 45) 3 x 8 [(0, .ref am0), (1, .int v1), (2, .int v2)] [] (V_M x.1.2.2 am0 am1 am2 am3 am4 am5 am6 am7 am8 am9 am10 am11 am12 am13 am14 m_said m_tries m_state m_images m_isKept m_pad m_leftOf m_rightOf m_isApart m_group m_isPair m_isOne m_order m_rest m_aside m_others) 0 0 (QI x rr (V_M x.1.2.2 am0 am1 am2 am3 am4 am5 am6 am7 am8 am9 am10 am11 am12 am13 am14 m_said m_tries m_state m_images m_isKept m_pad m_leftOf m_rightOf m_isApart m_group m_isPair q_m_isOne m_order m_rest m_aside m_others)) := by
  intro n
  induction n with
  | zero =>
    intro v1 v2 h
    cases h
  | succ n ih =>
    intro v1 v2 h
    have h : B_X6_seen_8 m_tries m_state m_leftOf m_rightOf m_isApart m_isOne (L_X6_seen_8 m_tries m_state m_leftOf m_rightOf m_isApart m_isOne n) v1 v2 = some (rr, q_m_isOne) := h
    unfold B_X6_seen_8 at h
    refine p_iload_n C dX6_seen_8 rfl 2 rfl ?_
    refine p_aload_n C dX6_seen_9 rfl 0 rfl ?_
    refine p_get C dX6_seen_10 rfl 0 8 inlX6 fl_X6_72 rfl rfl (by decide) rfl rfl ?_
    refine p_icmp_ge C dX6_seen_13 (tgt := 46) (by decide) rfl (fun c1 => ?_) (fun c1 => ?_)
    · have h := if_t c1 h
      refine p_iload_n C dX6_seen_46 rfl 1 rfl ?_
      cases h
      exact p_iret C dX6_seen_47
    · have h := if_f c1 h
      refine p_iload_n C dX6_seen_16 rfl 1 rfl ?_
      refine p_aload_n C dX6_seen_17 rfl 0 rfl ?_
      refine p_iload_n C dX6_seen_18 rfl 2 rfl ?_
      obtain ⟨r2, hc3, h⟩ := bd1_of h
      refine p_callVi (As := [.int v2]) (st' := [.int v1]) (Wd' := (V_M x.1.2.2 am0 am1 am2 am3 am4 am5 am6 am7 am8 am9 am10 am11 am12 am13 am14 m_said m_tries m_state m_images m_isKept m_pad m_leftOf m_rightOf m_isApart m_group m_isPair m_isOne m_order m_rest m_aside m_others)) C (c_X6_conducts x.1 (am0 := am0) (am1 := am1) (am2 := am2) (am3 := am3) (am4 := am4) (am5 := am5) (am6 := am6) (am7 := am7) (am8 := am8) (am9 := am9) (am10 := am10) (am11 := am11) (am12 := am12) (am13 := am13) (am14 := am14) (m_said := m_said) (m_tries := m_tries) (m_images := m_images) (m_isKept := m_isKept) (m_pad := m_pad) (m_isApart := m_isApart) (m_group := m_group) (m_isPair := m_isPair) (m_order := m_order) (m_rest := m_rest) (m_aside := m_aside) (m_others := m_others) hc3) dX6_seen_19 rfl ml_X6_104 kv_X6_conducts ds_X6_conducts ⟨rfl, rfl, by decide, by decide⟩ 0 rfl rfl [0, 1, 2, 3, 4, 5, 6, 7, 8, 9, 10, 11, 12, 13, 14] rfl rfl rfl rfl (Nat.le_of_ble_eq_true rfl) ⟨by decide, by decide⟩ rfl ?_
      refine p_aload_n C dX6_seen_22 rfl 0 rfl ?_
      refine p_get C dX6_seen_23 rfl 0 7 inlX6 fl_X6_29 rfl rfl (by decide) rfl rfl ?_
      refine p_iload_n C dX6_seen_26 rfl 2 rfl ?_
      obtain ⟨g4, h⟩ := grd_of h
      refine p_zald C dX6_seen_27 rfl 7 rfl g4 ?_
      refine p_icmp_ne C dX6_seen_28 (tgt := 37) (by decide) rfl (fun c5 => ?_) (fun c5 => ?_)
      · have h := if_f c5 h
        refine p_iconst (v := (0 : Int32)) C dX6_seen_37 rfl (by decide) ?_
        refine p_locals [0, 2] (lv' := [(0, .ref am0), (2, .int v2)]) rfl ?_
        exact tj_X6_seen_38 C (fun u0 u1 h => ih u0 u1 h) h
      · have h := if_t c5 h
        refine p_iconst (v := (1 : Int32)) C dX6_seen_31 rfl (by decide) ?_
        refine p_iload_n C dX6_seen_32 rfl 2 rfl ?_
        refine p_ishl C dX6_seen_33 rfl ?_
        refine p_goto C dX6_seen_34 (pc' := 38) (by decide) ?_
        refine p_locals [0, 2] (lv' := [(0, .ref am0), (2, .int v2)]) rfl ?_
        exact tj_X6_seen_38 C (fun u0 u1 h => ih u0 u1 h) h
def m_X6_seen (m_tries : Int32) (m_state : Ar) (m_leftOf : Ar) (m_rightOf : Ar) (m_isApart : Ar) (m_isOne : Ar)  : Option (Int32 × Ar) := bd1 (m_X6_layOnes m_state m_isOne) (fun z_isOne1 => L_X6_seen_8 m_tries m_state m_leftOf m_rightOf m_isApart z_isOne1 FU ((0 : Int32)) ((0 : Int32)))
theorem ds_X6_seen : (yX6_seen).cls ≠ "java/lang/invoke/MethodHandle" ∧ (yX6_seen).cls ≠ "java/lang/invoke/VarHandle" ∧ (parseMethodDescriptor (yX6_seen).desc).map (fun d => d.parameters.length) = some 0 := by decide +kernel
set_option maxHeartbeats 4000000 in
set_option maxRecDepth 100000 in
theorem c_X6_seen (E : En) {am0 am1 am2 am3 am4 am5 am6 am7 am8 am9 am10 am11 am12 am13 am14 : Nat} {m_said : Int32} {m_tries : Int32} {m_state : Ar} {m_images : Ar} {m_isKept : Ar} {m_pad : Ar} {m_leftOf : Ar} {m_rightOf : Ar} {m_isApart : Ar} {m_group : Ar} {m_isPair : Ar} {m_isOne : Ar} {m_order : Ar} {m_rest : Ar} {m_aside : Ar} {m_others : Ar}  {rr : Int32} {q_m_isOne : Ar} (h : m_X6_seen m_tries m_state m_leftOf m_rightOf m_isApart m_isOne = some (rr, q_m_isOne)) : Ci E yX6_seen (wU yX6_seen cX6_seen 3 (some .int)) (RM 2 45) [.ref am0] (V_M E.2.2 am0 am1 am2 am3 am4 am5 am6 am7 am8 am9 am10 am11 am12 am13 am14 m_said m_tries m_state m_images m_isKept m_pad m_leftOf m_rightOf m_isApart m_group m_isPair m_isOne m_order m_rest m_aside m_others) (V_M E.2.2 am0 am1 am2 am3 am4 am5 am6 am7 am8 am9 am10 am11 am12 am13 am14 m_said m_tries m_state m_images m_isKept m_pad m_leftOf m_rightOf m_isApart m_group m_isPair q_m_isOne m_order m_rest m_aside m_others) rr := by
  refine Ci.of (by decide) (Nat.le_of_ble_eq_true rfl) ?_
  intro x hE C
  subst hE
  have C : CX RX6 cX6_seen 3 (some .int) x := C
  refine p_locals [0] (lv' := [(0, .ref am0)]) rfl ?_
  unfold m_X6_seen at h
  refine p_aload_n C dX6_seen_0 rfl 0 rfl ?_
  obtain ⟨z_isOne1, hc2, h⟩ := bd1_of h
  refine p_callVv (As := []) (st' := []) (Wd' := (V_M x.1.2.2 am0 am1 am2 am3 am4 am5 am6 am7 am8 am9 am10 am11 am12 am13 am14 m_said m_tries m_state m_images m_isKept m_pad m_leftOf m_rightOf m_isApart m_group m_isPair z_isOne1 m_order m_rest m_aside m_others)) C (c_X6_layOnes x.1 (am0 := am0) (am1 := am1) (am2 := am2) (am3 := am3) (am4 := am4) (am5 := am5) (am6 := am6) (am7 := am7) (am8 := am8) (am9 := am9) (am10 := am10) (am11 := am11) (am12 := am12) (am13 := am13) (am14 := am14) (m_said := m_said) (m_tries := m_tries) (m_images := m_images) (m_isKept := m_isKept) (m_pad := m_pad) (m_leftOf := m_leftOf) (m_rightOf := m_rightOf) (m_isApart := m_isApart) (m_group := m_group) (m_isPair := m_isPair) (m_order := m_order) (m_rest := m_rest) (m_aside := m_aside) (m_others := m_others) hc2) dX6_seen_1 rfl ml_X6_101 kv_X6_layOnes ds_X6_layOnes ⟨rfl, rfl, by decide, by decide⟩ 0 rfl rfl [0, 1, 2, 3, 4, 5, 6, 7, 8, 9, 10, 11, 12, 13, 14] rfl rfl rfl rfl (by decide) ⟨by decide, by decide⟩ rfl ?_
  refine p_iconst (v := (0 : Int32)) C dX6_seen_4 rfl (by decide) ?_
  refine p_istore_n (lv' := [(1, .int ((0 : Int32))), (0, .ref am0)]) C dX6_seen_5 rfl (by decide) rfl ?_
  refine p_iconst (v := (0 : Int32)) C dX6_seen_6 rfl (by decide) ?_
  refine p_istore_n (lv' := [(2, .int ((0 : Int32))), (1, .int ((0 : Int32))), (0, .ref am0)]) C dX6_seen_7 rfl (by decide) rfl ?_
  refine p_locals [2, 1, 0] (lv' := [(0, .ref am0), (1, .int ((0 : Int32))), (2, .int ((0 : Int32)))]) rfl ?_
  exact tl_X6_seen_8 C  FU _ _ h
def m_X6_attempt (m_tries : Int32) (m_state : Ar) (m_leftOf : Ar) (m_rightOf : Ar) (m_isApart : Ar) (m_group : Ar) (m_isPair : Ar) (m_isOne : Ar) (p1 : Int32) (p2 : Int32) : Option (Int32 × Int32 × Ar × Ar × Ar × Ar × Ar × Ar) := bd6 (m_X6_layTries m_tries m_state m_leftOf m_rightOf m_isApart m_group m_isPair) (fun z_tries1 z_leftOf2 z_rightOf3 z_isApart4 z_group5 z_isPair6 => bd1 (m_X6_isTry z_tries1 p1) (fun r8 => if r8 = 0 then (some ((-1 : Int32), z_tries1, z_leftOf2, z_rightOf3, z_isApart4, z_group5, z_isPair6, m_isOne)) else (bd2 (m_X6_seen z_tries1 m_state z_leftOf2 z_rightOf3 z_isApart4 m_isOne) (fun r11 z_isOne12 => if p2 = 0 then (grd (gI p1 16) (some (z_leftOf2 p1.toNatClampNeg, z_tries1, z_leftOf2, z_rightOf3, z_isApart4, z_group5, z_isPair6, z_isOne12))) else (if p2 = 1 then (grd (gI p1 16) (some (z_rightOf3 p1.toNatClampNeg, z_tries1, z_leftOf2, z_rightOf3, z_isApart4, z_group5, z_isPair6, z_isOne12))) else (if p2 = 2 then (grd (gI p1 16) (if (z_isApart4 p1.toNatClampNeg) = 0 then (some ((0 : Int32), z_tries1, z_leftOf2, z_rightOf3, z_isApart4, z_group5, z_isPair6, z_isOne12)) else (some ((1 : Int32), z_tries1, z_leftOf2, z_rightOf3, z_isApart4, z_group5, z_isPair6, z_isOne12)))) else (if p2 = 3 then (bd1 (m_X6_conducts m_state z_leftOf2 z_rightOf3 z_isOne12 p1) (fun r22 => if r22 = 0 then (some ((0 : Int32), z_tries1, z_leftOf2, z_rightOf3, z_isApart4, z_group5, z_isPair6, z_isOne12)) else (some ((1 : Int32), z_tries1, z_leftOf2, z_rightOf3, z_isApart4, z_group5, z_isPair6, z_isOne12)))) else (if p2 = 4 then (some ((r11 >>> (p1 &&& 31)) &&& ((1 : Int32)), z_tries1, z_leftOf2, z_rightOf3, z_isApart4, z_group5, z_isPair6, z_isOne12)) else (some ((-2 : Int32), z_tries1, z_leftOf2, z_rightOf3, z_isApart4, z_group5, z_isPair6, z_isOne12))))))))))
theorem ds_X6_attempt : (yX6_attempt).cls ≠ "java/lang/invoke/MethodHandle" ∧ (yX6_attempt).cls ≠ "java/lang/invoke/VarHandle" ∧ (parseMethodDescriptor (yX6_attempt).desc).map (fun d => d.parameters.length) = some 2 := by decide +kernel
set_option maxHeartbeats 4000000 in
set_option maxRecDepth 100000 in
theorem c_X6_attempt (E : En) {am0 am1 am2 am3 am4 am5 am6 am7 am8 am9 am10 am11 am12 am13 am14 : Nat} {m_said : Int32} {m_tries : Int32} {m_state : Ar} {m_images : Ar} {m_isKept : Ar} {m_pad : Ar} {m_leftOf : Ar} {m_rightOf : Ar} {m_isApart : Ar} {m_group : Ar} {m_isPair : Ar} {m_isOne : Ar} {m_order : Ar} {m_rest : Ar} {m_aside : Ar} {m_others : Ar} {p1 : Int32} {p2 : Int32} {rr : Int32} {q_m_tries : Int32} {q_m_leftOf : Ar} {q_m_rightOf : Ar} {q_m_isApart : Ar} {q_m_group : Ar} {q_m_isPair : Ar} {q_m_isOne : Ar} (h : m_X6_attempt m_tries m_state m_leftOf m_rightOf m_isApart m_group m_isPair m_isOne p1 p2 = some (rr, q_m_tries, q_m_leftOf, q_m_rightOf, q_m_isApart, q_m_group, q_m_isPair, q_m_isOne)) : Ci E yX6_attempt (wU yX6_attempt cX6_attempt 4 (some .int)) (RM 4 93) [.ref am0, .int p1, .int p2] (V_M E.2.2 am0 am1 am2 am3 am4 am5 am6 am7 am8 am9 am10 am11 am12 am13 am14 m_said m_tries m_state m_images m_isKept m_pad m_leftOf m_rightOf m_isApart m_group m_isPair m_isOne m_order m_rest m_aside m_others) (V_M E.2.2 am0 am1 am2 am3 am4 am5 am6 am7 am8 am9 am10 am11 am12 am13 am14 m_said q_m_tries m_state m_images m_isKept m_pad q_m_leftOf q_m_rightOf q_m_isApart q_m_group q_m_isPair q_m_isOne m_order m_rest m_aside m_others) rr := by
  refine Ci.of (by decide) (Nat.le_of_ble_eq_true rfl) ?_
  intro x hE C
  subst hE
  have C : CX RX6 cX6_attempt 4 (some .int) x := C
  refine p_locals [0, 1, 2] (lv' := [(0, .ref am0), (1, .int p1), (2, .int p2)]) rfl ?_
  unfold m_X6_attempt at h
  refine p_aload_n C dX6_attempt_0 rfl 0 rfl ?_
  obtain ⟨z_tries1, z_leftOf2, z_rightOf3, z_isApart4, z_group5, z_isPair6, hc7, h⟩ := bd6_of h
  refine p_callVv (As := []) (st' := []) (Wd' := (V_M x.1.2.2 am0 am1 am2 am3 am4 am5 am6 am7 am8 am9 am10 am11 am12 am13 am14 m_said z_tries1 m_state m_images m_isKept m_pad z_leftOf2 z_rightOf3 z_isApart4 z_group5 z_isPair6 m_isOne m_order m_rest m_aside m_others)) C (c_X6_layTries x.1 (am0 := am0) (am1 := am1) (am2 := am2) (am3 := am3) (am4 := am4) (am5 := am5) (am6 := am6) (am7 := am7) (am8 := am8) (am9 := am9) (am10 := am10) (am11 := am11) (am12 := am12) (am13 := am13) (am14 := am14) (m_said := m_said) (m_images := m_images) (m_isKept := m_isKept) (m_pad := m_pad) (m_isOne := m_isOne) (m_order := m_order) (m_rest := m_rest) (m_aside := m_aside) (m_others := m_others) hc7) dX6_attempt_1 rfl ml_X6_107 kv_X6_layTries ds_X6_layTries ⟨rfl, rfl, by decide, by decide⟩ 0 rfl rfl [0, 1, 2, 3, 4, 5, 6, 7, 8, 9, 10, 11, 12, 13, 14] rfl rfl rfl rfl (by decide) ⟨by decide, by decide⟩ rfl ?_
  refine p_aload_n C dX6_attempt_4 rfl 0 rfl ?_
  refine p_iload_n C dX6_attempt_5 rfl 1 rfl ?_
  obtain ⟨r8, hc9, h⟩ := bd1_of h
  refine p_callVi (As := [.int p1]) (st' := []) (Wd' := (V_M x.1.2.2 am0 am1 am2 am3 am4 am5 am6 am7 am8 am9 am10 am11 am12 am13 am14 m_said z_tries1 m_state m_images m_isKept m_pad z_leftOf2 z_rightOf3 z_isApart4 z_group5 z_isPair6 m_isOne m_order m_rest m_aside m_others)) C (c_X6_isTry x.1 (am0 := am0) (am1 := am1) (am2 := am2) (am3 := am3) (am4 := am4) (am5 := am5) (am6 := am6) (am7 := am7) (am8 := am8) (am9 := am9) (am10 := am10) (am11 := am11) (am12 := am12) (am13 := am13) (am14 := am14) (m_said := m_said) (m_state := m_state) (m_images := m_images) (m_isKept := m_isKept) (m_pad := m_pad) (m_leftOf := z_leftOf2) (m_rightOf := z_rightOf3) (m_isApart := z_isApart4) (m_group := z_group5) (m_isPair := z_isPair6) (m_isOne := m_isOne) (m_order := m_order) (m_rest := m_rest) (m_aside := m_aside) (m_others := m_others) hc9) dX6_attempt_6 rfl ml_X6_110 kv_X6_isTry ds_X6_isTry ⟨rfl, rfl, by decide, by decide⟩ 0 rfl rfl [0, 1, 2, 3, 4, 5, 6, 7, 8, 9, 10, 11, 12, 13, 14] rfl rfl rfl rfl (by decide) ⟨by decide, by decide⟩ rfl ?_
  refine p_if_ne C dX6_attempt_9 (tgt := 14) (by decide) rfl (fun c10 => ?_) (fun c10 => ?_)
  · have h := if_f c10 h
    refine p_aload_n C dX6_attempt_14 rfl 0 rfl ?_
    obtain ⟨r11, z_isOne12, hc13, h⟩ := bd2_of h
    refine p_callVi (As := []) (st' := []) (Wd' := (V_M x.1.2.2 am0 am1 am2 am3 am4 am5 am6 am7 am8 am9 am10 am11 am12 am13 am14 m_said z_tries1 m_state m_images m_isKept m_pad z_leftOf2 z_rightOf3 z_isApart4 z_group5 z_isPair6 z_isOne12 m_order m_rest m_aside m_others)) C (c_X6_seen x.1 (am0 := am0) (am1 := am1) (am2 := am2) (am3 := am3) (am4 := am4) (am5 := am5) (am6 := am6) (am7 := am7) (am8 := am8) (am9 := am9) (am10 := am10) (am11 := am11) (am12 := am12) (am13 := am13) (am14 := am14) (m_said := m_said) (m_images := m_images) (m_isKept := m_isKept) (m_pad := m_pad) (m_group := z_group5) (m_isPair := z_isPair6) (m_order := m_order) (m_rest := m_rest) (m_aside := m_aside) (m_others := m_others) hc13) dX6_attempt_15 rfl ml_X6_113 kv_X6_seen ds_X6_seen ⟨rfl, rfl, by decide, by decide⟩ 0 rfl rfl [0, 1, 2, 3, 4, 5, 6, 7, 8, 9, 10, 11, 12, 13, 14] rfl rfl rfl rfl (by decide) ⟨by decide, by decide⟩ rfl ?_
    refine p_istore_n (lv' := [(3, .int r11), (0, .ref am0), (1, .int p1), (2, .int p2)]) C dX6_attempt_18 rfl (by decide) rfl ?_
    refine p_iload_n C dX6_attempt_19 rfl 3 rfl ?_
    by_cases c14 : p2 = 0
    · have h := if_t c14 h
      refine p_tabIn C dX6_attempt_20 (pc' := 56) c14 (by decide) (by decide) rfl (by decide) ?_
      refine p_aload_n C dX6_attempt_56 rfl 1 rfl ?_
      refine p_get C dX6_attempt_57 rfl 0 5 inlX6 fl_X6_23 rfl rfl (by decide) rfl rfl ?_
      refine p_iload_n C dX6_attempt_60 rfl 2 rfl ?_
      obtain ⟨g15, h⟩ := grd_of h
      refine p_iald C dX6_attempt_61 rfl 5 rfl g15 ?_
      cases h
      exact p_iret C dX6_attempt_62
    · have h := if_f c14 h
      by_cases c16 : p2 = 1
      · have h := if_t c16 h
        refine p_tabIn C dX6_attempt_20 (pc' := 63) c16 (by decide) (by decide) rfl (by decide) ?_
        refine p_aload_n C dX6_attempt_63 rfl 1 rfl ?_
        refine p_get C dX6_attempt_64 rfl 0 6 inlX6 fl_X6_26 rfl rfl (by decide) rfl rfl ?_
        refine p_iload_n C dX6_attempt_67 rfl 2 rfl ?_
        obtain ⟨g17, h⟩ := grd_of h
        refine p_iald C dX6_attempt_68 rfl 6 rfl g17 ?_
        cases h
        exact p_iret C dX6_attempt_69
      · have h := if_f c16 h
        by_cases c18 : p2 = 2
        · have h := if_t c18 h
          refine p_tabIn C dX6_attempt_20 (pc' := 70) c18 (by decide) (by decide) rfl (by decide) ?_
          refine p_aload_n C dX6_attempt_70 rfl 1 rfl ?_
          refine p_get C dX6_attempt_71 rfl 0 7 inlX6 fl_X6_29 rfl rfl (by decide) rfl rfl ?_
          refine p_iload_n C dX6_attempt_74 rfl 2 rfl ?_
          obtain ⟨g19, h⟩ := grd_of h
          refine p_zald C dX6_attempt_75 rfl 7 rfl g19 ?_
          refine p_if_eq C dX6_attempt_76 (tgt := 83) (by decide) rfl (fun c20 => ?_) (fun c20 => ?_)
          · have h := if_t c20 h
            refine p_iconst (v := (0 : Int32)) C dX6_attempt_83 rfl (by decide) ?_
            cases h
            exact p_iret C dX6_attempt_84
          · have h := if_f c20 h
            refine p_iconst (v := (1 : Int32)) C dX6_attempt_79 rfl (by decide) ?_
            refine p_goto C dX6_attempt_80 (pc' := 84) (by decide) ?_
            cases h
            exact p_iret C dX6_attempt_84
        · have h := if_f c18 h
          by_cases c21 : p2 = 3
          · have h := if_t c21 h
            refine p_tabIn C dX6_attempt_20 (pc' := 85) c21 (by decide) (by decide) rfl (by decide) ?_
            refine p_aload_n C dX6_attempt_85 rfl 1 rfl ?_
            refine p_iload_n C dX6_attempt_86 rfl 2 rfl ?_
            obtain ⟨r22, hc23, h⟩ := bd1_of h
            refine p_callVi (As := [.int p1]) (st' := []) (Wd' := (V_M x.1.2.2 am0 am1 am2 am3 am4 am5 am6 am7 am8 am9 am10 am11 am12 am13 am14 m_said z_tries1 m_state m_images m_isKept m_pad z_leftOf2 z_rightOf3 z_isApart4 z_group5 z_isPair6 z_isOne12 m_order m_rest m_aside m_others)) C (c_X6_conducts x.1 (am0 := am0) (am1 := am1) (am2 := am2) (am3 := am3) (am4 := am4) (am5 := am5) (am6 := am6) (am7 := am7) (am8 := am8) (am9 := am9) (am10 := am10) (am11 := am11) (am12 := am12) (am13 := am13) (am14 := am14) (m_said := m_said) (m_tries := z_tries1) (m_images := m_images) (m_isKept := m_isKept) (m_pad := m_pad) (m_isApart := z_isApart4) (m_group := z_group5) (m_isPair := z_isPair6) (m_order := m_order) (m_rest := m_rest) (m_aside := m_aside) (m_others := m_others) hc23) dX6_attempt_87 rfl ml_X6_104 kv_X6_conducts ds_X6_conducts ⟨rfl, rfl, by decide, by decide⟩ 0 rfl rfl [0, 1, 2, 3, 4, 5, 6, 7, 8, 9, 10, 11, 12, 13, 14] rfl rfl rfl rfl (by decide) ⟨by decide, by decide⟩ rfl ?_
            refine p_if_eq C dX6_attempt_90 (tgt := 97) (by decide) rfl (fun c24 => ?_) (fun c24 => ?_)
            · have h := if_t c24 h
              refine p_iconst (v := (0 : Int32)) C dX6_attempt_97 rfl (by decide) ?_
              cases h
              exact p_iret C dX6_attempt_98
            · have h := if_f c24 h
              refine p_iconst (v := (1 : Int32)) C dX6_attempt_93 rfl (by decide) ?_
              refine p_goto C dX6_attempt_94 (pc' := 98) (by decide) ?_
              cases h
              exact p_iret C dX6_attempt_98
          · have h := if_f c21 h
            by_cases c25 : p2 = 4
            · have h := if_t c25 h
              refine p_tabIn C dX6_attempt_20 (pc' := 99) c25 (by decide) (by decide) rfl (by decide) ?_
              refine p_iload_n C dX6_attempt_99 rfl 0 rfl ?_
              refine p_iload_n C dX6_attempt_100 rfl 2 rfl ?_
              refine p_ishr C dX6_attempt_101 rfl ?_
              refine p_iconst (v := (1 : Int32)) C dX6_attempt_102 rfl (by decide) ?_
              refine p_iand C dX6_attempt_103 rfl ?_
              cases h
              exact p_iret C dX6_attempt_104
            · have h := if_f c25 h
              refine p_tabOut C dX6_attempt_20 (pc' := 105) (n := 5) (by decide) (by decide) (by intro k hk; match k, hk with | 0, _ => exact c14 | 1, _ => exact c16 | 2, _ => exact c18 | 3, _ => exact c21 | 4, _ => exact c25 | _ + 5, hk => exact absurd hk (by omega)) (by decide) ?_
              refine p_bipush (v := (-2 : Int32)) C dX6_attempt_105 rfl (by decide) ?_
              cases h
              exact p_iret C dX6_attempt_107
  · have h := if_t c10 h
    refine p_iconst (v := (-1 : Int32)) C dX6_attempt_12 rfl (by decide) ?_
    cases h
    exact p_iret C dX6_attempt_13
def m_X6_greater  (p0 : Int32) (p1 : Int32) : Option (Int32) := if p0 ≤ p1 then (some p1) else (some p0)
theorem ds_X6_greater : (yX6_greater).cls ≠ "java/lang/invoke/MethodHandle" ∧ (yX6_greater).cls ≠ "java/lang/invoke/VarHandle" ∧ (parseMethodDescriptor (yX6_greater).desc).map (fun d => d.parameters.length) = some 2 := by decide +kernel
set_option maxHeartbeats 4000000 in
set_option maxRecDepth 100000 in
theorem c_X6_greater (E : En)  {p0 : Int32} {p1 : Int32} {rr : Int32} (h : m_X6_greater p0 p1 = some rr) : Ci E yX6_greater (wU yX6_greater cX6_greater 2 (some .int)) (RM 0 0) [.int p0, .int p1] ([] : va_W) ([] : va_W) rr := by
  refine Ci.of (by decide) (Nat.le_of_ble_eq_true rfl) ?_
  intro x hE C
  subst hE
  have C : CX RX6 cX6_greater 2 (some .int) x := C
  refine p_locals [0, 1] (lv' := [(0, .int p0), (1, .int p1)]) rfl ?_
  unfold m_X6_greater at h
  refine p_iload_n C dX6_greater_0 rfl 0 rfl ?_
  refine p_iload_n C dX6_greater_1 rfl 1 rfl ?_
  refine p_icmp_le C dX6_greater_2 (tgt := 9) (by decide) rfl (fun c1 => ?_) (fun c1 => ?_)
  · have h := if_t c1 h
    refine p_iload_n C dX6_greater_9 rfl 1 rfl ?_
    cases h
    exact p_iret C dX6_greater_10
  · have h := if_f c1 h
    refine p_iload_n C dX6_greater_5 rfl 0 rfl ?_
    refine p_goto C dX6_greater_6 (pc' := 10) (by decide) ?_
    cases h
    exact p_iret C dX6_greater_10
def m_X6_size  (p0 : Int32) : Option (Int32) := if 0 ≤ p0 then (some p0) else (some (-p0))
theorem ds_X6_size : (yX6_size).cls ≠ "java/lang/invoke/MethodHandle" ∧ (yX6_size).cls ≠ "java/lang/invoke/VarHandle" ∧ (parseMethodDescriptor (yX6_size).desc).map (fun d => d.parameters.length) = some 1 := by decide +kernel
set_option maxHeartbeats 4000000 in
set_option maxRecDepth 100000 in
theorem c_X6_size (E : En)  {p0 : Int32} {rr : Int32} (h : m_X6_size p0 = some rr) : Ci E yX6_size (wU yX6_size cX6_size 1 (some .int)) (RM 0 0) [.int p0] ([] : va_W) ([] : va_W) rr := by
  refine Ci.of (by decide) (Nat.le_of_ble_eq_true rfl) ?_
  intro x hE C
  subst hE
  have C : CX RX6 cX6_size 1 (some .int) x := C
  refine p_locals [0] (lv' := [(0, .int p0)]) rfl ?_
  unfold m_X6_size at h
  refine p_iload_n C dX6_size_0 rfl 0 rfl ?_
  refine p_if_ge C dX6_size_1 (tgt := 9) (by decide) rfl (fun c1 => ?_) (fun c1 => ?_)
  · have h := if_t c1 h
    refine p_iload_n C dX6_size_9 rfl 0 rfl ?_
    cases h
    exact p_iret C dX6_size_10
  · have h := if_f c1 h
    refine p_iload_n C dX6_size_4 rfl 0 rfl ?_
    refine p_ineg C dX6_size_5 rfl ?_
    refine p_goto C dX6_size_6 (pc' := 10) (by decide) ?_
    cases h
    exact p_iret C dX6_size_10
def J_X6_timeOf_94 (m_state : Ar) (m_leftOf : Ar) (m_rightOf : Ar)  (e0 : Int32) (v2 : Int32) (v3 : Int32) (v4 : Int32) (v5 : Int32) : Option (Int32) := grd (gI v2 16) (grd (gI (((9 : Int32)) + (m_leftOf v2.toNatClampNeg)) 40) (bd1 (m_X6_size ((m_state (((9 : Int32)) + (m_leftOf v2.toNatClampNeg)).toNatClampNeg) - v3)) (fun r3 => grd (gI v2 16) (grd (gI (((17 : Int32)) + (m_leftOf v2.toNatClampNeg)) 40) (bd1 (m_X6_size ((m_state (((17 : Int32)) + (m_leftOf v2.toNatClampNeg)).toNatClampNeg) - v4)) (fun r7 => bd1 (m_X6_greater r3 r7) (fun r9 => grd (gI v2 16) (grd (gI (((9 : Int32)) + (m_rightOf v2.toNatClampNeg)) 40) (bd1 (m_X6_size ((m_state (((9 : Int32)) + (m_rightOf v2.toNatClampNeg)).toNatClampNeg) - v5)) (fun r13 => grd (gI v2 16) (grd (gI (((17 : Int32)) + (m_rightOf v2.toNatClampNeg)) 40) (bd1 (m_X6_size ((m_state (((17 : Int32)) + (m_rightOf v2.toNatClampNeg)).toNatClampNeg) - e0)) (fun r17 => bd1 (m_X6_greater r13 r17) (fun r19 => bd1 (m_X6_greater r9 r19) (fun r21 => some r21)))))))))))))))
set_option maxHeartbeats 4000000 in
set_option maxRecDepth 100000 in
theorem tj_X6_timeOf_94 {x : Cxt} {am0 am1 am2 am3 am4 am5 am6 am7 am8 am9 am10 am11 am12 am13 am14 : Nat} {m_said : Int32} {m_tries : Int32} {m_state : Ar} {m_images : Ar} {m_isKept : Ar} {m_pad : Ar} {m_leftOf : Ar} {m_rightOf : Ar} {m_isApart : Ar} {m_group : Ar} {m_isPair : Ar} {m_isOne : Ar} {m_order : Ar} {m_rest : Ar} {m_aside : Ar} {m_others : Ar}  {e0 : Int32} {v2 : Int32} {v3 : Int32} {v4 : Int32} {v5 : Int32} {rr : Int32} (C : CX RX6 cX6_timeOf 9 (some .int) x)  (h : J_X6_timeOf_94 m_state m_leftOf m_rightOf e0 v2 v3 v4 v5 = some rr) : PT (RM 1 21) 9 x 94 [(0, .ref am0), (2, .int v2), (3, .int v3), (4, .int v4), (5, .int v5)] [.int e0] (V_M x.1.2.2 am0 am1 am2 am3 am4 am5 am6 am7 am8 am9 am10 am11 am12 am13 am14 m_said m_tries m_state m_images m_isKept m_pad m_leftOf m_rightOf m_isApart m_group m_isPair m_isOne m_order m_rest m_aside m_others) 0 0 (QI x rr (V_M x.1.2.2 am0 am1 am2 am3 am4 am5 am6 am7 am8 am9 am10 am11 am12 am13 am14 m_said m_tries m_state m_images m_isKept m_pad m_leftOf m_rightOf m_isApart m_group m_isPair m_isOne m_order m_rest m_aside m_others)) := by
  unfold J_X6_timeOf_94 at h
  refine p_istore (lv' := [(6, .int e0), (0, .ref am0), (2, .int v2), (3, .int v3), (4, .int v4), (5, .int v5)]) C dX6_timeOf_94 rfl (by decide) rfl ?_
  refine p_aload_n C dX6_timeOf_96 rfl 1 rfl ?_
  refine p_get C dX6_timeOf_97 rfl 0 0 inlX6 fl_X6_7 rfl rfl (by decide) rfl rfl ?_
  refine p_bipush (v := (9 : Int32)) C dX6_timeOf_100 rfl (by decide) ?_
  refine p_aload_n C dX6_timeOf_102 rfl 1 rfl ?_
  refine p_get C dX6_timeOf_103 rfl 0 5 inlX6 fl_X6_23 rfl rfl (by decide) rfl rfl ?_
  refine p_iload_n C dX6_timeOf_106 rfl 2 rfl ?_
  obtain ⟨g1, h⟩ := grd_of h
  refine p_iald C dX6_timeOf_107 rfl 5 rfl g1 ?_
  refine p_iadd C dX6_timeOf_108 rfl ?_
  obtain ⟨g2, h⟩ := grd_of h
  refine p_iald C dX6_timeOf_109 rfl 1 rfl g2 ?_
  refine p_iload_n C dX6_timeOf_110 rfl 3 rfl ?_
  refine p_isub C dX6_timeOf_111 rfl ?_
  obtain ⟨r3, hc4, h⟩ := bd1_of h
  refine p_callSi (As := [.int ((m_state (((9 : Int32)) + (m_leftOf v2.toNatClampNeg)).toNatClampNeg) - v3)]) (st' := []) (Wd' := (V_M x.1.2.2 am0 am1 am2 am3 am4 am5 am6 am7 am8 am9 am10 am11 am12 am13 am14 m_said m_tries m_state m_images m_isKept m_pad m_leftOf m_rightOf m_isApart m_group m_isPair m_isOne m_order m_rest m_aside m_others)) C (c_X6_size x.1 hc4) dX6_timeOf_112 rfl ml_X6_117 ks_X6_size ds_X6_size ⟨rfl, rfl, by decide, by decide⟩ [] rfl rfl rfl rfl (by decide) ⟨by decide, by decide⟩ rfl ?_
  refine p_aload_n C dX6_timeOf_115 rfl 1 rfl ?_
  refine p_get C dX6_timeOf_116 rfl 0 0 inlX6 fl_X6_7 rfl rfl (by decide) rfl rfl ?_
  refine p_bipush (v := (17 : Int32)) C dX6_timeOf_119 rfl (by decide) ?_
  refine p_aload_n C dX6_timeOf_121 rfl 1 rfl ?_
  refine p_get C dX6_timeOf_122 rfl 0 5 inlX6 fl_X6_23 rfl rfl (by decide) rfl rfl ?_
  refine p_iload_n C dX6_timeOf_125 rfl 2 rfl ?_
  obtain ⟨g5, h⟩ := grd_of h
  refine p_iald C dX6_timeOf_126 rfl 5 rfl g5 ?_
  refine p_iadd C dX6_timeOf_127 rfl ?_
  obtain ⟨g6, h⟩ := grd_of h
  refine p_iald C dX6_timeOf_128 rfl 1 rfl g6 ?_
  refine p_iload C dX6_timeOf_129 rfl 4 rfl ?_
  refine p_isub C dX6_timeOf_131 rfl ?_
  obtain ⟨r7, hc8, h⟩ := bd1_of h
  refine p_callSi (As := [.int ((m_state (((17 : Int32)) + (m_leftOf v2.toNatClampNeg)).toNatClampNeg) - v4)]) (st' := [.int r3]) (Wd' := (V_M x.1.2.2 am0 am1 am2 am3 am4 am5 am6 am7 am8 am9 am10 am11 am12 am13 am14 m_said m_tries m_state m_images m_isKept m_pad m_leftOf m_rightOf m_isApart m_group m_isPair m_isOne m_order m_rest m_aside m_others)) C (c_X6_size x.1 hc8) dX6_timeOf_132 rfl ml_X6_117 ks_X6_size ds_X6_size ⟨rfl, rfl, by decide, by decide⟩ [] rfl rfl rfl rfl (Nat.le_of_ble_eq_true rfl) ⟨by decide, by decide⟩ rfl ?_
  obtain ⟨r9, hc10, h⟩ := bd1_of h
  refine p_callSi (As := [.int r3, .int r7]) (st' := []) (Wd' := (V_M x.1.2.2 am0 am1 am2 am3 am4 am5 am6 am7 am8 am9 am10 am11 am12 am13 am14 m_said m_tries m_state m_images m_isKept m_pad m_leftOf m_rightOf m_isApart m_group m_isPair m_isOne m_order m_rest m_aside m_others)) C (c_X6_greater x.1 hc10) dX6_timeOf_135 rfl ml_X6_120 ks_X6_greater ds_X6_greater ⟨rfl, rfl, by decide, by decide⟩ [] rfl rfl rfl rfl (by decide) ⟨by decide, by decide⟩ rfl ?_
  refine p_istore (lv' := [(7, .int r9), (6, .int e0), (0, .ref am0), (2, .int v2), (3, .int v3), (4, .int v4), (5, .int v5)]) C dX6_timeOf_138 rfl (by decide) rfl ?_
  refine p_aload_n C dX6_timeOf_140 rfl 2 rfl ?_
  refine p_get C dX6_timeOf_141 rfl 0 0 inlX6 fl_X6_7 rfl rfl (by decide) rfl rfl ?_
  refine p_bipush (v := (9 : Int32)) C dX6_timeOf_144 rfl (by decide) ?_
  refine p_aload_n C dX6_timeOf_146 rfl 2 rfl ?_
  refine p_get C dX6_timeOf_147 rfl 0 6 inlX6 fl_X6_26 rfl rfl (by decide) rfl rfl ?_
  refine p_iload_n C dX6_timeOf_150 rfl 3 rfl ?_
  obtain ⟨g11, h⟩ := grd_of h
  refine p_iald C dX6_timeOf_151 rfl 6 rfl g11 ?_
  refine p_iadd C dX6_timeOf_152 rfl ?_
  obtain ⟨g12, h⟩ := grd_of h
  refine p_iald C dX6_timeOf_153 rfl 1 rfl g12 ?_
  refine p_iload C dX6_timeOf_154 rfl 6 rfl ?_
  refine p_isub C dX6_timeOf_156 rfl ?_
  obtain ⟨r13, hc14, h⟩ := bd1_of h
  refine p_callSi (As := [.int ((m_state (((9 : Int32)) + (m_rightOf v2.toNatClampNeg)).toNatClampNeg) - v5)]) (st' := []) (Wd' := (V_M x.1.2.2 am0 am1 am2 am3 am4 am5 am6 am7 am8 am9 am10 am11 am12 am13 am14 m_said m_tries m_state m_images m_isKept m_pad m_leftOf m_rightOf m_isApart m_group m_isPair m_isOne m_order m_rest m_aside m_others)) C (c_X6_size x.1 hc14) dX6_timeOf_157 rfl ml_X6_117 ks_X6_size ds_X6_size ⟨rfl, rfl, by decide, by decide⟩ [] rfl rfl rfl rfl (by decide) ⟨by decide, by decide⟩ rfl ?_
  refine p_aload_n C dX6_timeOf_160 rfl 2 rfl ?_
  refine p_get C dX6_timeOf_161 rfl 0 0 inlX6 fl_X6_7 rfl rfl (by decide) rfl rfl ?_
  refine p_bipush (v := (17 : Int32)) C dX6_timeOf_164 rfl (by decide) ?_
  refine p_aload_n C dX6_timeOf_166 rfl 2 rfl ?_
  refine p_get C dX6_timeOf_167 rfl 0 6 inlX6 fl_X6_26 rfl rfl (by decide) rfl rfl ?_
  refine p_iload_n C dX6_timeOf_170 rfl 3 rfl ?_
  obtain ⟨g15, h⟩ := grd_of h
  refine p_iald C dX6_timeOf_171 rfl 6 rfl g15 ?_
  refine p_iadd C dX6_timeOf_172 rfl ?_
  obtain ⟨g16, h⟩ := grd_of h
  refine p_iald C dX6_timeOf_173 rfl 1 rfl g16 ?_
  refine p_iload C dX6_timeOf_174 rfl 1 rfl ?_
  refine p_isub C dX6_timeOf_176 rfl ?_
  obtain ⟨r17, hc18, h⟩ := bd1_of h
  refine p_callSi (As := [.int ((m_state (((17 : Int32)) + (m_rightOf v2.toNatClampNeg)).toNatClampNeg) - e0)]) (st' := [.int r13]) (Wd' := (V_M x.1.2.2 am0 am1 am2 am3 am4 am5 am6 am7 am8 am9 am10 am11 am12 am13 am14 m_said m_tries m_state m_images m_isKept m_pad m_leftOf m_rightOf m_isApart m_group m_isPair m_isOne m_order m_rest m_aside m_others)) C (c_X6_size x.1 hc18) dX6_timeOf_177 rfl ml_X6_117 ks_X6_size ds_X6_size ⟨rfl, rfl, by decide, by decide⟩ [] rfl rfl rfl rfl (Nat.le_of_ble_eq_true rfl) ⟨by decide, by decide⟩ rfl ?_
  obtain ⟨r19, hc20, h⟩ := bd1_of h
  refine p_callSi (As := [.int r13, .int r17]) (st' := []) (Wd' := (V_M x.1.2.2 am0 am1 am2 am3 am4 am5 am6 am7 am8 am9 am10 am11 am12 am13 am14 m_said m_tries m_state m_images m_isKept m_pad m_leftOf m_rightOf m_isApart m_group m_isPair m_isOne m_order m_rest m_aside m_others)) C (c_X6_greater x.1 hc20) dX6_timeOf_180 rfl ml_X6_120 ks_X6_greater ds_X6_greater ⟨rfl, rfl, by decide, by decide⟩ [] rfl rfl rfl rfl (by decide) ⟨by decide, by decide⟩ rfl ?_
  refine p_istore (lv' := [(8, .int r19), (7, .int r9), (6, .int e0), (0, .ref am0), (2, .int v2), (3, .int v3), (4, .int v4), (5, .int v5)]) C dX6_timeOf_183 rfl (by decide) rfl ?_
  refine p_iload C dX6_timeOf_185 rfl 1 rfl ?_
  refine p_iload C dX6_timeOf_187 rfl 0 rfl ?_
  obtain ⟨r21, hc22, h⟩ := bd1_of h
  refine p_callSi (As := [.int r9, .int r19]) (st' := []) (Wd' := (V_M x.1.2.2 am0 am1 am2 am3 am4 am5 am6 am7 am8 am9 am10 am11 am12 am13 am14 m_said m_tries m_state m_images m_isKept m_pad m_leftOf m_rightOf m_isApart m_group m_isPair m_isOne m_order m_rest m_aside m_others)) C (c_X6_greater x.1 hc22) dX6_timeOf_189 rfl ml_X6_120 ks_X6_greater ds_X6_greater ⟨rfl, rfl, by decide, by decide⟩ [] rfl rfl rfl rfl (by decide) ⟨by decide, by decide⟩ rfl ?_
  cases h
  exact p_iret C dX6_timeOf_192
def J_X6_timeOf_70 (m_state : Ar) (m_leftOf : Ar) (m_rightOf : Ar)  (e0 : Int32) (v1 : Int32) (v2 : Int32) (v3 : Int32) (v4 : Int32) : Option (Int32) := if 0 ≤ v1 then (grd (gI v1 16) (grd (gI (((17 : Int32)) + (m_rightOf v1.toNatClampNeg)) 40) (J_X6_timeOf_94 m_state m_leftOf m_rightOf (m_state (((17 : Int32)) + (m_rightOf v1.toNatClampNeg)).toNatClampNeg) v2 v3 v4 e0))) else (J_X6_timeOf_94 m_state m_leftOf m_rightOf ((0 : Int32)) v2 v3 v4 e0)
set_option maxHeartbeats 4000000 in
set_option maxRecDepth 100000 in
theorem tj_X6_timeOf_70 {x : Cxt} {am0 am1 am2 am3 am4 am5 am6 am7 am8 am9 am10 am11 am12 am13 am14 : Nat} {m_said : Int32} {m_tries : Int32} {m_state : Ar} {m_images : Ar} {m_isKept : Ar} {m_pad : Ar} {m_leftOf : Ar} {m_rightOf : Ar} {m_isApart : Ar} {m_group : Ar} {m_isPair : Ar} {m_isOne : Ar} {m_order : Ar} {m_rest : Ar} {m_aside : Ar} {m_others : Ar}  {e0 : Int32} {v1 : Int32} {v2 : Int32} {v3 : Int32} {v4 : Int32} {rr : Int32} (C : CX RX6 cX6_timeOf 9 (some .int) x)  (h : J_X6_timeOf_70 m_state m_leftOf m_rightOf e0 v1 v2 v3 v4 = some rr) : PT (RM 1 21) 9 x 70 [(0, .ref am0), (1, .int v1), (2, .int v2), (3, .int v3), (4, .int v4)] [.int e0] (V_M x.1.2.2 am0 am1 am2 am3 am4 am5 am6 am7 am8 am9 am10 am11 am12 am13 am14 m_said m_tries m_state m_images m_isKept m_pad m_leftOf m_rightOf m_isApart m_group m_isPair m_isOne m_order m_rest m_aside m_others) 0 0 (QI x rr (V_M x.1.2.2 am0 am1 am2 am3 am4 am5 am6 am7 am8 am9 am10 am11 am12 am13 am14 m_said m_tries m_state m_images m_isKept m_pad m_leftOf m_rightOf m_isApart m_group m_isPair m_isOne m_order m_rest m_aside m_others)) := by
  unfold J_X6_timeOf_70 at h
  refine p_istore (lv' := [(5, .int e0), (0, .ref am0), (1, .int v1), (2, .int v2), (3, .int v3), (4, .int v4)]) C dX6_timeOf_70 rfl (by decide) rfl ?_
  refine p_iload_n C dX6_timeOf_72 rfl 2 rfl ?_
  refine p_if_ge C dX6_timeOf_73 (tgt := 80) (by decide) rfl (fun c1 => ?_) (fun c1 => ?_)
  · have h := if_t c1 h
    refine p_aload_n C dX6_timeOf_80 rfl 1 rfl ?_
    refine p_get C dX6_timeOf_81 rfl 0 0 inlX6 fl_X6_7 rfl rfl (by decide) rfl rfl ?_
    refine p_bipush (v := (17 : Int32)) C dX6_timeOf_84 rfl (by decide) ?_
    refine p_aload_n C dX6_timeOf_86 rfl 1 rfl ?_
    refine p_get C dX6_timeOf_87 rfl 0 6 inlX6 fl_X6_26 rfl rfl (by decide) rfl rfl ?_
    refine p_iload_n C dX6_timeOf_90 rfl 2 rfl ?_
    obtain ⟨g2, h⟩ := grd_of h
    refine p_iald C dX6_timeOf_91 rfl 6 rfl g2 ?_
    refine p_iadd C dX6_timeOf_92 rfl ?_
    obtain ⟨g3, h⟩ := grd_of h
    refine p_iald C dX6_timeOf_93 rfl 1 rfl g3 ?_
    refine p_locals [1, 3, 4, 5, 0] (lv' := [(0, .ref am0), (2, .int v2), (3, .int v3), (4, .int v4), (5, .int e0)]) rfl ?_
    exact tj_X6_timeOf_94 C  h
  · have h := if_f c1 h
    refine p_iconst (v := (0 : Int32)) C dX6_timeOf_76 rfl (by decide) ?_
    refine p_goto C dX6_timeOf_77 (pc' := 94) (by decide) ?_
    refine p_locals [1, 3, 4, 5, 0] (lv' := [(0, .ref am0), (2, .int v2), (3, .int v3), (4, .int v4), (5, .int e0)]) rfl ?_
    exact tj_X6_timeOf_94 C  h
def J_X6_timeOf_45 (m_state : Ar) (m_leftOf : Ar) (m_rightOf : Ar)  (e0 : Int32) (v1 : Int32) (v2 : Int32) (v3 : Int32) : Option (Int32) := if 0 ≤ v1 then (grd (gI v1 16) (grd (gI (((9 : Int32)) + (m_rightOf v1.toNatClampNeg)) 40) (J_X6_timeOf_70 m_state m_leftOf m_rightOf (m_state (((9 : Int32)) + (m_rightOf v1.toNatClampNeg)).toNatClampNeg) v1 v2 v3 e0))) else (J_X6_timeOf_70 m_state m_leftOf m_rightOf ((20 : Int32)) v1 v2 v3 e0)
set_option maxHeartbeats 4000000 in
set_option maxRecDepth 100000 in
theorem tj_X6_timeOf_45 {x : Cxt} {am0 am1 am2 am3 am4 am5 am6 am7 am8 am9 am10 am11 am12 am13 am14 : Nat} {m_said : Int32} {m_tries : Int32} {m_state : Ar} {m_images : Ar} {m_isKept : Ar} {m_pad : Ar} {m_leftOf : Ar} {m_rightOf : Ar} {m_isApart : Ar} {m_group : Ar} {m_isPair : Ar} {m_isOne : Ar} {m_order : Ar} {m_rest : Ar} {m_aside : Ar} {m_others : Ar}  {e0 : Int32} {v1 : Int32} {v2 : Int32} {v3 : Int32} {rr : Int32} (C : CX RX6 cX6_timeOf 9 (some .int) x)  (h : J_X6_timeOf_45 m_state m_leftOf m_rightOf e0 v1 v2 v3 = some rr) : PT (RM 1 21) 9 x 45 [(0, .ref am0), (1, .int v1), (2, .int v2), (3, .int v3)] [.int e0] (V_M x.1.2.2 am0 am1 am2 am3 am4 am5 am6 am7 am8 am9 am10 am11 am12 am13 am14 m_said m_tries m_state m_images m_isKept m_pad m_leftOf m_rightOf m_isApart m_group m_isPair m_isOne m_order m_rest m_aside m_others) 0 0 (QI x rr (V_M x.1.2.2 am0 am1 am2 am3 am4 am5 am6 am7 am8 am9 am10 am11 am12 am13 am14 m_said m_tries m_state m_images m_isKept m_pad m_leftOf m_rightOf m_isApart m_group m_isPair m_isOne m_order m_rest m_aside m_others)) := by
  unfold J_X6_timeOf_45 at h
  refine p_istore (lv' := [(4, .int e0), (0, .ref am0), (1, .int v1), (2, .int v2), (3, .int v3)]) C dX6_timeOf_45 rfl (by decide) rfl ?_
  refine p_iload_n C dX6_timeOf_47 rfl 2 rfl ?_
  refine p_if_ge C dX6_timeOf_48 (tgt := 56) (by decide) rfl (fun c1 => ?_) (fun c1 => ?_)
  · have h := if_t c1 h
    refine p_aload_n C dX6_timeOf_56 rfl 1 rfl ?_
    refine p_get C dX6_timeOf_57 rfl 0 0 inlX6 fl_X6_7 rfl rfl (by decide) rfl rfl ?_
    refine p_bipush (v := (9 : Int32)) C dX6_timeOf_60 rfl (by decide) ?_
    refine p_aload_n C dX6_timeOf_62 rfl 1 rfl ?_
    refine p_get C dX6_timeOf_63 rfl 0 6 inlX6 fl_X6_26 rfl rfl (by decide) rfl rfl ?_
    refine p_iload_n C dX6_timeOf_66 rfl 2 rfl ?_
    obtain ⟨g2, h⟩ := grd_of h
    refine p_iald C dX6_timeOf_67 rfl 6 rfl g2 ?_
    refine p_iadd C dX6_timeOf_68 rfl ?_
    obtain ⟨g3, h⟩ := grd_of h
    refine p_iald C dX6_timeOf_69 rfl 1 rfl g3 ?_
    refine p_locals [1, 2, 3, 4, 0] (lv' := [(0, .ref am0), (1, .int v1), (2, .int v2), (3, .int v3), (4, .int e0)]) rfl ?_
    exact tj_X6_timeOf_70 C  h
  · have h := if_f c1 h
    refine p_bipush (v := (20 : Int32)) C dX6_timeOf_51 rfl (by decide) ?_
    refine p_goto C dX6_timeOf_53 (pc' := 70) (by decide) ?_
    refine p_locals [1, 2, 3, 4, 0] (lv' := [(0, .ref am0), (1, .int v1), (2, .int v2), (3, .int v3), (4, .int e0)]) rfl ?_
    exact tj_X6_timeOf_70 C  h
def J_X6_timeOf_22 (m_state : Ar) (m_leftOf : Ar) (m_rightOf : Ar)  (e0 : Int32) (v1 : Int32) (v2 : Int32) : Option (Int32) := if 0 ≤ v1 then (grd (gI v1 16) (grd (gI (((17 : Int32)) + (m_leftOf v1.toNatClampNeg)) 40) (J_X6_timeOf_45 m_state m_leftOf m_rightOf (m_state (((17 : Int32)) + (m_leftOf v1.toNatClampNeg)).toNatClampNeg) v1 v2 e0))) else (J_X6_timeOf_45 m_state m_leftOf m_rightOf ((0 : Int32)) v1 v2 e0)
set_option maxHeartbeats 4000000 in
set_option maxRecDepth 100000 in
theorem tj_X6_timeOf_22 {x : Cxt} {am0 am1 am2 am3 am4 am5 am6 am7 am8 am9 am10 am11 am12 am13 am14 : Nat} {m_said : Int32} {m_tries : Int32} {m_state : Ar} {m_images : Ar} {m_isKept : Ar} {m_pad : Ar} {m_leftOf : Ar} {m_rightOf : Ar} {m_isApart : Ar} {m_group : Ar} {m_isPair : Ar} {m_isOne : Ar} {m_order : Ar} {m_rest : Ar} {m_aside : Ar} {m_others : Ar}  {e0 : Int32} {v1 : Int32} {v2 : Int32} {rr : Int32} (C : CX RX6 cX6_timeOf 9 (some .int) x)  (h : J_X6_timeOf_22 m_state m_leftOf m_rightOf e0 v1 v2 = some rr) : PT (RM 1 21) 9 x 22 [(0, .ref am0), (1, .int v1), (2, .int v2)] [.int e0] (V_M x.1.2.2 am0 am1 am2 am3 am4 am5 am6 am7 am8 am9 am10 am11 am12 am13 am14 m_said m_tries m_state m_images m_isKept m_pad m_leftOf m_rightOf m_isApart m_group m_isPair m_isOne m_order m_rest m_aside m_others) 0 0 (QI x rr (V_M x.1.2.2 am0 am1 am2 am3 am4 am5 am6 am7 am8 am9 am10 am11 am12 am13 am14 m_said m_tries m_state m_images m_isKept m_pad m_leftOf m_rightOf m_isApart m_group m_isPair m_isOne m_order m_rest m_aside m_others)) := by
  unfold J_X6_timeOf_22 at h
  refine p_istore_n (lv' := [(3, .int e0), (0, .ref am0), (1, .int v1), (2, .int v2)]) C dX6_timeOf_22 rfl (by decide) rfl ?_
  refine p_iload_n C dX6_timeOf_23 rfl 2 rfl ?_
  refine p_if_ge C dX6_timeOf_24 (tgt := 31) (by decide) rfl (fun c1 => ?_) (fun c1 => ?_)
  · have h := if_t c1 h
    refine p_aload_n C dX6_timeOf_31 rfl 1 rfl ?_
    refine p_get C dX6_timeOf_32 rfl 0 0 inlX6 fl_X6_7 rfl rfl (by decide) rfl rfl ?_
    refine p_bipush (v := (17 : Int32)) C dX6_timeOf_35 rfl (by decide) ?_
    refine p_aload_n C dX6_timeOf_37 rfl 1 rfl ?_
    refine p_get C dX6_timeOf_38 rfl 0 5 inlX6 fl_X6_23 rfl rfl (by decide) rfl rfl ?_
    refine p_iload_n C dX6_timeOf_41 rfl 2 rfl ?_
    obtain ⟨g2, h⟩ := grd_of h
    refine p_iald C dX6_timeOf_42 rfl 5 rfl g2 ?_
    refine p_iadd C dX6_timeOf_43 rfl ?_
    obtain ⟨g3, h⟩ := grd_of h
    refine p_iald C dX6_timeOf_44 rfl 1 rfl g3 ?_
    refine p_locals [1, 2, 3, 0] (lv' := [(0, .ref am0), (1, .int v1), (2, .int v2), (3, .int e0)]) rfl ?_
    exact tj_X6_timeOf_45 C  h
  · have h := if_f c1 h
    refine p_iconst (v := (0 : Int32)) C dX6_timeOf_27 rfl (by decide) ?_
    refine p_goto C dX6_timeOf_28 (pc' := 45) (by decide) ?_
    refine p_locals [1, 2, 3, 0] (lv' := [(0, .ref am0), (1, .int v1), (2, .int v2), (3, .int e0)]) rfl ?_
    exact tj_X6_timeOf_45 C  h
def m_X6_timeOf (m_state : Ar) (m_leftOf : Ar) (m_rightOf : Ar) (p1 : Int32) (p2 : Int32) : Option (Int32) := if 0 ≤ p1 then (grd (gI p1 16) (grd (gI (((9 : Int32)) + (m_leftOf p1.toNatClampNeg)) 40) (J_X6_timeOf_22 m_state m_leftOf m_rightOf (m_state (((9 : Int32)) + (m_leftOf p1.toNatClampNeg)).toNatClampNeg) p1 p2))) else (J_X6_timeOf_22 m_state m_leftOf m_rightOf ((0 : Int32)) p1 p2)
theorem ds_X6_timeOf : (yX6_timeOf).cls ≠ "java/lang/invoke/MethodHandle" ∧ (yX6_timeOf).cls ≠ "java/lang/invoke/VarHandle" ∧ (parseMethodDescriptor (yX6_timeOf).desc).map (fun d => d.parameters.length) = some 2 := by decide +kernel
set_option maxHeartbeats 4000000 in
set_option maxRecDepth 100000 in
theorem c_X6_timeOf (E : En) {am0 am1 am2 am3 am4 am5 am6 am7 am8 am9 am10 am11 am12 am13 am14 : Nat} {m_said : Int32} {m_tries : Int32} {m_state : Ar} {m_images : Ar} {m_isKept : Ar} {m_pad : Ar} {m_leftOf : Ar} {m_rightOf : Ar} {m_isApart : Ar} {m_group : Ar} {m_isPair : Ar} {m_isOne : Ar} {m_order : Ar} {m_rest : Ar} {m_aside : Ar} {m_others : Ar} {p1 : Int32} {p2 : Int32} {rr : Int32} (h : m_X6_timeOf m_state m_leftOf m_rightOf p1 p2 = some rr) : Ci E yX6_timeOf (wU yX6_timeOf cX6_timeOf 9 (some .int)) (RM 1 21) [.ref am0, .int p1, .int p2] (V_M E.2.2 am0 am1 am2 am3 am4 am5 am6 am7 am8 am9 am10 am11 am12 am13 am14 m_said m_tries m_state m_images m_isKept m_pad m_leftOf m_rightOf m_isApart m_group m_isPair m_isOne m_order m_rest m_aside m_others) (V_M E.2.2 am0 am1 am2 am3 am4 am5 am6 am7 am8 am9 am10 am11 am12 am13 am14 m_said m_tries m_state m_images m_isKept m_pad m_leftOf m_rightOf m_isApart m_group m_isPair m_isOne m_order m_rest m_aside m_others) rr := by
  refine Ci.of (by decide) (Nat.le_of_ble_eq_true rfl) ?_
  intro x hE C
  subst hE
  have C : CX RX6 cX6_timeOf 9 (some .int) x := C
  refine p_locals [0, 1, 2] (lv' := [(0, .ref am0), (1, .int p1), (2, .int p2)]) rfl ?_
  unfold m_X6_timeOf at h
  refine p_iload_n C dX6_timeOf_0 rfl 1 rfl ?_
  refine p_if_ge C dX6_timeOf_1 (tgt := 8) (by decide) rfl (fun c1 => ?_) (fun c1 => ?_)
  · have h := if_t c1 h
    refine p_aload_n C dX6_timeOf_8 rfl 0 rfl ?_
    refine p_get C dX6_timeOf_9 rfl 0 0 inlX6 fl_X6_7 rfl rfl (by decide) rfl rfl ?_
    refine p_bipush (v := (9 : Int32)) C dX6_timeOf_12 rfl (by decide) ?_
    refine p_aload_n C dX6_timeOf_14 rfl 0 rfl ?_
    refine p_get C dX6_timeOf_15 rfl 0 5 inlX6 fl_X6_23 rfl rfl (by decide) rfl rfl ?_
    refine p_iload_n C dX6_timeOf_18 rfl 1 rfl ?_
    obtain ⟨g2, h⟩ := grd_of h
    refine p_iald C dX6_timeOf_19 rfl 5 rfl g2 ?_
    refine p_iadd C dX6_timeOf_20 rfl ?_
    obtain ⟨g3, h⟩ := grd_of h
    refine p_iald C dX6_timeOf_21 rfl 1 rfl g3 ?_
    refine p_locals [0, 1, 2] (lv' := [(0, .ref am0), (1, .int p1), (2, .int p2)]) rfl ?_
    exact tj_X6_timeOf_22 C  h
  · have h := if_f c1 h
    refine p_iconst (v := (0 : Int32)) C dX6_timeOf_4 rfl (by decide) ?_
    refine p_goto C dX6_timeOf_5 (pc' := 22) (by decide) ?_
    refine p_locals [0, 1, 2] (lv' := [(0, .ref am0), (1, .int p1), (2, .int p2)]) rfl ?_
    exact tj_X6_timeOf_22 C  h
def J_X6_restFrom_78 (m_tries : Int32) (m_state : Ar) (m_leftOf : Ar) (m_rightOf : Ar) (m_rest : Ar) (k6 : Int32 → Int32 → Option (Int32))  (v1 : Int32) (v2 : Int32) (v3 : Int32) (v4 : Int32) : Option (Int32) := k6 v3 (v4 + 1)
set_option maxHeartbeats 4000000 in
set_option maxRecDepth 100000 in
theorem tj_X6_restFrom_78 {x : Cxt} {am0 am1 am2 am3 am4 am5 am6 am7 am8 am9 am10 am11 am12 am13 am14 : Nat} {m_said : Int32} {m_tries : Int32} {m_state : Ar} {m_images : Ar} {m_isKept : Ar} {m_pad : Ar} {m_leftOf : Ar} {m_rightOf : Ar} {m_isApart : Ar} {m_group : Ar} {m_isPair : Ar} {m_isOne : Ar} {m_order : Ar} {m_rest : Ar} {m_aside : Ar} {m_others : Ar} {k6 : Int32 → Int32 → Option (Int32)}  {v1 : Int32} {v2 : Int32} {v3 : Int32} {v4 : Int32} {rr : Int32} (C : CX RX6 cX6_restFrom 6 (some .int) x) (hk6 : ∀ (w3 : Int32) (w4 : Int32) , k6 w3 w4 = some rr → PT (RM 2 49) 6 x 6 [(0, .ref am0), (1, .int v1), (2, .int v2), (3, .int w3), (4, .int w4)] [] (V_M x.1.2.2 am0 am1 am2 am3 am4 am5 am6 am7 am8 am9 am10 am11 am12 am13 am14 m_said m_tries m_state m_images m_isKept m_pad m_leftOf m_rightOf m_isApart m_group m_isPair m_isOne m_order m_rest m_aside m_others) 0 0 (QI x rr (V_M x.1.2.2 am0 am1 am2 am3 am4 am5 am6 am7 am8 am9 am10 am11 am12 am13 am14 m_said m_tries m_state m_images m_isKept m_pad m_leftOf m_rightOf m_isApart m_group m_isPair m_isOne m_order m_rest m_aside m_others))) (h : J_X6_restFrom_78 m_tries m_state m_leftOf m_rightOf m_rest k6 v1 v2 v3 v4 = some rr) : PT (RM 2 49) 6 x 78 [(0, .ref am0), (1, .int v1), (2, .int v2), (3, .int v3), (4, .int v4)] [] (V_M x.1.2.2 am0 am1 am2 am3 am4 am5 am6 am7 am8 am9 am10 am11 am12 am13 am14 m_said m_tries m_state m_images m_isKept m_pad m_leftOf m_rightOf m_isApart m_group m_isPair m_isOne m_order m_rest m_aside m_others) 0 0 (QI x rr (V_M x.1.2.2 am0 am1 am2 am3 am4 am5 am6 am7 am8 am9 am10 am11 am12 am13 am14 m_said m_tries m_state m_images m_isKept m_pad m_leftOf m_rightOf m_isApart m_group m_isPair m_isOne m_order m_rest m_aside m_others)) := by
  unfold J_X6_restFrom_78 at h
  refine p_iinc (w := v4 + 1) (lv' := [(4, .int (v4 + 1)), (0, .ref am0), (1, .int v1), (2, .int v2), (3, .int v3)]) C dX6_restFrom_78 rfl 4 rfl rfl (by decide) rfl ?_
  refine p_goto C dX6_restFrom_81 (pc' := 6) (by decide) ?_
  refine p_locals [1, 2, 3, 4, 0] (lv' := [(0, .ref am0), (1, .int v1), (2, .int v2), (3, .int v3), (4, .int (v4 + 1))]) rfl ?_
  exact hk6 _ _ h
def J_X6_restFrom_77 (m_tries : Int32) (m_state : Ar) (m_leftOf : Ar) (m_rightOf : Ar) (m_rest : Ar) (k6 : Int32 → Int32 → Option (Int32)) (e0 : Int32) (v1 : Int32) (v2 : Int32) (v4 : Int32) : Option (Int32) := J_X6_restFrom_78 m_tries m_state m_leftOf m_rightOf m_rest (k6) v1 v2 e0 v4
set_option maxHeartbeats 4000000 in
set_option maxRecDepth 100000 in
theorem tj_X6_restFrom_77 {x : Cxt} {am0 am1 am2 am3 am4 am5 am6 am7 am8 am9 am10 am11 am12 am13 am14 : Nat} {m_said : Int32} {m_tries : Int32} {m_state : Ar} {m_images : Ar} {m_isKept : Ar} {m_pad : Ar} {m_leftOf : Ar} {m_rightOf : Ar} {m_isApart : Ar} {m_group : Ar} {m_isPair : Ar} {m_isOne : Ar} {m_order : Ar} {m_rest : Ar} {m_aside : Ar} {m_others : Ar} {k6 : Int32 → Int32 → Option (Int32)} {e0 : Int32} {v1 : Int32} {v2 : Int32} {v4 : Int32} {rr : Int32} (C : CX RX6 cX6_restFrom 6 (some .int) x) (hk6 : ∀ (w3 : Int32) (w4 : Int32) , k6 w3 w4 = some rr → PT (RM 2 49) 6 x 6 [(0, .ref am0), (1, .int v1), (2, .int v2), (3, .int w3), (4, .int w4)] [] (V_M x.1.2.2 am0 am1 am2 am3 am4 am5 am6 am7 am8 am9 am10 am11 am12 am13 am14 m_said m_tries m_state m_images m_isKept m_pad m_leftOf m_rightOf m_isApart m_group m_isPair m_isOne m_order m_rest m_aside m_others) 0 0 (QI x rr (V_M x.1.2.2 am0 am1 am2 am3 am4 am5 am6 am7 am8 am9 am10 am11 am12 am13 am14 m_said m_tries m_state m_images m_isKept m_pad m_leftOf m_rightOf m_isApart m_group m_isPair m_isOne m_order m_rest m_aside m_others))) (h : J_X6_restFrom_77 m_tries m_state m_leftOf m_rightOf m_rest k6 e0 v1 v2 v4 = some rr) : PT (RM 2 49) 6 x 77 [(0, .ref am0), (1, .int v1), (2, .int v2), (4, .int v4)] [.int e0] (V_M x.1.2.2 am0 am1 am2 am3 am4 am5 am6 am7 am8 am9 am10 am11 am12 am13 am14 m_said m_tries m_state m_images m_isKept m_pad m_leftOf m_rightOf m_isApart m_group m_isPair m_isOne m_order m_rest m_aside m_others) 0 0 (QI x rr (V_M x.1.2.2 am0 am1 am2 am3 am4 am5 am6 am7 am8 am9 am10 am11 am12 am13 am14 m_said m_tries m_state m_images m_isKept m_pad m_leftOf m_rightOf m_isApart m_group m_isPair m_isOne m_order m_rest m_aside m_others)) := by
  unfold J_X6_restFrom_77 at h
  refine p_istore_n (lv' := [(3, .int e0), (0, .ref am0), (1, .int v1), (2, .int v2), (4, .int v4)]) C dX6_restFrom_77 rfl (by decide) rfl ?_
  refine p_locals [1, 2, 3, 0, 4] (lv' := [(0, .ref am0), (1, .int v1), (2, .int v2), (3, .int e0), (4, .int v4)]) rfl ?_
  exact tj_X6_restFrom_78 C (fun u0 u1 h => hk6 u0 u1 h) h
def J_X6_restFrom_71 (m_tries : Int32) (m_state : Ar) (m_leftOf : Ar) (m_rightOf : Ar) (m_rest : Ar) (k6 : Int32 → Int32 → Option (Int32))  (v1 : Int32) (v2 : Int32) (v4 : Int32) (v5 : Int32) : Option (Int32) := J_X6_restFrom_77 m_tries m_state m_leftOf m_rightOf m_rest (k6) v5 v1 v2 v4
set_option maxHeartbeats 4000000 in
set_option maxRecDepth 100000 in
theorem tj_X6_restFrom_71 {x : Cxt} {am0 am1 am2 am3 am4 am5 am6 am7 am8 am9 am10 am11 am12 am13 am14 : Nat} {m_said : Int32} {m_tries : Int32} {m_state : Ar} {m_images : Ar} {m_isKept : Ar} {m_pad : Ar} {m_leftOf : Ar} {m_rightOf : Ar} {m_isApart : Ar} {m_group : Ar} {m_isPair : Ar} {m_isOne : Ar} {m_order : Ar} {m_rest : Ar} {m_aside : Ar} {m_others : Ar} {k6 : Int32 → Int32 → Option (Int32)}  {v1 : Int32} {v2 : Int32} {v4 : Int32} {v5 : Int32} {rr : Int32} (C : CX RX6 cX6_restFrom 6 (some .int) x) (hk6 : ∀ (w3 : Int32) (w4 : Int32) , k6 w3 w4 = some rr → PT (RM 2 49) 6 x 6 [(0, .ref am0), (1, .int v1), (2, .int v2), (3, .int w3), (4, .int w4)] [] (V_M x.1.2.2 am0 am1 am2 am3 am4 am5 am6 am7 am8 am9 am10 am11 am12 am13 am14 m_said m_tries m_state m_images m_isKept m_pad m_leftOf m_rightOf m_isApart m_group m_isPair m_isOne m_order m_rest m_aside m_others) 0 0 (QI x rr (V_M x.1.2.2 am0 am1 am2 am3 am4 am5 am6 am7 am8 am9 am10 am11 am12 am13 am14 m_said m_tries m_state m_images m_isKept m_pad m_leftOf m_rightOf m_isApart m_group m_isPair m_isOne m_order m_rest m_aside m_others))) (h : J_X6_restFrom_71 m_tries m_state m_leftOf m_rightOf m_rest k6 v1 v2 v4 v5 = some rr) : PT (RM 2 49) 6 x 71 [(0, .ref am0), (1, .int v1), (2, .int v2), (4, .int v4), (5, .int v5)] [] (V_M x.1.2.2 am0 am1 am2 am3 am4 am5 am6 am7 am8 am9 am10 am11 am12 am13 am14 m_said m_tries m_state m_images m_isKept m_pad m_leftOf m_rightOf m_isApart m_group m_isPair m_isOne m_order m_rest m_aside m_others) 0 0 (QI x rr (V_M x.1.2.2 am0 am1 am2 am3 am4 am5 am6 am7 am8 am9 am10 am11 am12 am13 am14 m_said m_tries m_state m_images m_isKept m_pad m_leftOf m_rightOf m_isApart m_group m_isPair m_isOne m_order m_rest m_aside m_others)) := by
  unfold J_X6_restFrom_71 at h
  refine p_iload C dX6_restFrom_71 rfl 4 rfl ?_
  refine p_goto C dX6_restFrom_73 (pc' := 77) (by decide) ?_
  refine p_locals [0, 1, 2, 3] (lv' := [(0, .ref am0), (1, .int v1), (2, .int v2), (4, .int v4)]) rfl ?_
  exact tj_X6_restFrom_77 C (fun u0 u1 h => hk6 u0 u1 h) h
def J_X6_restFrom_36 (m_tries : Int32) (m_state : Ar) (m_leftOf : Ar) (m_rightOf : Ar) (m_rest : Ar) (k6 : Int32 → Int32 → Option (Int32)) (e0 : Int32) (v1 : Int32) (v2 : Int32) (v3 : Int32) (v4 : Int32) : Option (Int32) := bd1 (m_X6_timeOf m_state m_leftOf m_rightOf e0 v4) (fun r1 => grd (gI ((((11 : Int32)) * (v1 ||| (((1 : Int32)) <<< (v4 &&& 31)))) + v4) 11264) (bd1 (some (r1 + (m_rest ((((11 : Int32)) * (v1 ||| (((1 : Int32)) <<< (v4 &&& 31)))) + v4).toNatClampNeg))) (fun x4 => if v3 < 0 then (J_X6_restFrom_71 m_tries m_state m_leftOf m_rightOf m_rest (k6) v1 v2 v4 x4) else (if v3 ≤ x4 then (J_X6_restFrom_77 m_tries m_state m_leftOf m_rightOf m_rest (k6) v3 v1 v2 v4) else (J_X6_restFrom_71 m_tries m_state m_leftOf m_rightOf m_rest (k6) v1 v2 v4 x4)))))
set_option maxHeartbeats 4000000 in
set_option maxRecDepth 100000 in
theorem tj_X6_restFrom_36 {x : Cxt} {am0 am1 am2 am3 am4 am5 am6 am7 am8 am9 am10 am11 am12 am13 am14 : Nat} {m_said : Int32} {m_tries : Int32} {m_state : Ar} {m_images : Ar} {m_isKept : Ar} {m_pad : Ar} {m_leftOf : Ar} {m_rightOf : Ar} {m_isApart : Ar} {m_group : Ar} {m_isPair : Ar} {m_isOne : Ar} {m_order : Ar} {m_rest : Ar} {m_aside : Ar} {m_others : Ar} {k6 : Int32 → Int32 → Option (Int32)} {e0 : Int32} {v1 : Int32} {v2 : Int32} {v3 : Int32} {v4 : Int32} {rr : Int32} (C : CX RX6 cX6_restFrom 6 (some .int) x) (hk6 : ∀ (w3 : Int32) (w4 : Int32) , k6 w3 w4 = some rr → PT (RM 2 49) 6 x 6 [(0, .ref am0), (1, .int v1), (2, .int v2), (3, .int w3), (4, .int w4)] [] (V_M x.1.2.2 am0 am1 am2 am3 am4 am5 am6 am7 am8 am9 am10 am11 am12 am13 am14 m_said m_tries m_state m_images m_isKept m_pad m_leftOf m_rightOf m_isApart m_group m_isPair m_isOne m_order m_rest m_aside m_others) 0 0 (QI x rr (V_M x.1.2.2 am0 am1 am2 am3 am4 am5 am6 am7 am8 am9 am10 am11 am12 am13 am14 m_said m_tries m_state m_images m_isKept m_pad m_leftOf m_rightOf m_isApart m_group m_isPair m_isOne m_order m_rest m_aside m_others))) (h : J_X6_restFrom_36 m_tries m_state m_leftOf m_rightOf m_rest k6 e0 v1 v2 v3 v4 = some rr) : PT (RM 2 49) 6 x 36 [(0, .ref am0), (1, .int v1), (2, .int v2), (3, .int v3), (4, .int v4)] [.int e0, .ref am0] (V_M x.1.2.2 am0 am1 am2 am3 am4 am5 am6 am7 am8 am9 am10 am11 am12 am13 am14 m_said m_tries m_state m_images m_isKept m_pad m_leftOf m_rightOf m_isApart m_group m_isPair m_isOne m_order m_rest m_aside m_others) 0 0 (QI x rr (V_M x.1.2.2 am0 am1 am2 am3 am4 am5 am6 am7 am8 am9 am10 am11 am12 am13 am14 m_said m_tries m_state m_images m_isKept m_pad m_leftOf m_rightOf m_isApart m_group m_isPair m_isOne m_order m_rest m_aside m_others)) := by
  unfold J_X6_restFrom_36 at h
  refine p_iload C dX6_restFrom_36 rfl 4 rfl ?_
  obtain ⟨r1, hc2, h⟩ := bd1_of h
  refine p_callVi (As := [.int e0, .int v4]) (st' := []) (Wd' := (V_M x.1.2.2 am0 am1 am2 am3 am4 am5 am6 am7 am8 am9 am10 am11 am12 am13 am14 m_said m_tries m_state m_images m_isKept m_pad m_leftOf m_rightOf m_isApart m_group m_isPair m_isOne m_order m_rest m_aside m_others)) C (c_X6_timeOf x.1 (am0 := am0) (am1 := am1) (am2 := am2) (am3 := am3) (am4 := am4) (am5 := am5) (am6 := am6) (am7 := am7) (am8 := am8) (am9 := am9) (am10 := am10) (am11 := am11) (am12 := am12) (am13 := am13) (am14 := am14) (m_said := m_said) (m_tries := m_tries) (m_images := m_images) (m_isKept := m_isKept) (m_pad := m_pad) (m_isApart := m_isApart) (m_group := m_group) (m_isPair := m_isPair) (m_isOne := m_isOne) (m_order := m_order) (m_rest := m_rest) (m_aside := m_aside) (m_others := m_others) hc2) dX6_restFrom_38 rfl ml_X6_123 kv_X6_timeOf ds_X6_timeOf ⟨rfl, rfl, by decide, by decide⟩ 0 rfl rfl [0, 1, 2, 3, 4, 5, 6, 7, 8, 9, 10, 11, 12, 13, 14] rfl rfl rfl rfl (by decide) ⟨by decide, by decide⟩ rfl ?_
  refine p_aload_n C dX6_restFrom_41 rfl 0 rfl ?_
  refine p_get C dX6_restFrom_42 rfl 0 13 inlX6 fl_X6_44 rfl rfl (by decide) rfl rfl ?_
  refine p_bipush (v := (11 : Int32)) C dX6_restFrom_45 rfl (by decide) ?_
  refine p_iload_n C dX6_restFrom_47 rfl 1 rfl ?_
  refine p_iconst (v := (1 : Int32)) C dX6_restFrom_48 rfl (by decide) ?_
  refine p_iload C dX6_restFrom_49 rfl 4 rfl ?_
  refine p_ishl C dX6_restFrom_51 rfl ?_
  refine p_ior C dX6_restFrom_52 rfl ?_
  refine p_imul C dX6_restFrom_53 rfl ?_
  refine p_iload C dX6_restFrom_54 rfl 4 rfl ?_
  refine p_iadd C dX6_restFrom_56 rfl ?_
  obtain ⟨g3, h⟩ := grd_of h
  refine p_iald C dX6_restFrom_57 rfl 12 rfl g3 ?_
  refine p_iadd C dX6_restFrom_58 rfl ?_
  obtain ⟨x4, hx5, h⟩ := bd1_of h
  have hx5 := Option.some.inj hx5
  rw [hx5]
  refine p_istore (lv' := [(5, .int x4), (0, .ref am0), (1, .int v1), (2, .int v2), (3, .int v3), (4, .int v4)]) C dX6_restFrom_59 rfl (by decide) rfl ?_
  refine p_iload_n C dX6_restFrom_61 rfl 4 rfl ?_
  refine p_if_lt C dX6_restFrom_62 (tgt := 71) (by decide) rfl (fun c6 => ?_) (fun c6 => ?_)
  · have h := if_t c6 h
    refine p_locals [1, 2, 3, 5, 0] (lv' := [(0, .ref am0), (1, .int v1), (2, .int v2), (4, .int v4), (5, .int x4)]) rfl ?_
    exact tj_X6_restFrom_71 C (fun u0 u1 h => hk6 u0 u1 h) h
  · have h := if_f c6 h
    refine p_iload C dX6_restFrom_65 rfl 0 rfl ?_
    refine p_iload_n C dX6_restFrom_67 rfl 4 rfl ?_
    refine p_icmp_ge C dX6_restFrom_68 (tgt := 76) (by decide) rfl (fun c7 => ?_) (fun c7 => ?_)
    · have h := if_t c7 h
      refine p_iload_n C dX6_restFrom_76 rfl 4 rfl ?_
      refine p_locals [1, 2, 3, 5] (lv' := [(0, .ref am0), (1, .int v1), (2, .int v2), (4, .int v4)]) rfl ?_
      exact tj_X6_restFrom_77 C (fun u0 u1 h => hk6 u0 u1 h) h
    · have h := if_f c7 h
      refine p_locals [1, 2, 3, 5, 0] (lv' := [(0, .ref am0), (1, .int v1), (2, .int v2), (4, .int v4), (5, .int x4)]) rfl ?_
      exact tj_X6_restFrom_71 C (fun u0 u1 h => hk6 u0 u1 h) h
def B_X6_restFrom_6 (m_tries : Int32) (m_state : Ar) (m_leftOf : Ar) (m_rightOf : Ar) (m_rest : Ar)  (v1 : Int32) (v2 : Int32) (kk : Int32 → Int32 → Option (Int32)) (v3 : Int32) (v4 : Int32)  : Option (Int32) := if m_tries ≤ v4 then (if 0 ≤ v3 then (some v3) else (some ((0 : Int32)))) else (if ((v1 >>> (v4 &&& 31)) &&& ((1 : Int32))) = 0 then (if v2 = ((10 : Int32)) then (J_X6_restFrom_36 m_tries m_state m_leftOf m_rightOf m_rest (kk) ((-1 : Int32)) v1 v2 v3 v4) else (J_X6_restFrom_36 m_tries m_state m_leftOf m_rightOf m_rest (kk) v2 v1 v2 v3 v4)) else (J_X6_restFrom_78 m_tries m_state m_leftOf m_rightOf m_rest (kk) v1 v2 v3 v4))
def L_X6_restFrom_6 (m_tries : Int32) (m_state : Ar) (m_leftOf : Ar) (m_rightOf : Ar) (m_rest : Ar)  (v1 : Int32) (v2 : Int32) : Nat → Int32 → Int32 → Option (Int32) := lpG (fun _ _ => none) (B_X6_restFrom_6 m_tries m_state m_leftOf m_rightOf m_rest v1 v2)
set_option maxHeartbeats 4000000 in
set_option maxRecDepth 100000 in
theorem tl_X6_restFrom_6 {x : Cxt} {am0 am1 am2 am3 am4 am5 am6 am7 am8 am9 am10 am11 am12 am13 am14 : Nat} {m_said : Int32} {m_tries : Int32} {m_state : Ar} {m_images : Ar} {m_isKept : Ar} {m_pad : Ar} {m_leftOf : Ar} {m_rightOf : Ar} {m_isApart : Ar} {m_group : Ar} {m_isPair : Ar} {m_isOne : Ar} {m_order : Ar} {m_rest : Ar} {m_aside : Ar} {m_others : Ar}  {v1 : Int32} {v2 : Int32} {rr : Int32} (C : CX RX6 cX6_restFrom 6 (some .int) x)  : ∀ (n : Nat) (v3 : Int32) (v4 : Int32) , L_X6_restFrom_6 m_tries m_state m_leftOf m_rightOf m_rest v1 v2 n v3 v4 = some rr → PT (RM 2 49) 6 x 6 [(0, .ref am0), (1, .int v1), (2, .int v2), (3, .int v3), (4, .int v4)] [] (V_M x.1.2.2 am0 am1 am2 am3 am4 am5 am6 am7 am8 am9 am10 am11 am12 am13 am14 m_said m_tries m_state m_images m_isKept m_pad m_leftOf m_rightOf m_isApart m_group m_isPair m_isOne m_order m_rest m_aside m_others) 0 0 (QI x rr (V_M x.1.2.2 am0 am1 am2 am3 am4 am5 am6 am7 am8 am9 am10 am11 am12 am13 am14 m_said m_tries m_state m_images m_isKept m_pad m_leftOf m_rightOf m_isApart m_group m_isPair m_isOne m_order m_rest m_aside m_others)) := by
  intro n
  induction n with
  | zero =>
    intro v3 v4 h
    cases h
  | succ n ih =>
    intro v3 v4 h
    have h : B_X6_restFrom_6 m_tries m_state m_leftOf m_rightOf m_rest v1 v2 (L_X6_restFrom_6 m_tries m_state m_leftOf m_rightOf m_rest v1 v2 n) v3 v4 = some rr := h
    unfold B_X6_restFrom_6 at h
    refine p_iload C dX6_restFrom_6 rfl 4 rfl ?_
    refine p_aload_n C dX6_restFrom_8 rfl 0 rfl ?_
    refine p_get C dX6_restFrom_9 rfl 0 8 inlX6 fl_X6_72 rfl rfl (by decide) rfl rfl ?_
    refine p_icmp_ge C dX6_restFrom_12 (tgt := 84) (by decide) rfl (fun c1 => ?_) (fun c1 => ?_)
    · have h := if_t c1 h
      refine p_iload_n C dX6_restFrom_84 rfl 3 rfl ?_
      refine p_if_ge C dX6_restFrom_85 (tgt := 92) (by decide) rfl (fun c2 => ?_) (fun c2 => ?_)
      · have h := if_t c2 h
        refine p_iload_n C dX6_restFrom_92 rfl 3 rfl ?_
        cases h
        exact p_iret C dX6_restFrom_93
      · have h := if_f c2 h
        refine p_iconst (v := (0 : Int32)) C dX6_restFrom_88 rfl (by decide) ?_
        refine p_goto C dX6_restFrom_89 (pc' := 93) (by decide) ?_
        cases h
        exact p_iret C dX6_restFrom_93
    · have h := if_f c1 h
      refine p_iload_n C dX6_restFrom_15 rfl 1 rfl ?_
      refine p_iload C dX6_restFrom_16 rfl 4 rfl ?_
      refine p_ishr C dX6_restFrom_18 rfl ?_
      refine p_iconst (v := (1 : Int32)) C dX6_restFrom_19 rfl (by decide) ?_
      refine p_iand C dX6_restFrom_20 rfl ?_
      refine p_if_ne C dX6_restFrom_21 (tgt := 78) (by decide) rfl (fun c3 => ?_) (fun c3 => ?_)
      · have h := if_f c3 h
        refine p_locals [0, 1, 2, 3, 4] (lv' := [(0, .ref am0), (1, .int v1), (2, .int v2), (3, .int v3), (4, .int v4)]) rfl ?_
        exact tj_X6_restFrom_78 C (fun u0 u1 h => ih u0 u1 h) h
      · have h := if_t c3 h
        refine p_aload_n C dX6_restFrom_24 rfl 0 rfl ?_
        refine p_iload_n C dX6_restFrom_25 rfl 2 rfl ?_
        refine p_bipush (v := (10 : Int32)) C dX6_restFrom_26 rfl (by decide) ?_
        refine p_icmp_ne C dX6_restFrom_28 (tgt := 35) (by decide) rfl (fun c4 => ?_) (fun c4 => ?_)
        · have h := if_f c4 h
          refine p_iload_n C dX6_restFrom_35 rfl 2 rfl ?_
          refine p_locals [0, 1, 2, 3, 4] (lv' := [(0, .ref am0), (1, .int v1), (2, .int v2), (3, .int v3), (4, .int v4)]) rfl ?_
          exact tj_X6_restFrom_36 C (fun u0 u1 h => ih u0 u1 h) h
        · have h := if_t c4 h
          refine p_iconst (v := (-1 : Int32)) C dX6_restFrom_31 rfl (by decide) ?_
          refine p_goto C dX6_restFrom_32 (pc' := 36) (by decide) ?_
          refine p_locals [0, 1, 2, 3, 4] (lv' := [(0, .ref am0), (1, .int v1), (2, .int v2), (3, .int v3), (4, .int v4)]) rfl ?_
          exact tj_X6_restFrom_36 C (fun u0 u1 h => ih u0 u1 h) h
def m_X6_restFrom (m_tries : Int32) (m_state : Ar) (m_leftOf : Ar) (m_rightOf : Ar) (m_rest : Ar) (p1 : Int32) (p2 : Int32) : Option (Int32) := L_X6_restFrom_6 m_tries m_state m_leftOf m_rightOf m_rest p1 p2 FU ((-6 : Int32)) ((0 : Int32))
theorem ds_X6_restFrom : (yX6_restFrom).cls ≠ "java/lang/invoke/MethodHandle" ∧ (yX6_restFrom).cls ≠ "java/lang/invoke/VarHandle" ∧ (parseMethodDescriptor (yX6_restFrom).desc).map (fun d => d.parameters.length) = some 2 := by decide +kernel
set_option maxHeartbeats 4000000 in
set_option maxRecDepth 100000 in
theorem c_X6_restFrom (E : En) {am0 am1 am2 am3 am4 am5 am6 am7 am8 am9 am10 am11 am12 am13 am14 : Nat} {m_said : Int32} {m_tries : Int32} {m_state : Ar} {m_images : Ar} {m_isKept : Ar} {m_pad : Ar} {m_leftOf : Ar} {m_rightOf : Ar} {m_isApart : Ar} {m_group : Ar} {m_isPair : Ar} {m_isOne : Ar} {m_order : Ar} {m_rest : Ar} {m_aside : Ar} {m_others : Ar} {p1 : Int32} {p2 : Int32} {rr : Int32} (h : m_X6_restFrom m_tries m_state m_leftOf m_rightOf m_rest p1 p2 = some rr) : Ci E yX6_restFrom (wU yX6_restFrom cX6_restFrom 6 (some .int)) (RM 2 49) [.ref am0, .int p1, .int p2] (V_M E.2.2 am0 am1 am2 am3 am4 am5 am6 am7 am8 am9 am10 am11 am12 am13 am14 m_said m_tries m_state m_images m_isKept m_pad m_leftOf m_rightOf m_isApart m_group m_isPair m_isOne m_order m_rest m_aside m_others) (V_M E.2.2 am0 am1 am2 am3 am4 am5 am6 am7 am8 am9 am10 am11 am12 am13 am14 m_said m_tries m_state m_images m_isKept m_pad m_leftOf m_rightOf m_isApart m_group m_isPair m_isOne m_order m_rest m_aside m_others) rr := by
  refine Ci.of (by decide) (Nat.le_of_ble_eq_true rfl) ?_
  intro x hE C
  subst hE
  have C : CX RX6 cX6_restFrom 6 (some .int) x := C
  refine p_locals [0, 1, 2] (lv' := [(0, .ref am0), (1, .int p1), (2, .int p2)]) rfl ?_
  unfold m_X6_restFrom at h
  refine p_bipush (v := (-6 : Int32)) C dX6_restFrom_0 rfl (by decide) ?_
  refine p_istore_n (lv' := [(3, .int ((-6 : Int32))), (0, .ref am0), (1, .int p1), (2, .int p2)]) C dX6_restFrom_2 rfl (by decide) rfl ?_
  refine p_iconst (v := (0 : Int32)) C dX6_restFrom_3 rfl (by decide) ?_
  refine p_istore (lv' := [(4, .int ((0 : Int32))), (3, .int ((-6 : Int32))), (0, .ref am0), (1, .int p1), (2, .int p2)]) C dX6_restFrom_4 rfl (by decide) rfl ?_
  refine p_locals [2, 3, 4, 1, 0] (lv' := [(0, .ref am0), (1, .int p1), (2, .int p2), (3, .int ((-6 : Int32))), (4, .int ((0 : Int32)))]) rfl ?_
  exact tl_X6_restFrom_6 C  FU _ _ h
def J_X6_layRest_75 (m_tries : Int32) (m_state : Ar) (m_leftOf : Ar) (m_rightOf : Ar) (m_rest : Ar) (k15 : Int32 → Ar → Option (Ar)) (k9 : Int32 → Ar → Option (Ar))  (v1 : Int32) (v2 : Int32) : Option (Ar) := k15 (v2 + 1) m_rest
set_option maxHeartbeats 4000000 in
set_option maxRecDepth 100000 in
theorem tj_X6_layRest_75 {x : Cxt} {am0 am1 am2 am3 am4 am5 am6 am7 am8 am9 am10 am11 am12 am13 am14 : Nat} {m_said : Int32} {m_tries : Int32} {m_state : Ar} {m_images : Ar} {m_isKept : Ar} {m_pad : Ar} {m_leftOf : Ar} {m_rightOf : Ar} {m_isApart : Ar} {m_group : Ar} {m_isPair : Ar} {m_isOne : Ar} {m_order : Ar} {m_rest : Ar} {m_aside : Ar} {m_others : Ar} {k15 : Int32 → Ar → Option (Ar)} {k9 : Int32 → Ar → Option (Ar)}  {v1 : Int32} {v2 : Int32} {q_m_rest : Ar} (C : CX RX6 cX6_layRest 4 none x) (hk15 : ∀ (w2 : Int32) (w_m_rest : Ar), k15 w2 w_m_rest = some q_m_rest → PT (RM 3 74) 4 x 15 [(0, .ref am0), (1, .int v1), (2, .int w2)] [] (V_M x.1.2.2 am0 am1 am2 am3 am4 am5 am6 am7 am8 am9 am10 am11 am12 am13 am14 m_said m_tries m_state m_images m_isKept m_pad m_leftOf m_rightOf m_isApart m_group m_isPair m_isOne m_order w_m_rest m_aside m_others) 0 0 (QV x (V_M x.1.2.2 am0 am1 am2 am3 am4 am5 am6 am7 am8 am9 am10 am11 am12 am13 am14 m_said m_tries m_state m_images m_isKept m_pad m_leftOf m_rightOf m_isApart m_group m_isPair m_isOne m_order q_m_rest m_aside m_others))) (hk9 : ∀ (w1 : Int32) (w_m_rest : Ar), k9 w1 w_m_rest = some q_m_rest → PT (RM 3 74) 4 x 9 [(0, .ref am0), (1, .int w1)] [] (V_M x.1.2.2 am0 am1 am2 am3 am4 am5 am6 am7 am8 am9 am10 am11 am12 am13 am14 m_said m_tries m_state m_images m_isKept m_pad m_leftOf m_rightOf m_isApart m_group m_isPair m_isOne m_order w_m_rest m_aside m_others) 0 0 (QV x (V_M x.1.2.2 am0 am1 am2 am3 am4 am5 am6 am7 am8 am9 am10 am11 am12 am13 am14 m_said m_tries m_state m_images m_isKept m_pad m_leftOf m_rightOf m_isApart m_group m_isPair m_isOne m_order q_m_rest m_aside m_others))) (h : J_X6_layRest_75 m_tries m_state m_leftOf m_rightOf m_rest k15 k9 v1 v2 = some q_m_rest) : PT (RM 3 74) 4 x 75 [(0, .ref am0), (1, .int v1), (2, .int v2)] [] (V_M x.1.2.2 am0 am1 am2 am3 am4 am5 am6 am7 am8 am9 am10 am11 am12 am13 am14 m_said m_tries m_state m_images m_isKept m_pad m_leftOf m_rightOf m_isApart m_group m_isPair m_isOne m_order m_rest m_aside m_others) 0 0 (QV x (V_M x.1.2.2 am0 am1 am2 am3 am4 am5 am6 am7 am8 am9 am10 am11 am12 am13 am14 m_said m_tries m_state m_images m_isKept m_pad m_leftOf m_rightOf m_isApart m_group m_isPair m_isOne m_order q_m_rest m_aside m_others)) := by
  unfold J_X6_layRest_75 at h
  refine p_iinc (w := v2 + 1) (lv' := [(2, .int (v2 + 1)), (0, .ref am0), (1, .int v1)]) C dX6_layRest_75 rfl 2 rfl rfl (by decide) rfl ?_
  refine p_goto C dX6_layRest_78 (pc' := 15) (by decide) ?_
  refine p_locals [1, 2, 0] (lv' := [(0, .ref am0), (1, .int v1), (2, .int (v2 + 1))]) rfl ?_
  exact hk15 _ _ h
def J_X6_layRest_53 (m_tries : Int32) (m_state : Ar) (m_leftOf : Ar) (m_rightOf : Ar) (m_rest : Ar) (k15 : Int32 → Ar → Option (Ar)) (k9 : Int32 → Ar → Option (Ar)) (e0 : Int32) (v1 : Int32) (v2 : Int32) : Option (Ar) := if e0 = 0 then (J_X6_layRest_75 m_tries m_state m_leftOf m_rightOf m_rest (k15) (k9) v1 v2) else (bd1 (m_X6_restFrom m_tries m_state m_leftOf m_rightOf m_rest v1 v2) (fun r2 => grd (gI ((((11 : Int32)) * v1) + v2) 11264) (J_X6_layRest_75 m_tries m_state m_leftOf m_rightOf (upd m_rest ((((11 : Int32)) * v1) + v2).toNatClampNeg r2) (k15) (k9) v1 v2)))
set_option maxHeartbeats 4000000 in
set_option maxRecDepth 100000 in
theorem tj_X6_layRest_53 {x : Cxt} {am0 am1 am2 am3 am4 am5 am6 am7 am8 am9 am10 am11 am12 am13 am14 : Nat} {m_said : Int32} {m_tries : Int32} {m_state : Ar} {m_images : Ar} {m_isKept : Ar} {m_pad : Ar} {m_leftOf : Ar} {m_rightOf : Ar} {m_isApart : Ar} {m_group : Ar} {m_isPair : Ar} {m_isOne : Ar} {m_order : Ar} {m_rest : Ar} {m_aside : Ar} {m_others : Ar} {k15 : Int32 → Ar → Option (Ar)} {k9 : Int32 → Ar → Option (Ar)} {e0 : Int32} {v1 : Int32} {v2 : Int32} {q_m_rest : Ar} (C : CX RX6 cX6_layRest 4 none x) (hk15 : ∀ (w2 : Int32) (w_m_rest : Ar), k15 w2 w_m_rest = some q_m_rest → PT (RM 3 74) 4 x 15 [(0, .ref am0), (1, .int v1), (2, .int w2)] [] (V_M x.1.2.2 am0 am1 am2 am3 am4 am5 am6 am7 am8 am9 am10 am11 am12 am13 am14 m_said m_tries m_state m_images m_isKept m_pad m_leftOf m_rightOf m_isApart m_group m_isPair m_isOne m_order w_m_rest m_aside m_others) 0 0 (QV x (V_M x.1.2.2 am0 am1 am2 am3 am4 am5 am6 am7 am8 am9 am10 am11 am12 am13 am14 m_said m_tries m_state m_images m_isKept m_pad m_leftOf m_rightOf m_isApart m_group m_isPair m_isOne m_order q_m_rest m_aside m_others))) (hk9 : ∀ (w1 : Int32) (w_m_rest : Ar), k9 w1 w_m_rest = some q_m_rest → PT (RM 3 74) 4 x 9 [(0, .ref am0), (1, .int w1)] [] (V_M x.1.2.2 am0 am1 am2 am3 am4 am5 am6 am7 am8 am9 am10 am11 am12 am13 am14 m_said m_tries m_state m_images m_isKept m_pad m_leftOf m_rightOf m_isApart m_group m_isPair m_isOne m_order w_m_rest m_aside m_others) 0 0 (QV x (V_M x.1.2.2 am0 am1 am2 am3 am4 am5 am6 am7 am8 am9 am10 am11 am12 am13 am14 m_said m_tries m_state m_images m_isKept m_pad m_leftOf m_rightOf m_isApart m_group m_isPair m_isOne m_order q_m_rest m_aside m_others))) (h : J_X6_layRest_53 m_tries m_state m_leftOf m_rightOf m_rest k15 k9 e0 v1 v2 = some q_m_rest) : PT (RM 3 74) 4 x 53 [(0, .ref am0), (1, .int v1), (2, .int v2)] [.int e0] (V_M x.1.2.2 am0 am1 am2 am3 am4 am5 am6 am7 am8 am9 am10 am11 am12 am13 am14 m_said m_tries m_state m_images m_isKept m_pad m_leftOf m_rightOf m_isApart m_group m_isPair m_isOne m_order m_rest m_aside m_others) 0 0 (QV x (V_M x.1.2.2 am0 am1 am2 am3 am4 am5 am6 am7 am8 am9 am10 am11 am12 am13 am14 m_said m_tries m_state m_images m_isKept m_pad m_leftOf m_rightOf m_isApart m_group m_isPair m_isOne m_order q_m_rest m_aside m_others)) := by
  unfold J_X6_layRest_53 at h
  refine p_istore_n (lv' := [(3, .int e0), (0, .ref am0), (1, .int v1), (2, .int v2)]) C dX6_layRest_53 rfl (by decide) rfl ?_
  refine p_iload_n C dX6_layRest_54 rfl 0 rfl ?_
  refine p_if_eq C dX6_layRest_55 (tgt := 75) (by decide) rfl (fun c1 => ?_) (fun c1 => ?_)
  · have h := if_t c1 h
    refine p_locals [1, 2, 3] (lv' := [(0, .ref am0), (1, .int v1), (2, .int v2)]) rfl ?_
    exact tj_X6_layRest_75 C (fun u0 u1 h => hk15 u0 u1 h) (fun u0 u1 h => hk9 u0 u1 h) h
  · have h := if_f c1 h
    refine p_aload_n C dX6_layRest_58 rfl 1 rfl ?_
    refine p_get C dX6_layRest_59 rfl 0 13 inlX6 fl_X6_44 rfl rfl (by decide) rfl rfl ?_
    refine p_bipush (v := (11 : Int32)) C dX6_layRest_62 rfl (by decide) ?_
    refine p_iload_n C dX6_layRest_64 rfl 2 rfl ?_
    refine p_imul C dX6_layRest_65 rfl ?_
    refine p_iload_n C dX6_layRest_66 rfl 3 rfl ?_
    refine p_iadd C dX6_layRest_67 rfl ?_
    refine p_aload_n C dX6_layRest_68 rfl 1 rfl ?_
    refine p_iload_n C dX6_layRest_69 rfl 2 rfl ?_
    refine p_iload_n C dX6_layRest_70 rfl 3 rfl ?_
    obtain ⟨r2, hc3, h⟩ := bd1_of h
    refine p_callVi (As := [.int v1, .int v2]) (st' := [.int ((((11 : Int32)) * v1) + v2), .ref am12]) (Wd' := (V_M x.1.2.2 am0 am1 am2 am3 am4 am5 am6 am7 am8 am9 am10 am11 am12 am13 am14 m_said m_tries m_state m_images m_isKept m_pad m_leftOf m_rightOf m_isApart m_group m_isPair m_isOne m_order m_rest m_aside m_others)) C (c_X6_restFrom x.1 (am0 := am0) (am1 := am1) (am2 := am2) (am3 := am3) (am4 := am4) (am5 := am5) (am6 := am6) (am7 := am7) (am8 := am8) (am9 := am9) (am10 := am10) (am11 := am11) (am12 := am12) (am13 := am13) (am14 := am14) (m_said := m_said) (m_images := m_images) (m_isKept := m_isKept) (m_pad := m_pad) (m_isApart := m_isApart) (m_group := m_group) (m_isPair := m_isPair) (m_isOne := m_isOne) (m_order := m_order) (m_aside := m_aside) (m_others := m_others) hc3) dX6_layRest_71 rfl ml_X6_132 kv_X6_restFrom ds_X6_restFrom ⟨rfl, rfl, by decide, by decide⟩ 0 rfl rfl [0, 1, 2, 3, 4, 5, 6, 7, 8, 9, 10, 11, 12, 13, 14] rfl rfl rfl rfl (Nat.le_of_ble_eq_true rfl) ⟨by decide, by decide⟩ rfl ?_
    obtain ⟨g4, h⟩ := grd_of h
    refine p_iast (Wd' := (V_M x.1.2.2 am0 am1 am2 am3 am4 am5 am6 am7 am8 am9 am10 am11 am12 am13 am14 m_said m_tries m_state m_images m_isKept m_pad m_leftOf m_rightOf m_isApart m_group m_isPair m_isOne m_order (upd m_rest ((((11 : Int32)) * v1) + v2).toNatClampNeg r2) m_aside m_others)) C dX6_layRest_74 rfl 12 rfl g4 rfl ?_
    refine p_locals [1, 2, 3] (lv' := [(0, .ref am0), (1, .int v1), (2, .int v2)]) rfl ?_
    exact tj_X6_layRest_75 C (fun u0 u1 h => hk15 u0 u1 h) (fun u0 u1 h => hk9 u0 u1 h) h
def B_X6_layRest_15 (m_tries : Int32) (m_state : Ar) (m_leftOf : Ar) (m_rightOf : Ar) (k9 : Int32 → Ar → Option (Ar)) (v1 : Int32) (kk : Int32 → Ar → Option (Ar)) (v2 : Int32) (m_rest : Ar) : Option (Ar) := if ((11 : Int32)) ≤ v2 then (k9 (v1 + (-1)) m_rest) else (if v2 = ((10 : Int32)) then (if v1 = 0 then (J_X6_layRest_53 m_tries m_state m_leftOf m_rightOf m_rest (kk) (k9) ((1 : Int32)) v1 v2) else (J_X6_layRest_53 m_tries m_state m_leftOf m_rightOf m_rest (kk) (k9) ((0 : Int32)) v1 v2)) else (if ((v1 >>> (v2 &&& 31)) &&& ((1 : Int32))) = ((1 : Int32)) then (J_X6_layRest_53 m_tries m_state m_leftOf m_rightOf m_rest (kk) (k9) ((1 : Int32)) v1 v2) else (J_X6_layRest_53 m_tries m_state m_leftOf m_rightOf m_rest (kk) (k9) ((0 : Int32)) v1 v2)))
def L_X6_layRest_15 (m_tries : Int32) (m_state : Ar) (m_leftOf : Ar) (m_rightOf : Ar) (k9 : Int32 → Ar → Option (Ar)) (v1 : Int32) : Nat → Int32 → Ar → Option (Ar) := lpG (fun _ _ => none) (B_X6_layRest_15 m_tries m_state m_leftOf m_rightOf k9 v1)
set_option maxHeartbeats 4000000 in
set_option maxRecDepth 100000 in
theorem tl_X6_layRest_15 {x : Cxt} {am0 am1 am2 am3 am4 am5 am6 am7 am8 am9 am10 am11 am12 am13 am14 : Nat} {m_said : Int32} {m_tries : Int32} {m_state : Ar} {m_images : Ar} {m_isKept : Ar} {m_pad : Ar} {m_leftOf : Ar} {m_rightOf : Ar} {m_isApart : Ar} {m_group : Ar} {m_isPair : Ar} {m_isOne : Ar} {m_order : Ar} {m_aside : Ar} {m_others : Ar} {k9 : Int32 → Ar → Option (Ar)} {v1 : Int32} {q_m_rest : Ar} (C : CX RX6 cX6_layRest 4 none x) (hk9 : ∀ (w1 : Int32) (w_m_rest : Ar), k9 w1 w_m_rest = some q_m_rest → PT (RM 3 74) 4 x 9 [(0, .ref am0), (1, .int w1)] [] (V_M x.1.2.2 am0 am1 am2 am3 am4 am5 am6 am7 am8 am9 am10 am11 am12 am13 am14 m_said m_tries m_state m_images m_isKept m_pad m_leftOf m_rightOf m_isApart m_group m_isPair m_isOne m_order w_m_rest m_aside m_others) 0 0 (QV x (V_M x.1.2.2 am0 am1 am2 am3 am4 am5 am6 am7 am8 am9 am10 am11 am12 am13 am14 m_said m_tries m_state m_images m_isKept m_pad m_leftOf m_rightOf m_isApart m_group m_isPair m_isOne m_order q_m_rest m_aside m_others))) : ∀ (n : Nat) (v2 : Int32) (m_rest : Ar), L_X6_layRest_15 m_tries m_state m_leftOf m_rightOf k9 v1 n v2 m_rest = some q_m_rest → PT (RM 3 74) 4 x 15 [(0, .ref am0), (1, .int v1), (2, .int v2)] [] (V_M x.1.2.2 am0 am1 am2 am3 am4 am5 am6 am7 am8 am9 am10 am11 am12 am13 am14 m_said m_tries m_state m_images m_isKept m_pad m_leftOf m_rightOf m_isApart m_group m_isPair m_isOne m_order m_rest m_aside m_others) 0 0 (QV x (V_M x.1.2.2 am0 am1 am2 am3 am4 am5 am6 am7 am8 am9 am10 am11 am12 am13 am14 m_said m_tries m_state m_images m_isKept m_pad m_leftOf m_rightOf m_isApart m_group m_isPair m_isOne m_order q_m_rest m_aside m_others)) := by
  intro n
  induction n with
  | zero =>
    intro v2 m_rest h
    cases h
  | succ n ih =>
    intro v2 m_rest h
    have h : B_X6_layRest_15 m_tries m_state m_leftOf m_rightOf k9 v1 (L_X6_layRest_15 m_tries m_state m_leftOf m_rightOf k9 v1 n) v2 m_rest = some q_m_rest := h
    unfold B_X6_layRest_15 at h
    refine p_iload_n C dX6_layRest_15 rfl 2 rfl ?_
    refine p_bipush (v := (11 : Int32)) C dX6_layRest_16 rfl (by decide) ?_
    refine p_icmp_ge C dX6_layRest_18 (tgt := 81) (by decide) rfl (fun c1 => ?_) (fun c1 => ?_)
    · have h := if_t c1 h
      refine p_iinc (w := v1 + (-1)) (lv' := [(1, .int (v1 + (-1))), (0, .ref am0), (2, .int v2)]) C dX6_layRest_81 rfl 1 rfl rfl (by decide) rfl ?_
      refine p_goto C dX6_layRest_84 (pc' := 9) (by decide) ?_
      refine p_locals [1, 0] (lv' := [(0, .ref am0), (1, .int (v1 + (-1)))]) rfl ?_
      exact hk9 _ _ h
    · have h := if_f c1 h
      refine p_iload_n C dX6_layRest_21 rfl 2 rfl ?_
      refine p_bipush (v := (10 : Int32)) C dX6_layRest_22 rfl (by decide) ?_
      refine p_icmp_ne C dX6_layRest_24 (tgt := 39) (by decide) rfl (fun c2 => ?_) (fun c2 => ?_)
      · have h := if_f c2 h
        refine p_iload_n C dX6_layRest_39 rfl 1 rfl ?_
        refine p_iload_n C dX6_layRest_40 rfl 2 rfl ?_
        refine p_ishr C dX6_layRest_41 rfl ?_
        refine p_iconst (v := (1 : Int32)) C dX6_layRest_42 rfl (by decide) ?_
        refine p_iand C dX6_layRest_43 rfl ?_
        refine p_iconst (v := (1 : Int32)) C dX6_layRest_44 rfl (by decide) ?_
        refine p_icmp_ne C dX6_layRest_45 (tgt := 52) (by decide) rfl (fun c3 => ?_) (fun c3 => ?_)
        · have h := if_f c3 h
          refine p_iconst (v := (0 : Int32)) C dX6_layRest_52 rfl (by decide) ?_
          refine p_locals [0, 1, 2] (lv' := [(0, .ref am0), (1, .int v1), (2, .int v2)]) rfl ?_
          exact tj_X6_layRest_53 C (fun u0 u1 h => ih u0 u1 h) (fun u0 u1 h => hk9 u0 u1 h) h
        · have h := if_t c3 h
          refine p_iconst (v := (1 : Int32)) C dX6_layRest_48 rfl (by decide) ?_
          refine p_goto C dX6_layRest_49 (pc' := 53) (by decide) ?_
          refine p_locals [0, 1, 2] (lv' := [(0, .ref am0), (1, .int v1), (2, .int v2)]) rfl ?_
          exact tj_X6_layRest_53 C (fun u0 u1 h => ih u0 u1 h) (fun u0 u1 h => hk9 u0 u1 h) h
      · have h := if_t c2 h
        refine p_iload_n C dX6_layRest_27 rfl 1 rfl ?_
        refine p_if_ne C dX6_layRest_28 (tgt := 35) (by decide) rfl (fun c4 => ?_) (fun c4 => ?_)
        · have h := if_f c4 h
          refine p_iconst (v := (0 : Int32)) C dX6_layRest_35 rfl (by decide) ?_
          refine p_goto C dX6_layRest_36 (pc' := 53) (by decide) ?_
          refine p_locals [0, 1, 2] (lv' := [(0, .ref am0), (1, .int v1), (2, .int v2)]) rfl ?_
          exact tj_X6_layRest_53 C (fun u0 u1 h => ih u0 u1 h) (fun u0 u1 h => hk9 u0 u1 h) h
        · have h := if_t c4 h
          refine p_iconst (v := (1 : Int32)) C dX6_layRest_31 rfl (by decide) ?_
          refine p_goto C dX6_layRest_32 (pc' := 53) (by decide) ?_
          refine p_locals [0, 1, 2] (lv' := [(0, .ref am0), (1, .int v1), (2, .int v2)]) rfl ?_
          exact tj_X6_layRest_53 C (fun u0 u1 h => ih u0 u1 h) (fun u0 u1 h => hk9 u0 u1 h) h
def B_X6_layRest_9 (m_tries : Int32) (m_state : Ar) (m_leftOf : Ar) (m_rightOf : Ar)   (kk : Int32 → Ar → Option (Ar)) (v1 : Int32) (m_rest : Ar) : Option (Ar) := if v1 < 0 then (some m_rest) else (L_X6_layRest_15 m_tries m_state m_leftOf m_rightOf kk v1 FU ((0 : Int32)) m_rest)
def L_X6_layRest_9 (m_tries : Int32) (m_state : Ar) (m_leftOf : Ar) (m_rightOf : Ar)   : Nat → Int32 → Ar → Option (Ar) := lpG (fun _ _ => none) (B_X6_layRest_9 m_tries m_state m_leftOf m_rightOf)
set_option maxHeartbeats 4000000 in
set_option maxRecDepth 100000 in
theorem tl_X6_layRest_9 {x : Cxt} {am0 am1 am2 am3 am4 am5 am6 am7 am8 am9 am10 am11 am12 am13 am14 : Nat} {m_said : Int32} {m_tries : Int32} {m_state : Ar} {m_images : Ar} {m_isKept : Ar} {m_pad : Ar} {m_leftOf : Ar} {m_rightOf : Ar} {m_isApart : Ar} {m_group : Ar} {m_isPair : Ar} {m_isOne : Ar} {m_order : Ar} {m_aside : Ar} {m_others : Ar}   {q_m_rest : Ar} (C : CX RX6 cX6_layRest 4 none x)  : ∀ (n : Nat) (v1 : Int32) (m_rest : Ar), L_X6_layRest_9 m_tries m_state m_leftOf m_rightOf n v1 m_rest = some q_m_rest → PT (RM 3 74) 4 x 9 [(0, .ref am0), (1, .int v1)] [] (V_M x.1.2.2 am0 am1 am2 am3 am4 am5 am6 am7 am8 am9 am10 am11 am12 am13 am14 m_said m_tries m_state m_images m_isKept m_pad m_leftOf m_rightOf m_isApart m_group m_isPair m_isOne m_order m_rest m_aside m_others) 0 0 (QV x (V_M x.1.2.2 am0 am1 am2 am3 am4 am5 am6 am7 am8 am9 am10 am11 am12 am13 am14 m_said m_tries m_state m_images m_isKept m_pad m_leftOf m_rightOf m_isApart m_group m_isPair m_isOne m_order q_m_rest m_aside m_others)) := by
  intro n
  induction n with
  | zero =>
    intro v1 m_rest h
    cases h
  | succ n ih =>
    intro v1 m_rest h
    have h : B_X6_layRest_9 m_tries m_state m_leftOf m_rightOf (L_X6_layRest_9 m_tries m_state m_leftOf m_rightOf n) v1 m_rest = some q_m_rest := h
    unfold B_X6_layRest_9 at h
    refine p_iload_n C dX6_layRest_9 rfl 1 rfl ?_
    refine p_if_lt C dX6_layRest_10 (tgt := 87) (by decide) rfl (fun c1 => ?_) (fun c1 => ?_)
    · have h := if_t c1 h
      cases h
      exact p_vret C dX6_layRest_87
    · have h := if_f c1 h
      refine p_iconst (v := (0 : Int32)) C dX6_layRest_13 rfl (by decide) ?_
      refine p_istore_n (lv' := [(2, .int ((0 : Int32))), (0, .ref am0), (1, .int v1)]) C dX6_layRest_14 rfl (by decide) rfl ?_
      refine p_locals [1, 2, 0] (lv' := [(0, .ref am0), (1, .int v1), (2, .int ((0 : Int32)))]) rfl ?_
      exact tl_X6_layRest_15 C (fun u0 u1 h => ih u0 u1 h) FU _ _ h
def m_X6_layRest (m_tries : Int32) (m_state : Ar) (m_leftOf : Ar) (m_rightOf : Ar) (m_rest : Ar)  : Option (Ar) := L_X6_layRest_9 m_tries m_state m_leftOf m_rightOf FU ((((1 : Int32)) <<< (m_tries &&& 31)) - ((1 : Int32))) m_rest
theorem ds_X6_layRest : (yX6_layRest).cls ≠ "java/lang/invoke/MethodHandle" ∧ (yX6_layRest).cls ≠ "java/lang/invoke/VarHandle" ∧ (parseMethodDescriptor (yX6_layRest).desc).map (fun d => d.parameters.length) = some 0 := by decide +kernel
set_option maxHeartbeats 4000000 in
set_option maxRecDepth 100000 in
theorem c_X6_layRest (E : En) {am0 am1 am2 am3 am4 am5 am6 am7 am8 am9 am10 am11 am12 am13 am14 : Nat} {m_said : Int32} {m_tries : Int32} {m_state : Ar} {m_images : Ar} {m_isKept : Ar} {m_pad : Ar} {m_leftOf : Ar} {m_rightOf : Ar} {m_isApart : Ar} {m_group : Ar} {m_isPair : Ar} {m_isOne : Ar} {m_order : Ar} {m_rest : Ar} {m_aside : Ar} {m_others : Ar}  {q_m_rest : Ar} (h : m_X6_layRest m_tries m_state m_leftOf m_rightOf m_rest = some q_m_rest) : Cv E yX6_layRest (wU yX6_layRest cX6_layRest 4 none) (RM 3 74) [.ref am0] (V_M E.2.2 am0 am1 am2 am3 am4 am5 am6 am7 am8 am9 am10 am11 am12 am13 am14 m_said m_tries m_state m_images m_isKept m_pad m_leftOf m_rightOf m_isApart m_group m_isPair m_isOne m_order m_rest m_aside m_others) (V_M E.2.2 am0 am1 am2 am3 am4 am5 am6 am7 am8 am9 am10 am11 am12 am13 am14 m_said m_tries m_state m_images m_isKept m_pad m_leftOf m_rightOf m_isApart m_group m_isPair m_isOne m_order q_m_rest m_aside m_others) := by
  refine Cv.of (by decide) (Nat.le_of_ble_eq_true rfl) ?_
  intro x hE C
  subst hE
  have C : CX RX6 cX6_layRest 4 none x := C
  refine p_locals [0] (lv' := [(0, .ref am0)]) rfl ?_
  unfold m_X6_layRest at h
  refine p_iconst (v := (1 : Int32)) C dX6_layRest_0 rfl (by decide) ?_
  refine p_aload_n C dX6_layRest_1 rfl 0 rfl ?_
  refine p_get C dX6_layRest_2 rfl 0 8 inlX6 fl_X6_72 rfl rfl (by decide) rfl rfl ?_
  refine p_ishl C dX6_layRest_5 rfl ?_
  refine p_iconst (v := (1 : Int32)) C dX6_layRest_6 rfl (by decide) ?_
  refine p_isub C dX6_layRest_7 rfl ?_
  refine p_istore_n (lv' := [(1, .int ((((1 : Int32)) <<< (m_tries &&& 31)) - ((1 : Int32)))), (0, .ref am0)]) C dX6_layRest_8 rfl (by decide) rfl ?_
  refine p_locals [1, 0] (lv' := [(0, .ref am0), (1, .int ((((1 : Int32)) <<< (m_tries &&& 31)) - ((1 : Int32))))]) rfl ?_
  exact tl_X6_layRest_9 C  FU _ _ h
def J_X6_layBest_113 (m_tries : Int32) (m_state : Ar) (m_leftOf : Ar) (m_rightOf : Ar) (m_order : Ar) (m_rest : Ar) (k31 : Int32 → Int32 → Option (Ar × Ar)) (k11 : Int32 → Int32 → Int32 → Ar → Option (Ar × Ar)) (e0 : Int32) (v1 : Int32) (v2 : Int32) (v3 : Int32) (v5 : Int32) : Option (Ar × Ar) := k31 e0 (v5 + (-1))
set_option maxHeartbeats 4000000 in
set_option maxRecDepth 100000 in
theorem tj_X6_layBest_113 {x : Cxt} {am0 am1 am2 am3 am4 am5 am6 am7 am8 am9 am10 am11 am12 am13 am14 : Nat} {m_said : Int32} {m_tries : Int32} {m_state : Ar} {m_images : Ar} {m_isKept : Ar} {m_pad : Ar} {m_leftOf : Ar} {m_rightOf : Ar} {m_isApart : Ar} {m_group : Ar} {m_isPair : Ar} {m_isOne : Ar} {m_order : Ar} {m_rest : Ar} {m_aside : Ar} {m_others : Ar} {k31 : Int32 → Int32 → Option (Ar × Ar)} {k11 : Int32 → Int32 → Int32 → Ar → Option (Ar × Ar)} {e0 : Int32} {v1 : Int32} {v2 : Int32} {v3 : Int32} {v5 : Int32} {q_m_order : Ar} {q_m_rest : Ar} (C : CX RX6 cX6_layBest 7 none x) (hk31 : ∀ (w4 : Int32) (w5 : Int32) , k31 w4 w5 = some (q_m_order, q_m_rest) → PT (RM 4 97) 7 x 31 [(0, .ref am0), (1, .int v1), (2, .int v2), (3, .int v3), (4, .int w4), (5, .int w5)] [] (V_M x.1.2.2 am0 am1 am2 am3 am4 am5 am6 am7 am8 am9 am10 am11 am12 am13 am14 m_said m_tries m_state m_images m_isKept m_pad m_leftOf m_rightOf m_isApart m_group m_isPair m_isOne m_order m_rest m_aside m_others) 0 0 (QV x (V_M x.1.2.2 am0 am1 am2 am3 am4 am5 am6 am7 am8 am9 am10 am11 am12 am13 am14 m_said m_tries m_state m_images m_isKept m_pad m_leftOf m_rightOf m_isApart m_group m_isPair m_isOne q_m_order q_m_rest m_aside m_others))) (hk11 : ∀ (w1 : Int32) (w2 : Int32) (w3 : Int32) (w_m_order : Ar), k11 w1 w2 w3 w_m_order = some (q_m_order, q_m_rest) → PT (RM 4 97) 7 x 11 [(0, .ref am0), (1, .int w1), (2, .int w2), (3, .int w3)] [] (V_M x.1.2.2 am0 am1 am2 am3 am4 am5 am6 am7 am8 am9 am10 am11 am12 am13 am14 m_said m_tries m_state m_images m_isKept m_pad m_leftOf m_rightOf m_isApart m_group m_isPair m_isOne w_m_order m_rest m_aside m_others) 0 0 (QV x (V_M x.1.2.2 am0 am1 am2 am3 am4 am5 am6 am7 am8 am9 am10 am11 am12 am13 am14 m_said m_tries m_state m_images m_isKept m_pad m_leftOf m_rightOf m_isApart m_group m_isPair m_isOne q_m_order q_m_rest m_aside m_others))) (h : J_X6_layBest_113 m_tries m_state m_leftOf m_rightOf m_order m_rest k31 k11 e0 v1 v2 v3 v5 = some (q_m_order, q_m_rest)) : PT (RM 4 97) 7 x 113 [(0, .ref am0), (1, .int v1), (2, .int v2), (3, .int v3), (5, .int v5)] [.int e0] (V_M x.1.2.2 am0 am1 am2 am3 am4 am5 am6 am7 am8 am9 am10 am11 am12 am13 am14 m_said m_tries m_state m_images m_isKept m_pad m_leftOf m_rightOf m_isApart m_group m_isPair m_isOne m_order m_rest m_aside m_others) 0 0 (QV x (V_M x.1.2.2 am0 am1 am2 am3 am4 am5 am6 am7 am8 am9 am10 am11 am12 am13 am14 m_said m_tries m_state m_images m_isKept m_pad m_leftOf m_rightOf m_isApart m_group m_isPair m_isOne q_m_order q_m_rest m_aside m_others)) := by
  unfold J_X6_layBest_113 at h
  refine p_istore (lv' := [(4, .int e0), (0, .ref am0), (1, .int v1), (2, .int v2), (3, .int v3), (5, .int v5)]) C dX6_layBest_113 rfl (by decide) rfl ?_
  refine p_iinc (w := v5 + (-1)) (lv' := [(5, .int (v5 + (-1))), (4, .int e0), (0, .ref am0), (1, .int v1), (2, .int v2), (3, .int v3)]) C dX6_layBest_115 rfl 5 rfl rfl (by decide) rfl ?_
  refine p_goto C dX6_layBest_118 (pc' := 31) (by decide) ?_
  refine p_locals [2, 3, 4, 5, 1, 0] (lv' := [(0, .ref am0), (1, .int v1), (2, .int v2), (3, .int v3), (4, .int e0), (5, .int (v5 + (-1)))]) rfl ?_
  exact hk31 _ _ h
def J_X6_layBest_99 (m_tries : Int32) (m_state : Ar) (m_leftOf : Ar) (m_rightOf : Ar) (m_order : Ar) (m_rest : Ar) (k31 : Int32 → Int32 → Option (Ar × Ar)) (k11 : Int32 → Int32 → Int32 → Ar → Option (Ar × Ar)) (e0 : Int32) (v1 : Int32) (v2 : Int32) (v3 : Int32) (v4 : Int32) (v5 : Int32) : Option (Ar × Ar) := if e0 = 0 then (J_X6_layBest_113 m_tries m_state m_leftOf m_rightOf m_order m_rest (k31) (k11) v4 v1 v2 v3 v5) else (J_X6_layBest_113 m_tries m_state m_leftOf m_rightOf m_order m_rest (k31) (k11) v5 v1 v2 v3 v5)
set_option maxHeartbeats 4000000 in
set_option maxRecDepth 100000 in
theorem tj_X6_layBest_99 {x : Cxt} {am0 am1 am2 am3 am4 am5 am6 am7 am8 am9 am10 am11 am12 am13 am14 : Nat} {m_said : Int32} {m_tries : Int32} {m_state : Ar} {m_images : Ar} {m_isKept : Ar} {m_pad : Ar} {m_leftOf : Ar} {m_rightOf : Ar} {m_isApart : Ar} {m_group : Ar} {m_isPair : Ar} {m_isOne : Ar} {m_order : Ar} {m_rest : Ar} {m_aside : Ar} {m_others : Ar} {k31 : Int32 → Int32 → Option (Ar × Ar)} {k11 : Int32 → Int32 → Int32 → Ar → Option (Ar × Ar)} {e0 : Int32} {v1 : Int32} {v2 : Int32} {v3 : Int32} {v4 : Int32} {v5 : Int32} {q_m_order : Ar} {q_m_rest : Ar} (C : CX RX6 cX6_layBest 7 none x) (hk31 : ∀ (w4 : Int32) (w5 : Int32) , k31 w4 w5 = some (q_m_order, q_m_rest) → PT (RM 4 97) 7 x 31 [(0, .ref am0), (1, .int v1), (2, .int v2), (3, .int v3), (4, .int w4), (5, .int w5)] [] (V_M x.1.2.2 am0 am1 am2 am3 am4 am5 am6 am7 am8 am9 am10 am11 am12 am13 am14 m_said m_tries m_state m_images m_isKept m_pad m_leftOf m_rightOf m_isApart m_group m_isPair m_isOne m_order m_rest m_aside m_others) 0 0 (QV x (V_M x.1.2.2 am0 am1 am2 am3 am4 am5 am6 am7 am8 am9 am10 am11 am12 am13 am14 m_said m_tries m_state m_images m_isKept m_pad m_leftOf m_rightOf m_isApart m_group m_isPair m_isOne q_m_order q_m_rest m_aside m_others))) (hk11 : ∀ (w1 : Int32) (w2 : Int32) (w3 : Int32) (w_m_order : Ar), k11 w1 w2 w3 w_m_order = some (q_m_order, q_m_rest) → PT (RM 4 97) 7 x 11 [(0, .ref am0), (1, .int w1), (2, .int w2), (3, .int w3)] [] (V_M x.1.2.2 am0 am1 am2 am3 am4 am5 am6 am7 am8 am9 am10 am11 am12 am13 am14 m_said m_tries m_state m_images m_isKept m_pad m_leftOf m_rightOf m_isApart m_group m_isPair m_isOne w_m_order m_rest m_aside m_others) 0 0 (QV x (V_M x.1.2.2 am0 am1 am2 am3 am4 am5 am6 am7 am8 am9 am10 am11 am12 am13 am14 m_said m_tries m_state m_images m_isKept m_pad m_leftOf m_rightOf m_isApart m_group m_isPair m_isOne q_m_order q_m_rest m_aside m_others))) (h : J_X6_layBest_99 m_tries m_state m_leftOf m_rightOf m_order m_rest k31 k11 e0 v1 v2 v3 v4 v5 = some (q_m_order, q_m_rest)) : PT (RM 4 97) 7 x 99 [(0, .ref am0), (1, .int v1), (2, .int v2), (3, .int v3), (4, .int v4), (5, .int v5)] [.int e0] (V_M x.1.2.2 am0 am1 am2 am3 am4 am5 am6 am7 am8 am9 am10 am11 am12 am13 am14 m_said m_tries m_state m_images m_isKept m_pad m_leftOf m_rightOf m_isApart m_group m_isPair m_isOne m_order m_rest m_aside m_others) 0 0 (QV x (V_M x.1.2.2 am0 am1 am2 am3 am4 am5 am6 am7 am8 am9 am10 am11 am12 am13 am14 m_said m_tries m_state m_images m_isKept m_pad m_leftOf m_rightOf m_isApart m_group m_isPair m_isOne q_m_order q_m_rest m_aside m_others)) := by
  unfold J_X6_layBest_99 at h
  refine p_istore (lv' := [(6, .int e0), (0, .ref am0), (1, .int v1), (2, .int v2), (3, .int v3), (4, .int v4), (5, .int v5)]) C dX6_layBest_99 rfl (by decide) rfl ?_
  refine p_iload C dX6_layBest_101 rfl 0 rfl ?_
  refine p_if_eq C dX6_layBest_103 (tgt := 111) (by decide) rfl (fun c1 => ?_) (fun c1 => ?_)
  · have h := if_t c1 h
    refine p_iload C dX6_layBest_111 rfl 5 rfl ?_
    refine p_locals [1, 2, 3, 4, 6] (lv' := [(0, .ref am0), (1, .int v1), (2, .int v2), (3, .int v3), (5, .int v5)]) rfl ?_
    exact tj_X6_layBest_113 C (fun u0 u1 h => hk31 u0 u1 h) (fun u0 u1 u2 u3 h => hk11 u0 u1 u2 u3 h) h
  · have h := if_f c1 h
    refine p_iload C dX6_layBest_106 rfl 6 rfl ?_
    refine p_goto C dX6_layBest_108 (pc' := 113) (by decide) ?_
    refine p_locals [1, 2, 3, 4, 6] (lv' := [(0, .ref am0), (1, .int v1), (2, .int v2), (3, .int v3), (5, .int v5)]) rfl ?_
    exact tj_X6_layBest_113 C (fun u0 u1 h => hk31 u0 u1 h) (fun u0 u1 u2 u3 h => hk11 u0 u1 u2 u3 h) h
def J_X6_layBest_98 (m_tries : Int32) (m_state : Ar) (m_leftOf : Ar) (m_rightOf : Ar) (m_order : Ar) (m_rest : Ar) (k31 : Int32 → Int32 → Option (Ar × Ar)) (k11 : Int32 → Int32 → Int32 → Ar → Option (Ar × Ar))  (v1 : Int32) (v2 : Int32) (v3 : Int32) (v4 : Int32) (v5 : Int32) : Option (Ar × Ar) := J_X6_layBest_99 m_tries m_state m_leftOf m_rightOf m_order m_rest (k31) (k11) ((0 : Int32)) v1 v2 v3 v4 v5
set_option maxHeartbeats 4000000 in
set_option maxRecDepth 100000 in
theorem tj_X6_layBest_98 {x : Cxt} {am0 am1 am2 am3 am4 am5 am6 am7 am8 am9 am10 am11 am12 am13 am14 : Nat} {m_said : Int32} {m_tries : Int32} {m_state : Ar} {m_images : Ar} {m_isKept : Ar} {m_pad : Ar} {m_leftOf : Ar} {m_rightOf : Ar} {m_isApart : Ar} {m_group : Ar} {m_isPair : Ar} {m_isOne : Ar} {m_order : Ar} {m_rest : Ar} {m_aside : Ar} {m_others : Ar} {k31 : Int32 → Int32 → Option (Ar × Ar)} {k11 : Int32 → Int32 → Int32 → Ar → Option (Ar × Ar)}  {v1 : Int32} {v2 : Int32} {v3 : Int32} {v4 : Int32} {v5 : Int32} {q_m_order : Ar} {q_m_rest : Ar} (C : CX RX6 cX6_layBest 7 none x) (hk31 : ∀ (w4 : Int32) (w5 : Int32) , k31 w4 w5 = some (q_m_order, q_m_rest) → PT (RM 4 97) 7 x 31 [(0, .ref am0), (1, .int v1), (2, .int v2), (3, .int v3), (4, .int w4), (5, .int w5)] [] (V_M x.1.2.2 am0 am1 am2 am3 am4 am5 am6 am7 am8 am9 am10 am11 am12 am13 am14 m_said m_tries m_state m_images m_isKept m_pad m_leftOf m_rightOf m_isApart m_group m_isPair m_isOne m_order m_rest m_aside m_others) 0 0 (QV x (V_M x.1.2.2 am0 am1 am2 am3 am4 am5 am6 am7 am8 am9 am10 am11 am12 am13 am14 m_said m_tries m_state m_images m_isKept m_pad m_leftOf m_rightOf m_isApart m_group m_isPair m_isOne q_m_order q_m_rest m_aside m_others))) (hk11 : ∀ (w1 : Int32) (w2 : Int32) (w3 : Int32) (w_m_order : Ar), k11 w1 w2 w3 w_m_order = some (q_m_order, q_m_rest) → PT (RM 4 97) 7 x 11 [(0, .ref am0), (1, .int w1), (2, .int w2), (3, .int w3)] [] (V_M x.1.2.2 am0 am1 am2 am3 am4 am5 am6 am7 am8 am9 am10 am11 am12 am13 am14 m_said m_tries m_state m_images m_isKept m_pad m_leftOf m_rightOf m_isApart m_group m_isPair m_isOne w_m_order m_rest m_aside m_others) 0 0 (QV x (V_M x.1.2.2 am0 am1 am2 am3 am4 am5 am6 am7 am8 am9 am10 am11 am12 am13 am14 m_said m_tries m_state m_images m_isKept m_pad m_leftOf m_rightOf m_isApart m_group m_isPair m_isOne q_m_order q_m_rest m_aside m_others))) (h : J_X6_layBest_98 m_tries m_state m_leftOf m_rightOf m_order m_rest k31 k11 v1 v2 v3 v4 v5 = some (q_m_order, q_m_rest)) : PT (RM 4 97) 7 x 98 [(0, .ref am0), (1, .int v1), (2, .int v2), (3, .int v3), (4, .int v4), (5, .int v5)] [] (V_M x.1.2.2 am0 am1 am2 am3 am4 am5 am6 am7 am8 am9 am10 am11 am12 am13 am14 m_said m_tries m_state m_images m_isKept m_pad m_leftOf m_rightOf m_isApart m_group m_isPair m_isOne m_order m_rest m_aside m_others) 0 0 (QV x (V_M x.1.2.2 am0 am1 am2 am3 am4 am5 am6 am7 am8 am9 am10 am11 am12 am13 am14 m_said m_tries m_state m_images m_isKept m_pad m_leftOf m_rightOf m_isApart m_group m_isPair m_isOne q_m_order q_m_rest m_aside m_others)) := by
  unfold J_X6_layBest_98 at h
  refine p_iconst (v := (0 : Int32)) C dX6_layBest_98 rfl (by decide) ?_
  refine p_locals [0, 1, 2, 3, 4, 5] (lv' := [(0, .ref am0), (1, .int v1), (2, .int v2), (3, .int v3), (4, .int v4), (5, .int v5)]) rfl ?_
  exact tj_X6_layBest_99 C (fun u0 u1 h => hk31 u0 u1 h) (fun u0 u1 u2 u3 h => hk11 u0 u1 u2 u3 h) h
def J_X6_layBest_57 (m_tries : Int32) (m_state : Ar) (m_leftOf : Ar) (m_rightOf : Ar) (m_order : Ar) (m_rest : Ar) (k31 : Int32 → Int32 → Option (Ar × Ar)) (k11 : Int32 → Int32 → Int32 → Ar → Option (Ar × Ar)) (e0 : Int32) (v1 : Int32) (v2 : Int32) (v3 : Int32) (v4 : Int32) (v5 : Int32) : Option (Ar × Ar) := bd1 (m_X6_timeOf m_state m_leftOf m_rightOf e0 v5) (fun r1 => grd (gI ((((11 : Int32)) * (v1 ||| (((1 : Int32)) <<< (v5 &&& 31)))) + v5) 11264) (grd (gI ((((11 : Int32)) * v1) + v2) 11264) (if (r1 + (m_rest ((((11 : Int32)) * (v1 ||| (((1 : Int32)) <<< (v5 &&& 31)))) + v5).toNatClampNeg)) = (m_rest ((((11 : Int32)) * v1) + v2).toNatClampNeg) then (J_X6_layBest_99 m_tries m_state m_leftOf m_rightOf m_order m_rest (k31) (k11) ((1 : Int32)) v1 v2 v3 v4 v5) else (J_X6_layBest_98 m_tries m_state m_leftOf m_rightOf m_order m_rest (k31) (k11) v1 v2 v3 v4 v5))))
set_option maxHeartbeats 4000000 in
set_option maxRecDepth 100000 in
theorem tj_X6_layBest_57 {x : Cxt} {am0 am1 am2 am3 am4 am5 am6 am7 am8 am9 am10 am11 am12 am13 am14 : Nat} {m_said : Int32} {m_tries : Int32} {m_state : Ar} {m_images : Ar} {m_isKept : Ar} {m_pad : Ar} {m_leftOf : Ar} {m_rightOf : Ar} {m_isApart : Ar} {m_group : Ar} {m_isPair : Ar} {m_isOne : Ar} {m_order : Ar} {m_rest : Ar} {m_aside : Ar} {m_others : Ar} {k31 : Int32 → Int32 → Option (Ar × Ar)} {k11 : Int32 → Int32 → Int32 → Ar → Option (Ar × Ar)} {e0 : Int32} {v1 : Int32} {v2 : Int32} {v3 : Int32} {v4 : Int32} {v5 : Int32} {q_m_order : Ar} {q_m_rest : Ar} (C : CX RX6 cX6_layBest 7 none x) (hk31 : ∀ (w4 : Int32) (w5 : Int32) , k31 w4 w5 = some (q_m_order, q_m_rest) → PT (RM 4 97) 7 x 31 [(0, .ref am0), (1, .int v1), (2, .int v2), (3, .int v3), (4, .int w4), (5, .int w5)] [] (V_M x.1.2.2 am0 am1 am2 am3 am4 am5 am6 am7 am8 am9 am10 am11 am12 am13 am14 m_said m_tries m_state m_images m_isKept m_pad m_leftOf m_rightOf m_isApart m_group m_isPair m_isOne m_order m_rest m_aside m_others) 0 0 (QV x (V_M x.1.2.2 am0 am1 am2 am3 am4 am5 am6 am7 am8 am9 am10 am11 am12 am13 am14 m_said m_tries m_state m_images m_isKept m_pad m_leftOf m_rightOf m_isApart m_group m_isPair m_isOne q_m_order q_m_rest m_aside m_others))) (hk11 : ∀ (w1 : Int32) (w2 : Int32) (w3 : Int32) (w_m_order : Ar), k11 w1 w2 w3 w_m_order = some (q_m_order, q_m_rest) → PT (RM 4 97) 7 x 11 [(0, .ref am0), (1, .int w1), (2, .int w2), (3, .int w3)] [] (V_M x.1.2.2 am0 am1 am2 am3 am4 am5 am6 am7 am8 am9 am10 am11 am12 am13 am14 m_said m_tries m_state m_images m_isKept m_pad m_leftOf m_rightOf m_isApart m_group m_isPair m_isOne w_m_order m_rest m_aside m_others) 0 0 (QV x (V_M x.1.2.2 am0 am1 am2 am3 am4 am5 am6 am7 am8 am9 am10 am11 am12 am13 am14 m_said m_tries m_state m_images m_isKept m_pad m_leftOf m_rightOf m_isApart m_group m_isPair m_isOne q_m_order q_m_rest m_aside m_others))) (h : J_X6_layBest_57 m_tries m_state m_leftOf m_rightOf m_order m_rest k31 k11 e0 v1 v2 v3 v4 v5 = some (q_m_order, q_m_rest)) : PT (RM 4 97) 7 x 57 [(0, .ref am0), (1, .int v1), (2, .int v2), (3, .int v3), (4, .int v4), (5, .int v5)] [.int e0, .ref am0] (V_M x.1.2.2 am0 am1 am2 am3 am4 am5 am6 am7 am8 am9 am10 am11 am12 am13 am14 m_said m_tries m_state m_images m_isKept m_pad m_leftOf m_rightOf m_isApart m_group m_isPair m_isOne m_order m_rest m_aside m_others) 0 0 (QV x (V_M x.1.2.2 am0 am1 am2 am3 am4 am5 am6 am7 am8 am9 am10 am11 am12 am13 am14 m_said m_tries m_state m_images m_isKept m_pad m_leftOf m_rightOf m_isApart m_group m_isPair m_isOne q_m_order q_m_rest m_aside m_others)) := by
  unfold J_X6_layBest_57 at h
  refine p_iload C dX6_layBest_57 rfl 5 rfl ?_
  obtain ⟨r1, hc2, h⟩ := bd1_of h
  refine p_callVi (As := [.int e0, .int v5]) (st' := []) (Wd' := (V_M x.1.2.2 am0 am1 am2 am3 am4 am5 am6 am7 am8 am9 am10 am11 am12 am13 am14 m_said m_tries m_state m_images m_isKept m_pad m_leftOf m_rightOf m_isApart m_group m_isPair m_isOne m_order m_rest m_aside m_others)) C (c_X6_timeOf x.1 (am0 := am0) (am1 := am1) (am2 := am2) (am3 := am3) (am4 := am4) (am5 := am5) (am6 := am6) (am7 := am7) (am8 := am8) (am9 := am9) (am10 := am10) (am11 := am11) (am12 := am12) (am13 := am13) (am14 := am14) (m_said := m_said) (m_tries := m_tries) (m_images := m_images) (m_isKept := m_isKept) (m_pad := m_pad) (m_isApart := m_isApart) (m_group := m_group) (m_isPair := m_isPair) (m_isOne := m_isOne) (m_order := m_order) (m_rest := m_rest) (m_aside := m_aside) (m_others := m_others) hc2) dX6_layBest_59 rfl ml_X6_123 kv_X6_timeOf ds_X6_timeOf ⟨rfl, rfl, by decide, by decide⟩ 0 rfl rfl [0, 1, 2, 3, 4, 5, 6, 7, 8, 9, 10, 11, 12, 13, 14] rfl rfl rfl rfl (by decide) ⟨by decide, by decide⟩ rfl ?_
  refine p_aload_n C dX6_layBest_62 rfl 0 rfl ?_
  refine p_get C dX6_layBest_63 rfl 0 13 inlX6 fl_X6_44 rfl rfl (by decide) rfl rfl ?_
  refine p_bipush (v := (11 : Int32)) C dX6_layBest_66 rfl (by decide) ?_
  refine p_iload_n C dX6_layBest_68 rfl 1 rfl ?_
  refine p_iconst (v := (1 : Int32)) C dX6_layBest_69 rfl (by decide) ?_
  refine p_iload C dX6_layBest_70 rfl 5 rfl ?_
  refine p_ishl C dX6_layBest_72 rfl ?_
  refine p_ior C dX6_layBest_73 rfl ?_
  refine p_imul C dX6_layBest_74 rfl ?_
  refine p_iload C dX6_layBest_75 rfl 5 rfl ?_
  refine p_iadd C dX6_layBest_77 rfl ?_
  obtain ⟨g3, h⟩ := grd_of h
  refine p_iald C dX6_layBest_78 rfl 12 rfl g3 ?_
  refine p_iadd C dX6_layBest_79 rfl ?_
  refine p_aload_n C dX6_layBest_80 rfl 0 rfl ?_
  refine p_get C dX6_layBest_81 rfl 0 13 inlX6 fl_X6_44 rfl rfl (by decide) rfl rfl ?_
  refine p_bipush (v := (11 : Int32)) C dX6_layBest_84 rfl (by decide) ?_
  refine p_iload_n C dX6_layBest_86 rfl 1 rfl ?_
  refine p_imul C dX6_layBest_87 rfl ?_
  refine p_iload_n C dX6_layBest_88 rfl 2 rfl ?_
  refine p_iadd C dX6_layBest_89 rfl ?_
  obtain ⟨g4, h⟩ := grd_of h
  refine p_iald C dX6_layBest_90 rfl 12 rfl g4 ?_
  refine p_icmp_ne C dX6_layBest_91 (tgt := 98) (by decide) rfl (fun c5 => ?_) (fun c5 => ?_)
  · have h := if_f c5 h
    refine p_locals [0, 1, 2, 3, 4, 5] (lv' := [(0, .ref am0), (1, .int v1), (2, .int v2), (3, .int v3), (4, .int v4), (5, .int v5)]) rfl ?_
    exact tj_X6_layBest_98 C (fun u0 u1 h => hk31 u0 u1 h) (fun u0 u1 u2 u3 h => hk11 u0 u1 u2 u3 h) h
  · have h := if_t c5 h
    refine p_iconst (v := (1 : Int32)) C dX6_layBest_94 rfl (by decide) ?_
    refine p_goto C dX6_layBest_95 (pc' := 99) (by decide) ?_
    refine p_locals [0, 1, 2, 3, 4, 5] (lv' := [(0, .ref am0), (1, .int v1), (2, .int v2), (3, .int v3), (4, .int v4), (5, .int v5)]) rfl ?_
    exact tj_X6_layBest_99 C (fun u0 u1 h => hk31 u0 u1 h) (fun u0 u1 u2 u3 h => hk11 u0 u1 u2 u3 h) h
def B_X6_layBest_31 (m_tries : Int32) (m_state : Ar) (m_leftOf : Ar) (m_rightOf : Ar) (m_order : Ar) (m_rest : Ar) (k11 : Int32 → Int32 → Int32 → Ar → Option (Ar × Ar)) (v1 : Int32) (v2 : Int32) (v3 : Int32) (kk : Int32 → Int32 → Option (Ar × Ar)) (v4 : Int32) (v5 : Int32)  : Option (Ar × Ar) := if v5 < 0 then (grd (gI v3 16) (k11 (v1 ||| (((1 : Int32)) <<< (v4 &&& 31))) v4 (v3 + 1) (upd m_order v3.toNatClampNeg v4))) else (if ((v1 >>> (v5 &&& 31)) &&& ((1 : Int32))) = 0 then (if v2 = ((10 : Int32)) then (J_X6_layBest_57 m_tries m_state m_leftOf m_rightOf m_order m_rest (kk) (k11) ((-1 : Int32)) v1 v2 v3 v4 v5) else (J_X6_layBest_57 m_tries m_state m_leftOf m_rightOf m_order m_rest (kk) (k11) v2 v1 v2 v3 v4 v5)) else (J_X6_layBest_98 m_tries m_state m_leftOf m_rightOf m_order m_rest (kk) (k11) v1 v2 v3 v4 v5))
def L_X6_layBest_31 (m_tries : Int32) (m_state : Ar) (m_leftOf : Ar) (m_rightOf : Ar) (m_order : Ar) (m_rest : Ar) (k11 : Int32 → Int32 → Int32 → Ar → Option (Ar × Ar)) (v1 : Int32) (v2 : Int32) (v3 : Int32) : Nat → Int32 → Int32 → Option (Ar × Ar) := lpG (fun _ _ => none) (B_X6_layBest_31 m_tries m_state m_leftOf m_rightOf m_order m_rest k11 v1 v2 v3)
set_option maxHeartbeats 4000000 in
set_option maxRecDepth 100000 in
theorem tl_X6_layBest_31 {x : Cxt} {am0 am1 am2 am3 am4 am5 am6 am7 am8 am9 am10 am11 am12 am13 am14 : Nat} {m_said : Int32} {m_tries : Int32} {m_state : Ar} {m_images : Ar} {m_isKept : Ar} {m_pad : Ar} {m_leftOf : Ar} {m_rightOf : Ar} {m_isApart : Ar} {m_group : Ar} {m_isPair : Ar} {m_isOne : Ar} {m_order : Ar} {m_rest : Ar} {m_aside : Ar} {m_others : Ar} {k11 : Int32 → Int32 → Int32 → Ar → Option (Ar × Ar)} {v1 : Int32} {v2 : Int32} {v3 : Int32} {q_m_order : Ar} {q_m_rest : Ar} (C : CX RX6 cX6_layBest 7 none x) (hk11 : ∀ (w1 : Int32) (w2 : Int32) (w3 : Int32) (w_m_order : Ar), k11 w1 w2 w3 w_m_order = some (q_m_order, q_m_rest) → PT (RM 4 97) 7 x 11 [(0, .ref am0), (1, .int w1), (2, .int w2), (3, .int w3)] [] (V_M x.1.2.2 am0 am1 am2 am3 am4 am5 am6 am7 am8 am9 am10 am11 am12 am13 am14 m_said m_tries m_state m_images m_isKept m_pad m_leftOf m_rightOf m_isApart m_group m_isPair m_isOne w_m_order m_rest m_aside m_others) 0 0 (QV x (V_M x.1.2.2 am0 am1 am2 am3 am4 am5 am6 am7 am8 am9 am10 am11 am12 am13 am14 m_said m_tries m_state m_images m_isKept m_pad m_leftOf m_rightOf m_isApart m_group m_isPair m_isOne q_m_order q_m_rest m_aside m_others))) : ∀ (n : Nat) (v4 : Int32) (v5 : Int32) , L_X6_layBest_31 m_tries m_state m_leftOf m_rightOf m_order m_rest k11 v1 v2 v3 n v4 v5 = some (q_m_order, q_m_rest) → PT (RM 4 97) 7 x 31 [(0, .ref am0), (1, .int v1), (2, .int v2), (3, .int v3), (4, .int v4), (5, .int v5)] [] (V_M x.1.2.2 am0 am1 am2 am3 am4 am5 am6 am7 am8 am9 am10 am11 am12 am13 am14 m_said m_tries m_state m_images m_isKept m_pad m_leftOf m_rightOf m_isApart m_group m_isPair m_isOne m_order m_rest m_aside m_others) 0 0 (QV x (V_M x.1.2.2 am0 am1 am2 am3 am4 am5 am6 am7 am8 am9 am10 am11 am12 am13 am14 m_said m_tries m_state m_images m_isKept m_pad m_leftOf m_rightOf m_isApart m_group m_isPair m_isOne q_m_order q_m_rest m_aside m_others)) := by
  intro n
  induction n with
  | zero =>
    intro v4 v5 h
    cases h
  | succ n ih =>
    intro v4 v5 h
    have h : B_X6_layBest_31 m_tries m_state m_leftOf m_rightOf m_order m_rest k11 v1 v2 v3 (L_X6_layBest_31 m_tries m_state m_leftOf m_rightOf m_order m_rest k11 v1 v2 v3 n) v4 v5 = some (q_m_order, q_m_rest) := h
    unfold B_X6_layBest_31 at h
    refine p_iload C dX6_layBest_31 rfl 5 rfl ?_
    refine p_if_lt C dX6_layBest_33 (tgt := 121) (by decide) rfl (fun c1 => ?_) (fun c1 => ?_)
    · have h := if_t c1 h
      refine p_aload_n C dX6_layBest_121 rfl 0 rfl ?_
      refine p_get C dX6_layBest_122 rfl 0 12 inlX6 fl_X6_41 rfl rfl (by decide) rfl rfl ?_
      refine p_iload_n C dX6_layBest_125 rfl 3 rfl ?_
      refine p_iload C dX6_layBest_126 rfl 4 rfl ?_
      obtain ⟨g2, h⟩ := grd_of h
      refine p_iast (Wd' := (V_M x.1.2.2 am0 am1 am2 am3 am4 am5 am6 am7 am8 am9 am10 am11 am12 am13 am14 m_said m_tries m_state m_images m_isKept m_pad m_leftOf m_rightOf m_isApart m_group m_isPair m_isOne (upd m_order v3.toNatClampNeg v4) m_rest m_aside m_others)) C dX6_layBest_128 rfl 11 rfl g2 rfl ?_
      refine p_iload_n C dX6_layBest_129 rfl 1 rfl ?_
      refine p_iconst (v := (1 : Int32)) C dX6_layBest_130 rfl (by decide) ?_
      refine p_iload C dX6_layBest_131 rfl 4 rfl ?_
      refine p_ishl C dX6_layBest_133 rfl ?_
      refine p_ior C dX6_layBest_134 rfl ?_
      refine p_istore_n (lv' := [(1, .int (v1 ||| (((1 : Int32)) <<< (v4 &&& 31)))), (0, .ref am0), (2, .int v2), (3, .int v3), (4, .int v4), (5, .int v5)]) C dX6_layBest_135 rfl (by decide) rfl ?_
      refine p_iload C dX6_layBest_136 rfl 4 rfl ?_
      refine p_istore_n (lv' := [(2, .int v4), (1, .int (v1 ||| (((1 : Int32)) <<< (v4 &&& 31)))), (0, .ref am0), (3, .int v3), (4, .int v4), (5, .int v5)]) C dX6_layBest_138 rfl (by decide) rfl ?_
      refine p_iinc (w := v3 + 1) (lv' := [(3, .int (v3 + 1)), (2, .int v4), (1, .int (v1 ||| (((1 : Int32)) <<< (v4 &&& 31)))), (0, .ref am0), (4, .int v4), (5, .int v5)]) C dX6_layBest_139 rfl 3 rfl rfl (by decide) rfl ?_
      refine p_goto C dX6_layBest_142 (pc' := 11) (by decide) ?_
      refine p_locals [3, 2, 1, 0] (lv' := [(0, .ref am0), (1, .int (v1 ||| (((1 : Int32)) <<< (v4 &&& 31)))), (2, .int v4), (3, .int (v3 + 1))]) rfl ?_
      exact hk11 _ _ _ _ h
    · have h := if_f c1 h
      refine p_iload_n C dX6_layBest_36 rfl 1 rfl ?_
      refine p_iload C dX6_layBest_37 rfl 5 rfl ?_
      refine p_ishr C dX6_layBest_39 rfl ?_
      refine p_iconst (v := (1 : Int32)) C dX6_layBest_40 rfl (by decide) ?_
      refine p_iand C dX6_layBest_41 rfl ?_
      refine p_if_ne C dX6_layBest_42 (tgt := 98) (by decide) rfl (fun c3 => ?_) (fun c3 => ?_)
      · have h := if_f c3 h
        refine p_locals [0, 1, 2, 3, 4, 5] (lv' := [(0, .ref am0), (1, .int v1), (2, .int v2), (3, .int v3), (4, .int v4), (5, .int v5)]) rfl ?_
        exact tj_X6_layBest_98 C (fun u0 u1 h => ih u0 u1 h) (fun u0 u1 u2 u3 h => hk11 u0 u1 u2 u3 h) h
      · have h := if_t c3 h
        refine p_aload_n C dX6_layBest_45 rfl 0 rfl ?_
        refine p_iload_n C dX6_layBest_46 rfl 2 rfl ?_
        refine p_bipush (v := (10 : Int32)) C dX6_layBest_47 rfl (by decide) ?_
        refine p_icmp_ne C dX6_layBest_49 (tgt := 56) (by decide) rfl (fun c4 => ?_) (fun c4 => ?_)
        · have h := if_f c4 h
          refine p_iload_n C dX6_layBest_56 rfl 2 rfl ?_
          refine p_locals [0, 1, 2, 3, 4, 5] (lv' := [(0, .ref am0), (1, .int v1), (2, .int v2), (3, .int v3), (4, .int v4), (5, .int v5)]) rfl ?_
          exact tj_X6_layBest_57 C (fun u0 u1 h => ih u0 u1 h) (fun u0 u1 u2 u3 h => hk11 u0 u1 u2 u3 h) h
        · have h := if_t c4 h
          refine p_iconst (v := (-1 : Int32)) C dX6_layBest_52 rfl (by decide) ?_
          refine p_goto C dX6_layBest_53 (pc' := 57) (by decide) ?_
          refine p_locals [0, 1, 2, 3, 4, 5] (lv' := [(0, .ref am0), (1, .int v1), (2, .int v2), (3, .int v3), (4, .int v4), (5, .int v5)]) rfl ?_
          exact tj_X6_layBest_57 C (fun u0 u1 h => ih u0 u1 h) (fun u0 u1 u2 u3 h => hk11 u0 u1 u2 u3 h) h
def B_X6_layBest_11 (m_tries : Int32) (m_state : Ar) (m_leftOf : Ar) (m_rightOf : Ar) (m_rest : Ar)   (kk : Int32 → Int32 → Int32 → Ar → Option (Ar × Ar)) (v1 : Int32) (v2 : Int32) (v3 : Int32) (m_order : Ar) : Option (Ar × Ar) := if m_tries ≤ v3 then (some (m_order, m_rest)) else (L_X6_layBest_31 m_tries m_state m_leftOf m_rightOf m_order m_rest kk v1 v2 v3 FU ((-6 : Int32)) (m_tries - ((1 : Int32))))
def L_X6_layBest_11 (m_tries : Int32) (m_state : Ar) (m_leftOf : Ar) (m_rightOf : Ar) (m_rest : Ar)   : Nat → Int32 → Int32 → Int32 → Ar → Option (Ar × Ar) := lpG (fun _ _ _ _ => none) (B_X6_layBest_11 m_tries m_state m_leftOf m_rightOf m_rest)
set_option maxHeartbeats 4000000 in
set_option maxRecDepth 100000 in
theorem tl_X6_layBest_11 {x : Cxt} {am0 am1 am2 am3 am4 am5 am6 am7 am8 am9 am10 am11 am12 am13 am14 : Nat} {m_said : Int32} {m_tries : Int32} {m_state : Ar} {m_images : Ar} {m_isKept : Ar} {m_pad : Ar} {m_leftOf : Ar} {m_rightOf : Ar} {m_isApart : Ar} {m_group : Ar} {m_isPair : Ar} {m_isOne : Ar} {m_rest : Ar} {m_aside : Ar} {m_others : Ar}   {q_m_order : Ar} {q_m_rest : Ar} (C : CX RX6 cX6_layBest 7 none x)  : ∀ (n : Nat) (v1 : Int32) (v2 : Int32) (v3 : Int32) (m_order : Ar), L_X6_layBest_11 m_tries m_state m_leftOf m_rightOf m_rest n v1 v2 v3 m_order = some (q_m_order, q_m_rest) → PT (RM 4 97) 7 x 11 [(0, .ref am0), (1, .int v1), (2, .int v2), (3, .int v3)] [] (V_M x.1.2.2 am0 am1 am2 am3 am4 am5 am6 am7 am8 am9 am10 am11 am12 am13 am14 m_said m_tries m_state m_images m_isKept m_pad m_leftOf m_rightOf m_isApart m_group m_isPair m_isOne m_order m_rest m_aside m_others) 0 0 (QV x (V_M x.1.2.2 am0 am1 am2 am3 am4 am5 am6 am7 am8 am9 am10 am11 am12 am13 am14 m_said m_tries m_state m_images m_isKept m_pad m_leftOf m_rightOf m_isApart m_group m_isPair m_isOne q_m_order q_m_rest m_aside m_others)) := by
  intro n
  induction n with
  | zero =>
    intro v1 v2 v3 m_order h
    cases h
  | succ n ih =>
    intro v1 v2 v3 m_order h
    have h : B_X6_layBest_11 m_tries m_state m_leftOf m_rightOf m_rest (L_X6_layBest_11 m_tries m_state m_leftOf m_rightOf m_rest n) v1 v2 v3 m_order = some (q_m_order, q_m_rest) := h
    unfold B_X6_layBest_11 at h
    refine p_iload_n C dX6_layBest_11 rfl 3 rfl ?_
    refine p_aload_n C dX6_layBest_12 rfl 0 rfl ?_
    refine p_get C dX6_layBest_13 rfl 0 8 inlX6 fl_X6_72 rfl rfl (by decide) rfl rfl ?_
    refine p_icmp_ge C dX6_layBest_16 (tgt := 145) (by decide) rfl (fun c1 => ?_) (fun c1 => ?_)
    · have h := if_t c1 h
      cases h
      exact p_vret C dX6_layBest_145
    · have h := if_f c1 h
      refine p_bipush (v := (-6 : Int32)) C dX6_layBest_19 rfl (by decide) ?_
      refine p_istore (lv' := [(4, .int ((-6 : Int32))), (0, .ref am0), (1, .int v1), (2, .int v2), (3, .int v3)]) C dX6_layBest_21 rfl (by decide) rfl ?_
      refine p_aload_n C dX6_layBest_23 rfl 1 rfl ?_
      refine p_get C dX6_layBest_24 rfl 0 8 inlX6 fl_X6_72 rfl rfl (by decide) rfl rfl ?_
      refine p_iconst (v := (1 : Int32)) C dX6_layBest_27 rfl (by decide) ?_
      refine p_isub C dX6_layBest_28 rfl ?_
      refine p_istore (lv' := [(5, .int (m_tries - ((1 : Int32)))), (4, .int ((-6 : Int32))), (0, .ref am0), (1, .int v1), (2, .int v2), (3, .int v3)]) C dX6_layBest_29 rfl (by decide) rfl ?_
      refine p_locals [2, 3, 4, 5, 1, 0] (lv' := [(0, .ref am0), (1, .int v1), (2, .int v2), (3, .int v3), (4, .int ((-6 : Int32))), (5, .int (m_tries - ((1 : Int32))))]) rfl ?_
      exact tl_X6_layBest_31 C (fun u0 u1 u2 u3 h => ih u0 u1 u2 u3 h) FU _ _ h
def m_X6_layBest (m_tries : Int32) (m_state : Ar) (m_leftOf : Ar) (m_rightOf : Ar) (m_order : Ar) (m_rest : Ar)  : Option (Ar × Ar) := bd1 (m_X6_layRest m_tries m_state m_leftOf m_rightOf m_rest) (fun z_rest1 => L_X6_layBest_11 m_tries m_state m_leftOf m_rightOf z_rest1 FU ((0 : Int32)) ((10 : Int32)) ((0 : Int32)) m_order)
theorem ds_X6_layBest : (yX6_layBest).cls ≠ "java/lang/invoke/MethodHandle" ∧ (yX6_layBest).cls ≠ "java/lang/invoke/VarHandle" ∧ (parseMethodDescriptor (yX6_layBest).desc).map (fun d => d.parameters.length) = some 0 := by decide +kernel
set_option maxHeartbeats 4000000 in
set_option maxRecDepth 100000 in
theorem c_X6_layBest (E : En) {am0 am1 am2 am3 am4 am5 am6 am7 am8 am9 am10 am11 am12 am13 am14 : Nat} {m_said : Int32} {m_tries : Int32} {m_state : Ar} {m_images : Ar} {m_isKept : Ar} {m_pad : Ar} {m_leftOf : Ar} {m_rightOf : Ar} {m_isApart : Ar} {m_group : Ar} {m_isPair : Ar} {m_isOne : Ar} {m_order : Ar} {m_rest : Ar} {m_aside : Ar} {m_others : Ar}  {q_m_order : Ar} {q_m_rest : Ar} (h : m_X6_layBest m_tries m_state m_leftOf m_rightOf m_order m_rest = some (q_m_order, q_m_rest)) : Cv E yX6_layBest (wU yX6_layBest cX6_layBest 7 none) (RM 4 97) [.ref am0] (V_M E.2.2 am0 am1 am2 am3 am4 am5 am6 am7 am8 am9 am10 am11 am12 am13 am14 m_said m_tries m_state m_images m_isKept m_pad m_leftOf m_rightOf m_isApart m_group m_isPair m_isOne m_order m_rest m_aside m_others) (V_M E.2.2 am0 am1 am2 am3 am4 am5 am6 am7 am8 am9 am10 am11 am12 am13 am14 m_said m_tries m_state m_images m_isKept m_pad m_leftOf m_rightOf m_isApart m_group m_isPair m_isOne q_m_order q_m_rest m_aside m_others) := by
  refine Cv.of (by decide) (Nat.le_of_ble_eq_true rfl) ?_
  intro x hE C
  subst hE
  have C : CX RX6 cX6_layBest 7 none x := C
  refine p_locals [0] (lv' := [(0, .ref am0)]) rfl ?_
  unfold m_X6_layBest at h
  refine p_aload_n C dX6_layBest_0 rfl 0 rfl ?_
  obtain ⟨z_rest1, hc2, h⟩ := bd1_of h
  refine p_callVv (As := []) (st' := []) (Wd' := (V_M x.1.2.2 am0 am1 am2 am3 am4 am5 am6 am7 am8 am9 am10 am11 am12 am13 am14 m_said m_tries m_state m_images m_isKept m_pad m_leftOf m_rightOf m_isApart m_group m_isPair m_isOne m_order z_rest1 m_aside m_others)) C (c_X6_layRest x.1 (am0 := am0) (am1 := am1) (am2 := am2) (am3 := am3) (am4 := am4) (am5 := am5) (am6 := am6) (am7 := am7) (am8 := am8) (am9 := am9) (am10 := am10) (am11 := am11) (am12 := am12) (am13 := am13) (am14 := am14) (m_said := m_said) (m_images := m_images) (m_isKept := m_isKept) (m_pad := m_pad) (m_isApart := m_isApart) (m_group := m_group) (m_isPair := m_isPair) (m_isOne := m_isOne) (m_order := m_order) (m_aside := m_aside) (m_others := m_others) hc2) dX6_layBest_1 rfl ml_X6_135 kv_X6_layRest ds_X6_layRest ⟨rfl, rfl, by decide, by decide⟩ 0 rfl rfl [0, 1, 2, 3, 4, 5, 6, 7, 8, 9, 10, 11, 12, 13, 14] rfl rfl rfl rfl (by decide) ⟨by decide, by decide⟩ rfl ?_
  refine p_iconst (v := (0 : Int32)) C dX6_layBest_4 rfl (by decide) ?_
  refine p_istore_n (lv' := [(1, .int ((0 : Int32))), (0, .ref am0)]) C dX6_layBest_5 rfl (by decide) rfl ?_
  refine p_bipush (v := (10 : Int32)) C dX6_layBest_6 rfl (by decide) ?_
  refine p_istore_n (lv' := [(2, .int ((10 : Int32))), (1, .int ((0 : Int32))), (0, .ref am0)]) C dX6_layBest_8 rfl (by decide) rfl ?_
  refine p_iconst (v := (0 : Int32)) C dX6_layBest_9 rfl (by decide) ?_
  refine p_istore_n (lv' := [(3, .int ((0 : Int32))), (2, .int ((10 : Int32))), (1, .int ((0 : Int32))), (0, .ref am0)]) C dX6_layBest_10 rfl (by decide) rfl ?_
  refine p_locals [3, 2, 1, 0] (lv' := [(0, .ref am0), (1, .int ((0 : Int32))), (2, .int ((10 : Int32))), (3, .int ((0 : Int32)))]) rfl ?_
  exact tl_X6_layBest_11 C  FU _ _ _ _ h
