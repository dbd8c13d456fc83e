def J_X6_seen_38 (m_tries : Int32) (m_state : Ar) (m_leftOf : Ar) (m_rightOf : Ar) (m_isApart : Ar) (m_isOne : Ar) (k8 : Int32 → Int32 → Option (Int32 × Ar)) (e0 : Int32) (e1 : Int32) (v2 : Int32) : Option (Int32 × Ar) := k8 (e1 ||| e0) (v2 + 1)
set_option maxHeartbeats 4000000 in
set_option maxRecDepth 100000 in
theorem tj_X6_seen_38 {x : Cxt} {am0 am1 am2 am3 am4 am5 am6 am7 am8 am9 am10 am11 am12 am13 am14 : Nat} {m_said : Int32} {m_tries : Int32} {m_state : Ar} {m_images : Ar} {m_isKept : Ar} {m_pad : Ar} {m_leftOf : Ar} {m_rightOf : Ar} {m_isApart : Ar} {m_group : Ar} {m_isPair : Ar} {m_isOne : Ar} {m_order : Ar} {m_rest : Ar} {m_aside : Ar} {m_others : Ar} {k8 : Int32 → Int32 → Option (Int32 × Ar)} {e0 : Int32} {e1 : Int32} {v2 : Int32} {rr : Int32} {q_m_isOne : Ar} (C : CX RX6 cX6_seen 3 (some .int) x) (hk8 : ∀ (w1 : Int32) (w2 : Int32) , k8 w1 w2 = some (rr, q_m_isOne) → PT (RM 2 45) 3 x 8 [(0, .ref am0), (1, .int w1), (2, .int w2)] [] (V_M x.1.2.2 am0 am1 am2 am3 am4 am5 am6 am7 am8 am9 am10 am11 am12 am13 am14 m_said m_tries m_state m_images m_isKept m_pad m_leftOf m_rightOf m_isApart m_group m_isPair m_isOne m_order m_rest m_aside m_others) 0 0 (QI x rr (V_M x.1.2.2 am0 am1 am2 am3 am4 am5 am6 am7 am8 am9 am10 am11 am12 am13 am14 m_said m_tries m_state m_images m_isKept m_pad m_leftOf m_rightOf m_isApart m_group m_isPair q_m_isOne m_order m_rest m_aside m_others))) (h : J_X6_seen_38 m_tries m_state m_leftOf m_rightOf m_isApart m_isOne k8 e0 e1 v2 = some (rr, q_m_isOne)) : PT (RM 2 45) 3 x 38 [(0, .ref am0), (2, .int v2)] [.int e0, .int e1] (V_M x.1.2.2 am0 am1 am2 am3 am4 am5 am6 am7 am8 am9 am10 am11 am12 am13 am14 m_said m_tries m_state m_images m_isKept m_pad m_leftOf m_rightOf m_isApart m_group m_isPair m_isOne m_order m_rest m_aside m_others) 0 0 (QI x rr (V_M x.1.2.2 am0 am1 am2 am3 am4 am5 am6 am7 am8 am9 am10 am11 am12 am13 am14 m_said m_tries m_state m_images m_isKept m_pad m_leftOf m_rightOf m_isApart m_group m_isPair q_m_isOne m_order m_rest m_aside m_others)) := by
  unfold J_X6_seen_38 at h
  refine p_ior C dX6_seen_38 rfl ?_
  refine p_istore_n (lv' := [(1, .int (e1 ||| e0)), (0, .ref am0), (2, .int v2)]) C dX6_seen_39 rfl (by decide) rfl ?_
  refine p_iinc (w := v2 + 1) (lv' := [(2, .int (v2 + 1)), (1, .int (e1 ||| e0)), (0, .ref am0)]) C dX6_seen_40 rfl 2 rfl rfl (by decide) rfl ?_
  refine p_goto C dX6_seen_43 (pc' := 8) (by decide) ?_
  refine p_locals [2, 1, 0] (lv' := [(0, .ref am0), (1, .int (e1 ||| e0)), (2, .int (v2 + 1))]) rfl ?_
  exact hk8 _ _ h
def B_X6_seen_8 (m_tries : Int32) (m_state : Ar) (m_leftOf : Ar) (m_rightOf : Ar) (m_isApart : Ar) (m_isOne : Ar)   (kk : Int32 → Int32 → Option (Int32 × Ar)) (v1 : Int32) (v2 : Int32)  : Option (Int32 × Ar) := if m_tries ≤ v2 then (some (v1, m_isOne)) else (bd1 (m_X6_conducts m_state m_leftOf m_rightOf m_isOne v2) (fun r2 => grd (gI v2 16) (if r2 = (m_isApart v2.toNatClampNeg) then (J_X6_seen_38 m_tries m_state m_leftOf m_rightOf m_isApart m_isOne (kk) (((1 : Int32)) <<< (v2 &&& 31)) v1 v2) else (J_X6_seen_38 m_tries m_state m_leftOf m_rightOf m_isApart m_isOne (kk) ((0 : Int32)) v1 v2))))
def L_X6_seen_8 (m_tries : Int32) (m_state : Ar) (m_leftOf : Ar) (m_rightOf : Ar) (m_isApart : Ar) (m_isOne : Ar)   : Nat → Int32 → Int32 → Option (Int32 × Ar) := lpG (fun _ _ => none) (B_X6_seen_8 m_tries m_state m_leftOf m_rightOf m_isApart m_isOne)
set_option maxHeartbeats 4000000 in
set_option maxRecDepth 100000 in
theorem tl_X6_seen_8 {x : Cxt} {am0 am1 am2 am3 am4 am5 am6 am7 am8 am9 am10 am11 am12 am13 am14 : Nat} {m_said : Int32} {m_tries : Int32} {m_state : Ar} {m_images : Ar} {m_isKept : Ar} {m_pad : Ar} {m_leftOf : Ar} {m_rightOf : Ar} {m_isApart : Ar} {m_group : Ar} {m_isPair : Ar} {m_isOne : Ar} {m_order : Ar} {m_rest : Ar} {m_aside : Ar} {m_others : Ar}   {rr : Int32} {q_m_isOne : Ar} (C : CX RX6 cX6_seen 3 (some .int) x)  : ∀ (n : Nat) (v1 : Int32) (v2 : Int32) , L_X6_seen_8 m_tries m_state m_leftOf m_rightOf m_isApart m_isOne n v1 v2 = some (rr, q_m_isOne) → PT (RM 2 45) 3 x 8 [(0, .ref am0), (1, .int v1), (2, .int v2)] [] (V_M x.1.2.2 am0 am1 am2 am3 am4 am5 am6 am7 am8 am9 am10 am11 am12 am13 am14 m_said m_tries m_state m_images m_isKept m_pad m_leftOf m_rightOf m_isApart m_group m_isPair m_isOne m_order m_rest m_aside m_others) 0 0 (QI x rr (V_M x.1.2.2 am0 am1 am2 am3 am4 am5 am6 am7 am8 am9 am10 am11 am12 am13 am14 m_said m_tries m_state m_images m_isKept m_pad m_leftOf m_rightOf m_isApart m_group m_isPair q_m_isOne m_order m_rest m_aside m_others)) := by
  intro n
  induction n with
  | zero =>
    intro v1 v2 h
    cases h
  | succ n ih =>
    intro v1 v2 h
    have h : B_X6_seen_8 m_tries m_state m_leftOf m_rightOf m_isApart m_isOne (L_X6_seen_8 m_tries m_state m_leftOf m_rightOf m_isApart m_isOne n) v1 v2 = some (rr, q_m_isOne) := h
    unfold B_X6_seen_8 at h
    refine p_iload_n C dX6_seen_8 rfl 2 rfl ?_
    refine p_aload_n C dX6_seen_9 rfl 0 rfl ?_
    refine p_get C dX6_seen_10 rfl 0 8 inlX6 fl_X6_72 rfl rfl (by decide) rfl rfl ?_
    refine p_icmp_ge C dX6_seen_13 (tgt := 46) (by decide) rfl (fun c1 => ?_) (fun c1 => ?_)
    · have h := if_t c1 h
      refine p_iload_n C dX6_seen_46 rfl 1 rfl ?_
      cases h
      exact p_iret C dX6_seen_47
    · have h := if_f c1 h
      refine p_iload_n C dX6_seen_16 rfl 1 rfl ?_
      refine p_aload_n C dX6_seen_17 rfl 0 rfl ?_
      refine p_iload_n C dX6_seen_18 rfl 2 rfl ?_
      obtain ⟨r2, hc3, h⟩ := bd1_of h
      refine p_callVi_s (As := [.int v2]) (st' := [.int v1]) (Wc' := (V_M x.1.2.2 am0 am1 am2 am3 am4 am5 am6 am7 am8 am9 am10 am11 am12 am13 am14 m_said m_tries m_state m_images m_isKept m_pad m_leftOf m_rightOf m_isApart m_group m_isPair m_isOne m_order m_rest m_aside m_others)) C (c_X6_conducts x.1 (am0 := am0) (am1 := am1) (am2 := am2) (am3 := am3) (am4 := am4) (am5 := am5) (am6 := am6) (am7 := am7) (am8 := am8) (am9 := am9) (am10 := am10) (am11 := am11) (am12 := am12) (am13 := am13) (am14 := am14) (m_said := m_said) (m_tries := m_tries) (m_images := m_images) (m_isKept := m_isKept) (m_pad := m_pad) (m_isApart := m_isApart) (m_group := m_group) (m_isPair := m_isPair) (m_order := m_order) (m_rest := m_rest) (m_aside := m_aside) (m_others := m_others) hc3) dX6_seen_19 rfl ml_X6_104 kv_X6_conducts ds_X6_conducts ⟨rfl, rfl, by decide, by decide⟩ 0 rfl rfl rfl rfl (Nat.le_of_ble_eq_true rfl) ⟨by decide, by decide⟩ ?_
      refine p_aload_n C dX6_seen_22 rfl 0 rfl ?_
      refine p_get C dX6_seen_23 rfl 0 7 inlX6 fl_X6_29 rfl rfl (by decide) rfl rfl ?_
      refine p_iload_n C dX6_seen_26 rfl 2 rfl ?_
      obtain ⟨g4, h⟩ := grd_of h
      refine p_zald C dX6_seen_27 rfl 7 rfl g4 ?_
      refine p_icmp_ne C dX6_seen_28 (tgt := 37) (by decide) rfl (fun c5 => ?_) (fun c5 => ?_)
      · have h := if_f c5 h
        refine p_iconst (v := (0 : Int32)) C dX6_seen_37 rfl (by decide) ?_
        refine p_locals [0, 2] (lv' := [(0, .ref am0), (2, .int v2)]) rfl ?_
        exact tj_X6_seen_38 C (fun u0 u1 h => ih u0 u1 h) h
      · have h := if_t c5 h
        refine p_iconst (v := (1 : Int32)) C dX6_seen_31 rfl (by decide) ?_
        refine p_iload_n C dX6_seen_32 rfl 2 rfl ?_
        refine p_ishl C dX6_seen_33 rfl ?_
        refine p_goto C dX6_seen_34 (pc' := 38) (by decide) ?_
        refine p_locals [0, 2] (lv' := [(0, .ref am0), (2, .int v2)]) rfl ?_
        exact tj_X6_seen_38 C (fun u0 u1 h => ih u0 u1 h) h
def m_X6_seen (m_tries : Int32) (m_state : Ar) (m_leftOf : Ar) (m_rightOf : Ar) (m_isApart : Ar) (m_isOne : Ar)  : Option (Int32 × Ar) := bd1 (m_X6_layOnes m_state m_isOne) (fun z_isOne1 => L_X6_seen_8 m_tries m_state m_leftOf m_rightOf m_isApart z_isOne1 FU ((0 : Int32)) ((0 : Int32)))
theorem ds_X6_seen : (yX6_seen).cls ≠ "java/lang/invoke/MethodHandle" ∧ (yX6_seen).cls ≠ "java/lang/invoke/VarHandle" ∧ (parseMethodDescriptor (yX6_seen).desc).map (fun d => d.parameters.length) = some 0 := by decide +kernel
set_option maxHeartbeats 4000000 in
set_option maxRecDepth 100000 in
theorem c_X6_seen (E : En) {am0 am1 am2 am3 am4 am5 am6 am7 am8 am9 am10 am11 am12 am13 am14 : Nat} {m_said : Int32} {m_tries : Int32} {m_state : Ar} {m_images : Ar} {m_isKept : Ar} {m_pad : Ar} {m_leftOf : Ar} {m_rightOf : Ar} {m_isApart : Ar} {m_group : Ar} {m_isPair : Ar} {m_isOne : Ar} {m_order : Ar} {m_rest : Ar} {m_aside : Ar} {m_others : Ar}  {rr : Int32} {q_m_isOne : Ar} (h : m_X6_seen m_tries m_state m_leftOf m_rightOf m_isApart m_isOne = some (rr, q_m_isOne)) : Ci E yX6_seen (wU yX6_seen cX6_seen 3 (some .int)) (RM 2 45) [.ref am0] (V_M E.2.2 am0 am1 am2 am3 am4 am5 am6 am7 am8 am9 am10 am11 am12 am13 am14 m_said m_tries m_state m_images m_isKept m_pad m_leftOf m_rightOf m_isApart m_group m_isPair m_isOne m_order m_rest m_aside m_others) (V_M E.2.2 am0 am1 am2 am3 am4 am5 am6 am7 am8 am9 am10 am11 am12 am13 am14 m_said m_tries m_state m_images m_isKept m_pad m_leftOf m_rightOf m_isApart m_group m_isPair q_m_isOne m_order m_rest m_aside m_others) rr := by
  refine Ci.of (by decide) (Nat.le_of_ble_eq_true rfl) ?_
  intro x hE C
  subst hE
  have C : CX RX6 cX6_seen 3 (some .int) x := C
  refine p_locals [0] (lv' := [(0, .ref am0)]) rfl ?_
  unfold m_X6_seen at h
  refine p_aload_n C dX6_seen_0 rfl 0 rfl ?_
  obtain ⟨z_isOne1, hc2, h⟩ := bd1_of h
  refine p_callVv_s (As := []) (st' := []) (Wc' := (V_M x.1.2.2 am0 am1 am2 am3 am4 am5 am6 am7 am8 am9 am10 am11 am12 am13 am14 m_said m_tries m_state m_images m_isKept m_pad m_leftOf m_rightOf m_isApart m_group m_isPair z_isOne1 m_order m_rest m_aside m_others)) C (c_X6_layOnes x.1 (am0 := am0) (am1 := am1) (am2 := am2) (am3 := am3) (am4 := am4) (am5 := am5) (am6 := am6) (am7 := am7) (am8 := am8) (am9 := am9) (am10 := am10) (am11 := am11) (am12 := am12) (am13 := am13) (am14 := am14) (m_said := m_said) (m_tries := m_tries) (m_images := m_images) (m_isKept := m_isKept) (m_pad := m_pad) (m_leftOf := m_leftOf) (m_rightOf := m_rightOf) (m_isApart := m_isApart) (m_group := m_group) (m_isPair := m_isPair) (m_order := m_order) (m_rest := m_rest) (m_aside := m_aside) (m_others := m_others) hc2) dX6_seen_1 rfl ml_X6_101 kv_X6_layOnes ds_X6_layOnes ⟨rfl, rfl, by decide, by decide⟩ 0 rfl rfl rfl rfl (by decide) ⟨by decide, by decide⟩ ?_
  refine p_iconst (v := (0 : Int32)) C dX6_seen_4 rfl (by decide) ?_
  refine p_istore_n (lv' := [(1, .int ((0 : Int32))), (0, .ref am0)]) C dX6_seen_5 rfl (by decide) rfl ?_
  refine p_iconst (v := (0 : Int32)) C dX6_seen_6 rfl (by decide) ?_
  refine p_istore_n (lv' := [(2, .int ((0 : Int32))), (1, .int ((0 : Int32))), (0, .ref am0)]) C dX6_seen_7 rfl (by decide) rfl ?_
  refine p_locals [2, 1, 0] (lv' := [(0, .ref am0), (1, .int ((0 : Int32))), (2, .int ((0 : Int32)))]) rfl ?_
  exact tl_X6_seen_8 C  FU _ _ h
def m_X6_attempt (m_tries : Int32) (m_state : Ar) (m_leftOf : Ar) (m_rightOf : Ar) (m_isApart : Ar) (m_group : Ar) (m_isPair : Ar) (m_isOne : Ar) (p1 : Int32) (p2 : Int32) : Option (Int32 × Int32 × Ar × Ar × Ar × Ar × Ar × Ar) := bd6 (m_X6_layTries m_tries m_state m_leftOf m_rightOf m_isApart m_group m_isPair) (fun z_tries1 z_leftOf2 z_rightOf3 z_isApart4 z_group5 z_isPair6 => bd1 (m_X6_isTry z_tries1 p1) (fun r8 => if r8 = 0 then (some ((-1 : Int32), z_tries1, z_leftOf2, z_rightOf3, z_isApart4, z_group5, z_isPair6, m_isOne)) else (bd2 (m_X6_seen z_tries1 m_state z_leftOf2 z_rightOf3 z_isApart4 m_isOne) (fun r11 z_isOne12 => if p2 = 0 then (grd (gI p1 16) (some (z_leftOf2 p1.toNatClampNeg, z_tries1, z_leftOf2, z_rightOf3, z_isApart4, z_group5, z_isPair6, z_isOne12))) else (if p2 = 1 then (grd (gI p1 16) (some (z_rightOf3 p1.toNatClampNeg, z_tries1, z_leftOf2, z_rightOf3, z_isApart4, z_group5, z_isPair6, z_isOne12))) else (if p2 = 2 then (grd (gI p1 16) (if (z_isApart4 p1.toNatClampNeg) = 0 then (some ((0 : Int32), z_tries1, z_leftOf2, z_rightOf3, z_isApart4, z_group5, z_isPair6, z_isOne12)) else (some ((1 : Int32), z_tries1, z_leftOf2, z_rightOf3, z_isApart4, z_group5, z_isPair6, z_isOne12)))) else (if p2 = 3 then (bd1 (m_X6_conducts m_state z_leftOf2 z_rightOf3 z_isOne12 p1) (fun r22 => if r22 = 0 then (some ((0 : Int32), z_tries1, z_leftOf2, z_rightOf3, z_isApart4, z_group5, z_isPair6, z_isOne12)) else (some ((1 : Int32), z_tries1, z_leftOf2, z_rightOf3, z_isApart4, z_group5, z_isPair6, z_isOne12)))) else (if p2 = 4 then (some ((r11 >>> (p1 &&& 31)) &&& ((1 : Int32)), z_tries1, z_leftOf2, z_rightOf3, z_isApart4, z_group5, z_isPair6, z_isOne12)) else (some ((-2 : Int32), z_tries1, z_leftOf2, z_rightOf3, z_isApart4, z_group5, z_isPair6, z_isOne12))))))))))
theorem ds_X6_attempt : (yX6_attempt).cls ≠ "java/lang/invoke/MethodHandle" ∧ (yX6_attempt).cls ≠ "java/lang/invoke/VarHandle" ∧ (parseMethodDescriptor (yX6_attempt).desc).map (fun d => d.parameters.length) = some 2 := by decide +kernel
set_option maxHeartbeats 4000000 in
set_option maxRecDepth 100000 in
theorem c_X6_attempt (E : En) {am0 am1 am2 am3 am4 am5 am6 am7 am8 am9 am10 am11 am12 am13 am14 : Nat} {m_said : Int32} {m_tries : Int32} {m_state : Ar} {m_images : Ar} {m_isKept : Ar} {m_pad : Ar} {m_leftOf : Ar} {m_rightOf : Ar} {m_isApart : Ar} {m_group : Ar} {m_isPair : Ar} {m_isOne : Ar} {m_order : Ar} {m_rest : Ar} {m_aside : Ar} {m_others : Ar} {p1 : Int32} {p2 : Int32} {rr : Int32} {q_m_tries : Int32} {q_m_leftOf : Ar} {q_m_rightOf : Ar} {q_m_isApart : Ar} {q_m_group : Ar} {q_m_isPair : Ar} {q_m_isOne : Ar} (h : m_X6_attempt m_tries m_state m_leftOf m_rightOf m_isApart m_group m_isPair m_isOne p1 p2 = some (rr, q_m_tries, q_m_leftOf, q_m_rightOf, q_m_isApart, q_m_group, q_m_isPair, q_m_isOne)) : Ci E yX6_attempt (wU yX6_attempt cX6_attempt 4 (some .int)) (RM 4 93) [.ref am0, .int p1, .int p2] (V_M E.2.2 am0 am1 am2 am3 am4 am5 am6 am7 am8 am9 am10 am11 am12 am13 am14 m_said m_tries m_state m_images m_isKept m_pad m_leftOf m_rightOf m_isApart m_group m_isPair m_isOne m_order m_rest m_aside m_others) (V_M E.2.2 am0 am1 am2 am3 am4 am5 am6 am7 am8 am9 am10 am11 am12 am13 am14 m_said q_m_tries m_state m_images m_isKept m_pad q_m_leftOf q_m_rightOf q_m_isApart q_m_group q_m_isPair q_m_isOne m_order m_rest m_aside m_others) rr := by
  refine Ci.of (by decide) (Nat.le_of_ble_eq_true rfl) ?_
  intro x hE C
  subst hE
  have C : CX RX6 cX6_attempt 4 (some .int) x := C
  refine p_locals [0, 1, 2] (lv' := [(0, .ref am0), (1, .int p1), (2, .int p2)]) rfl ?_
  unfold m_X6_attempt at h
  refine p_aload_n C dX6_attempt_0 rfl 0 rfl ?_
  obtain ⟨z_tries1, z_leftOf2, z_rightOf3, z_isApart4, z_group5, z_isPair6, hc7, h⟩ := bd6_of h
  refine p_callVv_s (As := []) (st' := []) (Wc' := (V_M x.1.2.2 am0 am1 am2 am3 am4 am5 am6 am7 am8 am9 am10 am11 am12 am13 am14 m_said z_tries1 m_state m_images m_isKept m_pad z_leftOf2 z_rightOf3 z_isApart4 z_group5 z_isPair6 m_isOne m_order m_rest m_aside m_others)) C (c_X6_layTries x.1 (am0 := am0) (am1 := am1) (am2 := am2) (am3 := am3) (am4 := am4) (am5 := am5) (am6 := am6) (am7 := am7) (am8 := am8) (am9 := am9) (am10 := am10) (am11 := am11) (am12 := am12) (am13 := am13) (am14 := am14) (m_said := m_said) (m_images := m_images) (m_isKept := m_isKept) (m_pad := m_pad) (m_isOne := m_isOne) (m_order := m_order) (m_rest := m_rest) (m_aside := m_aside) (m_others := m_others) hc7) dX6_attempt_1 rfl ml_X6_107 kv_X6_layTries ds_X6_layTries ⟨rfl, rfl, by decide, by decide⟩ 0 rfl rfl rfl rfl (by decide) ⟨by decide, by decide⟩ ?_
  refine p_aload_n C dX6_attempt_4 rfl 0 rfl ?_
  refine p_iload_n C dX6_attempt_5 rfl 1 rfl ?_
  obtain ⟨r8, hc9, h⟩ := bd1_of h
  refine p_callVi_s (As := [.int p1]) (st' := []) (Wc' := (V_M x.1.2.2 am0 am1 am2 am3 am4 am5 am6 am7 am8 am9 am10 am11 am12 am13 am14 m_said z_tries1 m_state m_images m_isKept m_pad z_leftOf2 z_rightOf3 z_isApart4 z_group5 z_isPair6 m_isOne m_order m_rest m_aside m_others)) C (c_X6_isTry x.1 (am0 := am0) (am1 := am1) (am2 := am2) (am3 := am3) (am4 := am4) (am5 := am5) (am6 := am6) (am7 := am7) (am8 := am8) (am9 := am9) (am10 := am10) (am11 := am11) (am12 := am12) (am13 := am13) (am14 := am14) (m_said := m_said) (m_state := m_state) (m_images := m_images) (m_isKept := m_isKept) (m_pad := m_pad) (m_leftOf := z_leftOf2) (m_rightOf := z_rightOf3) (m_isApart := z_isApart4) (m_group := z_group5) (m_isPair := z_isPair6) (m_isOne := m_isOne) (m_order := m_order) (m_rest := m_rest) (m_aside := m_aside) (m_others := m_others) hc9) dX6_attempt_6 rfl ml_X6_110 kv_X6_isTry ds_X6_isTry ⟨rfl, rfl, by decide, by decide⟩ 0 rfl rfl rfl rfl (by decide) ⟨by decide, by decide⟩ ?_
  refine p_if_ne C dX6_attempt_9 (tgt := 14) (by decide) rfl (fun c10 => ?_) (fun c10 => ?_)
  · have h := if_f c10 h
    refine p_aload_n C dX6_attempt_14 rfl 0 rfl ?_
    obtain ⟨r11, z_isOne12, hc13, h⟩ := bd2_of h
    refine p_callVi_s (As := []) (st' := []) (Wc' := (V_M x.1.2.2 am0 am1 am2 am3 am4 am5 am6 am7 am8 am9 am10 am11 am12 am13 am14 m_said z_tries1 m_state m_images m_isKept m_pad z_leftOf2 z_rightOf3 z_isApart4 z_group5 z_isPair6 z_isOne12 m_order m_rest m_aside m_others)) C (c_X6_seen x.1 (am0 := am0) (am1 := am1) (am2 := am2) (am3 := am3) (am4 := am4) (am5 := am5) (am6 := am6) (am7 := am7) (am8 := am8) (am9 := am9) (am10 := am10) (am11 := am11) (am12 := am12) (am13 := am13) (am14 := am14) (m_said := m_said) (m_images := m_images) (m_isKept := m_isKept) (m_pad := m_pad) (m_group := z_group5) (m_isPair := z_isPair6) (m_order := m_order) (m_rest := m_rest) (m_aside := m_aside) (m_others := m_others) hc13) dX6_attempt_15 rfl ml_X6_113 kv_X6_seen ds_X6_seen ⟨rfl, rfl, by decide, by decide⟩ 0 rfl rfl rfl rfl (by decide) ⟨by decide, by decide⟩ ?_
    refine p_istore_n (lv' := [(3, .int r11), (0, .ref am0), (1, .int p1), (2, .int p2)]) C dX6_attempt_18 rfl (by decide) rfl ?_
    refine p_iload_n C dX6_attempt_19 rfl 3 rfl ?_
    by_cases c14 : p2 = 0
    · have h := if_t c14 h
      refine p_tabIn C dX6_attempt_20 (pc' := 56) (off := 36) c14 (by decide +kernel) (by decide +kernel) (by decide +kernel) (by decide) ?_
      refine p_aload_n C dX6_attempt_56 rfl 1 rfl ?_
      refine p_get C dX6_attempt_57 rfl 0 5 inlX6 fl_X6_23 rfl rfl (by decide) rfl rfl ?_
      refine p_iload_n C dX6_attempt_60 rfl 2 rfl ?_
      obtain ⟨g15, h⟩ := grd_of h
      refine p_iald C dX6_attempt_61 rfl 5 rfl g15 ?_
      cases h
      exact p_iret C dX6_attempt_62
    · have h := if_f c14 h
      by_cases c16 : p2 = 1
      · have h := if_t c16 h
        refine p_tabIn C dX6_attempt_20 (pc' := 63) (off := 43) c16 (by decide +kernel) (by decide +kernel) (by decide +kernel) (by decide) ?_
        refine p_aload_n C dX6_attempt_63 rfl 1 rfl ?_
        refine p_get C dX6_attempt_64 rfl 0 6 inlX6 fl_X6_26 rfl rfl (by decide) rfl rfl ?_
        refine p_iload_n C dX6_attempt_67 rfl 2 rfl ?_
        obtain ⟨g17, h⟩ := grd_of h
        refine p_iald C dX6_attempt_68 rfl 6 rfl g17 ?_
        cases h
        exact p_iret C dX6_attempt_69
      · have h := if_f c16 h
        by_cases c18 : p2 = 2
        · have h := if_t c18 h
          refine p_tabIn C dX6_attempt_20 (pc' := 70) (off := 50) c18 (by decide +kernel) (by decide +kernel) (by decide +kernel) (by decide) ?_
          refine p_aload_n C dX6_attempt_70 rfl 1 rfl ?_
          refine p_get C dX6_attempt_71 rfl 0 7 inlX6 fl_X6_29 rfl rfl (by decide) rfl rfl ?_
          refine p_iload_n C dX6_attempt_74 rfl 2 rfl ?_
          obtain ⟨g19, h⟩ := grd_of h
          refine p_zald C dX6_attempt_75 rfl 7 rfl g19 ?_
          refine p_if_eq C dX6_attempt_76 (tgt := 83) (by decide) rfl (fun c20 => ?_) (fun c20 => ?_)
          · have h := if_t c20 h
            refine p_iconst (v := (0 : Int32)) C dX6_attempt_83 rfl (by decide) ?_
            cases h
            exact p_iret C dX6_attempt_84
          · have h := if_f c20 h
            refine p_iconst (v := (1 : Int32)) C dX6_attempt_79 rfl (by decide) ?_
            refine p_goto C dX6_attempt_80 (pc' := 84) (by decide) ?_
            cases h
            exact p_iret C dX6_attempt_84
        · have h := if_f c18 h
          by_cases c21 : p2 = 3
          · have h := if_t c21 h
            refine p_tabIn C dX6_attempt_20 (pc' := 85) (off := 65) c21 (by decide +kernel) (by decide +kernel) (by decide +kernel) (by decide) ?_
            refine p_aload_n C dX6_attempt_85 rfl 1 rfl ?_
            refine p_iload_n C dX6_attempt_86 rfl 2 rfl ?_
            obtain ⟨r22, hc23, h⟩ := bd1_of h
            refine p_callVi_s (As := [.int p1]) (st' := []) (Wc' := (V_M x.1.2.2 am0 am1 am2 am3 am4 am5 am6 am7 am8 am9 am10 am11 am12 am13 am14 m_said z_tries1 m_state m_images m_isKept m_pad z_leftOf2 z_rightOf3 z_isApart4 z_group5 z_isPair6 z_isOne12 m_order m_rest m_aside m_others)) C (c_X6_conducts x.1 (am0 := am0) (am1 := am1) (am2 := am2) (am3 := am3) (am4 := am4) (am5 := am5) (am6 := am6) (am7 := am7) (am8 := am8) (am9 := am9) (am10 := am10) (am11 := am11) (am12 := am12) (am13 := am13) (am14 := am14) (m_said := m_said) (m_tries := z_tries1) (m_images := m_images) (m_isKept := m_isKept) (m_pad := m_pad) (m_isApart := z_isApart4) (m_group := z_group5) (m_isPair := z_isPair6) (m_order := m_order) (m_rest := m_rest) (m_aside := m_aside) (m_others := m_others) hc23) dX6_attempt_87 rfl ml_X6_104 kv_X6_conducts ds_X6_conducts ⟨rfl, rfl, by decide, by decide⟩ 0 rfl rfl rfl rfl (by decide) ⟨by decide, by decide⟩ ?_
            refine p_if_eq C dX6_attempt_90 (tgt := 97) (by decide) rfl (fun c24 => ?_) (fun c24 => ?_)
            · have h := if_t c24 h
              refine p_iconst (v := (0 : Int32)) C dX6_attempt_97 rfl (by decide) ?_
              cases h
              exact p_iret C dX6_attempt_98
            · have h := if_f c24 h
              refine p_iconst (v := (1 : Int32)) C dX6_attempt_93 rfl (by decide) ?_
              refine p_goto C dX6_attempt_94 (pc' := 98) (by decide) ?_
              cases h
              exact p_iret C dX6_attempt_98
          · have h := if_f c21 h
            by_cases c25 : p2 = 4
            · have h := if_t c25 h
              refine p_tabIn C dX6_attempt_20 (pc' := 99) (off := 79) c25 (by decide +kernel) (by decide +kernel) (by decide +kernel) (by decide) ?_
              refine p_iload_n C dX6_attempt_99 rfl 0 rfl ?_
              refine p_iload_n C dX6_attempt_100 rfl 2 rfl ?_
              refine p_ishr C dX6_attempt_101 rfl ?_
              refine p_iconst (v := (1 : Int32)) C dX6_attempt_102 rfl (by decide) ?_
              refine p_iand C dX6_attempt_103 rfl ?_
              cases h
              exact p_iret C dX6_attempt_104
            · have h := if_f c25 h
              refine p_tabOut C dX6_attempt_20 (pc' := 105) (n := 5) (by decide) (by decide) (by intro k hk; match k, hk with | 0, _ => exact tabne (by decide) c14 | 1, _ => exact tabne (by decide) c16 | 2, _ => exact tabne (by decide) c18 | 3, _ => exact tabne (by decide) c21 | 4, _ => exact tabne (by decide) c25 | _ + 5, hk => exact absurd hk (by omega)) (by decide) ?_
              refine p_bipush (v := (-2 : Int32)) C dX6_attempt_105 rfl (by decide) ?_
              cases h
              exact p_iret C dX6_attempt_107
  · have h := if_t c10 h
    refine p_iconst (v := (-1 : Int32)) C dX6_attempt_12 rfl (by decide) ?_
    cases h
    exact p_iret C dX6_attempt_13
def m_X6_greater  (p0 : Int32) (p1 : Int32) : Option (Int32) := if p0 ≤ p1 then (some p1) else (some p0)
theorem ds_X6_greater : (yX6_greater).cls ≠ "java/lang/invoke/MethodHandle" ∧ (yX6_greater).cls ≠ "java/lang/invoke/VarHandle" ∧ (parseMethodDescriptor (yX6_greater).desc).map (fun d => d.parameters.length) = some 2 := by decide +kernel
set_option maxHeartbeats 4000000 in
set_option maxRecDepth 100000 in
theorem c_X6_greater (E : En)  {p0 : Int32} {p1 : Int32} {rr : Int32} (h : m_X6_greater p0 p1 = some rr) : Ci E yX6_greater (wU yX6_greater cX6_greater 2 (some .int)) (RM 0 0) [.int p0, .int p1] ([] : va_W) ([] : va_W) rr := by
  refine Ci.of (by decide) (Nat.le_of_ble_eq_true rfl) ?_
  intro x hE C
  subst hE
  have C : CX RX6 cX6_greater 2 (some .int) x := C
  refine p_locals [0, 1] (lv' := [(0, .int p0), (1, .int p1)]) rfl ?_
  unfold m_X6_greater at h
  refine p_iload_n C dX6_greater_0 rfl 0 rfl ?_
  refine p_iload_n C dX6_greater_1 rfl 1 rfl ?_
  refine p_icmp_le C dX6_greater_2 (tgt := 9) (by decide) rfl (fun c1 => ?_) (fun c1 => ?_)
  · have h := if_t c1 h
    refine p_iload_n C dX6_greater_9 rfl 1 rfl ?_
    cases h
    exact p_iret C dX6_greater_10
  · have h := if_f c1 h
    refine p_iload_n C dX6_greater_5 rfl 0 rfl ?_
    refine p_goto C dX6_greater_6 (pc' := 10) (by decide) ?_
    cases h
    exact p_iret C dX6_greater_10
def m_X6_size  (p0 : Int32) : Option (Int32) := if 0 ≤ p0 then (some p0) else (some (-p0))
theorem ds_X6_size : (yX6_size).cls ≠ "java/lang/invoke/MethodHandle" ∧ (yX6_size).cls ≠ "java/lang/invoke/VarHandle" ∧ (parseMethodDescriptor (yX6_size).desc).map (fun d => d.parameters.length) = some 1 := by decide +kernel
set_option maxHeartbeats 4000000 in
set_option maxRecDepth 100000 in
theorem c_X6_size (E : En)  {p0 : Int32} {rr : Int32} (h : m_X6_size p0 = some rr) : Ci E yX6_size (wU yX6_size cX6_size 1 (some .int)) (RM 0 0) [.int p0] ([] : va_W) ([] : va_W) rr := by
  refine Ci.of (by decide) (Nat.le_of_ble_eq_true rfl) ?_
  intro x hE C
  subst hE
  have C : CX RX6 cX6_size 1 (some .int) x := C
  refine p_locals [0] (lv' := [(0, .int p0)]) rfl ?_
  unfold m_X6_size at h
  refine p_iload_n C dX6_size_0 rfl 0 rfl ?_
  refine p_if_ge C dX6_size_1 (tgt := 9) (by decide) rfl (fun c1 => ?_) (fun c1 => ?_)
  · have h := if_t c1 h
    refine p_iload_n C dX6_size_9 rfl 0 rfl ?_
    cases h
    exact p_iret C dX6_size_10
  · have h := if_f c1 h
    refine p_iload_n C dX6_size_4 rfl 0 rfl ?_
    refine p_ineg C dX6_size_5 rfl ?_
    refine p_goto C dX6_size_6 (pc' := 10) (by decide) ?_
    cases h
    exact p_iret C dX6_size_10
def J_X6_timeOf_94 (m_state : Ar) (m_leftOf : Ar) (m_rightOf : Ar)  (e0 : Int32) (v2 : Int32) (v3 : Int32) (v4 : Int32) (v5 : Int32) : Option (Int32) := grd (gI v2 16) (grd (gI (((9 : Int32)) + (m_leftOf v2.toNatClampNeg)) 40) (bd1 (m_X6_size ((m_state (((9 : Int32)) + (m_leftOf v2.toNatClampNeg)).toNatClampNeg) - v3)) (fun r3 => grd (gI v2 16) (grd (gI (((17 : Int32)) + (m_leftOf v2.toNatClampNeg)) 40) (bd1 (m_X6_size ((m_state (((17 : Int32)) + (m_leftOf v2.toNatClampNeg)).toNatClampNeg) - v4)) (fun r7 => bd1 (m_X6_greater r3 r7) (fun r9 => grd (gI v2 16) (grd (gI (((9 : Int32)) + (m_rightOf v2.toNatClampNeg)) 40) (bd1 (m_X6_size ((m_state (((9 : Int32)) + (m_rightOf v2.toNatClampNeg)).toNatClampNeg) - v5)) (fun r13 => grd (gI v2 16) (grd (gI (((17 : Int32)) + (m_rightOf v2.toNatClampNeg)) 40) (bd1 (m_X6_size ((m_state (((17 : Int32)) + (m_rightOf v2.toNatClampNeg)).toNatClampNeg) - e0)) (fun r17 => bd1 (m_X6_greater r13 r17) (fun r19 => bd1 (m_X6_greater r9 r19) (fun r21 => some r21)))))))))))))))
set_option maxHeartbeats 4000000 in
set_option maxRecDepth 100000 in
theorem tj_X6_timeOf_94 {x : Cxt} {am0 am1 am2 am3 am4 am5 am6 am7 am8 am9 am10 am11 am12 am13 am14 : Nat} {m_said : Int32} {m_tries : Int32} {m_state : Ar} {m_images : Ar} {m_isKept : Ar} {m_pad : Ar} {m_leftOf : Ar} {m_rightOf : Ar} {m_isApart : Ar} {m_group : Ar} {m_isPair : Ar} {m_isOne : Ar} {m_order : Ar} {m_rest : Ar} {m_aside : Ar} {m_others : Ar}  {e0 : Int32} {v2 : Int32} {v3 : Int32} {v4 : Int32} {v5 : Int32} {rr : Int32} (C : CX RX6 cX6_timeOf 9 (some .int) x)  (h : J_X6_timeOf_94 m_state m_leftOf m_rightOf e0 v2 v3 v4 v5 = some rr) : PT (RM 1 21) 9 x 94 [(0, .ref am0), (2, .int v2), (3, .int v3), (4, .int v4), (5, .int v5)] [.int e0] (V_M x.1.2.2 am0 am1 am2 am3 am4 am5 am6 am7 am8 am9 am10 am11 am12 am13 am14 m_said m_tries m_state m_images m_isKept m_pad m_leftOf m_rightOf m_isApart m_group m_isPair m_isOne m_order m_rest m_aside m_others) 0 0 (QI x rr (V_M x.1.2.2 am0 am1 am2 am3 am4 am5 am6 am7 am8 am9 am10 am11 am12 am13 am14 m_said m_tries m_state m_images m_isKept m_pad m_leftOf m_rightOf m_isApart m_group m_isPair m_isOne m_order m_rest m_aside m_others)) := by
  unfold J_X6_timeOf_94 at h
  refine p_istore (lv' := [(6, .int e0), (0, .ref am0), (2, .int v2), (3, .int v3), (4, .int v4), (5, .int v5)]) C dX6_timeOf_94 rfl (by decide) rfl ?_
  refine p_aload_n C dX6_timeOf_96 rfl 1 rfl ?_
  refine p_get C dX6_timeOf_97 rfl 0 0 inlX6 fl_X6_7 rfl rfl (by decide) rfl rfl ?_
  refine p_bipush (v := (9 : Int32)) C dX6_timeOf_100 rfl (by decide) ?_
  refine p_aload_n C dX6_timeOf_102 rfl 1 rfl ?_
  refine p_get C dX6_timeOf_103 rfl 0 5 inlX6 fl_X6_23 rfl rfl (by decide) rfl rfl ?_
  refine p_iload_n C dX6_timeOf_106 rfl 2 rfl ?_
  obtain ⟨g1, h⟩ := grd_of h
  refine p_iald C dX6_timeOf_107 rfl 5 rfl g1 ?_
  refine p_iadd C dX6_timeOf_108 rfl ?_
  obtain ⟨g2, h⟩ := grd_of h
  refine p_iald C dX6_timeOf_109 rfl 1 rfl g2 ?_
  refine p_iload_n C dX6_timeOf_110 rfl 3 rfl ?_
  refine p_isub C dX6_timeOf_111 rfl ?_
  obtain ⟨r3, hc4, h⟩ := bd1_of h
  refine p_callSi (As := [.int ((m_state (((9 : Int32)) + (m_leftOf v2.toNatClampNeg)).toNatClampNeg) - v3)]) (st' := []) (Wd' := (V_M x.1.2.2 am0 am1 am2 am3 am4 am5 am6 am7 am8 am9 am10 am11 am12 am13 am14 m_said m_tries m_state m_images m_isKept m_pad m_leftOf m_rightOf m_isApart m_group m_isPair m_isOne m_order m_rest m_aside m_others)) C (c_X6_size x.1 hc4) dX6_timeOf_112 rfl ml_X6_117 ks_X6_size ds_X6_size ⟨rfl, rfl, by decide, by decide⟩ [] rfl rfl rfl rfl (by decide) ⟨by decide, by decide⟩ rfl ?_
  refine p_aload_n C dX6_timeOf_115 rfl 1 rfl ?_
  refine p_get C dX6_timeOf_116 rfl 0 0 inlX6 fl_X6_7 rfl rfl (by decide) rfl rfl ?_
  refine p_bipush (v := (17 : Int32)) C dX6_timeOf_119 rfl (by decide) ?_
  refine p_aload_n C dX6_timeOf_121 rfl 1 rfl ?_
  refine p_get C dX6_timeOf_122 rfl 0 5 inlX6 fl_X6_23 rfl rfl (by decide) rfl rfl ?_
  refine p_iload_n C dX6_timeOf_125 rfl 2 rfl ?_
  obtain ⟨g5, h⟩ := grd_of h
  refine p_iald C dX6_timeOf_126 rfl 5 rfl g5 ?_
  refine p_iadd C dX6_timeOf_127 rfl ?_
  obtain ⟨g6, h⟩ := grd_of h
  refine p_iald C dX6_timeOf_128 rfl 1 rfl g6 ?_
  refine p_iload C dX6_timeOf_129 rfl 4 rfl ?_
  refine p_isub C dX6_timeOf_131 rfl ?_
  obtain ⟨r7, hc8, h⟩ := bd1_of h
  refine p_callSi (As := [.int ((m_state (((17 : Int32)) + (m_leftOf v2.toNatClampNeg)).toNatClampNeg) - v4)]) (st' := [.int r3]) (Wd' := (V_M x.1.2.2 am0 am1 am2 am3 am4 am5 am6 am7 am8 am9 am10 am11 am12 am13 am14 m_said m_tries m_state m_images m_isKept m_pad m_leftOf m_rightOf m_isApart m_group m_isPair m_isOne m_order m_rest m_aside m_others)) C (c_X6_size x.1 hc8) dX6_timeOf_132 rfl ml_X6_117 ks_X6_size ds_X6_size ⟨rfl, rfl, by decide, by decide⟩ [] rfl rfl rfl rfl (Nat.le_of_ble_eq_true rfl) ⟨by decide, by decide⟩ rfl ?_
  obtain ⟨r9, hc10, h⟩ := bd1_of h
  refine p_callSi (As := [.int r3, .int r7]) (st' := []) (Wd' := (V_M x.1.2.2 am0 am1 am2 am3 am4 am5 am6 am7 am8 am9 am10 am11 am12 am13 am14 m_said m_tries m_state m_images m_isKept m_pad m_leftOf m_rightOf m_isApart m_group m_isPair m_isOne m_order m_rest m_aside m_others)) C (c_X6_greater x.1 hc10) dX6_timeOf_135 rfl ml_X6_120 ks_X6_greater ds_X6_greater ⟨rfl, rfl, by decide, by decide⟩ [] rfl rfl rfl rfl (by decide) ⟨by decide, by decide⟩ rfl ?_
  refine p_istore (lv' := [(7, .int r9), (6, .int e0), (0, .ref am0), (2, .int v2), (3, .int v3), (4, .int v4), (5, .int v5)]) C dX6_timeOf_138 rfl (by decide) rfl ?_
  refine p_aload_n C dX6_timeOf_140 rfl 2 rfl ?_
  refine p_get C dX6_timeOf_141 rfl 0 0 inlX6 fl_X6_7 rfl rfl (by decide) rfl rfl ?_
  refine p_bipush (v := (9 : Int32)) C dX6_timeOf_144 rfl (by decide) ?_
  refine p_aload_n C dX6_timeOf_146 rfl 2 rfl ?_
  refine p_get C dX6_timeOf_147 rfl 0 6 inlX6 fl_X6_26 rfl rfl (by decide) rfl rfl ?_
  refine p_iload_n C dX6_timeOf_150 rfl 3 rfl ?_
  obtain ⟨g11, h⟩ := grd_of h
  refine p_iald C dX6_timeOf_151 rfl 6 rfl g11 ?_
  refine p_iadd C dX6_timeOf_152 rfl ?_
  obtain ⟨g12, h⟩ := grd_of h
  refine p_iald C dX6_timeOf_153 rfl 1 rfl g12 ?_
  refine p_iload C dX6_timeOf_154 rfl 6 rfl ?_
  refine p_isub C dX6_timeOf_156 rfl ?_
  obtain ⟨r13, hc14, h⟩ := bd1_of h
  refine p_callSi (As := [.int ((m_state (((9 : Int32)) + (m_rightOf v2.toNatClampNeg)).toNatClampNeg) - v5)]) (st' := []) (Wd' := (V_M x.1.2.2 am0 am1 am2 am3 am4 am5 am6 am7 am8 am9 am10 am11 am12 am13 am14 m_said m_tries m_state m_images m_isKept m_pad m_leftOf m_rightOf m_isApart m_group m_isPair m_isOne m_order m_rest m_aside m_others)) C (c_X6_size x.1 hc14) dX6_timeOf_157 rfl ml_X6_117 ks_X6_size ds_X6_size ⟨rfl, rfl, by decide, by decide⟩ [] rfl rfl rfl rfl (by decide) ⟨by decide, by decide⟩ rfl ?_
  refine p_aload_n C dX6_timeOf_160 rfl 2 rfl ?_
  refine p_get C dX6_timeOf_161 rfl 0 0 inlX6 fl_X6_7 rfl rfl (by decide) rfl rfl ?_
  refine p_bipush (v := (17 : Int32)) C dX6_timeOf_164 rfl (by decide) ?_
  refine p_aload_n C dX6_timeOf_166 rfl 2 rfl ?_
  refine p_get C dX6_timeOf_167 rfl 0 6 inlX6 fl_X6_26 rfl rfl (by decide) rfl rfl ?_
  refine p_iload_n C dX6_timeOf_170 rfl 3 rfl ?_
  obtain ⟨g15, h⟩ := grd_of h
  refine p_iald C dX6_timeOf_171 rfl 6 rfl g15 ?_
  refine p_iadd C dX6_timeOf_172 rfl ?_
  obtain ⟨g16, h⟩ := grd_of h
  refine p_iald C dX6_timeOf_173 rfl 1 rfl g16 ?_
  refine p_iload C dX6_timeOf_174 rfl 1 rfl ?_
  refine p_isub C dX6_timeOf_176 rfl ?_
  obtain ⟨r17, hc18, h⟩ := bd1_of h
  refine p_callSi (As := [.int ((m_state (((17 : Int32)) + (m_rightOf v2.toNatClampNeg)).toNatClampNeg) - e0)]) (st' := [.int r13]) (Wd' := (V_M x.1.2.2 am0 am1 am2 am3 am4 am5 am6 am7 am8 am9 am10 am11 am12 am13 am14 m_said m_tries m_state m_images m_isKept m_pad m_leftOf m_rightOf m_isApart m_group m_isPair m_isOne m_order m_rest m_aside m_others)) C (c_X6_size x.1 hc18) dX6_timeOf_177 rfl ml_X6_117 ks_X6_size ds_X6_size ⟨rfl, rfl, by decide, by decide⟩ [] rfl rfl rfl rfl (Nat.le_of_ble_eq_true rfl) ⟨by decide, by decide⟩ rfl ?_
  obtain ⟨r19, hc20, h⟩ := bd1_of h
  refine p_callSi (As := [.int r13, .int r17]) (st' := []) (Wd' := (V_M x.1.2.2 am0 am1 am2 am3 am4 am5 am6 am7 am8 am9 am10 am11 am12 am13 am14 m_said m_tries m_state m_images m_isKept m_pad m_leftOf m_rightOf m_isApart m_group m_isPair m_isOne m_order m_rest m_aside m_others)) C (c_X6_greater x.1 hc20) dX6_timeOf_180 rfl ml_X6_120 ks_X6_greater ds_X6_greater ⟨rfl, rfl, by decide, by decide⟩ [] rfl rfl rfl rfl (by decide) ⟨by decide, by decide⟩ rfl ?_
  refine p_istore (lv' := [(8, .int r19), (7, .int r9), (6, .int e0), (0, .ref am0), (2, .int v2), (3, .int v3), (4, .int v4), (5, .int v5)]) C dX6_timeOf_183 rfl (by decide) rfl ?_
  refine p_iload C dX6_timeOf_185 rfl 1 rfl ?_
  refine p_iload C dX6_timeOf_187 rfl 0 rfl ?_
  obtain ⟨r21, hc22, h⟩ := bd1_of h
  refine p_callSi (As := [.int r9, .int r19]) (st' := []) (Wd' := (V_M x.1.2.2 am0 am1 am2 am3 am4 am5 am6 am7 am8 am9 am10 am11 am12 am13 am14 m_said m_tries m_state m_images m_isKept m_pad m_leftOf m_rightOf m_isApart m_group m_isPair m_isOne m_order m_rest m_aside m_others)) C (c_X6_greater x.1 hc22) dX6_timeOf_189 rfl ml_X6_120 ks_X6_greater ds_X6_greater ⟨rfl, rfl, by decide, by decide⟩ [] rfl rfl rfl rfl (by decide) ⟨by decide, by decide⟩ rfl ?_
  cases h
  exact p_iret C dX6_timeOf_192
def J_X6_timeOf_70 (m_state : Ar) (m_leftOf : Ar) (m_rightOf : Ar)  (e0 : Int32) (v1 : Int32) (v2 : Int32) (v3 : Int32) (v4 : Int32) : Option (Int32) := if 0 ≤ v1 then (grd (gI v1 16) (grd (gI (((17 : Int32)) + (m_rightOf v1.toNatClampNeg)) 40) (J_X6_timeOf_94 m_state m_leftOf m_rightOf (m_state (((17 : Int32)) + (m_rightOf v1.toNatClampNeg)).toNatClampNeg) v2 v3 v4 e0))) else (J_X6_timeOf_94 m_state m_leftOf m_rightOf ((0 : Int32)) v2 v3 v4 e0)
set_option maxHeartbeats 4000000 in
set_option maxRecDepth 100000 in
theorem tj_X6_timeOf_70 {x : Cxt} {am0 am1 am2 am3 am4 am5 am6 am7 am8 am9 am10 am11 am12 am13 am14 : Nat} {m_said : Int32} {m_tries : Int32} {m_state : Ar} {m_images : Ar} {m_isKept : Ar} {m_pad : Ar} {m_leftOf : Ar} {m_rightOf : Ar} {m_isApart : Ar} {m_group : Ar} {m_isPair : Ar} {m_isOne : Ar} {m_order : Ar} {m_rest : Ar} {m_aside : Ar} {m_others : Ar}  {e0 : Int32} {v1 : Int32} {v2 : Int32} {v3 : Int32} {v4 : Int32} {rr : Int32} (C : CX RX6 cX6_timeOf 9 (some .int) x)  (h : J_X6_timeOf_70 m_state m_leftOf m_rightOf e0 v1 v2 v3 v4 = some rr) : PT (RM 1 21) 9 x 70 [(0, .ref am0), (1, .int v1), (2, .int v2), (3, .int v3), (4, .int v4)] [.int e0] (V_M x.1.2.2 am0 am1 am2 am3 am4 am5 am6 am7 am8 am9 am10 am11 am12 am13 am14 m_said m_tries m_state m_images m_isKept m_pad m_leftOf m_rightOf m_isApart m_group m_isPair m_isOne m_order m_rest m_aside m_others) 0 0 (QI x rr (V_M x.1.2.2 am0 am1 am2 am3 am4 am5 am6 am7 am8 am9 am10 am11 am12 am13 am14 m_said m_tries m_state m_images m_isKept m_pad m_leftOf m_rightOf m_isApart m_group m_isPair m_isOne m_order m_rest m_aside m_others)) := by
  unfold J_X6_timeOf_70 at h
  refine p_istore (lv' := [(5, .int e0), (0, .ref am0), (1, .int v1), (2, .int v2), (3, .int v3), (4, .int v4)]) C dX6_timeOf_70 rfl (by decide) rfl ?_
  refine p_iload_n C dX6_timeOf_72 rfl 2 rfl ?_
  refine p_if_ge C dX6_timeOf_73 (tgt := 80) (by decide) rfl (fun c1 => ?_) (fun c1 => ?_)
  · have h := if_t c1 h
    refine p_aload_n C dX6_timeOf_80 rfl 1 rfl ?_
    refine p_get C dX6_timeOf_81 rfl 0 0 inlX6 fl_X6_7 rfl rfl (by decide) rfl rfl ?_
    refine p_bipush (v := (17 : Int32)) C dX6_timeOf_84 rfl (by decide) ?_
    refine p_aload_n C dX6_timeOf_86 rfl 1 rfl ?_
    refine p_get C dX6_timeOf_87 rfl 0 6 inlX6 fl_X6_26 rfl rfl (by decide) rfl rfl ?_
    refine p_iload_n C dX6_timeOf_90 rfl 2 rfl ?_
    obtain ⟨g2, h⟩ := grd_of h
    refine p_iald C dX6_timeOf_91 rfl 6 rfl g2 ?_
    refine p_iadd C dX6_timeOf_92 rfl ?_
    obtain ⟨g3, h⟩ := grd_of h
    refine p_iald C dX6_timeOf_93 rfl 1 rfl g3 ?_
    refine p_locals [1, 3, 4, 5, 0] (lv' := [(0, .ref am0), (2, .int v2), (3, .int v3), (4, .int v4), (5, .int e0)]) rfl ?_
    exact tj_X6_timeOf_94 C  h
  · have h := if_f c1 h
    refine p_iconst (v := (0 : Int32)) C dX6_timeOf_76 rfl (by decide) ?_
    refine p_goto C dX6_timeOf_77 (pc' := 94) (by decide) ?_
    refine p_locals [1, 3, 4, 5, 0] (lv' := [(0, .ref am0), (2, .int v2), (3, .int v3), (4, .int v4), (5, .int e0)]) rfl ?_
    exact tj_X6_timeOf_94 C  h
def J_X6_timeOf_45 (m_state : Ar) (m_leftOf : Ar) (m_rightOf : Ar)  (e0 : Int32) (v1 : Int32) (v2 : Int32) (v3 : Int32) : Option (Int32) := if 0 ≤ v1 then (grd (gI v1 16) (grd (gI (((9 : Int32)) + (m_rightOf v1.toNatClampNeg)) 40) (J_X6_timeOf_70 m_state m_leftOf m_rightOf (m_state (((9 : Int32)) + (m_rightOf v1.toNatClampNeg)).toNatClampNeg) v1 v2 v3 e0))) else (J_X6_timeOf_70 m_state m_leftOf m_rightOf ((20 : Int32)) v1 v2 v3 e0)
set_option maxHeartbeats 4000000 in
set_option maxRecDepth 100000 in
theorem tj_X6_timeOf_45 {x : Cxt} {am0 am1 am2 am3 am4 am5 am6 am7 am8 am9 am10 am11 am12 am13 am14 : Nat} {m_said : Int32} {m_tries : Int32} {m_state : Ar} {m_images : Ar} {m_isKept : Ar} {m_pad : Ar} {m_leftOf : Ar} {m_rightOf : Ar} {m_isApart : Ar} {m_group : Ar} {m_isPair : Ar} {m_isOne : Ar} {m_order : Ar} {m_rest : Ar} {m_aside : Ar} {m_others : Ar}  {e0 : Int32} {v1 : Int32} {v2 : Int32} {v3 : Int32} {rr : Int32} (C : CX RX6 cX6_timeOf 9 (some .int) x)  (h : J_X6_timeOf_45 m_state m_leftOf m_rightOf e0 v1 v2 v3 = some rr) : PT (RM 1 21) 9 x 45 [(0, .ref am0), (1, .int v1), (2, .int v2), (3, .int v3)] [.int e0] (V_M x.1.2.2 am0 am1 am2 am3 am4 am5 am6 am7 am8 am9 am10 am11 am12 am13 am14 m_said m_tries m_state m_images m_isKept m_pad m_leftOf m_rightOf m_isApart m_group m_isPair m_isOne m_order m_rest m_aside m_others) 0 0 (QI x rr (V_M x.1.2.2 am0 am1 am2 am3 am4 am5 am6 am7 am8 am9 am10 am11 am12 am13 am14 m_said m_tries m_state m_images m_isKept m_pad m_leftOf m_rightOf m_isApart m_group m_isPair m_isOne m_order m_rest m_aside m_others)) := by
  unfold J_X6_timeOf_45 at h
  refine p_istore (lv' := [(4, .int e0), (0, .ref am0), (1, .int v1), (2, .int v2), (3, .int v3)]) C dX6_timeOf_45 rfl (by decide) rfl ?_
  refine p_iload_n C dX6_timeOf_47 rfl 2 rfl ?_
  refine p_if_ge C dX6_timeOf_48 (tgt := 56) (by decide) rfl (fun c1 => ?_) (fun c1 => ?_)
  · have h := if_t c1 h
    refine p_aload_n C dX6_timeOf_56 rfl 1 rfl ?_
    refine p_get C dX6_timeOf_57 rfl 0 0 inlX6 fl_X6_7 rfl rfl (by decide) rfl rfl ?_
    refine p_bipush (v := (9 : Int32)) C dX6_timeOf_60 rfl (by decide) ?_
    refine p_aload_n C dX6_timeOf_62 rfl 1 rfl ?_
    refine p_get C dX6_timeOf_63 rfl 0 6 inlX6 fl_X6_26 rfl rfl (by decide) rfl rfl ?_
    refine p_iload_n C dX6_timeOf_66 rfl 2 rfl ?_
    obtain ⟨g2, h⟩ := grd_of h
    refine p_iald C dX6_timeOf_67 rfl 6 rfl g2 ?_
    refine p_iadd C dX6_timeOf_68 rfl ?_
    obtain ⟨g3, h⟩ := grd_of h
    refine p_iald C dX6_timeOf_69 rfl 1 rfl g3 ?_
    refine p_locals [1, 2, 3, 4, 0] (lv' := [(0, .ref am0), (1, .int v1), (2, .int v2), (3, .int v3), (4, .int e0)]) rfl ?_
    exact tj_X6_timeOf_70 C  h
  · have h := if_f c1 h
    refine p_bipush (v := (20 : Int32)) C dX6_timeOf_51 rfl (by decide) ?_
    refine p_goto C dX6_timeOf_53 (pc' := 70) (by decide) ?_
    refine p_locals [1, 2, 3, 4, 0] (lv' := [(0, .ref am0), (1, .int v1), (2, .int v2), (3, .int v3), (4, .int e0)]) rfl ?_
    exact tj_X6_timeOf_70 C  h
def J_X6_timeOf_22 (m_state : Ar) (m_leftOf : Ar) (m_rightOf : Ar)  (e0 : Int32) (v1 : Int32) (v2 : Int32) : Option (Int32) := if 0 ≤ v1 then (grd (gI v1 16) (grd (gI (((17 : Int32)) + (m_leftOf v1.toNatClampNeg)) 40) (J_X6_timeOf_45 m_state m_leftOf m_rightOf (m_state (((17 : Int32)) + (m_leftOf v1.toNatClampNeg)).toNatClampNeg) v1 v2 e0))) else (J_X6_timeOf_45 m_state m_leftOf m_rightOf ((0 : Int32)) v1 v2 e0)
set_option maxHeartbeats 4000000 in
set_option maxRecDepth 100000 in
theorem tj_X6_timeOf_22 {x : Cxt} {am0 am1 am2 am3 am4 am5 am6 am7 am8 am9 am10 am11 am12 am13 am14 : Nat} {m_said : Int32} {m_tries : Int32} {m_state : Ar} {m_images : Ar} {m_isKept : Ar} {m_pad : Ar} {m_leftOf : Ar} {m_rightOf : Ar} {m_isApart : Ar} {m_group : Ar} {m_isPair : Ar} {m_isOne : Ar} {m_order : Ar} {m_rest : Ar} {m_aside : Ar} {m_others : Ar}  {e0 : Int32} {v1 : Int32} {v2 : Int32} {rr : Int32} (C : CX RX6 cX6_timeOf 9 (some .int) x)  (h : J_X6_timeOf_22 m_state m_leftOf m_rightOf e0 v1 v2 = some rr) : PT (RM 1 21) 9 x 22 [(0, .ref am0), (1, .int v1), (2, .int v2)] [.int e0] (V_M x.1.2.2 am0 am1 am2 am3 am4 am5 am6 am7 am8 am9 am10 am11 am12 am13 am14 m_said m_tries m_state m_images m_isKept m_pad m_leftOf m_rightOf m_isApart m_group m_isPair m_isOne m_order m_rest m_aside m_others) 0 0 (QI x rr (V_M x.1.2.2 am0 am1 am2 am3 am4 am5 am6 am7 am8 am9 am10 am11 am12 am13 am14 m_said m_tries m_state m_images m_isKept m_pad m_leftOf m_rightOf m_isApart m_group m_isPair m_isOne m_order m_rest m_aside m_others)) := by
  unfold J_X6_timeOf_22 at h
  refine p_istore_n (lv' := [(3, .int e0), (0, .ref am0), (1, .int v1), (2, .int v2)]) C dX6_timeOf_22 rfl (by decide) rfl ?_
  refine p_iload_n C dX6_timeOf_23 rfl 2 rfl ?_
  refine p_if_ge C dX6_timeOf_24 (tgt := 31) (by decide) rfl (fun c1 => ?_) (fun c1 => ?_)
  · have h := if_t c1 h
    refine p_aload_n C dX6_timeOf_31 rfl 1 rfl ?_
    refine p_get C dX6_timeOf_32 rfl 0 0 inlX6 fl_X6_7 rfl rfl (by decide) rfl rfl ?_
    refine p_bipush (v := (17 : Int32)) C dX6_timeOf_35 rfl (by decide) ?_
    refine p_aload_n C dX6_timeOf_37 rfl 1 rfl ?_
    refine p_get C dX6_timeOf_38 rfl 0 5 inlX6 fl_X6_23 rfl rfl (by decide) rfl rfl ?_
    refine p_iload_n C dX6_timeOf_41 rfl 2 rfl ?_
    obtain ⟨g2, h⟩ := grd_of h
    refine p_iald C dX6_timeOf_42 rfl 5 rfl g2 ?_
    refine p_iadd C dX6_timeOf_43 rfl ?_
    obtain ⟨g3, h⟩ := grd_of h
    refine p_iald C dX6_timeOf_44 rfl 1 rfl g3 ?_
    refine p_locals [1, 2, 3, 0] (lv' := [(0, .ref am0), (1, .int v1), (2, .int v2), (3, .int e0)]) rfl ?_
    exact tj_X6_timeOf_45 C  h
  · have h := if_f c1 h
    refine p_iconst (v := (0 : Int32)) C dX6_timeOf_27 rfl (by decide) ?_
    refine p_goto C dX6_timeOf_28 (pc' := 45) (by decide) ?_
    refine p_locals [1, 2, 3, 0] (lv' := [(0, .ref am0), (1, .int v1), (2, .int v2), (3, .int e0)]) rfl ?_
    exact tj_X6_timeOf_45 C  h
def m_X6_timeOf (m_state : Ar) (m_leftOf : Ar) (m_rightOf : Ar) (p1 : Int32) (p2 : Int32) : Option (Int32) := if 0 ≤ p1 then (grd (gI p1 16) (grd (gI (((9 : Int32)) + (m_leftOf p1.toNatClampNeg)) 40) (J_X6_timeOf_22 m_state m_leftOf m_rightOf (m_state (((9 : Int32)) + (m_leftOf p1.toNatClampNeg)).toNatClampNeg) p1 p2))) else (J_X6_timeOf_22 m_state m_leftOf m_rightOf ((0 : Int32)) p1 p2)
theorem ds_X6_timeOf : (yX6_timeOf).cls ≠ "java/lang/invoke/MethodHandle" ∧ (yX6_timeOf).cls ≠ "java/lang/invoke/VarHandle" ∧ (parseMethodDescriptor (yX6_timeOf).desc).map (fun d => d.parameters.length) = some 2 := by decide +kernel
set_option maxHeartbeats 4000000 in
set_option maxRecDepth 100000 in
theorem c_X6_timeOf (E : En) {am0 am1 am2 am3 am4 am5 am6 am7 am8 am9 am10 am11 am12 am13 am14 : Nat} {m_said : Int32} {m_tries : Int32} {m_state : Ar} {m_images : Ar} {m_isKept : Ar} {m_pad : Ar} {m_leftOf : Ar} {m_rightOf : Ar} {m_isApart : Ar} {m_group : Ar} {m_isPair : Ar} {m_isOne : Ar} {m_order : Ar} {m_rest : Ar} {m_aside : Ar} {m_others : Ar} {p1 : Int32} {p2 : Int32} {rr : Int32} (h : m_X6_timeOf m_state m_leftOf m_rightOf p1 p2 = some rr) : Ci E yX6_timeOf (wU yX6_timeOf cX6_timeOf 9 (some .int)) (RM 1 21) [.ref am0, .int p1, .int p2] (V_M E.2.2 am0 am1 am2 am3 am4 am5 am6 am7 am8 am9 am10 am11 am12 am13 am14 m_said m_tries m_state m_images m_isKept m_pad m_leftOf m_rightOf m_isApart m_group m_isPair m_isOne m_order m_rest m_aside m_others) (V_M E.2.2 am0 am1 am2 am3 am4 am5 am6 am7 am8 am9 am10 am11 am12 am13 am14 m_said m_tries m_state m_images m_isKept m_pad m_leftOf m_rightOf m_isApart m_group m_isPair m_isOne m_order m_rest m_aside m_others) rr := by
  refine Ci.of (by decide) (Nat.le_of_ble_eq_true rfl) ?_
  intro x hE C
  subst hE
  have C : CX RX6 cX6_timeOf 9 (some .int) x := C
  refine p_locals [0, 1, 2] (lv' := [(0, .ref am0), (1, .int p1), (2, .int p2)]) rfl ?_
  unfold m_X6_timeOf at h
  refine p_iload_n C dX6_timeOf_0 rfl 1 rfl ?_
  refine p_if_ge C dX6_timeOf_1 (tgt := 8) (by decide) rfl (fun c1 => ?_) (fun c1 => ?_)
  · have h := if_t c1 h
    refine p_aload_n C dX6_timeOf_8 rfl 0 rfl ?_
    refine p_get C dX6_timeOf_9 rfl 0 0 inlX6 fl_X6_7 rfl rfl (by decide) rfl rfl ?_
    refine p_bipush (v := (9 : Int32)) C dX6_timeOf_12 rfl (by decide) ?_
    refine p_aload_n C dX6_timeOf_14 rfl 0 rfl ?_
    refine p_get C dX6_timeOf_15 rfl 0 5 inlX6 fl_X6_23 rfl rfl (by decide) rfl rfl ?_
    refine p_iload_n C dX6_timeOf_18 rfl 1 rfl ?_
    obtain ⟨g2, h⟩ := grd_of h
    refine p_iald C dX6_timeOf_19 rfl 5 rfl g2 ?_
    refine p_iadd C dX6_timeOf_20 rfl ?_
    obtain ⟨g3, h⟩ := grd_of h
    refine p_iald C dX6_timeOf_21 rfl 1 rfl g3 ?_
    refine p_locals [0, 1, 2] (lv' := [(0, .ref am0), (1, .int p1), (2, .int p2)]) rfl ?_
    exact tj_X6_timeOf_22 C  h
  · have h := if_f c1 h
    refine p_iconst (v := (0 : Int32)) C dX6_timeOf_4 rfl (by decide) ?_
    refine p_goto C dX6_timeOf_5 (pc' := 22) (by decide) ?_
    refine p_locals [0, 1, 2] (lv' := [(0, .ref am0), (1, .int p1), (2, .int p2)]) rfl ?_
    exact tj_X6_timeOf_22 C  h
