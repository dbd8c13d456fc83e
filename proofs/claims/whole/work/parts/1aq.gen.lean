def J_X6_join_54 (m_state : Ar) (m_group : Ar) (k10 : Int32 → Ar → Option (Ar)) (e0 : Int32) (e1 : Int32) (v1 : Int32) (v3 : Int32) (v4 : Int32) : Option (Ar) := grd (gI e1 8) (k10 (v4 + 1) (upd m_group e1.toNatClampNeg e0))
set_option maxHeartbeats 4000000 in
set_option maxRecDepth 100000 in
theorem tj_X6_join_54 {x : Cxt} {am0 am1 am2 am3 am4 am5 am6 am7 am8 am9 am10 am11 am12 am13 am14 : Nat} {m_said : Int32} {m_tries : Int32} {m_state : Ar} {m_images : Ar} {m_isKept : Ar} {m_pad : Ar} {m_leftOf : Ar} {m_rightOf : Ar} {m_isApart : Ar} {m_group : Ar} {m_isPair : Ar} {m_isOne : Ar} {m_order : Ar} {m_rest : Ar} {m_aside : Ar} {m_others : Ar} {k10 : Int32 → Ar → Option (Ar)} {e0 : Int32} {e1 : Int32} {v1 : Int32} {v3 : Int32} {v4 : Int32} {q_m_group : Ar} (C : CX RX6 cX6_join 5 none x) (hk10 : ∀ (w4 : Int32) (w_m_group : Ar), k10 w4 w_m_group = some q_m_group → PT (RM 0 0) 5 x 10 [(0, .ref am0), (1, .int v1), (3, .int v3), (4, .int w4)] [] (V_M x.1.2.2 am0 am1 am2 am3 am4 am5 am6 am7 am8 am9 am10 am11 am12 am13 am14 m_said m_tries m_state m_images m_isKept m_pad m_leftOf m_rightOf m_isApart w_m_group m_isPair m_isOne m_order m_rest m_aside m_others) 0 0 (QV x (V_M x.1.2.2 am0 am1 am2 am3 am4 am5 am6 am7 am8 am9 am10 am11 am12 am13 am14 m_said m_tries m_state m_images m_isKept m_pad m_leftOf m_rightOf m_isApart q_m_group m_isPair m_isOne m_order m_rest m_aside m_others))) (h : J_X6_join_54 m_state m_group k10 e0 e1 v1 v3 v4 = some q_m_group) : PT (RM 0 0) 5 x 54 [(0, .ref am0), (1, .int v1), (3, .int v3), (4, .int v4)] [.int e0, .int e1, .ref am8] (V_M x.1.2.2 am0 am1 am2 am3 am4 am5 am6 am7 am8 am9 am10 am11 am12 am13 am14 m_said m_tries m_state m_images m_isKept m_pad m_leftOf m_rightOf m_isApart m_group m_isPair m_isOne m_order m_rest m_aside m_others) 0 0 (QV x (V_M x.1.2.2 am0 am1 am2 am3 am4 am5 am6 am7 am8 am9 am10 am11 am12 am13 am14 m_said m_tries m_state m_images m_isKept m_pad m_leftOf m_rightOf m_isApart q_m_group m_isPair m_isOne m_order m_rest m_aside m_others)) := by
  unfold J_X6_join_54 at h
  obtain ⟨g1, h⟩ := grd_of h
  refine p_iast (Wd' := (V_M x.1.2.2 am0 am1 am2 am3 am4 am5 am6 am7 am8 am9 am10 am11 am12 am13 am14 m_said m_tries m_state m_images m_isKept m_pad m_leftOf m_rightOf m_isApart (upd m_group e1.toNatClampNeg e0) m_isPair m_isOne m_order m_rest m_aside m_others)) C dX6_join_54 rfl 8 rfl g1 rfl ?_
  refine p_iinc (w := v4 + 1) (lv' := [(4, .int (v4 + 1)), (0, .ref am0), (1, .int v1), (3, .int v3)]) C dX6_join_55 rfl 3 rfl rfl (by decide) rfl ?_
  refine p_goto C dX6_join_58 (pc' := 10) (by decide) ?_
  refine p_locals [1, 2, 3, 0] (lv' := [(0, .ref am0), (1, .int v1), (3, .int v3), (4, .int (v4 + 1))]) rfl ?_
  exact hk10 _ _ h
def B_X6_join_10 (m_state : Ar)  (v1 : Int32) (v3 : Int32) (kk : Int32 → Ar → Option (Ar)) (v4 : Int32) (m_group : Ar) : Option (Ar) := if (m_state 0) ≤ v4 then (some m_group) else (grd (gI v4 8) (if (m_group v4.toNatClampNeg) = v3 then (grd (gI v1 8) (J_X6_join_54 m_state m_group (kk) (m_group v1.toNatClampNeg) v4 v1 v3 v4)) else (grd (gI v4 8) (J_X6_join_54 m_state m_group (kk) (m_group v4.toNatClampNeg) v4 v1 v3 v4))))
def L_X6_join_10 (m_state : Ar)  (v1 : Int32) (v3 : Int32) : Nat → Int32 → Ar → Option (Ar) := lpG (fun _ _ => none) (B_X6_join_10 m_state v1 v3)
set_option maxHeartbeats 4000000 in
set_option maxRecDepth 100000 in
theorem tl_X6_join_10 {x : Cxt} {am0 am1 am2 am3 am4 am5 am6 am7 am8 am9 am10 am11 am12 am13 am14 : Nat} {m_said : Int32} {m_tries : Int32} {m_state : Ar} {m_images : Ar} {m_isKept : Ar} {m_pad : Ar} {m_leftOf : Ar} {m_rightOf : Ar} {m_isApart : Ar} {m_isPair : Ar} {m_isOne : Ar} {m_order : Ar} {m_rest : Ar} {m_aside : Ar} {m_others : Ar}  {v1 : Int32} {v3 : Int32} {q_m_group : Ar} (C : CX RX6 cX6_join 5 none x)  : ∀ (n : Nat) (v4 : Int32) (m_group : Ar), L_X6_join_10 m_state v1 v3 n v4 m_group = some q_m_group → PT (RM 0 0) 5 x 10 [(0, .ref am0), (1, .int v1), (3, .int v3), (4, .int v4)] [] (V_M x.1.2.2 am0 am1 am2 am3 am4 am5 am6 am7 am8 am9 am10 am11 am12 am13 am14 m_said m_tries m_state m_images m_isKept m_pad m_leftOf m_rightOf m_isApart m_group m_isPair m_isOne m_order m_rest m_aside m_others) 0 0 (QV x (V_M x.1.2.2 am0 am1 am2 am3 am4 am5 am6 am7 am8 am9 am10 am11 am12 am13 am14 m_said m_tries m_state m_images m_isKept m_pad m_leftOf m_rightOf m_isApart q_m_group m_isPair m_isOne m_order m_rest m_aside m_others)) := by
  intro n
  induction n with
  | zero =>
    intro v4 m_group h
    cases h
  | succ n ih =>
    intro v4 m_group h
    have h : B_X6_join_10 m_state v1 v3 (L_X6_join_10 m_state v1 v3 n) v4 m_group = some q_m_group := h
    unfold B_X6_join_10 at h
    refine p_iload C dX6_join_10 rfl 3 rfl ?_
    refine p_aload_n C dX6_join_12 rfl 0 rfl ?_
    refine p_get C dX6_join_13 rfl 0 0 inlX6 fl_X6_7 rfl rfl (by decide) rfl rfl ?_
    refine p_iconst (v := (0 : Int32)) C dX6_join_16 rfl (by decide) ?_
    refine p_ialdj (j := 0) C dX6_join_17 rfl 1 rfl (by decide) (by decide) ?_
    refine p_icmp_ge C dX6_join_18 (tgt := 61) (by decide) rfl (fun c2 => ?_) (fun c2 => ?_)
    · have h := if_t c2 h
      cases h
      exact p_vret C dX6_join_61
    · have h := if_f c2 h
      refine p_aload_n C dX6_join_21 rfl 0 rfl ?_
      refine p_get C dX6_join_22 rfl 0 9 inlX6 fl_X6_32 rfl rfl (by decide) rfl rfl ?_
      refine p_iload C dX6_join_25 rfl 3 rfl ?_
      refine p_aload_n C dX6_join_27 rfl 0 rfl ?_
      refine p_get C dX6_join_28 rfl 0 9 inlX6 fl_X6_32 rfl rfl (by decide) rfl rfl ?_
      refine p_iload C dX6_join_31 rfl 3 rfl ?_
      obtain ⟨g3, h⟩ := grd_of h
      refine p_iald C dX6_join_33 rfl 8 rfl g3 ?_
      refine p_iload_n C dX6_join_34 rfl 2 rfl ?_
      refine p_icmp_ne C dX6_join_35 (tgt := 47) (by decide) rfl (fun c4 => ?_) (fun c4 => ?_)
      · have h := if_f c4 h
        refine p_aload_n C dX6_join_47 rfl 0 rfl ?_
        refine p_get C dX6_join_48 rfl 0 9 inlX6 fl_X6_32 rfl rfl (by decide) rfl rfl ?_
        refine p_iload C dX6_join_51 rfl 3 rfl ?_
        obtain ⟨g5, h⟩ := grd_of h
        refine p_iald C dX6_join_53 rfl 8 rfl g5 ?_
        refine p_locals [0, 1, 2, 3] (lv' := [(0, .ref am0), (1, .int v1), (3, .int v3), (4, .int v4)]) rfl ?_
        exact tj_X6_join_54 C (fun u0 u1 h => ih u0 u1 h) h
      · have h := if_t c4 h
        refine p_aload_n C dX6_join_38 rfl 0 rfl ?_
        refine p_get C dX6_join_39 rfl 0 9 inlX6 fl_X6_32 rfl rfl (by decide) rfl rfl ?_
        refine p_iload_n C dX6_join_42 rfl 1 rfl ?_
        obtain ⟨g6, h⟩ := grd_of h
        refine p_iald C dX6_join_43 rfl 8 rfl g6 ?_
        refine p_goto C dX6_join_44 (pc' := 54) (by decide) ?_
        refine p_locals [0, 1, 2, 3] (lv' := [(0, .ref am0), (1, .int v1), (3, .int v3), (4, .int v4)]) rfl ?_
        exact tj_X6_join_54 C (fun u0 u1 h => ih u0 u1 h) h
def m_X6_join (m_state : Ar) (m_group : Ar) (p1 : Int32) (p2 : Int32) : Option (Ar) := grd (gI p2 8) (L_X6_join_10 m_state p1 (m_group p2.toNatClampNeg) FU ((0 : Int32)) m_group)
theorem ds_X6_join : (yX6_join).cls ≠ "java/lang/invoke/MethodHandle" ∧ (yX6_join).cls ≠ "java/lang/invoke/VarHandle" ∧ (parseMethodDescriptor (yX6_join).desc).map (fun d => d.parameters.length) = some 2 := by decide +kernel
set_option maxHeartbeats 4000000 in
set_option maxRecDepth 100000 in
theorem c_X6_join (E : En) {am0 am1 am2 am3 am4 am5 am6 am7 am8 am9 am10 am11 am12 am13 am14 : Nat} {m_said : Int32} {m_tries : Int32} {m_state : Ar} {m_images : Ar} {m_isKept : Ar} {m_pad : Ar} {m_leftOf : Ar} {m_rightOf : Ar} {m_isApart : Ar} {m_group : Ar} {m_isPair : Ar} {m_isOne : Ar} {m_order : Ar} {m_rest : Ar} {m_aside : Ar} {m_others : Ar} {p1 : Int32} {p2 : Int32} {q_m_group : Ar} (h : m_X6_join m_state m_group p1 p2 = some q_m_group) : Cv E yX6_join (wU yX6_join cX6_join 5 none) (RM 0 0) [.ref am0, .int p1, .int p2] (V_M E.2.2 am0 am1 am2 am3 am4 am5 am6 am7 am8 am9 am10 am11 am12 am13 am14 m_said m_tries m_state m_images m_isKept m_pad m_leftOf m_rightOf m_isApart m_group m_isPair m_isOne m_order m_rest m_aside m_others) (V_M E.2.2 am0 am1 am2 am3 am4 am5 am6 am7 am8 am9 am10 am11 am12 am13 am14 m_said m_tries m_state m_images m_isKept m_pad m_leftOf m_rightOf m_isApart q_m_group m_isPair m_isOne m_order m_rest m_aside m_others) := by
  refine Cv.of (by decide) (Nat.le_of_ble_eq_true rfl) ?_
  intro x hE C
  subst hE
  have C : CX RX6 cX6_join 5 none x := C
  refine p_locals [0, 1, 2] (lv' := [(0, .ref am0), (1, .int p1), (2, .int p2)]) rfl ?_
  unfold m_X6_join at h
  refine p_aload_n C dX6_join_0 rfl 0 rfl ?_
  refine p_get C dX6_join_1 rfl 0 9 inlX6 fl_X6_32 rfl rfl (by decide) rfl rfl ?_
  refine p_iload_n C dX6_join_4 rfl 2 rfl ?_
  obtain ⟨g1, h⟩ := grd_of h
  refine p_iald C dX6_join_5 rfl 8 rfl g1 ?_
  refine p_istore_n (lv' := [(3, .int (m_group p2.toNatClampNeg)), (0, .ref am0), (1, .int p1), (2, .int p2)]) C dX6_join_6 rfl (by decide) rfl ?_
  refine p_iconst (v := (0 : Int32)) C dX6_join_7 rfl (by decide) ?_
  refine p_istore (lv' := [(4, .int ((0 : Int32))), (3, .int (m_group p2.toNatClampNeg)), (0, .ref am0), (1, .int p1), (2, .int p2)]) C dX6_join_8 rfl (by decide) rfl ?_
  refine p_locals [2, 3, 1, 0] (lv' := [(0, .ref am0), (1, .int p1), (3, .int (m_group p2.toNatClampNeg)), (4, .int ((0 : Int32)))]) rfl ?_
  exact tl_X6_join_10 C  FU _ _ h
def m_X6_canJoin (m_state : Ar) (m_group : Ar) (p1 : Int32) (p2 : Int32) (p3 : Int32) : Option (Int32) := grd (gI (((1 : Int32)) + p1) 40) (if (m_state (((1 : Int32)) + p1).toNatClampNeg) = p3 then (grd (gI (((1 : Int32)) + p2) 40) (if (m_state (((1 : Int32)) + p2).toNatClampNeg) = p3 then (grd (gI p1 8) (grd (gI p2 8) (if (m_group p1.toNatClampNeg) = (m_group p2.toNatClampNeg) then (some ((0 : Int32))) else (some ((1 : Int32)))))) else (some ((0 : Int32))))) else (some ((0 : Int32))))
theorem ds_X6_canJoin : (yX6_canJoin).cls ≠ "java/lang/invoke/MethodHandle" ∧ (yX6_canJoin).cls ≠ "java/lang/invoke/VarHandle" ∧ (parseMethodDescriptor (yX6_canJoin).desc).map (fun d => d.parameters.length) = some 3 := by decide +kernel
set_option maxHeartbeats 4000000 in
set_option maxRecDepth 100000 in
theorem c_X6_canJoin (E : En) {am0 am1 am2 am3 am4 am5 am6 am7 am8 am9 am10 am11 am12 am13 am14 : Nat} {m_said : Int32} {m_tries : Int32} {m_state : Ar} {m_images : Ar} {m_isKept : Ar} {m_pad : Ar} {m_leftOf : Ar} {m_rightOf : Ar} {m_isApart : Ar} {m_group : Ar} {m_isPair : Ar} {m_isOne : Ar} {m_order : Ar} {m_rest : Ar} {m_aside : Ar} {m_others : Ar} {p1 : Int32} {p2 : Int32} {p3 : Int32} {rr : Int32} (h : m_X6_canJoin m_state m_group p1 p2 p3 = some rr) : Ci E yX6_canJoin (wU yX6_canJoin cX6_canJoin 4 (some .boolean)) (RM 0 0) [.ref am0, .int p1, .int p2, .int p3] (V_M E.2.2 am0 am1 am2 am3 am4 am5 am6 am7 am8 am9 am10 am11 am12 am13 am14 m_said m_tries m_state m_images m_isKept m_pad m_leftOf m_rightOf m_isApart m_group m_isPair m_isOne m_order m_rest m_aside m_others) (V_M E.2.2 am0 am1 am2 am3 am4 am5 am6 am7 am8 am9 am10 am11 am12 am13 am14 m_said m_tries m_state m_images m_isKept m_pad m_leftOf m_rightOf m_isApart m_group m_isPair m_isOne m_order m_rest m_aside m_others) rr := by
  refine Ci.of (by decide) (Nat.le_of_ble_eq_true rfl) ?_
  intro x hE C
  subst hE
  have C : CX RX6 cX6_canJoin 4 (some .boolean) x := C
  refine p_locals [0, 1, 2, 3] (lv' := [(0, .ref am0), (1, .int p1), (2, .int p2), (3, .int p3)]) rfl ?_
  unfold m_X6_canJoin at h
  refine p_aload_n C dX6_canJoin_0 rfl 0 rfl ?_
  refine p_get C dX6_canJoin_1 rfl 0 0 inlX6 fl_X6_7 rfl rfl (by decide) rfl rfl ?_
  refine p_iconst (v := (1 : Int32)) C dX6_canJoin_4 rfl (by decide) ?_
  refine p_iload_n C dX6_canJoin_5 rfl 1 rfl ?_
  refine p_iadd C dX6_canJoin_6 rfl ?_
  obtain ⟨g1, h⟩ := grd_of h
  refine p_iald C dX6_canJoin_7 rfl 1 rfl g1 ?_
  refine p_iload_n C dX6_canJoin_8 rfl 3 rfl ?_
  refine p_icmp_ne C dX6_canJoin_9 (tgt := 43) (by decide) rfl (fun c2 => ?_) (fun c2 => ?_)
  · have h := if_f c2 h
    refine p_iconst (v := (0 : Int32)) C dX6_canJoin_43 rfl (by decide) ?_
    cases h
    exact p_zret C dX6_canJoin_44 rfl
  · have h := if_t c2 h
    refine p_aload_n C dX6_canJoin_12 rfl 0 rfl ?_
    refine p_get C dX6_canJoin_13 rfl 0 0 inlX6 fl_X6_7 rfl rfl (by decide) rfl rfl ?_
    refine p_iconst (v := (1 : Int32)) C dX6_canJoin_16 rfl (by decide) ?_
    refine p_iload_n C dX6_canJoin_17 rfl 2 rfl ?_
    refine p_iadd C dX6_canJoin_18 rfl ?_
    obtain ⟨g3, h⟩ := grd_of h
    refine p_iald C dX6_canJoin_19 rfl 1 rfl g3 ?_
    refine p_iload_n C dX6_canJoin_20 rfl 3 rfl ?_
    refine p_icmp_ne C dX6_canJoin_21 (tgt := 43) (by decide) rfl (fun c4 => ?_) (fun c4 => ?_)
    · have h := if_f c4 h
      refine p_iconst (v := (0 : Int32)) C dX6_canJoin_43 rfl (by decide) ?_
      cases h
      exact p_zret C dX6_canJoin_44 rfl
    · have h := if_t c4 h
      refine p_aload_n C dX6_canJoin_24 rfl 0 rfl ?_
      refine p_get C dX6_canJoin_25 rfl 0 9 inlX6 fl_X6_32 rfl rfl (by decide) rfl rfl ?_
      refine p_iload_n C dX6_canJoin_28 rfl 1 rfl ?_
      obtain ⟨g5, h⟩ := grd_of h
      refine p_iald C dX6_canJoin_29 rfl 8 rfl g5 ?_
      refine p_aload_n C dX6_canJoin_30 rfl 0 rfl ?_
      refine p_get C dX6_canJoin_31 rfl 0 9 inlX6 fl_X6_32 rfl rfl (by decide) rfl rfl ?_
      refine p_iload_n C dX6_canJoin_34 rfl 2 rfl ?_
      obtain ⟨g6, h⟩ := grd_of h
      refine p_iald C dX6_canJoin_35 rfl 8 rfl g6 ?_
      refine p_icmp_eq C dX6_canJoin_36 (tgt := 43) (by decide) rfl (fun c7 => ?_) (fun c7 => ?_)
      · have h := if_t c7 h
        refine p_iconst (v := (0 : Int32)) C dX6_canJoin_43 rfl (by decide) ?_
        cases h
        exact p_zret C dX6_canJoin_44 rfl
      · have h := if_f c7 h
        refine p_iconst (v := (1 : Int32)) C dX6_canJoin_39 rfl (by decide) ?_
        refine p_goto C dX6_canJoin_40 (pc' := 44) (by decide) ?_
        cases h
        exact p_zret C dX6_canJoin_44 rfl
def J_X6_nextPair_76 (m_state : Ar) (m_group : Ar) (k20 : Int32 → Int32 → Option (Int32)) (k5 : Int32 → Int32 → Option (Int32))  (v1 : Int32) (v2 : Int32) (v3 : Int32) (v4 : Int32) : Option (Int32) := k20 v2 (v4 + 1)
set_option maxHeartbeats 4000000 in
set_option maxRecDepth 100000 in
theorem tj_X6_nextPair_76 {x : Cxt} {am0 am1 am2 am3 am4 am5 am6 am7 am8 am9 am10 am11 am12 am13 am14 : Nat} {m_said : Int32} {m_tries : Int32} {m_state : Ar} {m_images : Ar} {m_isKept : Ar} {m_pad : Ar} {m_leftOf : Ar} {m_rightOf : Ar} {m_isApart : Ar} {m_group : Ar} {m_isPair : Ar} {m_isOne : Ar} {m_order : Ar} {m_rest : Ar} {m_aside : Ar} {m_others : Ar} {k20 : Int32 → Int32 → Option (Int32)} {k5 : Int32 → Int32 → Option (Int32)}  {v1 : Int32} {v2 : Int32} {v3 : Int32} {v4 : Int32} {rr : Int32} (C : CX RX6 cX6_nextPair 5 (some .int) x) (hk20 : ∀ (w2 : Int32) (w4 : Int32) , k20 w2 w4 = some rr → PT (RM 1 24) 5 x 20 [(0, .ref am0), (1, .int v1), (2, .int w2), (3, .int v3), (4, .int w4)] [] (V_M x.1.2.2 am0 am1 am2 am3 am4 am5 am6 am7 am8 am9 am10 am11 am12 am13 am14 m_said m_tries m_state m_images m_isKept m_pad m_leftOf m_rightOf m_isApart m_group m_isPair m_isOne m_order m_rest m_aside m_others) 0 0 (QI x rr (V_M x.1.2.2 am0 am1 am2 am3 am4 am5 am6 am7 am8 am9 am10 am11 am12 am13 am14 m_said m_tries m_state m_images m_isKept m_pad m_leftOf m_rightOf m_isApart m_group m_isPair m_isOne m_order m_rest m_aside m_others))) (hk5 : ∀ (w2 : Int32) (w3 : Int32) , k5 w2 w3 = some rr → PT (RM 1 24) 5 x 5 [(0, .ref am0), (1, .int v1), (2, .int w2), (3, .int w3)] [] (V_M x.1.2.2 am0 am1 am2 am3 am4 am5 am6 am7 am8 am9 am10 am11 am12 am13 am14 m_said m_tries m_state m_images m_isKept m_pad m_leftOf m_rightOf m_isApart m_group m_isPair m_isOne m_order m_rest m_aside m_others) 0 0 (QI x rr (V_M x.1.2.2 am0 am1 am2 am3 am4 am5 am6 am7 am8 am9 am10 am11 am12 am13 am14 m_said m_tries m_state m_images m_isKept m_pad m_leftOf m_rightOf m_isApart m_group m_isPair m_isOne m_order m_rest m_aside m_others))) (h : J_X6_nextPair_76 m_state m_group k20 k5 v1 v2 v3 v4 = some rr) : PT (RM 1 24) 5 x 76 [(0, .ref am0), (1, .int v1), (2, .int v2), (3, .int v3), (4, .int v4)] [] (V_M x.1.2.2 am0 am1 am2 am3 am4 am5 am6 am7 am8 am9 am10 am11 am12 am13 am14 m_said m_tries m_state m_images m_isKept m_pad m_leftOf m_rightOf m_isApart m_group m_isPair m_isOne m_order m_rest m_aside m_others) 0 0 (QI x rr (V_M x.1.2.2 am0 am1 am2 am3 am4 am5 am6 am7 am8 am9 am10 am11 am12 am13 am14 m_said m_tries m_state m_images m_isKept m_pad m_leftOf m_rightOf m_isApart m_group m_isPair m_isOne m_order m_rest m_aside m_others)) := by
  unfold J_X6_nextPair_76 at h
  refine p_iinc (w := v4 + 1) (lv' := [(4, .int (v4 + 1)), (0, .ref am0), (1, .int v1), (2, .int v2), (3, .int v3)]) C dX6_nextPair_76 rfl 4 rfl rfl (by decide) rfl ?_
  refine p_goto C dX6_nextPair_79 (pc' := 20) (by decide) ?_
  refine p_locals [1, 2, 3, 4, 0] (lv' := [(0, .ref am0), (1, .int v1), (2, .int v2), (3, .int v3), (4, .int (v4 + 1))]) rfl ?_
  exact hk20 _ _ h
def J_X6_nextPair_68 (m_state : Ar) (m_group : Ar) (k20 : Int32 → Int32 → Option (Int32)) (k5 : Int32 → Int32 → Option (Int32))  (v1 : Int32) (v3 : Int32) (v4 : Int32) : Option (Int32) := J_X6_nextPair_76 m_state m_group (k20) (k5) v1 ((((8 : Int32)) * v3) + v4) v3 v4
set_option maxHeartbeats 4000000 in
set_option maxRecDepth 100000 in
theorem tj_X6_nextPair_68 {x : Cxt} {am0 am1 am2 am3 am4 am5 am6 am7 am8 am9 am10 am11 am12 am13 am14 : Nat} {m_said : Int32} {m_tries : Int32} {m_state : Ar} {m_images : Ar} {m_isKept : Ar} {m_pad : Ar} {m_leftOf : Ar} {m_rightOf : Ar} {m_isApart : Ar} {m_group : Ar} {m_isPair : Ar} {m_isOne : Ar} {m_order : Ar} {m_rest : Ar} {m_aside : Ar} {m_others : Ar} {k20 : Int32 → Int32 → Option (Int32)} {k5 : Int32 → Int32 → Option (Int32)}  {v1 : Int32} {v3 : Int32} {v4 : Int32} {rr : Int32} (C : CX RX6 cX6_nextPair 5 (some .int) x) (hk20 : ∀ (w2 : Int32) (w4 : Int32) , k20 w2 w4 = some rr → PT (RM 1 24) 5 x 20 [(0, .ref am0), (1, .int v1), (2, .int w2), (3, .int v3), (4, .int w4)] [] (V_M x.1.2.2 am0 am1 am2 am3 am4 am5 am6 am7 am8 am9 am10 am11 am12 am13 am14 m_said m_tries m_state m_images m_isKept m_pad m_leftOf m_rightOf m_isApart m_group m_isPair m_isOne m_order m_rest m_aside m_others) 0 0 (QI x rr (V_M x.1.2.2 am0 am1 am2 am3 am4 am5 am6 am7 am8 am9 am10 am11 am12 am13 am14 m_said m_tries m_state m_images m_isKept m_pad m_leftOf m_rightOf m_isApart m_group m_isPair m_isOne m_order m_rest m_aside m_others))) (hk5 : ∀ (w2 : Int32) (w3 : Int32) , k5 w2 w3 = some rr → PT (RM 1 24) 5 x 5 [(0, .ref am0), (1, .int v1), (2, .int w2), (3, .int w3)] [] (V_M x.1.2.2 am0 am1 am2 am3 am4 am5 am6 am7 am8 am9 am10 am11 am12 am13 am14 m_said m_tries m_state m_images m_isKept m_pad m_leftOf m_rightOf m_isApart m_group m_isPair m_isOne m_order m_rest m_aside m_others) 0 0 (QI x rr (V_M x.1.2.2 am0 am1 am2 am3 am4 am5 am6 am7 am8 am9 am10 am11 am12 am13 am14 m_said m_tries m_state m_images m_isKept m_pad m_leftOf m_rightOf m_isApart m_group m_isPair m_isOne m_order m_rest m_aside m_others))) (h : J_X6_nextPair_68 m_state m_group k20 k5 v1 v3 v4 = some rr) : PT (RM 1 24) 5 x 68 [(0, .ref am0), (1, .int v1), (3, .int v3), (4, .int v4)] [] (V_M x.1.2.2 am0 am1 am2 am3 am4 am5 am6 am7 am8 am9 am10 am11 am12 am13 am14 m_said m_tries m_state m_images m_isKept m_pad m_leftOf m_rightOf m_isApart m_group m_isPair m_isOne m_order m_rest m_aside m_others) 0 0 (QI x rr (V_M x.1.2.2 am0 am1 am2 am3 am4 am5 am6 am7 am8 am9 am10 am11 am12 am13 am14 m_said m_tries m_state m_images m_isKept m_pad m_leftOf m_rightOf m_isApart m_group m_isPair m_isOne m_order m_rest m_aside m_others)) := by
  unfold J_X6_nextPair_68 at h
  refine p_bipush (v := (8 : Int32)) C dX6_nextPair_68 rfl (by decide) ?_
  refine p_iload_n C dX6_nextPair_70 rfl 2 rfl ?_
  refine p_imul C dX6_nextPair_71 rfl ?_
  refine p_iload C dX6_nextPair_72 rfl 3 rfl ?_
  refine p_iadd C dX6_nextPair_74 rfl ?_
  refine p_istore_n (lv' := [(2, .int ((((8 : Int32)) * v3) + v4)), (0, .ref am0), (1, .int v1), (3, .int v3), (4, .int v4)]) C dX6_nextPair_75 rfl (by decide) rfl ?_
  refine p_locals [1, 2, 0, 3, 4] (lv' := [(0, .ref am0), (1, .int v1), (2, .int ((((8 : Int32)) * v3) + v4)), (3, .int v3), (4, .int v4)]) rfl ?_
  exact tj_X6_nextPair_76 C (fun u0 u1 h => hk20 u0 u1 h) (fun u0 u1 h => hk5 u0 u1 h) h
def B_X6_nextPair_20 (m_state : Ar) (m_group : Ar) (k5 : Int32 → Int32 → Option (Int32)) (v1 : Int32) (v3 : Int32) (kk : Int32 → Int32 → Option (Int32)) (v2 : Int32) (v4 : Int32)  : Option (Int32) := if (m_state 0) ≤ v4 then (k5 v2 (v3 + 1)) else (bd1 (m_X6_canJoin m_state m_group v3 v4 v1) (fun r3 => if r3 = 0 then (J_X6_nextPair_76 m_state m_group (kk) (k5) v1 v2 v3 v4) else (if v2 < 0 then (J_X6_nextPair_68 m_state m_group (kk) (k5) v1 v3 v4) else (bd1 (m_X6_farOf m_state v3 v4) (fun r7 => bd1 (m_X6_farOf m_state (v2 / ((8 : Int32))) (v2 - v2 / ((8 : Int32)) * ((8 : Int32)))) (fun r9 => if r9 ≤ r7 then (J_X6_nextPair_76 m_state m_group (kk) (k5) v1 v2 v3 v4) else (J_X6_nextPair_68 m_state m_group (kk) (k5) v1 v3 v4)))))))
def L_X6_nextPair_20 (m_state : Ar) (m_group : Ar) (k5 : Int32 → Int32 → Option (Int32)) (v1 : Int32) (v3 : Int32) : Nat → Int32 → Int32 → Option (Int32) := lpG (fun _ _ => none) (B_X6_nextPair_20 m_state m_group k5 v1 v3)
set_option maxHeartbeats 4000000 in
set_option maxRecDepth 100000 in
theorem tl_X6_nextPair_20 {x : Cxt} {am0 am1 am2 am3 am4 am5 am6 am7 am8 am9 am10 am11 am12 am13 am14 : Nat} {m_said : Int32} {m_tries : Int32} {m_state : Ar} {m_images : Ar} {m_isKept : Ar} {m_pad : Ar} {m_leftOf : Ar} {m_rightOf : Ar} {m_isApart : Ar} {m_group : Ar} {m_isPair : Ar} {m_isOne : Ar} {m_order : Ar} {m_rest : Ar} {m_aside : Ar} {m_others : Ar} {k5 : Int32 → Int32 → Option (Int32)} {v1 : Int32} {v3 : Int32} {rr : Int32} (C : CX RX6 cX6_nextPair 5 (some .int) x) (hk5 : ∀ (w2 : Int32) (w3 : Int32) , k5 w2 w3 = some rr → PT (RM 1 24) 5 x 5 [(0, .ref am0), (1, .int v1), (2, .int w2), (3, .int w3)] [] (V_M x.1.2.2 am0 am1 am2 am3 am4 am5 am6 am7 am8 am9 am10 am11 am12 am13 am14 m_said m_tries m_state m_images m_isKept m_pad m_leftOf m_rightOf m_isApart m_group m_isPair m_isOne m_order m_rest m_aside m_others) 0 0 (QI x rr (V_M x.1.2.2 am0 am1 am2 am3 am4 am5 am6 am7 am8 am9 am10 am11 am12 am13 am14 m_said m_tries m_state m_images m_isKept m_pad m_leftOf m_rightOf m_isApart m_group m_isPair m_isOne m_order m_rest m_aside m_others))) : ∀ (n : Nat) (v2 : Int32) (v4 : Int32) , L_X6_nextPair_20 m_state m_group k5 v1 v3 n v2 v4 = some rr → PT (RM 1 24) 5 x 20 [(0, .ref am0), (1, .int v1), (2, .int v2), (3, .int v3), (4, .int v4)] [] (V_M x.1.2.2 am0 am1 am2 am3 am4 am5 am6 am7 am8 am9 am10 am11 am12 am13 am14 m_said m_tries m_state m_images m_isKept m_pad m_leftOf m_rightOf m_isApart m_group m_isPair m_isOne m_order m_rest m_aside m_others) 0 0 (QI x rr (V_M x.1.2.2 am0 am1 am2 am3 am4 am5 am6 am7 am8 am9 am10 am11 am12 am13 am14 m_said m_tries m_state m_images m_isKept m_pad m_leftOf m_rightOf m_isApart m_group m_isPair m_isOne m_order m_rest m_aside m_others)) := by
  intro n
  induction n with
  | zero =>
    intro v2 v4 h
    cases h
  | succ n ih =>
    intro v2 v4 h
    have h : B_X6_nextPair_20 m_state m_group k5 v1 v3 (L_X6_nextPair_20 m_state m_group k5 v1 v3 n) v2 v4 = some rr := h
    unfold B_X6_nextPair_20 at h
    refine p_iload C dX6_nextPair_20 rfl 4 rfl ?_
    refine p_aload_n C dX6_nextPair_22 rfl 0 rfl ?_
    refine p_get C dX6_nextPair_23 rfl 0 0 inlX6 fl_X6_7 rfl rfl (by decide) rfl rfl ?_
    refine p_iconst (v := (0 : Int32)) C dX6_nextPair_26 rfl (by decide) ?_
    refine p_ialdj (j := 0) C dX6_nextPair_27 rfl 1 rfl (by decide) (by decide) ?_
    refine p_icmp_ge C dX6_nextPair_28 (tgt := 82) (by decide) rfl (fun c2 => ?_) (fun c2 => ?_)
    · have h := if_t c2 h
      refine p_iinc (w := v3 + 1) (lv' := [(3, .int (v3 + 1)), (0, .ref am0), (1, .int v1), (2, .int v2), (4, .int v4)]) C dX6_nextPair_82 rfl 3 rfl rfl (by decide) rfl ?_
      refine p_goto C dX6_nextPair_85 (pc' := 5) (by decide) ?_
      refine p_locals [1, 2, 3, 0] (lv' := [(0, .ref am0), (1, .int v1), (2, .int v2), (3, .int (v3 + 1))]) rfl ?_
      exact hk5 _ _ h
    · have h := if_f c2 h
      refine p_aload_n C dX6_nextPair_31 rfl 0 rfl ?_
      refine p_iload_n C dX6_nextPair_32 rfl 3 rfl ?_
      refine p_iload C dX6_nextPair_33 rfl 4 rfl ?_
      refine p_iload_n C dX6_nextPair_35 rfl 1 rfl ?_
      obtain ⟨r3, hc4, h⟩ := bd1_of h
      refine p_callVi_s (As := [.int v3, .int v4, .int v1]) (st' := []) (Wc' := (V_M x.1.2.2 am0 am1 am2 am3 am4 am5 am6 am7 am8 am9 am10 am11 am12 am13 am14 m_said m_tries m_state m_images m_isKept m_pad m_leftOf m_rightOf m_isApart m_group m_isPair m_isOne m_order m_rest m_aside m_others)) C (c_X6_canJoin x.1 (am0 := am0) (am1 := am1) (am2 := am2) (am3 := am3) (am4 := am4) (am5 := am5) (am6 := am6) (am7 := am7) (am8 := am8) (am9 := am9) (am10 := am10) (am11 := am11) (am12 := am12) (am13 := am13) (am14 := am14) (m_said := m_said) (m_tries := m_tries) (m_images := m_images) (m_isKept := m_isKept) (m_pad := m_pad) (m_leftOf := m_leftOf) (m_rightOf := m_rightOf) (m_isApart := m_isApart) (m_isPair := m_isPair) (m_isOne := m_isOne) (m_order := m_order) (m_rest := m_rest) (m_aside := m_aside) (m_others := m_others) hc4) dX6_nextPair_36 rfl ml_X6_76 kv_X6_canJoin ds_X6_canJoin ⟨rfl, rfl, by decide, by decide⟩ 0 rfl rfl rfl rfl (by decide) ⟨by decide, by decide⟩ ?_
      refine p_if_eq C dX6_nextPair_39 (tgt := 76) (by decide) rfl (fun c5 => ?_) (fun c5 => ?_)
      · have h := if_t c5 h
        refine p_locals [0, 1, 2, 3, 4] (lv' := [(0, .ref am0), (1, .int v1), (2, .int v2), (3, .int v3), (4, .int v4)]) rfl ?_
        exact tj_X6_nextPair_76 C (fun u0 u1 h => ih u0 u1 h) (fun u0 u1 h => hk5 u0 u1 h) h
      · have h := if_f c5 h
        refine p_iload_n C dX6_nextPair_42 rfl 2 rfl ?_
        refine p_if_lt C dX6_nextPair_43 (tgt := 68) (by decide) rfl (fun c6 => ?_) (fun c6 => ?_)
        · have h := if_t c6 h
          refine p_locals [0, 1, 3, 4] (lv' := [(0, .ref am0), (1, .int v1), (3, .int v3), (4, .int v4)]) rfl ?_
          exact tj_X6_nextPair_68 C (fun u0 u1 h => ih u0 u1 h) (fun u0 u1 h => hk5 u0 u1 h) h
        · have h := if_f c6 h
          refine p_aload_n C dX6_nextPair_46 rfl 0 rfl ?_
          refine p_iload_n C dX6_nextPair_47 rfl 3 rfl ?_
          refine p_iload C dX6_nextPair_48 rfl 4 rfl ?_
          obtain ⟨r7, hc8, h⟩ := bd1_of h
          refine p_callVi_s (As := [.int v3, .int v4]) (st' := []) (Wc' := (V_M x.1.2.2 am0 am1 am2 am3 am4 am5 am6 am7 am8 am9 am10 am11 am12 am13 am14 m_said m_tries m_state m_images m_isKept m_pad m_leftOf m_rightOf m_isApart m_group m_isPair m_isOne m_order m_rest m_aside m_others)) C (c_X6_farOf x.1 (am0 := am0) (am1 := am1) (am2 := am2) (am3 := am3) (am4 := am4) (am5 := am5) (am6 := am6) (am7 := am7) (am8 := am8) (am9 := am9) (am10 := am10) (am11 := am11) (am12 := am12) (am13 := am13) (am14 := am14) (m_said := m_said) (m_tries := m_tries) (m_images := m_images) (m_isKept := m_isKept) (m_pad := m_pad) (m_leftOf := m_leftOf) (m_rightOf := m_rightOf) (m_isApart := m_isApart) (m_group := m_group) (m_isPair := m_isPair) (m_isOne := m_isOne) (m_order := m_order) (m_rest := m_rest) (m_aside := m_aside) (m_others := m_others) hc8) dX6_nextPair_50 rfl ml_X6_68 kv_X6_farOf ds_X6_farOf ⟨rfl, rfl, by decide, by decide⟩ 0 rfl rfl rfl rfl (by decide) ⟨by decide, by decide⟩ ?_
          refine p_aload_n C dX6_nextPair_53 rfl 0 rfl ?_
          refine p_iload_n C dX6_nextPair_54 rfl 2 rfl ?_
          refine p_bipush (v := (8 : Int32)) C dX6_nextPair_55 rfl (by decide) ?_
          refine p_idiv C dX6_nextPair_57 rfl (by decide) ?_
          refine p_iload_n C dX6_nextPair_58 rfl 2 rfl ?_
          refine p_bipush (v := (8 : Int32)) C dX6_nextPair_59 rfl (by decide) ?_
          refine p_irem C dX6_nextPair_61 rfl (by decide) ?_
          obtain ⟨r9, hc10, h⟩ := bd1_of h
          refine p_callVi_s (As := [.int (v2 / ((8 : Int32))), .int (v2 - v2 / ((8 : Int32)) * ((8 : Int32)))]) (st' := [.int r7]) (Wc' := (V_M x.1.2.2 am0 am1 am2 am3 am4 am5 am6 am7 am8 am9 am10 am11 am12 am13 am14 m_said m_tries m_state m_images m_isKept m_pad m_leftOf m_rightOf m_isApart m_group m_isPair m_isOne m_order m_rest m_aside m_others)) C (c_X6_farOf x.1 (am0 := am0) (am1 := am1) (am2 := am2) (am3 := am3) (am4 := am4) (am5 := am5) (am6 := am6) (am7 := am7) (am8 := am8) (am9 := am9) (am10 := am10) (am11 := am11) (am12 := am12) (am13 := am13) (am14 := am14) (m_said := m_said) (m_tries := m_tries) (m_images := m_images) (m_isKept := m_isKept) (m_pad := m_pad) (m_leftOf := m_leftOf) (m_rightOf := m_rightOf) (m_isApart := m_isApart) (m_group := m_group) (m_isPair := m_isPair) (m_isOne := m_isOne) (m_order := m_order) (m_rest := m_rest) (m_aside := m_aside) (m_others := m_others) hc10) dX6_nextPair_62 rfl ml_X6_68 kv_X6_farOf ds_X6_farOf ⟨rfl, rfl, by decide, by decide⟩ 0 rfl rfl rfl rfl (Nat.le_of_ble_eq_true rfl) ⟨by decide, by decide⟩ ?_
          refine p_icmp_ge C dX6_nextPair_65 (tgt := 76) (by decide) rfl (fun c11 => ?_) (fun c11 => ?_)
          · have h := if_t c11 h
            refine p_locals [0, 1, 2, 3, 4] (lv' := [(0, .ref am0), (1, .int v1), (2, .int v2), (3, .int v3), (4, .int v4)]) rfl ?_
            exact tj_X6_nextPair_76 C (fun u0 u1 h => ih u0 u1 h) (fun u0 u1 h => hk5 u0 u1 h) h
          · have h := if_f c11 h
            refine p_locals [0, 1, 3, 4] (lv' := [(0, .ref am0), (1, .int v1), (3, .int v3), (4, .int v4)]) rfl ?_
            exact tj_X6_nextPair_68 C (fun u0 u1 h => ih u0 u1 h) (fun u0 u1 h => hk5 u0 u1 h) h
def B_X6_nextPair_5 (m_state : Ar) (m_group : Ar)  (v1 : Int32) (kk : Int32 → Int32 → Option (Int32)) (v2 : Int32) (v3 : Int32)  : Option (Int32) := if (m_state 0) ≤ v3 then (some v2) else (L_X6_nextPair_20 m_state m_group kk v1 v3 FU v2 (v3 + ((1 : Int32))))
def L_X6_nextPair_5 (m_state : Ar) (m_group : Ar)  (v1 : Int32) : Nat → Int32 → Int32 → Option (Int32) := lpG (fun _ _ => none) (B_X6_nextPair_5 m_state m_group v1)
set_option maxHeartbeats 4000000 in
set_option maxRecDepth 100000 in
theorem tl_X6_nextPair_5 {x : Cxt} {am0 am1 am2 am3 am4 am5 am6 am7 am8 am9 am10 am11 am12 am13 am14 : Nat} {m_said : Int32} {m_tries : Int32} {m_state : Ar} {m_images : Ar} {m_isKept : Ar} {m_pad : Ar} {m_leftOf : Ar} {m_rightOf : Ar} {m_isApart : Ar} {m_group : Ar} {m_isPair : Ar} {m_isOne : Ar} {m_order : Ar} {m_rest : Ar} {m_aside : Ar} {m_others : Ar}  {v1 : Int32} {rr : Int32} (C : CX RX6 cX6_nextPair 5 (some .int) x)  : ∀ (n : Nat) (v2 : Int32) (v3 : Int32) , L_X6_nextPair_5 m_state m_group v1 n v2 v3 = some rr → PT (RM 1 24) 5 x 5 [(0, .ref am0), (1, .int v1), (2, .int v2), (3, .int v3)] [] (V_M x.1.2.2 am0 am1 am2 am3 am4 am5 am6 am7 am8 am9 am10 am11 am12 am13 am14 m_said m_tries m_state m_images m_isKept m_pad m_leftOf m_rightOf m_isApart m_group m_isPair m_isOne m_order m_rest m_aside m_others) 0 0 (QI x rr (V_M x.1.2.2 am0 am1 am2 am3 am4 am5 am6 am7 am8 am9 am10 am11 am12 am13 am14 m_said m_tries m_state m_images m_isKept m_pad m_leftOf m_rightOf m_isApart m_group m_isPair m_isOne m_order m_rest m_aside m_others)) := by
  intro n
  induction n with
  | zero =>
    intro v2 v3 h
    cases h
  | succ n ih =>
    intro v2 v3 h
    have h : B_X6_nextPair_5 m_state m_group v1 (L_X6_nextPair_5 m_state m_group v1 n) v2 v3 = some rr := h
    unfold B_X6_nextPair_5 at h
    refine p_iload_n C dX6_nextPair_5 rfl 3 rfl ?_
    refine p_aload_n C dX6_nextPair_6 rfl 0 rfl ?_
    refine p_get C dX6_nextPair_7 rfl 0 0 inlX6 fl_X6_7 rfl rfl (by decide) rfl rfl ?_
    refine p_iconst (v := (0 : Int32)) C dX6_nextPair_10 rfl (by decide) ?_
    refine p_ialdj (j := 0) C dX6_nextPair_11 rfl 1 rfl (by decide) (by decide) ?_
    refine p_icmp_ge C dX6_nextPair_12 (tgt := 88) (by decide) rfl (fun c2 => ?_) (fun c2 => ?_)
    · have h := if_t c2 h
      refine p_iload_n C dX6_nextPair_88 rfl 2 rfl ?_
      cases h
      exact p_iret C dX6_nextPair_89
    · have h := if_f c2 h
      refine p_iload_n C dX6_nextPair_15 rfl 3 rfl ?_
      refine p_iconst (v := (1 : Int32)) C dX6_nextPair_16 rfl (by decide) ?_
      refine p_iadd C dX6_nextPair_17 rfl ?_
      refine p_istore (lv' := [(4, .int (v3 + ((1 : Int32)))), (0, .ref am0), (1, .int v1), (2, .int v2), (3, .int v3)]) C dX6_nextPair_18 rfl (by decide) rfl ?_
      refine p_locals [1, 2, 3, 4, 0] (lv' := [(0, .ref am0), (1, .int v1), (2, .int v2), (3, .int v3), (4, .int (v3 + ((1 : Int32))))]) rfl ?_
      exact tl_X6_nextPair_20 C (fun u0 u1 h => ih u0 u1 h) FU _ _ h
def m_X6_nextPair (m_state : Ar) (m_group : Ar) (p1 : Int32) : Option (Int32) := L_X6_nextPair_5 m_state m_group p1 FU ((-6 : Int32)) ((0 : Int32))
theorem ds_X6_nextPair : (yX6_nextPair).cls ≠ "java/lang/invoke/MethodHandle" ∧ (yX6_nextPair).cls ≠ "java/lang/invoke/VarHandle" ∧ (parseMethodDescriptor (yX6_nextPair).desc).map (fun d => d.parameters.length) = some 1 := by decide +kernel
set_option maxHeartbeats 4000000 in
set_option maxRecDepth 100000 in
theorem c_X6_nextPair (E : En) {am0 am1 am2 am3 am4 am5 am6 am7 am8 am9 am10 am11 am12 am13 am14 : Nat} {m_said : Int32} {m_tries : Int32} {m_state : Ar} {m_images : Ar} {m_isKept : Ar} {m_pad : Ar} {m_leftOf : Ar} {m_rightOf : Ar} {m_isApart : Ar} {m_group : Ar} {m_isPair : Ar} {m_isOne : Ar} {m_order : Ar} {m_rest : Ar} {m_aside : Ar} {m_others : Ar} {p1 : Int32} {rr : Int32} (h : m_X6_nextPair m_state m_group p1 = some rr) : Ci E yX6_nextPair (wU yX6_nextPair cX6_nextPair 5 (some .int)) (RM 1 24) [.ref am0, .int p1] (V_M E.2.2 am0 am1 am2 am3 am4 am5 am6 am7 am8 am9 am10 am11 am12 am13 am14 m_said m_tries m_state m_images m_isKept m_pad m_leftOf m_rightOf m_isApart m_group m_isPair m_isOne m_order m_rest m_aside m_others) (V_M E.2.2 am0 am1 am2 am3 am4 am5 am6 am7 am8 am9 am10 am11 am12 am13 am14 m_said m_tries m_state m_images m_isKept m_pad m_leftOf m_rightOf m_isApart m_group m_isPair m_isOne m_order m_rest m_aside m_others) rr := by
  refine Ci.of (by decide) (Nat.le_of_ble_eq_true rfl) ?_
  intro x hE C
  subst hE
  have C : CX RX6 cX6_nextPair 5 (some .int) x := C
  refine p_locals [0, 1] (lv' := [(0, .ref am0), (1, .int p1)]) rfl ?_
  unfold m_X6_nextPair at h
  refine p_bipush (v := (-6 : Int32)) C dX6_nextPair_0 rfl (by decide) ?_
  refine p_istore_n (lv' := [(2, .int ((-6 : Int32))), (0, .ref am0), (1, .int p1)]) C dX6_nextPair_2 rfl (by decide) rfl ?_
  refine p_iconst (v := (0 : Int32)) C dX6_nextPair_3 rfl (by decide) ?_
  refine p_istore_n (lv' := [(3, .int ((0 : Int32))), (2, .int ((-6 : Int32))), (0, .ref am0), (1, .int p1)]) C dX6_nextPair_4 rfl (by decide) rfl ?_
  refine p_locals [2, 3, 1, 0] (lv' := [(0, .ref am0), (1, .int p1), (2, .int ((-6 : Int32))), (3, .int ((0 : Int32)))]) rfl ?_
  exact tl_X6_nextPair_5 C  FU _ _ h
def J_X6_layTree_83 (m_tries : Int32) (m_state : Ar) (m_leftOf : Ar) (m_rightOf : Ar) (m_isApart : Ar) (m_group : Ar) (m_isPair : Ar) (k40 : Int32 → Int32 → Ar → Ar → Ar → Option (Int32 × Ar × Ar × Ar × Ar × Ar))  (v1 : Int32) (v3 : Int32) : Option (Int32 × Ar × Ar × Ar × Ar × Ar) := k40 (v3 + 1) m_tries m_leftOf m_rightOf m_isApart
set_option maxHeartbeats 4000000 in
set_option maxRecDepth 100000 in
theorem tj_X6_layTree_83 {x : Cxt} {am0 am1 am2 am3 am4 am5 am6 am7 am8 am9 am10 am11 am12 am13 am14 : Nat} {m_said : Int32} {m_tries : Int32} {m_state : Ar} {m_images : Ar} {m_isKept : Ar} {m_pad : Ar} {m_leftOf : Ar} {m_rightOf : Ar} {m_isApart : Ar} {m_group : Ar} {m_isPair : Ar} {m_isOne : Ar} {m_order : Ar} {m_rest : Ar} {m_aside : Ar} {m_others : Ar} {k40 : Int32 → Int32 → Ar → Ar → Ar → Option (Int32 × Ar × Ar × Ar × Ar × Ar)}  {v1 : Int32} {v3 : Int32} {q_m_tries : Int32} {q_m_leftOf : Ar} {q_m_rightOf : Ar} {q_m_isApart : Ar} {q_m_group : Ar} {q_m_isPair : Ar} (C : CX RX6 cX6_layTree 4 none x) (hk40 : ∀ (w3 : Int32) (w_m_tries : Int32) (w_m_leftOf : Ar) (w_m_rightOf : Ar) (w_m_isApart : Ar), k40 w3 w_m_tries w_m_leftOf w_m_rightOf w_m_isApart = some (q_m_tries, q_m_leftOf, q_m_rightOf, q_m_isApart, q_m_group, q_m_isPair) → PT (RM 2 48) 4 x 40 [(0, .ref am0), (1, .int v1), (3, .int w3)] [] (V_M x.1.2.2 am0 am1 am2 am3 am4 am5 am6 am7 am8 am9 am10 am11 am12 am13 am14 m_said w_m_tries m_state m_images m_isKept m_pad w_m_leftOf w_m_rightOf w_m_isApart m_group m_isPair m_isOne m_order m_rest m_aside m_others) 0 0 (QV x (V_M x.1.2.2 am0 am1 am2 am3 am4 am5 am6 am7 am8 am9 am10 am11 am12 am13 am14 m_said q_m_tries m_state m_images m_isKept m_pad q_m_leftOf q_m_rightOf q_m_isApart q_m_group q_m_isPair m_isOne m_order m_rest m_aside m_others))) (h : J_X6_layTree_83 m_tries m_state m_leftOf m_rightOf m_isApart m_group m_isPair k40 v1 v3 = some (q_m_tries, q_m_leftOf, q_m_rightOf, q_m_isApart, q_m_group, q_m_isPair)) : PT (RM 2 48) 4 x 83 [(0, .ref am0), (1, .int v1), (3, .int v3)] [] (V_M x.1.2.2 am0 am1 am2 am3 am4 am5 am6 am7 am8 am9 am10 am11 am12 am13 am14 m_said m_tries m_state m_images m_isKept m_pad m_leftOf m_rightOf m_isApart m_group m_isPair m_isOne m_order m_rest m_aside m_others) 0 0 (QV x (V_M x.1.2.2 am0 am1 am2 am3 am4 am5 am6 am7 am8 am9 am10 am11 am12 am13 am14 m_said q_m_tries m_state m_images m_isKept m_pad q_m_leftOf q_m_rightOf q_m_isApart q_m_group q_m_isPair m_isOne m_order m_rest m_aside m_others)) := by
  unfold J_X6_layTree_83 at h
  refine p_iinc (w := v3 + 1) (lv' := [(3, .int (v3 + 1)), (0, .ref am0), (1, .int v1)]) C dX6_layTree_83 rfl 2 rfl rfl (by decide) rfl ?_
  refine p_goto C dX6_layTree_86 (pc' := 40) (by decide) ?_
  refine p_locals [1, 2, 0] (lv' := [(0, .ref am0), (1, .int v1), (3, .int (v3 + 1))]) rfl ?_
  exact hk40 _ _ _ _ _ h
def B_X6_layTree_40 (m_state : Ar) (m_group : Ar) (m_isPair : Ar)  (v1 : Int32) (kk : Int32 → Int32 → Ar → Ar → Ar → Option (Int32 × Ar × Ar × Ar × Ar × Ar)) (v3 : Int32) (m_tries : Int32) (m_leftOf : Ar) (m_rightOf : Ar) (m_isApart : Ar) : Option (Int32 × Ar × Ar × Ar × Ar × Ar) := if ((64 : Int32)) ≤ v3 then (some (m_tries, m_leftOf, m_rightOf, m_isApart, m_group, m_isPair)) else (grd (gI v3 64) (if (m_isPair v3.toNatClampNeg) = 0 then (J_X6_layTree_83 m_tries m_state m_leftOf m_rightOf m_isApart m_group m_isPair (kk) v1 v3) else (grd (gI (((1 : Int32)) + (v3 / ((8 : Int32)))) 40) (if (m_state (((1 : Int32)) + (v3 / ((8 : Int32)))).toNatClampNeg) = v1 then (bd4 (m_X6_addTry m_tries m_state m_leftOf m_rightOf m_isApart (v3 / ((8 : Int32))) (v3 - v3 / ((8 : Int32)) * ((8 : Int32))) ((0 : Int32))) (fun z_tries6 z_leftOf7 z_rightOf8 z_isApart9 => J_X6_layTree_83 z_tries6 m_state z_leftOf7 z_rightOf8 z_isApart9 m_group m_isPair (kk) v1 v3)) else (J_X6_layTree_83 m_tries m_state m_leftOf m_rightOf m_isApart m_group m_isPair (kk) v1 v3)))))
def L_X6_layTree_40 (m_state : Ar) (m_group : Ar) (m_isPair : Ar)  (v1 : Int32) : Nat → Int32 → Int32 → Ar → Ar → Ar → Option (Int32 × Ar × Ar × Ar × Ar × Ar) := lpG (fun _ _ _ _ _ => none) (B_X6_layTree_40 m_state m_group m_isPair v1)
set_option maxHeartbeats 4000000 in
set_option maxRecDepth 100000 in
theorem tl_X6_layTree_40 {x : Cxt} {am0 am1 am2 am3 am4 am5 am6 am7 am8 am9 am10 am11 am12 am13 am14 : Nat} {m_said : Int32} {m_state : Ar} {m_images : Ar} {m_isKept : Ar} {m_pad : Ar} {m_group : Ar} {m_isPair : Ar} {m_isOne : Ar} {m_order : Ar} {m_rest : Ar} {m_aside : Ar} {m_others : Ar}  {v1 : Int32} {q_m_tries : Int32} {q_m_leftOf : Ar} {q_m_rightOf : Ar} {q_m_isApart : Ar} {q_m_group : Ar} {q_m_isPair : Ar} (C : CX RX6 cX6_layTree 4 none x)  : ∀ (n : Nat) (v3 : Int32) (m_tries : Int32) (m_leftOf : Ar) (m_rightOf : Ar) (m_isApart : Ar), L_X6_layTree_40 m_state m_group m_isPair v1 n v3 m_tries m_leftOf m_rightOf m_isApart = some (q_m_tries, q_m_leftOf, q_m_rightOf, q_m_isApart, q_m_group, q_m_isPair) → PT (RM 2 48) 4 x 40 [(0, .ref am0), (1, .int v1), (3, .int v3)] [] (V_M x.1.2.2 am0 am1 am2 am3 am4 am5 am6 am7 am8 am9 am10 am11 am12 am13 am14 m_said m_tries m_state m_images m_isKept m_pad m_leftOf m_rightOf m_isApart m_group m_isPair m_isOne m_order m_rest m_aside m_others) 0 0 (QV x (V_M x.1.2.2 am0 am1 am2 am3 am4 am5 am6 am7 am8 am9 am10 am11 am12 am13 am14 m_said q_m_tries m_state m_images m_isKept m_pad q_m_leftOf q_m_rightOf q_m_isApart q_m_group q_m_isPair m_isOne m_order m_rest m_aside m_others)) := by
  intro n
  induction n with
  | zero =>
    intro v3 m_tries m_leftOf m_rightOf m_isApart h
    cases h
  | succ n ih =>
    intro v3 m_tries m_leftOf m_rightOf m_isApart h
    have h : B_X6_layTree_40 m_state m_group m_isPair v1 (L_X6_layTree_40 m_state m_group m_isPair v1 n) v3 m_tries m_leftOf m_rightOf m_isApart = some (q_m_tries, q_m_leftOf, q_m_rightOf, q_m_isApart, q_m_group, q_m_isPair) := h
    unfold B_X6_layTree_40 at h
    refine p_iload_n C dX6_layTree_40 rfl 2 rfl ?_
    refine p_bipush (v := (64 : Int32)) C dX6_layTree_41 rfl (by decide) ?_
    refine p_icmp_ge C dX6_layTree_43 (tgt := 89) (by decide) rfl (fun c1 => ?_) (fun c1 => ?_)
    · have h := if_t c1 h
      cases h
      exact p_vret C dX6_layTree_89
    · have h := if_f c1 h
      refine p_aload_n C dX6_layTree_46 rfl 0 rfl ?_
      refine p_get C dX6_layTree_47 rfl 0 10 inlX6 fl_X6_35 rfl rfl (by decide) rfl rfl ?_
      refine p_iload_n C dX6_layTree_50 rfl 2 rfl ?_
      obtain ⟨g2, h⟩ := grd_of h
      refine p_zald C dX6_layTree_51 rfl 9 rfl g2 ?_
      refine p_if_eq C dX6_layTree_52 (tgt := 83) (by decide) rfl (fun c3 => ?_) (fun c3 => ?_)
      · have h := if_t c3 h
        refine p_locals [0, 1, 2] (lv' := [(0, .ref am0), (1, .int v1), (3, .int v3)]) rfl ?_
        exact tj_X6_layTree_83 C (fun u0 u1 u2 u3 u4 h => ih u0 u1 u2 u3 u4 h) h
      · have h := if_f c3 h
        refine p_aload_n C dX6_layTree_55 rfl 0 rfl ?_
        refine p_get C dX6_layTree_56 rfl 0 0 inlX6 fl_X6_7 rfl rfl (by decide) rfl rfl ?_
        refine p_iconst (v := (1 : Int32)) C dX6_layTree_59 rfl (by decide) ?_
        refine p_iload_n C dX6_layTree_60 rfl 2 rfl ?_
        refine p_bipush (v := (8 : Int32)) C dX6_layTree_61 rfl (by decide) ?_
        refine p_idiv C dX6_layTree_63 rfl (by decide) ?_
        refine p_iadd C dX6_layTree_64 rfl ?_
        obtain ⟨g4, h⟩ := grd_of h
        refine p_iald C dX6_layTree_65 rfl 1 rfl g4 ?_
        refine p_iload_n C dX6_layTree_66 rfl 1 rfl ?_
        refine p_icmp_ne C dX6_layTree_67 (tgt := 83) (by decide) rfl (fun c5 => ?_) (fun c5 => ?_)
        · have h := if_f c5 h
          refine p_locals [0, 1, 2] (lv' := [(0, .ref am0), (1, .int v1), (3, .int v3)]) rfl ?_
          exact tj_X6_layTree_83 C (fun u0 u1 u2 u3 u4 h => ih u0 u1 u2 u3 u4 h) h
        · have h := if_t c5 h
          refine p_aload_n C dX6_layTree_70 rfl 0 rfl ?_
          refine p_iload_n C dX6_layTree_71 rfl 2 rfl ?_
          refine p_bipush (v := (8 : Int32)) C dX6_layTree_72 rfl (by decide) ?_
          refine p_idiv C dX6_layTree_74 rfl (by decide) ?_
          refine p_iload_n C dX6_layTree_75 rfl 2 rfl ?_
          refine p_bipush (v := (8 : Int32)) C dX6_layTree_76 rfl (by decide) ?_
          refine p_irem C dX6_layTree_78 rfl (by decide) ?_
          refine p_iconst (v := (0 : Int32)) C dX6_layTree_79 rfl (by decide) ?_
          obtain ⟨z_tries6, z_leftOf7, z_rightOf8, z_isApart9, hc10, h⟩ := bd4_of h
          refine p_callVv_s (As := [.int (v3 / ((8 : Int32))), .int (v3 - v3 / ((8 : Int32)) * ((8 : Int32))), .int ((0 : Int32))]) (st' := []) (Wc' := (V_M x.1.2.2 am0 am1 am2 am3 am4 am5 am6 am7 am8 am9 am10 am11 am12 am13 am14 m_said z_tries6 m_state m_images m_isKept m_pad z_leftOf7 z_rightOf8 z_isApart9 m_group m_isPair m_isOne m_order m_rest m_aside m_others)) C (c_X6_addTry x.1 (am0 := am0) (am1 := am1) (am2 := am2) (am3 := am3) (am4 := am4) (am5 := am5) (am6 := am6) (am7 := am7) (am8 := am8) (am9 := am9) (am10 := am10) (am11 := am11) (am12 := am12) (am13 := am13) (am14 := am14) (m_said := m_said) (m_images := m_images) (m_isKept := m_isKept) (m_pad := m_pad) (m_group := m_group) (m_isPair := m_isPair) (m_isOne := m_isOne) (m_order := m_order) (m_rest := m_rest) (m_aside := m_aside) (m_others := m_others) hc10) dX6_layTree_80 rfl ml_X6_87 kv_X6_addTry ds_X6_addTry ⟨rfl, rfl, by decide, by decide⟩ 0 rfl rfl rfl rfl (by decide) ⟨by decide, by decide⟩ ?_
          refine p_locals [0, 1, 2] (lv' := [(0, .ref am0), (1, .int v1), (3, .int v3)]) rfl ?_
          exact tj_X6_layTree_83 C (fun u0 u1 u2 u3 u4 h => ih u0 u1 u2 u3 u4 h) h
def B_X6_layTree_6 (m_tries : Int32) (m_state : Ar) (m_leftOf : Ar) (m_rightOf : Ar) (m_isApart : Ar)  (v1 : Int32) (kk : Int32 → Ar → Ar → Option (Int32 × Ar × Ar × Ar × Ar × Ar)) (v2 : Int32) (m_group : Ar) (m_isPair : Ar) : Option (Int32 × Ar × Ar × Ar × Ar × Ar) := if v2 < 0 then (L_X6_layTree_40 m_state m_group m_isPair v1 FU ((0 : Int32)) m_tries m_leftOf m_rightOf m_isApart) else (grd (gI v2 64) (bd1 (m_X6_join m_state m_group (v2 / ((8 : Int32))) (v2 - v2 / ((8 : Int32)) * ((8 : Int32)))) (fun z_group3 => bd1 (m_X6_nextPair m_state z_group3 v1) (fun r5 => kk r5 z_group3 (upd m_isPair v2.toNatClampNeg ((1 : Int32)))))))
def L_X6_layTree_6 (m_tries : Int32) (m_state : Ar) (m_leftOf : Ar) (m_rightOf : Ar) (m_isApart : Ar)  (v1 : Int32) : Nat → Int32 → Ar → Ar → Option (Int32 × Ar × Ar × Ar × Ar × Ar) := lpG (fun _ _ _ => none) (B_X6_layTree_6 m_tries m_state m_leftOf m_rightOf m_isApart v1)
set_option maxHeartbeats 4000000 in
set_option maxRecDepth 100000 in
theorem tl_X6_layTree_6 {x : Cxt} {am0 am1 am2 am3 am4 am5 am6 am7 am8 am9 am10 am11 am12 am13 am14 : Nat} {m_said : Int32} {m_tries : Int32} {m_state : Ar} {m_images : Ar} {m_isKept : Ar} {m_pad : Ar} {m_leftOf : Ar} {m_rightOf : Ar} {m_isApart : Ar} {m_isOne : Ar} {m_order : Ar} {m_rest : Ar} {m_aside : Ar} {m_others : Ar}  {v1 : Int32} {q_m_tries : Int32} {q_m_leftOf : Ar} {q_m_rightOf : Ar} {q_m_isApart : Ar} {q_m_group : Ar} {q_m_isPair : Ar} (C : CX RX6 cX6_layTree 4 none x)  : ∀ (n : Nat) (v2 : Int32) (m_group : Ar) (m_isPair : Ar), L_X6_layTree_6 m_tries m_state m_leftOf m_rightOf m_isApart v1 n v2 m_group m_isPair = some (q_m_tries, q_m_leftOf, q_m_rightOf, q_m_isApart, q_m_group, q_m_isPair) → PT (RM 2 48) 4 x 6 [(0, .ref am0), (1, .int v1), (2, .int v2)] [] (V_M x.1.2.2 am0 am1 am2 am3 am4 am5 am6 am7 am8 am9 am10 am11 am12 am13 am14 m_said m_tries m_state m_images m_isKept m_pad m_leftOf m_rightOf m_isApart m_group m_isPair m_isOne m_order m_rest m_aside m_others) 0 0 (QV x (V_M x.1.2.2 am0 am1 am2 am3 am4 am5 am6 am7 am8 am9 am10 am11 am12 am13 am14 m_said q_m_tries m_state m_images m_isKept m_pad q_m_leftOf q_m_rightOf q_m_isApart q_m_group q_m_isPair m_isOne m_order m_rest m_aside m_others)) := by
  intro n
  induction n with
  | zero =>
    intro v2 m_group m_isPair h
    cases h
  | succ n ih =>
    intro v2 m_group m_isPair h
    have h : B_X6_layTree_6 m_tries m_state m_leftOf m_rightOf m_isApart v1 (L_X6_layTree_6 m_tries m_state m_leftOf m_rightOf m_isApart v1 n) v2 m_group m_isPair = some (q_m_tries, q_m_leftOf, q_m_rightOf, q_m_isApart, q_m_group, q_m_isPair) := h
    unfold B_X6_layTree_6 at h
    refine p_iload_n C dX6_layTree_6 rfl 2 rfl ?_
    refine p_if_lt C dX6_layTree_7 (tgt := 38) (by decide) rfl (fun c1 => ?_) (fun c1 => ?_)
    · have h := if_t c1 h
      refine p_iconst (v := (0 : Int32)) C dX6_layTree_38 rfl (by decide) ?_
      refine p_istore_n (lv' := [(3, .int ((0 : Int32))), (0, .ref am0), (1, .int v1), (2, .int v2)]) C dX6_layTree_39 rfl (by decide) rfl ?_
      refine p_locals [1, 2, 0] (lv' := [(0, .ref am0), (1, .int v1), (3, .int ((0 : Int32)))]) rfl ?_
      exact tl_X6_layTree_40 C  FU _ _ _ _ _ h
    · have h := if_f c1 h
      refine p_aload_n C dX6_layTree_10 rfl 0 rfl ?_
      refine p_get C dX6_layTree_11 rfl 0 10 inlX6 fl_X6_35 rfl rfl (by decide) rfl rfl ?_
      refine p_iload_n C dX6_layTree_14 rfl 2 rfl ?_
      refine p_iconst (v := (1 : Int32)) C dX6_layTree_15 rfl (by decide) ?_
      obtain ⟨g2, h⟩ := grd_of h
      refine p_zast (Wd' := (V_M x.1.2.2 am0 am1 am2 am3 am4 am5 am6 am7 am8 am9 am10 am11 am12 am13 am14 m_said m_tries m_state m_images m_isKept m_pad m_leftOf m_rightOf m_isApart m_group (upd m_isPair v2.toNatClampNeg ((1 : Int32))) m_isOne m_order m_rest m_aside m_others)) C dX6_layTree_16 rfl 9 rfl g2 rfl ?_
      refine p_aload_n C dX6_layTree_17 rfl 0 rfl ?_
      refine p_iload_n C dX6_layTree_18 rfl 2 rfl ?_
      refine p_bipush (v := (8 : Int32)) C dX6_layTree_19 rfl (by decide) ?_
      refine p_idiv C dX6_layTree_21 rfl (by decide) ?_
      refine p_iload_n C dX6_layTree_22 rfl 2 rfl ?_
      refine p_bipush (v := (8 : Int32)) C dX6_layTree_23 rfl (by decide) ?_
      refine p_irem C dX6_layTree_25 rfl (by decide) ?_
      obtain ⟨z_group3, hc4, h⟩ := bd1_of h
      refine p_callVv_s (As := [.int (v2 / ((8 : Int32))), .int (v2 - v2 / ((8 : Int32)) * ((8 : Int32)))]) (st' := []) (Wc' := (V_M x.1.2.2 am0 am1 am2 am3 am4 am5 am6 am7 am8 am9 am10 am11 am12 am13 am14 m_said m_tries m_state m_images m_isKept m_pad m_leftOf m_rightOf m_isApart z_group3 (upd m_isPair v2.toNatClampNeg ((1 : Int32))) m_isOne m_order m_rest m_aside m_others)) C (c_X6_join x.1 (am0 := am0) (am1 := am1) (am2 := am2) (am3 := am3) (am4 := am4) (am5 := am5) (am6 := am6) (am7 := am7) (am8 := am8) (am9 := am9) (am10 := am10) (am11 := am11) (am12 := am12) (am13 := am13) (am14 := am14) (m_said := m_said) (m_tries := m_tries) (m_images := m_images) (m_isKept := m_isKept) (m_pad := m_pad) (m_leftOf := m_leftOf) (m_rightOf := m_rightOf) (m_isApart := m_isApart) (m_isPair := upd m_isPair v2.toNatClampNeg ((1 : Int32))) (m_isOne := m_isOne) (m_order := m_order) (m_rest := m_rest) (m_aside := m_aside) (m_others := m_others) hc4) dX6_layTree_26 rfl ml_X6_83 kv_X6_join ds_X6_join ⟨rfl, rfl, by decide, by decide⟩ 0 rfl rfl rfl rfl (by decide) ⟨by decide, by decide⟩ ?_
      refine p_aload_n C dX6_layTree_29 rfl 0 rfl ?_
      refine p_iload_n C dX6_layTree_30 rfl 1 rfl ?_
      obtain ⟨r5, hc6, h⟩ := bd1_of h
      refine p_callVi_s (As := [.int v1]) (st' := []) (Wc' := (V_M x.1.2.2 am0 am1 am2 am3 am4 am5 am6 am7 am8 am9 am10 am11 am12 am13 am14 m_said m_tries m_state m_images m_isKept m_pad m_leftOf m_rightOf m_isApart z_group3 (upd m_isPair v2.toNatClampNeg ((1 : Int32))) m_isOne m_order m_rest m_aside m_others)) C (c_X6_nextPair x.1 (am0 := am0) (am1 := am1) (am2 := am2) (am3 := am3) (am4 := am4) (am5 := am5) (am6 := am6) (am7 := am7) (am8 := am8) (am9 := am9) (am10 := am10) (am11 := am11) (am12 := am12) (am13 := am13) (am14 := am14) (m_said := m_said) (m_tries := m_tries) (m_images := m_images) (m_isKept := m_isKept) (m_pad := m_pad) (m_leftOf := m_leftOf) (m_rightOf := m_rightOf) (m_isApart := m_isApart) (m_isPair := upd m_isPair v2.toNatClampNeg ((1 : Int32))) (m_isOne := m_isOne) (m_order := m_order) (m_rest := m_rest) (m_aside := m_aside) (m_others := m_others) hc6) dX6_layTree_31 rfl ml_X6_79 kv_X6_nextPair ds_X6_nextPair ⟨rfl, rfl, by decide, by decide⟩ 0 rfl rfl rfl rfl (by decide) ⟨by decide, by decide⟩ ?_
      refine p_istore_n (lv' := [(2, .int r5), (0, .ref am0), (1, .int v1)]) C dX6_layTree_34 rfl (by decide) rfl ?_
      refine p_goto C dX6_layTree_35 (pc' := 6) (by decide) ?_
      refine p_locals [1, 2, 0] (lv' := [(0, .ref am0), (1, .int v1), (2, .int r5)]) rfl ?_
      exact ih _ _ _ h
def m_X6_layTree (m_tries : Int32) (m_state : Ar) (m_leftOf : Ar) (m_rightOf : Ar) (m_isApart : Ar) (m_group : Ar) (m_isPair : Ar) (p1 : Int32) : Option (Int32 × Ar × Ar × Ar × Ar × Ar) := bd1 (m_X6_nextPair m_state m_group p1) (fun r1 => L_X6_layTree_6 m_tries m_state m_leftOf m_rightOf m_isApart p1 FU r1 m_group m_isPair)
theorem ds_X6_layTree : (yX6_layTree).cls ≠ "java/lang/invoke/MethodHandle" ∧ (yX6_layTree).cls ≠ "java/lang/invoke/VarHandle" ∧ (parseMethodDescriptor (yX6_layTree).desc).map (fun d => d.parameters.length) = some 1 := by decide +kernel
set_option maxHeartbeats 4000000 in
set_option maxRecDepth 100000 in
theorem c_X6_layTree (E : En) {am0 am1 am2 am3 am4 am5 am6 am7 am8 am9 am10 am11 am12 am13 am14 : Nat} {m_said : Int32} {m_tries : Int32} {m_state : Ar} {m_images : Ar} {m_isKept : Ar} {m_pad : Ar} {m_leftOf : Ar} {m_rightOf : Ar} {m_isApart : Ar} {m_group : Ar} {m_isPair : Ar} {m_isOne : Ar} {m_order : Ar} {m_rest : Ar} {m_aside : Ar} {m_others : Ar} {p1 : Int32} {q_m_tries : Int32} {q_m_leftOf : Ar} {q_m_rightOf : Ar} {q_m_isApart : Ar} {q_m_group : Ar} {q_m_isPair : Ar} (h : m_X6_layTree m_tries m_state m_leftOf m_rightOf m_isApart m_group m_isPair p1 = some (q_m_tries, q_m_leftOf, q_m_rightOf, q_m_isApart, q_m_group, q_m_isPair)) : Cv E yX6_layTree (wU yX6_layTree cX6_layTree 4 none) (RM 2 48) [.ref am0, .int p1] (V_M E.2.2 am0 am1 am2 am3 am4 am5 am6 am7 am8 am9 am10 am11 am12 am13 am14 m_said m_tries m_state m_images m_isKept m_pad m_leftOf m_rightOf m_isApart m_group m_isPair m_isOne m_order m_rest m_aside m_others) (V_M E.2.2 am0 am1 am2 am3 am4 am5 am6 am7 am8 am9 am10 am11 am12 am13 am14 m_said q_m_tries m_state m_images m_isKept m_pad q_m_leftOf q_m_rightOf q_m_isApart q_m_group q_m_isPair m_isOne m_order m_rest m_aside m_others) := by
  refine Cv.of (by decide) (Nat.le_of_ble_eq_true rfl) ?_
  intro x hE C
  subst hE
  have C : CX RX6 cX6_layTree 4 none x := C
  refine p_locals [0, 1] (lv' := [(0, .ref am0), (1, .int p1)]) rfl ?_
  unfold m_X6_layTree at h
  refine p_aload_n C dX6_layTree_0 rfl 0 rfl ?_
  refine p_iload_n C dX6_layTree_1 rfl 1 rfl ?_
  obtain ⟨r1, hc2, h⟩ := bd1_of h
  refine p_callVi_s (As := [.int p1]) (st' := []) (Wc' := (V_M x.1.2.2 am0 am1 am2 am3 am4 am5 am6 am7 am8 am9 am10 am11 am12 am13 am14 m_said m_tries m_state m_images m_isKept m_pad m_leftOf m_rightOf m_isApart m_group m_isPair m_isOne m_order m_rest m_aside m_others)) C (c_X6_nextPair x.1 (am0 := am0) (am1 := am1) (am2 := am2) (am3 := am3) (am4 := am4) (am5 := am5) (am6 := am6) (am7 := am7) (am8 := am8) (am9 := am9) (am10 := am10) (am11 := am11) (am12 := am12) (am13 := am13) (am14 := am14) (m_said := m_said) (m_tries := m_tries) (m_images := m_images) (m_isKept := m_isKept) (m_pad := m_pad) (m_leftOf := m_leftOf) (m_rightOf := m_rightOf) (m_isApart := m_isApart) (m_isPair := m_isPair) (m_isOne := m_isOne) (m_order := m_order) (m_rest := m_rest) (m_aside := m_aside) (m_others := m_others) hc2) dX6_layTree_2 rfl ml_X6_79 kv_X6_nextPair ds_X6_nextPair ⟨rfl, rfl, by decide, by decide⟩ 0 rfl rfl rfl rfl (by decide) ⟨by decide, by decide⟩ ?_
  refine p_istore_n (lv' := [(2, .int r1), (0, .ref am0), (1, .int p1)]) C dX6_layTree_5 rfl (by decide) rfl ?_
  refine p_locals [1, 2, 0] (lv' := [(0, .ref am0), (1, .int p1), (2, .int r1)]) rfl ?_
  exact tl_X6_layTree_6 C  FU _ _ _ h
