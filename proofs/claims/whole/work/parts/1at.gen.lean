def J_X6_restFrom_78 (m_tries : Int32) (m_state : Ar) (m_leftOf : Ar) (m_rightOf : Ar) (m_rest : Ar) (k6 : Int32 → Int32 → Option (Int32))  (v1 : Int32) (v2 : Int32) (v3 : Int32) (v4 : Int32) : Option (Int32) := k6 v3 (v4 + 1)
set_option maxHeartbeats 4000000 in
set_option maxRecDepth 100000 in
theorem tj_X6_restFrom_78 {x : Cxt} {am0 am1 am2 am3 am4 am5 am6 am7 am8 am9 am10 am11 am12 am13 am14 : Nat} {m_said : Int32} {m_tries : Int32} {m_state : Ar} {m_images : Ar} {m_isKept : Ar} {m_pad : Ar} {m_leftOf : Ar} {m_rightOf : Ar} {m_isApart : Ar} {m_group : Ar} {m_isPair : Ar} {m_isOne : Ar} {m_order : Ar} {m_rest : Ar} {m_aside : Ar} {m_others : Ar} {k6 : Int32 → Int32 → Option (Int32)}  {v1 : Int32} {v2 : Int32} {v3 : Int32} {v4 : Int32} {rr : Int32} (C : CX RX6 cX6_restFrom 6 (some .int) x) (hk6 : ∀ (w3 : Int32) (w4 : Int32) , k6 w3 w4 = some rr → PT (RM 2 49) 6 x 6 [(0, .ref am0), (1, .int v1), (2, .int v2), (3, .int w3), (4, .int w4)] [] (V_M x.1.2.2 am0 am1 am2 am3 am4 am5 am6 am7 am8 am9 am10 am11 am12 am13 am14 m_said m_tries m_state m_images m_isKept m_pad m_leftOf m_rightOf m_isApart m_group m_isPair m_isOne m_order m_rest m_aside m_others) 0 0 (QI x rr (V_M x.1.2.2 am0 am1 am2 am3 am4 am5 am6 am7 am8 am9 am10 am11 am12 am13 am14 m_said m_tries m_state m_images m_isKept m_pad m_leftOf m_rightOf m_isApart m_group m_isPair m_isOne m_order m_rest m_aside m_others))) (h : J_X6_restFrom_78 m_tries m_state m_leftOf m_rightOf m_rest k6 v1 v2 v3 v4 = some rr) : PT (RM 2 49) 6 x 78 [(0, .ref am0), (1, .int v1), (2, .int v2), (3, .int v3), (4, .int v4)] [] (V_M x.1.2.2 am0 am1 am2 am3 am4 am5 am6 am7 am8 am9 am10 am11 am12 am13 am14 m_said m_tries m_state m_images m_isKept m_pad m_leftOf m_rightOf m_isApart m_group m_isPair m_isOne m_order m_rest m_aside m_others) 0 0 (QI x rr (V_M x.1.2.2 am0 am1 am2 am3 am4 am5 am6 am7 am8 am9 am10 am11 am12 am13 am14 m_said m_tries m_state m_images m_isKept m_pad m_leftOf m_rightOf m_isApart m_group m_isPair m_isOne m_order m_rest m_aside m_others)) := by
  unfold J_X6_restFrom_78 at h
  refine p_iinc (w := v4 + 1) (lv' := [(4, .int (v4 + 1)), (0, .ref am0), (1, .int v1), (2, .int v2), (3, .int v3)]) C dX6_restFrom_78 rfl 4 rfl rfl (by decide) rfl ?_
  refine p_goto C dX6_restFrom_81 (pc' := 6) (by decide) ?_
  refine p_locals [1, 2, 3, 4, 0] (lv' := [(0, .ref am0), (1, .int v1), (2, .int v2), (3, .int v3), (4, .int (v4 + 1))]) rfl ?_
  exact hk6 _ _ h
def J_X6_restFrom_77 (m_tries : Int32) (m_state : Ar) (m_leftOf : Ar) (m_rightOf : Ar) (m_rest : Ar) (k6 : Int32 → Int32 → Option (Int32)) (e0 : Int32) (v1 : Int32) (v2 : Int32) (v4 : Int32) : Option (Int32) := J_X6_restFrom_78 m_tries m_state m_leftOf m_rightOf m_rest (k6) v1 v2 e0 v4
set_option maxHeartbeats 4000000 in
set_option maxRecDepth 100000 in
theorem tj_X6_restFrom_77 {x : Cxt} {am0 am1 am2 am3 am4 am5 am6 am7 am8 am9 am10 am11 am12 am13 am14 : Nat} {m_said : Int32} {m_tries : Int32} {m_state : Ar} {m_images : Ar} {m_isKept : Ar} {m_pad : Ar} {m_leftOf : Ar} {m_rightOf : Ar} {m_isApart : Ar} {m_group : Ar} {m_isPair : Ar} {m_isOne : Ar} {m_order : Ar} {m_rest : Ar} {m_aside : Ar} {m_others : Ar} {k6 : Int32 → Int32 → Option (Int32)} {e0 : Int32} {v1 : Int32} {v2 : Int32} {v4 : Int32} {rr : Int32} (C : CX RX6 cX6_restFrom 6 (some .int) x) (hk6 : ∀ (w3 : Int32) (w4 : Int32) , k6 w3 w4 = some rr → PT (RM 2 49) 6 x 6 [(0, .ref am0), (1, .int v1), (2, .int v2), (3, .int w3), (4, .int w4)] [] (V_M x.1.2.2 am0 am1 am2 am3 am4 am5 am6 am7 am8 am9 am10 am11 am12 am13 am14 m_said m_tries m_state m_images m_isKept m_pad m_leftOf m_rightOf m_isApart m_group m_isPair m_isOne m_order m_rest m_aside m_others) 0 0 (QI x rr (V_M x.1.2.2 am0 am1 am2 am3 am4 am5 am6 am7 am8 am9 am10 am11 am12 am13 am14 m_said m_tries m_state m_images m_isKept m_pad m_leftOf m_rightOf m_isApart m_group m_isPair m_isOne m_order m_rest m_aside m_others))) (h : J_X6_restFrom_77 m_tries m_state m_leftOf m_rightOf m_rest k6 e0 v1 v2 v4 = some rr) : PT (RM 2 49) 6 x 77 [(0, .ref am0), (1, .int v1), (2, .int v2), (4, .int v4)] [.int e0] (V_M x.1.2.2 am0 am1 am2 am3 am4 am5 am6 am7 am8 am9 am10 am11 am12 am13 am14 m_said m_tries m_state m_images m_isKept m_pad m_leftOf m_rightOf m_isApart m_group m_isPair m_isOne m_order m_rest m_aside m_others) 0 0 (QI x rr (V_M x.1.2.2 am0 am1 am2 am3 am4 am5 am6 am7 am8 am9 am10 am11 am12 am13 am14 m_said m_tries m_state m_images m_isKept m_pad m_leftOf m_rightOf m_isApart m_group m_isPair m_isOne m_order m_rest m_aside m_others)) := by
  unfold J_X6_restFrom_77 at h
  refine p_istore_n (lv' := [(3, .int e0), (0, .ref am0), (1, .int v1), (2, .int v2), (4, .int v4)]) C dX6_restFrom_77 rfl (by decide) rfl ?_
  refine p_locals [1, 2, 3, 0, 4] (lv' := [(0, .ref am0), (1, .int v1), (2, .int v2), (3, .int e0), (4, .int v4)]) rfl ?_
  exact tj_X6_restFrom_78 C (fun u0 u1 h => hk6 u0 u1 h) h
def J_X6_restFrom_71 (m_tries : Int32) (m_state : Ar) (m_leftOf : Ar) (m_rightOf : Ar) (m_rest : Ar) (k6 : Int32 → Int32 → Option (Int32))  (v1 : Int32) (v2 : Int32) (v4 : Int32) (v5 : Int32) : Option (Int32) := J_X6_restFrom_77 m_tries m_state m_leftOf m_rightOf m_rest (k6) v5 v1 v2 v4
set_option maxHeartbeats 4000000 in
set_option maxRecDepth 100000 in
theorem tj_X6_restFrom_71 {x : Cxt} {am0 am1 am2 am3 am4 am5 am6 am7 am8 am9 am10 am11 am12 am13 am14 : Nat} {m_said : Int32} {m_tries : Int32} {m_state : Ar} {m_images : Ar} {m_isKept : Ar} {m_pad : Ar} {m_leftOf : Ar} {m_rightOf : Ar} {m_isApart : Ar} {m_group : Ar} {m_isPair : Ar} {m_isOne : Ar} {m_order : Ar} {m_rest : Ar} {m_aside : Ar} {m_others : Ar} {k6 : Int32 → Int32 → Option (Int32)}  {v1 : Int32} {v2 : Int32} {v4 : Int32} {v5 : Int32} {rr : Int32} (C : CX RX6 cX6_restFrom 6 (some .int) x) (hk6 : ∀ (w3 : Int32) (w4 : Int32) , k6 w3 w4 = some rr → PT (RM 2 49) 6 x 6 [(0, .ref am0), (1, .int v1), (2, .int v2), (3, .int w3), (4, .int w4)] [] (V_M x.1.2.2 am0 am1 am2 am3 am4 am5 am6 am7 am8 am9 am10 am11 am12 am13 am14 m_said m_tries m_state m_images m_isKept m_pad m_leftOf m_rightOf m_isApart m_group m_isPair m_isOne m_order m_rest m_aside m_others) 0 0 (QI x rr (V_M x.1.2.2 am0 am1 am2 am3 am4 am5 am6 am7 am8 am9 am10 am11 am12 am13 am14 m_said m_tries m_state m_images m_isKept m_pad m_leftOf m_rightOf m_isApart m_group m_isPair m_isOne m_order m_rest m_aside m_others))) (h : J_X6_restFrom_71 m_tries m_state m_leftOf m_rightOf m_rest k6 v1 v2 v4 v5 = some rr) : PT (RM 2 49) 6 x 71 [(0, .ref am0), (1, .int v1), (2, .int v2), (4, .int v4), (5, .int v5)] [] (V_M x.1.2.2 am0 am1 am2 am3 am4 am5 am6 am7 am8 am9 am10 am11 am12 am13 am14 m_said m_tries m_state m_images m_isKept m_pad m_leftOf m_rightOf m_isApart m_group m_isPair m_isOne m_order m_rest m_aside m_others) 0 0 (QI x rr (V_M x.1.2.2 am0 am1 am2 am3 am4 am5 am6 am7 am8 am9 am10 am11 am12 am13 am14 m_said m_tries m_state m_images m_isKept m_pad m_leftOf m_rightOf m_isApart m_group m_isPair m_isOne m_order m_rest m_aside m_others)) := by
  unfold J_X6_restFrom_71 at h
  refine p_iload C dX6_restFrom_71 rfl 4 rfl ?_
  refine p_goto C dX6_restFrom_73 (pc' := 77) (by decide) ?_
  refine p_locals [0, 1, 2, 3] (lv' := [(0, .ref am0), (1, .int v1), (2, .int v2), (4, .int v4)]) rfl ?_
  exact tj_X6_restFrom_77 C (fun u0 u1 h => hk6 u0 u1 h) h
def J_X6_restFrom_36 (m_tries : Int32) (m_state : Ar) (m_leftOf : Ar) (m_rightOf : Ar) (m_rest : Ar) (k6 : Int32 → Int32 → Option (Int32)) (e0 : Int32) (v1 : Int32) (v2 : Int32) (v3 : Int32) (v4 : Int32) : Option (Int32) := bd1 (m_X6_timeOf m_state m_leftOf m_rightOf e0 v4) (fun r1 => grd (gI ((((11 : Int32)) * (v1 ||| (((1 : Int32)) <<< (v4 &&& 31)))) + v4) 11264) (bd1 (some (r1 + (m_rest ((((11 : Int32)) * (v1 ||| (((1 : Int32)) <<< (v4 &&& 31)))) + v4).toNatClampNeg))) (fun x4 => if v3 < 0 then (J_X6_restFrom_71 m_tries m_state m_leftOf m_rightOf m_rest (k6) v1 v2 v4 x4) else (if v3 ≤ x4 then (J_X6_restFrom_77 m_tries m_state m_leftOf m_rightOf m_rest (k6) v3 v1 v2 v4) else (J_X6_restFrom_71 m_tries m_state m_leftOf m_rightOf m_rest (k6) v1 v2 v4 x4)))))
set_option maxHeartbeats 4000000 in
set_option maxRecDepth 100000 in
theorem tj_X6_restFrom_36 {x : Cxt} {am0 am1 am2 am3 am4 am5 am6 am7 am8 am9 am10 am11 am12 am13 am14 : Nat} {m_said : Int32} {m_tries : Int32} {m_state : Ar} {m_images : Ar} {m_isKept : Ar} {m_pad : Ar} {m_leftOf : Ar} {m_rightOf : Ar} {m_isApart : Ar} {m_group : Ar} {m_isPair : Ar} {m_isOne : Ar} {m_order : Ar} {m_rest : Ar} {m_aside : Ar} {m_others : Ar} {k6 : Int32 → Int32 → Option (Int32)} {e0 : Int32} {v1 : Int32} {v2 : Int32} {v3 : Int32} {v4 : Int32} {rr : Int32} (C : CX RX6 cX6_restFrom 6 (some .int) x) (hk6 : ∀ (w3 : Int32) (w4 : Int32) , k6 w3 w4 = some rr → PT (RM 2 49) 6 x 6 [(0, .ref am0), (1, .int v1), (2, .int v2), (3, .int w3), (4, .int w4)] [] (V_M x.1.2.2 am0 am1 am2 am3 am4 am5 am6 am7 am8 am9 am10 am11 am12 am13 am14 m_said m_tries m_state m_images m_isKept m_pad m_leftOf m_rightOf m_isApart m_group m_isPair m_isOne m_order m_rest m_aside m_others) 0 0 (QI x rr (V_M x.1.2.2 am0 am1 am2 am3 am4 am5 am6 am7 am8 am9 am10 am11 am12 am13 am14 m_said m_tries m_state m_images m_isKept m_pad m_leftOf m_rightOf m_isApart m_group m_isPair m_isOne m_order m_rest m_aside m_others))) (h : J_X6_restFrom_36 m_tries m_state m_leftOf m_rightOf m_rest k6 e0 v1 v2 v3 v4 = some rr) : PT (RM 2 49) 6 x 36 [(0, .ref am0), (1, .int v1), (2, .int v2), (3, .int v3), (4, .int v4)] [.int e0, .ref am0] (V_M x.1.2.2 am0 am1 am2 am3 am4 am5 am6 am7 am8 am9 am10 am11 am12 am13 am14 m_said m_tries m_state m_images m_isKept m_pad m_leftOf m_rightOf m_isApart m_group m_isPair m_isOne m_order m_rest m_aside m_others) 0 0 (QI x rr (V_M x.1.2.2 am0 am1 am2 am3 am4 am5 am6 am7 am8 am9 am10 am11 am12 am13 am14 m_said m_tries m_state m_images m_isKept m_pad m_leftOf m_rightOf m_isApart m_group m_isPair m_isOne m_order m_rest m_aside m_others)) := by
  unfold J_X6_restFrom_36 at h
  refine p_iload C dX6_restFrom_36 rfl 4 rfl ?_
  obtain ⟨r1, hc2, h⟩ := bd1_of h
  refine p_callVi_s (As := [.int e0, .int v4]) (st' := []) (Wc' := (V_M x.1.2.2 am0 am1 am2 am3 am4 am5 am6 am7 am8 am9 am10 am11 am12 am13 am14 m_said m_tries m_state m_images m_isKept m_pad m_leftOf m_rightOf m_isApart m_group m_isPair m_isOne m_order m_rest m_aside m_others)) C (c_X6_timeOf x.1 (am0 := am0) (am1 := am1) (am2 := am2) (am3 := am3) (am4 := am4) (am5 := am5) (am6 := am6) (am7 := am7) (am8 := am8) (am9 := am9) (am10 := am10) (am11 := am11) (am12 := am12) (am13 := am13) (am14 := am14) (m_said := m_said) (m_tries := m_tries) (m_images := m_images) (m_isKept := m_isKept) (m_pad := m_pad) (m_isApart := m_isApart) (m_group := m_group) (m_isPair := m_isPair) (m_isOne := m_isOne) (m_order := m_order) (m_rest := m_rest) (m_aside := m_aside) (m_others := m_others) hc2) dX6_restFrom_38 rfl ml_X6_123 kv_X6_timeOf ds_X6_timeOf ⟨rfl, rfl, by decide, by decide⟩ 0 rfl rfl rfl rfl (by decide) ⟨by decide, by decide⟩ ?_
  refine p_aload_n C dX6_restFrom_41 rfl 0 rfl ?_
  refine p_get C dX6_restFrom_42 rfl 0 13 inlX6 fl_X6_44 rfl rfl (by decide) rfl rfl ?_
  refine p_bipush (v := (11 : Int32)) C dX6_restFrom_45 rfl (by decide) ?_
  refine p_iload_n C dX6_restFrom_47 rfl 1 rfl ?_
  refine p_iconst (v := (1 : Int32)) C dX6_restFrom_48 rfl (by decide) ?_
  refine p_iload C dX6_restFrom_49 rfl 4 rfl ?_
  refine p_ishl C dX6_restFrom_51 rfl ?_
  refine p_ior C dX6_restFrom_52 rfl ?_
  refine p_imul C dX6_restFrom_53 rfl ?_
  refine p_iload C dX6_restFrom_54 rfl 4 rfl ?_
  refine p_iadd C dX6_restFrom_56 rfl ?_
  obtain ⟨g3, h⟩ := grd_of h
  refine p_iald C dX6_restFrom_57 rfl 12 rfl g3 ?_
  refine p_iadd C dX6_restFrom_58 rfl ?_
  obtain ⟨x4, hx5, h⟩ := bd1_of h
  have hx5 := Option.some.inj hx5
  rw [hx5]
  refine p_istore (lv' := [(5, .int x4), (0, .ref am0), (1, .int v1), (2, .int v2), (3, .int v3), (4, .int v4)]) C dX6_restFrom_59 rfl (by decide) rfl ?_
  refine p_iload_n C dX6_restFrom_61 rfl 4 rfl ?_
  refine p_if_lt C dX6_restFrom_62 (tgt := 71) (by decide) rfl (fun c6 => ?_) (fun c6 => ?_)
  · have h := if_t c6 h
    refine p_locals [1, 2, 3, 5, 0] (lv' := [(0, .ref am0), (1, .int v1), (2, .int v2), (4, .int v4), (5, .int x4)]) rfl ?_
    exact tj_X6_restFrom_71 C (fun u0 u1 h => hk6 u0 u1 h) h
  · have h := if_f c6 h
    refine p_iload C dX6_restFrom_65 rfl 0 rfl ?_
    refine p_iload_n C dX6_restFrom_67 rfl 4 rfl ?_
    refine p_icmp_ge C dX6_restFrom_68 (tgt := 76) (by decide) rfl (fun c7 => ?_) (fun c7 => ?_)
    · have h := if_t c7 h
      refine p_iload_n C dX6_restFrom_76 rfl 4 rfl ?_
      refine p_locals [1, 2, 3, 5] (lv' := [(0, .ref am0), (1, .int v1), (2, .int v2), (4, .int v4)]) rfl ?_
      exact tj_X6_restFrom_77 C (fun u0 u1 h => hk6 u0 u1 h) h
    · have h := if_f c7 h
      refine p_locals [1, 2, 3, 5, 0] (lv' := [(0, .ref am0), (1, .int v1), (2, .int v2), (4, .int v4), (5, .int x4)]) rfl ?_
      exact tj_X6_restFrom_71 C (fun u0 u1 h => hk6 u0 u1 h) h
def B_X6_restFrom_6 (m_tries : Int32) (m_state : Ar) (m_leftOf : Ar) (m_rightOf : Ar) (m_rest : Ar)  (v1 : Int32) (v2 : Int32) (kk : Int32 → Int32 → Option (Int32)) (v3 : Int32) (v4 : Int32)  : Option (Int32) := if m_tries ≤ v4 then (if 0 ≤ v3 then (some v3) else (some ((0 : Int32)))) else (if ((v1 >>> (v4 &&& 31)) &&& ((1 : Int32))) = 0 then (if v2 = ((10 : Int32)) then (J_X6_restFrom_36 m_tries m_state m_leftOf m_rightOf m_rest (kk) ((-1 : Int32)) v1 v2 v3 v4) else (J_X6_restFrom_36 m_tries m_state m_leftOf m_rightOf m_rest (kk) v2 v1 v2 v3 v4)) else (J_X6_restFrom_78 m_tries m_state m_leftOf m_rightOf m_rest (kk) v1 v2 v3 v4))
def L_X6_restFrom_6 (m_tries : Int32) (m_state : Ar) (m_leftOf : Ar) (m_rightOf : Ar) (m_rest : Ar)  (v1 : Int32) (v2 : Int32) : Nat → Int32 → Int32 → Option (Int32) := lpG (fun _ _ => none) (B_X6_restFrom_6 m_tries m_state m_leftOf m_rightOf m_rest v1 v2)
set_option maxHeartbeats 4000000 in
set_option maxRecDepth 100000 in
theorem tl_X6_restFrom_6 {x : Cxt} {am0 am1 am2 am3 am4 am5 am6 am7 am8 am9 am10 am11 am12 am13 am14 : Nat} {m_said : Int32} {m_tries : Int32} {m_state : Ar} {m_images : Ar} {m_isKept : Ar} {m_pad : Ar} {m_leftOf : Ar} {m_rightOf : Ar} {m_isApart : Ar} {m_group : Ar} {m_isPair : Ar} {m_isOne : Ar} {m_order : Ar} {m_rest : Ar} {m_aside : Ar} {m_others : Ar}  {v1 : Int32} {v2 : Int32} {rr : Int32} (C : CX RX6 cX6_restFrom 6 (some .int) x)  : ∀ (n : Nat) (v3 : Int32) (v4 : Int32) , L_X6_restFrom_6 m_tries m_state m_leftOf m_rightOf m_rest v1 v2 n v3 v4 = some rr → PT (RM 2 49) 6 x 6 [(0, .ref am0), (1, .int v1), (2, .int v2), (3, .int v3), (4, .int v4)] [] (V_M x.1.2.2 am0 am1 am2 am3 am4 am5 am6 am7 am8 am9 am10 am11 am12 am13 am14 m_said m_tries m_state m_images m_isKept m_pad m_leftOf m_rightOf m_isApart m_group m_isPair m_isOne m_order m_rest m_aside m_others) 0 0 (QI x rr (V_M x.1.2.2 am0 am1 am2 am3 am4 am5 am6 am7 am8 am9 am10 am11 am12 am13 am14 m_said m_tries m_state m_images m_isKept m_pad m_leftOf m_rightOf m_isApart m_group m_isPair m_isOne m_order m_rest m_aside m_others)) := by
  intro n
  induction n with
  | zero =>
    intro v3 v4 h
    cases h
  | succ n ih =>
    intro v3 v4 h
    have h : B_X6_restFrom_6 m_tries m_state m_leftOf m_rightOf m_rest v1 v2 (L_X6_restFrom_6 m_tries m_state m_leftOf m_rightOf m_rest v1 v2 n) v3 v4 = some rr := h
    unfold B_X6_restFrom_6 at h
    refine p_iload C dX6_restFrom_6 rfl 4 rfl ?_
    refine p_aload_n C dX6_restFrom_8 rfl 0 rfl ?_
    refine p_get C dX6_restFrom_9 rfl 0 8 inlX6 fl_X6_72 rfl rfl (by decide) rfl rfl ?_
    refine p_icmp_ge C dX6_restFrom_12 (tgt := 84) (by decide) rfl (fun c1 => ?_) (fun c1 => ?_)
    · have h := if_t c1 h
      refine p_iload_n C dX6_restFrom_84 rfl 3 rfl ?_
      refine p_if_ge C dX6_restFrom_85 (tgt := 92) (by decide) rfl (fun c2 => ?_) (fun c2 => ?_)
      · have h := if_t c2 h
        refine p_iload_n C dX6_restFrom_92 rfl 3 rfl ?_
        cases h
        exact p_iret C dX6_restFrom_93
      · have h := if_f c2 h
        refine p_iconst (v := (0 : Int32)) C dX6_restFrom_88 rfl (by decide) ?_
        refine p_goto C dX6_restFrom_89 (pc' := 93) (by decide) ?_
        cases h
        exact p_iret C dX6_restFrom_93
    · have h := if_f c1 h
      refine p_iload_n C dX6_restFrom_15 rfl 1 rfl ?_
      refine p_iload C dX6_restFrom_16 rfl 4 rfl ?_
      refine p_ishr C dX6_restFrom_18 rfl ?_
      refine p_iconst (v := (1 : Int32)) C dX6_restFrom_19 rfl (by decide) ?_
      refine p_iand C dX6_restFrom_20 rfl ?_
      refine p_if_ne C dX6_restFrom_21 (tgt := 78) (by decide) rfl (fun c3 => ?_) (fun c3 => ?_)
      · have h := if_f c3 h
        refine p_locals [0, 1, 2, 3, 4] (lv' := [(0, .ref am0), (1, .int v1), (2, .int v2), (3, .int v3), (4, .int v4)]) rfl ?_
        exact tj_X6_restFrom_78 C (fun u0 u1 h => ih u0 u1 h) h
      · have h := if_t c3 h
        refine p_aload_n C dX6_restFrom_24 rfl 0 rfl ?_
        refine p_iload_n C dX6_restFrom_25 rfl 2 rfl ?_
        refine p_bipush (v := (10 : Int32)) C dX6_restFrom_26 rfl (by decide) ?_
        refine p_icmp_ne C dX6_restFrom_28 (tgt := 35) (by decide) rfl (fun c4 => ?_) (fun c4 => ?_)
        · have h := if_f c4 h
          refine p_iload_n C dX6_restFrom_35 rfl 2 rfl ?_
          refine p_locals [0, 1, 2, 3, 4] (lv' := [(0, .ref am0), (1, .int v1), (2, .int v2), (3, .int v3), (4, .int v4)]) rfl ?_
          exact tj_X6_restFrom_36 C (fun u0 u1 h => ih u0 u1 h) h
        · have h := if_t c4 h
          refine p_iconst (v := (-1 : Int32)) C dX6_restFrom_31 rfl (by decide) ?_
          refine p_goto C dX6_restFrom_32 (pc' := 36) (by decide) ?_
          refine p_locals [0, 1, 2, 3, 4] (lv' := [(0, .ref am0), (1, .int v1), (2, .int v2), (3, .int v3), (4, .int v4)]) rfl ?_
          exact tj_X6_restFrom_36 C (fun u0 u1 h => ih u0 u1 h) h
def m_X6_restFrom (m_tries : Int32) (m_state : Ar) (m_leftOf : Ar) (m_rightOf : Ar) (m_rest : Ar) (p1 : Int32) (p2 : Int32) : Option (Int32) := L_X6_restFrom_6 m_tries m_state m_leftOf m_rightOf m_rest p1 p2 FU ((-6 : Int32)) ((0 : Int32))
theorem ds_X6_restFrom : (yX6_restFrom).cls ≠ "java/lang/invoke/MethodHandle" ∧ (yX6_restFrom).cls ≠ "java/lang/invoke/VarHandle" ∧ (parseMethodDescriptor (yX6_restFrom).desc).map (fun d => d.parameters.length) = some 2 := by decide +kernel
set_option maxHeartbeats 4000000 in
set_option maxRecDepth 100000 in
theorem c_X6_restFrom (E : En) {am0 am1 am2 am3 am4 am5 am6 am7 am8 am9 am10 am11 am12 am13 am14 : Nat} {m_said : Int32} {m_tries : Int32} {m_state : Ar} {m_images : Ar} {m_isKept : Ar} {m_pad : Ar} {m_leftOf : Ar} {m_rightOf : Ar} {m_isApart : Ar} {m_group : Ar} {m_isPair : Ar} {m_isOne : Ar} {m_order : Ar} {m_rest : Ar} {m_aside : Ar} {m_others : Ar} {p1 : Int32} {p2 : Int32} {rr : Int32} (h : m_X6_restFrom m_tries m_state m_leftOf m_rightOf m_rest p1 p2 = some rr) : Ci E yX6_restFrom (wU yX6_restFrom cX6_restFrom 6 (some .int)) (RM 2 49) [.ref am0, .int p1, .int p2] (V_M E.2.2 am0 am1 am2 am3 am4 am5 am6 am7 am8 am9 am10 am11 am12 am13 am14 m_said m_tries m_state m_images m_isKept m_pad m_leftOf m_rightOf m_isApart m_group m_isPair m_isOne m_order m_rest m_aside m_others) (V_M E.2.2 am0 am1 am2 am3 am4 am5 am6 am7 am8 am9 am10 am11 am12 am13 am14 m_said m_tries m_state m_images m_isKept m_pad m_leftOf m_rightOf m_isApart m_group m_isPair m_isOne m_order m_rest m_aside m_others) rr := by
  refine Ci.of (by decide) (Nat.le_of_ble_eq_true rfl) ?_
  intro x hE C
  subst hE
  have C : CX RX6 cX6_restFrom 6 (some .int) x := C
  refine p_locals [0, 1, 2] (lv' := [(0, .ref am0), (1, .int p1), (2, .int p2)]) rfl ?_
  unfold m_X6_restFrom at h
  refine p_bipush (v := (-6 : Int32)) C dX6_restFrom_0 rfl (by decide) ?_
  refine p_istore_n (lv' := [(3, .int ((-6 : Int32))), (0, .ref am0), (1, .int p1), (2, .int p2)]) C dX6_restFrom_2 rfl (by decide) rfl ?_
  refine p_iconst (v := (0 : Int32)) C dX6_restFrom_3 rfl (by decide) ?_
  refine p_istore (lv' := [(4, .int ((0 : Int32))), (3, .int ((-6 : Int32))), (0, .ref am0), (1, .int p1), (2, .int p2)]) C dX6_restFrom_4 rfl (by decide) rfl ?_
  refine p_locals [2, 3, 4, 1, 0] (lv' := [(0, .ref am0), (1, .int p1), (2, .int p2), (3, .int ((-6 : Int32))), (4, .int ((0 : Int32)))]) rfl ?_
  exact tl_X6_restFrom_6 C  FU _ _ h
def J_X6_layRest_75 (m_tries : Int32) (m_state : Ar) (m_leftOf : Ar) (m_rightOf : Ar) (m_rest : Ar) (k15 : Int32 → Ar → Option (Ar)) (k9 : Int32 → Ar → Option (Ar))  (v1 : Int32) (v2 : Int32) : Option (Ar) := k15 (v2 + 1) m_rest
set_option maxHeartbeats 4000000 in
set_option maxRecDepth 100000 in
theorem tj_X6_layRest_75 {x : Cxt} {am0 am1 am2 am3 am4 am5 am6 am7 am8 am9 am10 am11 am12 am13 am14 : Nat} {m_said : Int32} {m_tries : Int32} {m_state : Ar} {m_images : Ar} {m_isKept : Ar} {m_pad : Ar} {m_leftOf : Ar} {m_rightOf : Ar} {m_isApart : Ar} {m_group : Ar} {m_isPair : Ar} {m_isOne : Ar} {m_order : Ar} {m_rest : Ar} {m_aside : Ar} {m_others : Ar} {k15 : Int32 → Ar → Option (Ar)} {k9 : Int32 → Ar → Option (Ar)}  {v1 : Int32} {v2 : Int32} {q_m_rest : Ar} (C : CX RX6 cX6_layRest 4 none x) (hk15 : ∀ (w2 : Int32) (w_m_rest : Ar), k15 w2 w_m_rest = some q_m_rest → PT (RM 3 74) 4 x 15 [(0, .ref am0), (1, .int v1), (2, .int w2)] [] (V_M x.1.2.2 am0 am1 am2 am3 am4 am5 am6 am7 am8 am9 am10 am11 am12 am13 am14 m_said m_tries m_state m_images m_isKept m_pad m_leftOf m_rightOf m_isApart m_group m_isPair m_isOne m_order w_m_rest m_aside m_others) 0 0 (QV x (V_M x.1.2.2 am0 am1 am2 am3 am4 am5 am6 am7 am8 am9 am10 am11 am12 am13 am14 m_said m_tries m_state m_images m_isKept m_pad m_leftOf m_rightOf m_isApart m_group m_isPair m_isOne m_order q_m_rest m_aside m_others))) (hk9 : ∀ (w1 : Int32) (w_m_rest : Ar), k9 w1 w_m_rest = some q_m_rest → PT (RM 3 74) 4 x 9 [(0, .ref am0), (1, .int w1)] [] (V_M x.1.2.2 am0 am1 am2 am3 am4 am5 am6 am7 am8 am9 am10 am11 am12 am13 am14 m_said m_tries m_state m_images m_isKept m_pad m_leftOf m_rightOf m_isApart m_group m_isPair m_isOne m_order w_m_rest m_aside m_others) 0 0 (QV x (V_M x.1.2.2 am0 am1 am2 am3 am4 am5 am6 am7 am8 am9 am10 am11 am12 am13 am14 m_said m_tries m_state m_images m_isKept m_pad m_leftOf m_rightOf m_isApart m_group m_isPair m_isOne m_order q_m_rest m_aside m_others))) (h : J_X6_layRest_75 m_tries m_state m_leftOf m_rightOf m_rest k15 k9 v1 v2 = some q_m_rest) : PT (RM 3 74) 4 x 75 [(0, .ref am0), (1, .int v1), (2, .int v2)] [] (V_M x.1.2.2 am0 am1 am2 am3 am4 am5 am6 am7 am8 am9 am10 am11 am12 am13 am14 m_said m_tries m_state m_images m_isKept m_pad m_leftOf m_rightOf m_isApart m_group m_isPair m_isOne m_order m_rest m_aside m_others) 0 0 (QV x (V_M x.1.2.2 am0 am1 am2 am3 am4 am5 am6 am7 am8 am9 am10 am11 am12 am13 am14 m_said m_tries m_state m_images m_isKept m_pad m_leftOf m_rightOf m_isApart m_group m_isPair m_isOne m_order q_m_rest m_aside m_others)) := by
  unfold J_X6_layRest_75 at h
  refine p_iinc (w := v2 + 1) (lv' := [(2, .int (v2 + 1)), (0, .ref am0), (1, .int v1)]) C dX6_layRest_75 rfl 2 rfl rfl (by decide) rfl ?_
  refine p_goto C dX6_layRest_78 (pc' := 15) (by decide) ?_
  refine p_locals [1, 2, 0] (lv' := [(0, .ref am0), (1, .int v1), (2, .int (v2 + 1))]) rfl ?_
  exact hk15 _ _ h
def J_X6_layRest_53 (m_tries : Int32) (m_state : Ar) (m_leftOf : Ar) (m_rightOf : Ar) (m_rest : Ar) (k15 : Int32 → Ar → Option (Ar)) (k9 : Int32 → Ar → Option (Ar)) (e0 : Int32) (v1 : Int32) (v2 : Int32) : Option (Ar) := if e0 = 0 then (J_X6_layRest_75 m_tries m_state m_leftOf m_rightOf m_rest (k15) (k9) v1 v2) else (bd1 (m_X6_restFrom m_tries m_state m_leftOf m_rightOf m_rest v1 v2) (fun r2 => grd (gI ((((11 : Int32)) * v1) + v2) 11264) (J_X6_layRest_75 m_tries m_state m_leftOf m_rightOf (upd m_rest ((((11 : Int32)) * v1) + v2).toNatClampNeg r2) (k15) (k9) v1 v2)))
set_option maxHeartbeats 4000000 in
set_option maxRecDepth 100000 in
theorem tj_X6_layRest_53 {x : Cxt} {am0 am1 am2 am3 am4 am5 am6 am7 am8 am9 am10 am11 am12 am13 am14 : Nat} {m_said : Int32} {m_tries : Int32} {m_state : Ar} {m_images : Ar} {m_isKept : Ar} {m_pad : Ar} {m_leftOf : Ar} {m_rightOf : Ar} {m_isApart : Ar} {m_group : Ar} {m_isPair : Ar} {m_isOne : Ar} {m_order : Ar} {m_rest : Ar} {m_aside : Ar} {m_others : Ar} {k15 : Int32 → Ar → Option (Ar)} {k9 : Int32 → Ar → Option (Ar)} {e0 : Int32} {v1 : Int32} {v2 : Int32} {q_m_rest : Ar} (C : CX RX6 cX6_layRest 4 none x) (hk15 : ∀ (w2 : Int32) (w_m_rest : Ar), k15 w2 w_m_rest = some q_m_rest → PT (RM 3 74) 4 x 15 [(0, .ref am0), (1, .int v1), (2, .int w2)] [] (V_M x.1.2.2 am0 am1 am2 am3 am4 am5 am6 am7 am8 am9 am10 am11 am12 am13 am14 m_said m_tries m_state m_images m_isKept m_pad m_leftOf m_rightOf m_isApart m_group m_isPair m_isOne m_order w_m_rest m_aside m_others) 0 0 (QV x (V_M x.1.2.2 am0 am1 am2 am3 am4 am5 am6 am7 am8 am9 am10 am11 am12 am13 am14 m_said m_tries m_state m_images m_isKept m_pad m_leftOf m_rightOf m_isApart m_group m_isPair m_isOne m_order q_m_rest m_aside m_others))) (hk9 : ∀ (w1 : Int32) (w_m_rest : Ar), k9 w1 w_m_rest = some q_m_rest → PT (RM 3 74) 4 x 9 [(0, .ref am0), (1, .int w1)] [] (V_M x.1.2.2 am0 am1 am2 am3 am4 am5 am6 am7 am8 am9 am10 am11 am12 am13 am14 m_said m_tries m_state m_images m_isKept m_pad m_leftOf m_rightOf m_isApart m_group m_isPair m_isOne m_order w_m_rest m_aside m_others) 0 0 (QV x (V_M x.1.2.2 am0 am1 am2 am3 am4 am5 am6 am7 am8 am9 am10 am11 am12 am13 am14 m_said m_tries m_state m_images m_isKept m_pad m_leftOf m_rightOf m_isApart m_group m_isPair m_isOne m_order q_m_rest m_aside m_others))) (h : J_X6_layRest_53 m_tries m_state m_leftOf m_rightOf m_rest k15 k9 e0 v1 v2 = some q_m_rest) : PT (RM 3 74) 4 x 53 [(0, .ref am0), (1, .int v1), (2, .int v2)] [.int e0] (V_M x.1.2.2 am0 am1 am2 am3 am4 am5 am6 am7 am8 am9 am10 am11 am12 am13 am14 m_said m_tries m_state m_images m_isKept m_pad m_leftOf m_rightOf m_isApart m_group m_isPair m_isOne m_order m_rest m_aside m_others) 0 0 (QV x (V_M x.1.2.2 am0 am1 am2 am3 am4 am5 am6 am7 am8 am9 am10 am11 am12 am13 am14 m_said m_tries m_state m_images m_isKept m_pad m_leftOf m_rightOf m_isApart m_group m_isPair m_isOne m_order q_m_rest m_aside m_others)) := by
  unfold J_X6_layRest_53 at h
  refine p_istore_n (lv' := [(3, .int e0), (0, .ref am0), (1, .int v1), (2, .int v2)]) C dX6_layRest_53 rfl (by decide) rfl ?_
  refine p_iload_n C dX6_layRest_54 rfl 0 rfl ?_
  refine p_if_eq C dX6_layRest_55 (tgt := 75) (by decide) rfl (fun c1 => ?_) (fun c1 => ?_)
  · have h := if_t c1 h
    refine p_locals [1, 2, 3] (lv' := [(0, .ref am0), (1, .int v1), (2, .int v2)]) rfl ?_
    exact tj_X6_layRest_75 C (fun u0 u1 h => hk15 u0 u1 h) (fun u0 u1 h => hk9 u0 u1 h) h
  · have h := if_f c1 h
    refine p_aload_n C dX6_layRest_58 rfl 1 rfl ?_
    refine p_get C dX6_layRest_59 rfl 0 13 inlX6 fl_X6_44 rfl rfl (by decide) rfl rfl ?_
    refine p_bipush (v := (11 : Int32)) C dX6_layRest_62 rfl (by decide) ?_
    refine p_iload_n C dX6_layRest_64 rfl 2 rfl ?_
    refine p_imul C dX6_layRest_65 rfl ?_
    refine p_iload_n C dX6_layRest_66 rfl 3 rfl ?_
    refine p_iadd C dX6_layRest_67 rfl ?_
    refine p_aload_n C dX6_layRest_68 rfl 1 rfl ?_
    refine p_iload_n C dX6_layRest_69 rfl 2 rfl ?_
    refine p_iload_n C dX6_layRest_70 rfl 3 rfl ?_
    obtain ⟨r2, hc3, h⟩ := bd1_of h
    refine p_callVi_s (As := [.int v1, .int v2]) (st' := [.int ((((11 : Int32)) * v1) + v2), .ref am12]) (Wc' := (V_M x.1.2.2 am0 am1 am2 am3 am4 am5 am6 am7 am8 am9 am10 am11 am12 am13 am14 m_said m_tries m_state m_images m_isKept m_pad m_leftOf m_rightOf m_isApart m_group m_isPair m_isOne m_order m_rest m_aside m_others)) C (c_X6_restFrom x.1 (am0 := am0) (am1 := am1) (am2 := am2) (am3 := am3) (am4 := am4) (am5 := am5) (am6 := am6) (am7 := am7) (am8 := am8) (am9 := am9) (am10 := am10) (am11 := am11) (am12 := am12) (am13 := am13) (am14 := am14) (m_said := m_said) (m_images := m_images) (m_isKept := m_isKept) (m_pad := m_pad) (m_isApart := m_isApart) (m_group := m_group) (m_isPair := m_isPair) (m_isOne := m_isOne) (m_order := m_order) (m_aside := m_aside) (m_others := m_others) hc3) dX6_layRest_71 rfl ml_X6_132 kv_X6_restFrom ds_X6_restFrom ⟨rfl, rfl, by decide, by decide⟩ 0 rfl rfl rfl rfl (Nat.le_of_ble_eq_true rfl) ⟨by decide, by decide⟩ ?_
    obtain ⟨g4, h⟩ := grd_of h
    refine p_iast (Wd' := (V_M x.1.2.2 am0 am1 am2 am3 am4 am5 am6 am7 am8 am9 am10 am11 am12 am13 am14 m_said m_tries m_state m_images m_isKept m_pad m_leftOf m_rightOf m_isApart m_group m_isPair m_isOne m_order (upd m_rest ((((11 : Int32)) * v1) + v2).toNatClampNeg r2) m_aside m_others)) C dX6_layRest_74 rfl 12 rfl g4 rfl ?_
    refine p_locals [1, 2, 3] (lv' := [(0, .ref am0), (1, .int v1), (2, .int v2)]) rfl ?_
    exact tj_X6_layRest_75 C (fun u0 u1 h => hk15 u0 u1 h) (fun u0 u1 h => hk9 u0 u1 h) h
def B_X6_layRest_15 (m_tries : Int32) (m_state : Ar) (m_leftOf : Ar) (m_rightOf : Ar) (k9 : Int32 → Ar → Option (Ar)) (v1 : Int32) (kk : Int32 → Ar → Option (Ar)) (v2 : Int32) (m_rest : Ar) : Option (Ar) := if ((11 : Int32)) ≤ v2 then (k9 (v1 + (-1)) m_rest) else (if v2 = ((10 : Int32)) then (if v1 = 0 then (J_X6_layRest_53 m_tries m_state m_leftOf m_rightOf m_rest (kk) (k9) ((1 : Int32)) v1 v2) else (J_X6_layRest_53 m_tries m_state m_leftOf m_rightOf m_rest (kk) (k9) ((0 : Int32)) v1 v2)) else (if ((v1 >>> (v2 &&& 31)) &&& ((1 : Int32))) = ((1 : Int32)) then (J_X6_layRest_53 m_tries m_state m_leftOf m_rightOf m_rest (kk) (k9) ((1 : Int32)) v1 v2) else (J_X6_layRest_53 m_tries m_state m_leftOf m_rightOf m_rest (kk) (k9) ((0 : Int32)) v1 v2)))
def L_X6_layRest_15 (m_tries : Int32) (m_state : Ar) (m_leftOf : Ar) (m_rightOf : Ar) (k9 : Int32 → Ar → Option (Ar)) (v1 : Int32) : Nat → Int32 → Ar → Option (Ar) := lpG (fun _ _ => none) (B_X6_layRest_15 m_tries m_state m_leftOf m_rightOf k9 v1)
set_option maxHeartbeats 4000000 in
set_option maxRecDepth 100000 in
theorem tl_X6_layRest_15 {x : Cxt} {am0 am1 am2 am3 am4 am5 am6 am7 am8 am9 am10 am11 am12 am13 am14 : Nat} {m_said : Int32} {m_tries : Int32} {m_state : Ar} {m_images : Ar} {m_isKept : Ar} {m_pad : Ar} {m_leftOf : Ar} {m_rightOf : Ar} {m_isApart : Ar} {m_group : Ar} {m_isPair : Ar} {m_isOne : Ar} {m_order : Ar} {m_aside : Ar} {m_others : Ar} {k9 : Int32 → Ar → Option (Ar)} {v1 : Int32} {q_m_rest : Ar} (C : CX RX6 cX6_layRest 4 none x) (hk9 : ∀ (w1 : Int32) (w_m_rest : Ar), k9 w1 w_m_rest = some q_m_rest → PT (RM 3 74) 4 x 9 [(0, .ref am0), (1, .int w1)] [] (V_M x.1.2.2 am0 am1 am2 am3 am4 am5 am6 am7 am8 am9 am10 am11 am12 am13 am14 m_said m_tries m_state m_images m_isKept m_pad m_leftOf m_rightOf m_isApart m_group m_isPair m_isOne m_order w_m_rest m_aside m_others) 0 0 (QV x (V_M x.1.2.2 am0 am1 am2 am3 am4 am5 am6 am7 am8 am9 am10 am11 am12 am13 am14 m_said m_tries m_state m_images m_isKept m_pad m_leftOf m_rightOf m_isApart m_group m_isPair m_isOne m_order q_m_rest m_aside m_others))) : ∀ (n : Nat) (v2 : Int32) (m_rest : Ar), L_X6_layRest_15 m_tries m_state m_leftOf m_rightOf k9 v1 n v2 m_rest = some q_m_rest → PT (RM 3 74) 4 x 15 [(0, .ref am0), (1, .int v1), (2, .int v2)] [] (V_M x.1.2.2 am0 am1 am2 am3 am4 am5 am6 am7 am8 am9 am10 am11 am12 am13 am14 m_said m_tries m_state m_images m_isKept m_pad m_leftOf m_rightOf m_isApart m_group m_isPair m_isOne m_order m_rest m_aside m_others) 0 0 (QV x (V_M x.1.2.2 am0 am1 am2 am3 am4 am5 am6 am7 am8 am9 am10 am11 am12 am13 am14 m_said m_tries m_state m_images m_isKept m_pad m_leftOf m_rightOf m_isApart m_group m_isPair m_isOne m_order q_m_rest m_aside m_others)) := by
  intro n
  induction n with
  | zero =>
    intro v2 m_rest h
    cases h
  | succ n ih =>
    intro v2 m_rest h
    have h : B_X6_layRest_15 m_tries m_state m_leftOf m_rightOf k9 v1 (L_X6_layRest_15 m_tries m_state m_leftOf m_rightOf k9 v1 n) v2 m_rest = some q_m_rest := h
    unfold B_X6_layRest_15 at h
    refine p_iload_n C dX6_layRest_15 rfl 2 rfl ?_
    refine p_bipush (v := (11 : Int32)) C dX6_layRest_16 rfl (by decide) ?_
    refine p_icmp_ge C dX6_layRest_18 (tgt := 81) (by decide) rfl (fun c1 => ?_) (fun c1 => ?_)
    · have h := if_t c1 h
      refine p_iinc (w := v1 + (-1)) (lv' := [(1, .int (v1 + (-1))), (0, .ref am0), (2, .int v2)]) C dX6_layRest_81 rfl 1 rfl rfl (by decide) rfl ?_
      refine p_goto C dX6_layRest_84 (pc' := 9) (by decide) ?_
      refine p_locals [1, 0] (lv' := [(0, .ref am0), (1, .int (v1 + (-1)))]) rfl ?_
      exact hk9 _ _ h
    · have h := if_f c1 h
      refine p_iload_n C dX6_layRest_21 rfl 2 rfl ?_
      refine p_bipush (v := (10 : Int32)) C dX6_layRest_22 rfl (by decide) ?_
      refine p_icmp_ne C dX6_layRest_24 (tgt := 39) (by decide) rfl (fun c2 => ?_) (fun c2 => ?_)
      · have h := if_f c2 h
        refine p_iload_n C dX6_layRest_39 rfl 1 rfl ?_
        refine p_iload_n C dX6_layRest_40 rfl 2 rfl ?_
        refine p_ishr C dX6_layRest_41 rfl ?_
        refine p_iconst (v := (1 : Int32)) C dX6_layRest_42 rfl (by decide) ?_
        refine p_iand C dX6_layRest_43 rfl ?_
        refine p_iconst (v := (1 : Int32)) C dX6_layRest_44 rfl (by decide) ?_
        refine p_icmp_ne C dX6_layRest_45 (tgt := 52) (by decide) rfl (fun c3 => ?_) (fun c3 => ?_)
        · have h := if_f c3 h
          refine p_iconst (v := (0 : Int32)) C dX6_layRest_52 rfl (by decide) ?_
          refine p_locals [0, 1, 2] (lv' := [(0, .ref am0), (1, .int v1), (2, .int v2)]) rfl ?_
          exact tj_X6_layRest_53 C (fun u0 u1 h => ih u0 u1 h) (fun u0 u1 h => hk9 u0 u1 h) h
        · have h := if_t c3 h
          refine p_iconst (v := (1 : Int32)) C dX6_layRest_48 rfl (by decide) ?_
          refine p_goto C dX6_layRest_49 (pc' := 53) (by decide) ?_
          refine p_locals [0, 1, 2] (lv' := [(0, .ref am0), (1, .int v1), (2, .int v2)]) rfl ?_
          exact tj_X6_layRest_53 C (fun u0 u1 h => ih u0 u1 h) (fun u0 u1 h => hk9 u0 u1 h) h
      · have h := if_t c2 h
        refine p_iload_n C dX6_layRest_27 rfl 1 rfl ?_
        refine p_if_ne C dX6_layRest_28 (tgt := 35) (by decide) rfl (fun c4 => ?_) (fun c4 => ?_)
        · have h := if_f c4 h
          refine p_iconst (v := (0 : Int32)) C dX6_layRest_35 rfl (by decide) ?_
          refine p_goto C dX6_layRest_36 (pc' := 53) (by decide) ?_
          refine p_locals [0, 1, 2] (lv' := [(0, .ref am0), (1, .int v1), (2, .int v2)]) rfl ?_
          exact tj_X6_layRest_53 C (fun u0 u1 h => ih u0 u1 h) (fun u0 u1 h => hk9 u0 u1 h) h
        · have h := if_t c4 h
          refine p_iconst (v := (1 : Int32)) C dX6_layRest_31 rfl (by decide) ?_
          refine p_goto C dX6_layRest_32 (pc' := 53) (by decide) ?_
          refine p_locals [0, 1, 2] (lv' := [(0, .ref am0), (1, .int v1), (2, .int v2)]) rfl ?_
          exact tj_X6_layRest_53 C (fun u0 u1 h => ih u0 u1 h) (fun u0 u1 h => hk9 u0 u1 h) h
def B_X6_layRest_9 (m_tries : Int32) (m_state : Ar) (m_leftOf : Ar) (m_rightOf : Ar)   (kk : Int32 → Ar → Option (Ar)) (v1 : Int32) (m_rest : Ar) : Option (Ar) := if v1 < 0 then (some m_rest) else (L_X6_layRest_15 m_tries m_state m_leftOf m_rightOf kk v1 FU ((0 : Int32)) m_rest)
def L_X6_layRest_9 (m_tries : Int32) (m_state : Ar) (m_leftOf : Ar) (m_rightOf : Ar)   : Nat → Int32 → Ar → Option (Ar) := lpG (fun _ _ => none) (B_X6_layRest_9 m_tries m_state m_leftOf m_rightOf)
set_option maxHeartbeats 4000000 in
set_option maxRecDepth 100000 in
theorem tl_X6_layRest_9 {x : Cxt} {am0 am1 am2 am3 am4 am5 am6 am7 am8 am9 am10 am11 am12 am13 am14 : Nat} {m_said : Int32} {m_tries : Int32} {m_state : Ar} {m_images : Ar} {m_isKept : Ar} {m_pad : Ar} {m_leftOf : Ar} {m_rightOf : Ar} {m_isApart : Ar} {m_group : Ar} {m_isPair : Ar} {m_isOne : Ar} {m_order : Ar} {m_aside : Ar} {m_others : Ar}   {q_m_rest : Ar} (C : CX RX6 cX6_layRest 4 none x)  : ∀ (n : Nat) (v1 : Int32) (m_rest : Ar), L_X6_layRest_9 m_tries m_state m_leftOf m_rightOf n v1 m_rest = some q_m_rest → PT (RM 3 74) 4 x 9 [(0, .ref am0), (1, .int v1)] [] (V_M x.1.2.2 am0 am1 am2 am3 am4 am5 am6 am7 am8 am9 am10 am11 am12 am13 am14 m_said m_tries m_state m_images m_isKept m_pad m_leftOf m_rightOf m_isApart m_group m_isPair m_isOne m_order m_rest m_aside m_others) 0 0 (QV x (V_M x.1.2.2 am0 am1 am2 am3 am4 am5 am6 am7 am8 am9 am10 am11 am12 am13 am14 m_said m_tries m_state m_images m_isKept m_pad m_leftOf m_rightOf m_isApart m_group m_isPair m_isOne m_order q_m_rest m_aside m_others)) := by
  intro n
  induction n with
  | zero =>
    intro v1 m_rest h
    cases h
  | succ n ih =>
    intro v1 m_rest h
    have h : B_X6_layRest_9 m_tries m_state m_leftOf m_rightOf (L_X6_layRest_9 m_tries m_state m_leftOf m_rightOf n) v1 m_rest = some q_m_rest := h
    unfold B_X6_layRest_9 at h
    refine p_iload_n C dX6_layRest_9 rfl 1 rfl ?_
    refine p_if_lt C dX6_layRest_10 (tgt := 87) (by decide) rfl (fun c1 => ?_) (fun c1 => ?_)
    · have h := if_t c1 h
      cases h
      exact p_vret C dX6_layRest_87
    · have h := if_f c1 h
      refine p_iconst (v := (0 : Int32)) C dX6_layRest_13 rfl (by decide) ?_
      refine p_istore_n (lv' := [(2, .int ((0 : Int32))), (0, .ref am0), (1, .int v1)]) C dX6_layRest_14 rfl (by decide) rfl ?_
      refine p_locals [1, 2, 0] (lv' := [(0, .ref am0), (1, .int v1), (2, .int ((0 : Int32)))]) rfl ?_
      exact tl_X6_layRest_15 C (fun u0 u1 h => ih u0 u1 h) FU _ _ h
def m_X6_layRest (m_tries : Int32) (m_state : Ar) (m_leftOf : Ar) (m_rightOf : Ar) (m_rest : Ar)  : Option (Ar) := L_X6_layRest_9 m_tries m_state m_leftOf m_rightOf FU ((((1 : Int32)) <<< (m_tries &&& 31)) - ((1 : Int32))) m_rest
theorem ds_X6_layRest : (yX6_layRest).cls ≠ "java/lang/invoke/MethodHandle" ∧ (yX6_layRest).cls ≠ "java/lang/invoke/VarHandle" ∧ (parseMethodDescriptor (yX6_layRest).desc).map (fun d => d.parameters.length) = some 0 := by decide +kernel
set_option maxHeartbeats 4000000 in
set_option maxRecDepth 100000 in
theorem c_X6_layRest (E : En) {am0 am1 am2 am3 am4 am5 am6 am7 am8 am9 am10 am11 am12 am13 am14 : Nat} {m_said : Int32} {m_tries : Int32} {m_state : Ar} {m_images : Ar} {m_isKept : Ar} {m_pad : Ar} {m_leftOf : Ar} {m_rightOf : Ar} {m_isApart : Ar} {m_group : Ar} {m_isPair : Ar} {m_isOne : Ar} {m_order : Ar} {m_rest : Ar} {m_aside : Ar} {m_others : Ar}  {q_m_rest : Ar} (h : m_X6_layRest m_tries m_state m_leftOf m_rightOf m_rest = some q_m_rest) : Cv E yX6_layRest (wU yX6_layRest cX6_layRest 4 none) (RM 3 74) [.ref am0] (V_M E.2.2 am0 am1 am2 am3 am4 am5 am6 am7 am8 am9 am10 am11 am12 am13 am14 m_said m_tries m_state m_images m_isKept m_pad m_leftOf m_rightOf m_isApart m_group m_isPair m_isOne m_order m_rest m_aside m_others) (V_M E.2.2 am0 am1 am2 am3 am4 am5 am6 am7 am8 am9 am10 am11 am12 am13 am14 m_said m_tries m_state m_images m_isKept m_pad m_leftOf m_rightOf m_isApart m_group m_isPair m_isOne m_order q_m_rest m_aside m_others) := by
  refine Cv.of (by decide) (Nat.le_of_ble_eq_true rfl) ?_
  intro x hE C
  subst hE
  have C : CX RX6 cX6_layRest 4 none x := C
  refine p_locals [0] (lv' := [(0, .ref am0)]) rfl ?_
  unfold m_X6_layRest at h
  refine p_iconst (v := (1 : Int32)) C dX6_layRest_0 rfl (by decide) ?_
  refine p_aload_n C dX6_layRest_1 rfl 0 rfl ?_
  refine p_get C dX6_layRest_2 rfl 0 8 inlX6 fl_X6_72 rfl rfl (by decide) rfl rfl ?_
  refine p_ishl C dX6_layRest_5 rfl ?_
  refine p_iconst (v := (1 : Int32)) C dX6_layRest_6 rfl (by decide) ?_
  refine p_isub C dX6_layRest_7 rfl ?_
  refine p_istore_n (lv' := [(1, .int ((((1 : Int32)) <<< (m_tries &&& 31)) - ((1 : Int32)))), (0, .ref am0)]) C dX6_layRest_8 rfl (by decide) rfl ?_
  refine p_locals [1, 0] (lv' := [(0, .ref am0), (1, .int ((((1 : Int32)) <<< (m_tries &&& 31)) - ((1 : Int32))))]) rfl ?_
  exact tl_X6_layRest_9 C  FU _ _ h
def J_X6_layBest_113 (m_tries : Int32) (m_state : Ar) (m_leftOf : Ar) (m_rightOf : Ar) (m_order : Ar) (m_rest : Ar) (k31 : Int32 → Int32 → Option (Ar × Ar)) (k11 : Int32 → Int32 → Int32 → Ar → Option (Ar × Ar)) (e0 : Int32) (v1 : Int32) (v2 : Int32) (v3 : Int32) (v5 : Int32) : Option (Ar × Ar) := k31 e0 (v5 + (-1))
set_option maxHeartbeats 4000000 in
set_option maxRecDepth 100000 in
theorem tj_X6_layBest_113 {x : Cxt} {am0 am1 am2 am3 am4 am5 am6 am7 am8 am9 am10 am11 am12 am13 am14 : Nat} {m_said : Int32} {m_tries : Int32} {m_state : Ar} {m_images : Ar} {m_isKept : Ar} {m_pad : Ar} {m_leftOf : Ar} {m_rightOf : Ar} {m_isApart : Ar} {m_group : Ar} {m_isPair : Ar} {m_isOne : Ar} {m_order : Ar} {m_rest : Ar} {m_aside : Ar} {m_others : Ar} {k31 : Int32 → Int32 → Option (Ar × Ar)} {k11 : Int32 → Int32 → Int32 → Ar → Option (Ar × Ar)} {e0 : Int32} {v1 : Int32} {v2 : Int32} {v3 : Int32} {v5 : Int32} {q_m_order : Ar} {q_m_rest : Ar} (C : CX RX6 cX6_layBest 7 none x) (hk31 : ∀ (w4 : Int32) (w5 : Int32) , k31 w4 w5 = some (q_m_order, q_m_rest) → PT (RM 4 97) 7 x 31 [(0, .ref am0), (1, .int v1), (2, .int v2), (3, .int v3), (4, .int w4), (5, .int w5)] [] (V_M x.1.2.2 am0 am1 am2 am3 am4 am5 am6 am7 am8 am9 am10 am11 am12 am13 am14 m_said m_tries m_state m_images m_isKept m_pad m_leftOf m_rightOf m_isApart m_group m_isPair m_isOne m_order m_rest m_aside m_others) 0 0 (QV x (V_M x.1.2.2 am0 am1 am2 am3 am4 am5 am6 am7 am8 am9 am10 am11 am12 am13 am14 m_said m_tries m_state m_images m_isKept m_pad m_leftOf m_rightOf m_isApart m_group m_isPair m_isOne q_m_order q_m_rest m_aside m_others))) (hk11 : ∀ (w1 : Int32) (w2 : Int32) (w3 : Int32) (w_m_order : Ar), k11 w1 w2 w3 w_m_order = some (q_m_order, q_m_rest) → PT (RM 4 97) 7 x 11 [(0, .ref am0), (1, .int w1), (2, .int w2), (3, .int w3)] [] (V_M x.1.2.2 am0 am1 am2 am3 am4 am5 am6 am7 am8 am9 am10 am11 am12 am13 am14 m_said m_tries m_state m_images m_isKept m_pad m_leftOf m_rightOf m_isApart m_group m_isPair m_isOne w_m_order m_rest m_aside m_others) 0 0 (QV x (V_M x.1.2.2 am0 am1 am2 am3 am4 am5 am6 am7 am8 am9 am10 am11 am12 am13 am14 m_said m_tries m_state m_images m_isKept m_pad m_leftOf m_rightOf m_isApart m_group m_isPair m_isOne q_m_order q_m_rest m_aside m_others))) (h : J_X6_layBest_113 m_tries m_state m_leftOf m_rightOf m_order m_rest k31 k11 e0 v1 v2 v3 v5 = some (q_m_order, q_m_rest)) : PT (RM 4 97) 7 x 113 [(0, .ref am0), (1, .int v1), (2, .int v2), (3, .int v3), (5, .int v5)] [.int e0] (V_M x.1.2.2 am0 am1 am2 am3 am4 am5 am6 am7 am8 am9 am10 am11 am12 am13 am14 m_said m_tries m_state m_images m_isKept m_pad m_leftOf m_rightOf m_isApart m_group m_isPair m_isOne m_order m_rest m_aside m_others) 0 0 (QV x (V_M x.1.2.2 am0 am1 am2 am3 am4 am5 am6 am7 am8 am9 am10 am11 am12 am13 am14 m_said m_tries m_state m_images m_isKept m_pad m_leftOf m_rightOf m_isApart m_group m_isPair m_isOne q_m_order q_m_rest m_aside m_others)) := by
  unfold J_X6_layBest_113 at h
  refine p_istore (lv' := [(4, .int e0), (0, .ref am0), (1, .int v1), (2, .int v2), (3, .int v3), (5, .int v5)]) C dX6_layBest_113 rfl (by decide) rfl ?_
  refine p_iinc (w := v5 + (-1)) (lv' := [(5, .int (v5 + (-1))), (4, .int e0), (0, .ref am0), (1, .int v1), (2, .int v2), (3, .int v3)]) C dX6_layBest_115 rfl 5 rfl rfl (by decide) rfl ?_
  refine p_goto C dX6_layBest_118 (pc' := 31) (by decide) ?_
  refine p_locals [2, 3, 4, 5, 1, 0] (lv' := [(0, .ref am0), (1, .int v1), (2, .int v2), (3, .int v3), (4, .int e0), (5, .int (v5 + (-1)))]) rfl ?_
  exact hk31 _ _ h
def J_X6_layBest_99 (m_tries : Int32) (m_state : Ar) (m_leftOf : Ar) (m_rightOf : Ar) (m_order : Ar) (m_rest : Ar) (k31 : Int32 → Int32 → Option (Ar × Ar)) (k11 : Int32 → Int32 → Int32 → Ar → Option (Ar × Ar)) (e0 : Int32) (v1 : Int32) (v2 : Int32) (v3 : Int32) (v4 : Int32) (v5 : Int32) : Option (Ar × Ar) := if e0 = 0 then (J_X6_layBest_113 m_tries m_state m_leftOf m_rightOf m_order m_rest (k31) (k11) v4 v1 v2 v3 v5) else (J_X6_layBest_113 m_tries m_state m_leftOf m_rightOf m_order m_rest (k31) (k11) v5 v1 v2 v3 v5)
set_option maxHeartbeats 4000000 in
set_option maxRecDepth 100000 in
theorem tj_X6_layBest_99 {x : Cxt} {am0 am1 am2 am3 am4 am5 am6 am7 am8 am9 am10 am11 am12 am13 am14 : Nat} {m_said : Int32} {m_tries : Int32} {m_state : Ar} {m_images : Ar} {m_isKept : Ar} {m_pad : Ar} {m_leftOf : Ar} {m_rightOf : Ar} {m_isApart : Ar} {m_group : Ar} {m_isPair : Ar} {m_isOne : Ar} {m_order : Ar} {m_rest : Ar} {m_aside : Ar} {m_others : Ar} {k31 : Int32 → Int32 → Option (Ar × Ar)} {k11 : Int32 → Int32 → Int32 → Ar → Option (Ar × Ar)} {e0 : Int32} {v1 : Int32} {v2 : Int32} {v3 : Int32} {v4 : Int32} {v5 : Int32} {q_m_order : Ar} {q_m_rest : Ar} (C : CX RX6 cX6_layBest 7 none x) (hk31 : ∀ (w4 : Int32) (w5 : Int32) , k31 w4 w5 = some (q_m_order, q_m_rest) → PT (RM 4 97) 7 x 31 [(0, .ref am0), (1, .int v1), (2, .int v2), (3, .int v3), (4, .int w4), (5, .int w5)] [] (V_M x.1.2.2 am0 am1 am2 am3 am4 am5 am6 am7 am8 am9 am10 am11 am12 am13 am14 m_said m_tries m_state m_images m_isKept m_pad m_leftOf m_rightOf m_isApart m_group m_isPair m_isOne m_order m_rest m_aside m_others) 0 0 (QV x (V_M x.1.2.2 am0 am1 am2 am3 am4 am5 am6 am7 am8 am9 am10 am11 am12 am13 am14 m_said m_tries m_state m_images m_isKept m_pad m_leftOf m_rightOf m_isApart m_group m_isPair m_isOne q_m_order q_m_rest m_aside m_others))) (hk11 : ∀ (w1 : Int32) (w2 : Int32) (w3 : Int32) (w_m_order : Ar), k11 w1 w2 w3 w_m_order = some (q_m_order, q_m_rest) → PT (RM 4 97) 7 x 11 [(0, .ref am0), (1, .int w1), (2, .int w2), (3, .int w3)] [] (V_M x.1.2.2 am0 am1 am2 am3 am4 am5 am6 am7 am8 am9 am10 am11 am12 am13 am14 m_said m_tries m_state m_images m_isKept m_pad m_leftOf m_rightOf m_isApart m_group m_isPair m_isOne w_m_order m_rest m_aside m_others) 0 0 (QV x (V_M x.1.2.2 am0 am1 am2 am3 am4 am5 am6 am7 am8 am9 am10 am11 am12 am13 am14 m_said m_tries m_state m_images m_isKept m_pad m_leftOf m_rightOf m_isApart m_group m_isPair m_isOne q_m_order q_m_rest m_aside m_others))) (h : J_X6_layBest_99 m_tries m_state m_leftOf m_rightOf m_order m_rest k31 k11 e0 v1 v2 v3 v4 v5 = some (q_m_order, q_m_rest)) : PT (RM 4 97) 7 x 99 [(0, .ref am0), (1, .int v1), (2, .int v2), (3, .int v3), (4, .int v4), (5, .int v5)] [.int e0] (V_M x.1.2.2 am0 am1 am2 am3 am4 am5 am6 am7 am8 am9 am10 am11 am12 am13 am14 m_said m_tries m_state m_images m_isKept m_pad m_leftOf m_rightOf m_isApart m_group m_isPair m_isOne m_order m_rest m_aside m_others) 0 0 (QV x (V_M x.1.2.2 am0 am1 am2 am3 am4 am5 am6 am7 am8 am9 am10 am11 am12 am13 am14 m_said m_tries m_state m_images m_isKept m_pad m_leftOf m_rightOf m_isApart m_group m_isPair m_isOne q_m_order q_m_rest m_aside m_others)) := by
  unfold J_X6_layBest_99 at h
  refine p_istore (lv' := [(6, .int e0), (0, .ref am0), (1, .int v1), (2, .int v2), (3, .int v3), (4, .int v4), (5, .int v5)]) C dX6_layBest_99 rfl (by decide) rfl ?_
  refine p_iload C dX6_layBest_101 rfl 0 rfl ?_
  refine p_if_eq C dX6_layBest_103 (tgt := 111) (by decide) rfl (fun c1 => ?_) (fun c1 => ?_)
  · have h := if_t c1 h
    refine p_iload C dX6_layBest_111 rfl 5 rfl ?_
    refine p_locals [1, 2, 3, 4, 6] (lv' := [(0, .ref am0), (1, .int v1), (2, .int v2), (3, .int v3), (5, .int v5)]) rfl ?_
    exact tj_X6_layBest_113 C (fun u0 u1 h => hk31 u0 u1 h) (fun u0 u1 u2 u3 h => hk11 u0 u1 u2 u3 h) h
  · have h := if_f c1 h
    refine p_iload C dX6_layBest_106 rfl 6 rfl ?_
    refine p_goto C dX6_layBest_108 (pc' := 113) (by decide) ?_
    refine p_locals [1, 2, 3, 4, 6] (lv' := [(0, .ref am0), (1, .int v1), (2, .int v2), (3, .int v3), (5, .int v5)]) rfl ?_
    exact tj_X6_layBest_113 C (fun u0 u1 h => hk31 u0 u1 h) (fun u0 u1 u2 u3 h => hk11 u0 u1 u2 u3 h) h
def J_X6_layBest_98 (m_tries : Int32) (m_state : Ar) (m_leftOf : Ar) (m_rightOf : Ar) (m_order : Ar) (m_rest : Ar) (k31 : Int32 → Int32 → Option (Ar × Ar)) (k11 : Int32 → Int32 → Int32 → Ar → Option (Ar × Ar))  (v1 : Int32) (v2 : Int32) (v3 : Int32) (v4 : Int32) (v5 : Int32) : Option (Ar × Ar) := J_X6_layBest_99 m_tries m_state m_leftOf m_rightOf m_order m_rest (k31) (k11) ((0 : Int32)) v1 v2 v3 v4 v5
set_option maxHeartbeats 4000000 in
set_option maxRecDepth 100000 in
theorem tj_X6_layBest_98 {x : Cxt} {am0 am1 am2 am3 am4 am5 am6 am7 am8 am9 am10 am11 am12 am13 am14 : Nat} {m_said : Int32} {m_tries : Int32} {m_state : Ar} {m_images : Ar} {m_isKept : Ar} {m_pad : Ar} {m_leftOf : Ar} {m_rightOf : Ar} {m_isApart : Ar} {m_group : Ar} {m_isPair : Ar} {m_isOne : Ar} {m_order : Ar} {m_rest : Ar} {m_aside : Ar} {m_others : Ar} {k31 : Int32 → Int32 → Option (Ar × Ar)} {k11 : Int32 → Int32 → Int32 → Ar → Option (Ar × Ar)}  {v1 : Int32} {v2 : Int32} {v3 : Int32} {v4 : Int32} {v5 : Int32} {q_m_order : Ar} {q_m_rest : Ar} (C : CX RX6 cX6_layBest 7 none x) (hk31 : ∀ (w4 : Int32) (w5 : Int32) , k31 w4 w5 = some (q_m_order, q_m_rest) → PT (RM 4 97) 7 x 31 [(0, .ref am0), (1, .int v1), (2, .int v2), (3, .int v3), (4, .int w4), (5, .int w5)] [] (V_M x.1.2.2 am0 am1 am2 am3 am4 am5 am6 am7 am8 am9 am10 am11 am12 am13 am14 m_said m_tries m_state m_images m_isKept m_pad m_leftOf m_rightOf m_isApart m_group m_isPair m_isOne m_order m_rest m_aside m_others) 0 0 (QV x (V_M x.1.2.2 am0 am1 am2 am3 am4 am5 am6 am7 am8 am9 am10 am11 am12 am13 am14 m_said m_tries m_state m_images m_isKept m_pad m_leftOf m_rightOf m_isApart m_group m_isPair m_isOne q_m_order q_m_rest m_aside m_others))) (hk11 : ∀ (w1 : Int32) (w2 : Int32) (w3 : Int32) (w_m_order : Ar), k11 w1 w2 w3 w_m_order = some (q_m_order, q_m_rest) → PT (RM 4 97) 7 x 11 [(0, .ref am0), (1, .int w1), (2, .int w2), (3, .int w3)] [] (V_M x.1.2.2 am0 am1 am2 am3 am4 am5 am6 am7 am8 am9 am10 am11 am12 am13 am14 m_said m_tries m_state m_images m_isKept m_pad m_leftOf m_rightOf m_isApart m_group m_isPair m_isOne w_m_order m_rest m_aside m_others) 0 0 (QV x (V_M x.1.2.2 am0 am1 am2 am3 am4 am5 am6 am7 am8 am9 am10 am11 am12 am13 am14 m_said m_tries m_state m_images m_isKept m_pad m_leftOf m_rightOf m_isApart m_group m_isPair m_isOne q_m_order q_m_rest m_aside m_others))) (h : J_X6_layBest_98 m_tries m_state m_leftOf m_rightOf m_order m_rest k31 k11 v1 v2 v3 v4 v5 = some (q_m_order, q_m_rest)) : PT (RM 4 97) 7 x 98 [(0, .ref am0), (1, .int v1), (2, .int v2), (3, .int v3), (4, .int v4), (5, .int v5)] [] (V_M x.1.2.2 am0 am1 am2 am3 am4 am5 am6 am7 am8 am9 am10 am11 am12 am13 am14 m_said m_tries m_state m_images m_isKept m_pad m_leftOf m_rightOf m_isApart m_group m_isPair m_isOne m_order m_rest m_aside m_others) 0 0 (QV x (V_M x.1.2.2 am0 am1 am2 am3 am4 am5 am6 am7 am8 am9 am10 am11 am12 am13 am14 m_said m_tries m_state m_images m_isKept m_pad m_leftOf m_rightOf m_isApart m_group m_isPair m_isOne q_m_order q_m_rest m_aside m_others)) := by
  unfold J_X6_layBest_98 at h
  refine p_iconst (v := (0 : Int32)) C dX6_layBest_98 rfl (by decide) ?_
  refine p_locals [0, 1, 2, 3, 4, 5] (lv' := [(0, .ref am0), (1, .int v1), (2, .int v2), (3, .int v3), (4, .int v4), (5, .int v5)]) rfl ?_
  exact tj_X6_layBest_99 C (fun u0 u1 h => hk31 u0 u1 h) (fun u0 u1 u2 u3 h => hk11 u0 u1 u2 u3 h) h
def J_X6_layBest_57 (m_tries : Int32) (m_state : Ar) (m_leftOf : Ar) (m_rightOf : Ar) (m_order : Ar) (m_rest : Ar) (k31 : Int32 → Int32 → Option (Ar × Ar)) (k11 : Int32 → Int32 → Int32 → Ar → Option (Ar × Ar)) (e0 : Int32) (v1 : Int32) (v2 : Int32) (v3 : Int32) (v4 : Int32) (v5 : Int32) : Option (Ar × Ar) := bd1 (m_X6_timeOf m_state m_leftOf m_rightOf e0 v5) (fun r1 => grd (gI ((((11 : Int32)) * (v1 ||| (((1 : Int32)) <<< (v5 &&& 31)))) + v5) 11264) (grd (gI ((((11 : Int32)) * v1) + v2) 11264) (if (r1 + (m_rest ((((11 : Int32)) * (v1 ||| (((1 : Int32)) <<< (v5 &&& 31)))) + v5).toNatClampNeg)) = (m_rest ((((11 : Int32)) * v1) + v2).toNatClampNeg) then (J_X6_layBest_99 m_tries m_state m_leftOf m_rightOf m_order m_rest (k31) (k11) ((1 : Int32)) v1 v2 v3 v4 v5) else (J_X6_layBest_98 m_tries m_state m_leftOf m_rightOf m_order m_rest (k31) (k11) v1 v2 v3 v4 v5))))
set_option maxHeartbeats 4000000 in
set_option maxRecDepth 100000 in
theorem tj_X6_layBest_57 {x : Cxt} {am0 am1 am2 am3 am4 am5 am6 am7 am8 am9 am10 am11 am12 am13 am14 : Nat} {m_said : Int32} {m_tries : Int32} {m_state : Ar} {m_images : Ar} {m_isKept : Ar} {m_pad : Ar} {m_leftOf : Ar} {m_rightOf : Ar} {m_isApart : Ar} {m_group : Ar} {m_isPair : Ar} {m_isOne : Ar} {m_order : Ar} {m_rest : Ar} {m_aside : Ar} {m_others : Ar} {k31 : Int32 → Int32 → Option (Ar × Ar)} {k11 : Int32 → Int32 → Int32 → Ar → Option (Ar × Ar)} {e0 : Int32} {v1 : Int32} {v2 : Int32} {v3 : Int32} {v4 : Int32} {v5 : Int32} {q_m_order : Ar} {q_m_rest : Ar} (C : CX RX6 cX6_layBest 7 none x) (hk31 : ∀ (w4 : Int32) (w5 : Int32) , k31 w4 w5 = some (q_m_order, q_m_rest) → PT (RM 4 97) 7 x 31 [(0, .ref am0), (1, .int v1), (2, .int v2), (3, .int v3), (4, .int w4), (5, .int w5)] [] (V_M x.1.2.2 am0 am1 am2 am3 am4 am5 am6 am7 am8 am9 am10 am11 am12 am13 am14 m_said m_tries m_state m_images m_isKept m_pad m_leftOf m_rightOf m_isApart m_group m_isPair m_isOne m_order m_rest m_aside m_others) 0 0 (QV x (V_M x.1.2.2 am0 am1 am2 am3 am4 am5 am6 am7 am8 am9 am10 am11 am12 am13 am14 m_said m_tries m_state m_images m_isKept m_pad m_leftOf m_rightOf m_isApart m_group m_isPair m_isOne q_m_order q_m_rest m_aside m_others))) (hk11 : ∀ (w1 : Int32) (w2 : Int32) (w3 : Int32) (w_m_order : Ar), k11 w1 w2 w3 w_m_order = some (q_m_order, q_m_rest) → PT (RM 4 97) 7 x 11 [(0, .ref am0), (1, .int w1), (2, .int w2), (3, .int w3)] [] (V_M x.1.2.2 am0 am1 am2 am3 am4 am5 am6 am7 am8 am9 am10 am11 am12 am13 am14 m_said m_tries m_state m_images m_isKept m_pad m_leftOf m_rightOf m_isApart m_group m_isPair m_isOne w_m_order m_rest m_aside m_others) 0 0 (QV x (V_M x.1.2.2 am0 am1 am2 am3 am4 am5 am6 am7 am8 am9 am10 am11 am12 am13 am14 m_said m_tries m_state m_images m_isKept m_pad m_leftOf m_rightOf m_isApart m_group m_isPair m_isOne q_m_order q_m_rest m_aside m_others))) (h : J_X6_layBest_57 m_tries m_state m_leftOf m_rightOf m_order m_rest k31 k11 e0 v1 v2 v3 v4 v5 = some (q_m_order, q_m_rest)) : PT (RM 4 97) 7 x 57 [(0, .ref am0), (1, .int v1), (2, .int v2), (3, .int v3), (4, .int v4), (5, .int v5)] [.int e0, .ref am0] (V_M x.1.2.2 am0 am1 am2 am3 am4 am5 am6 am7 am8 am9 am10 am11 am12 am13 am14 m_said m_tries m_state m_images m_isKept m_pad m_leftOf m_rightOf m_isApart m_group m_isPair m_isOne m_order m_rest m_aside m_others) 0 0 (QV x (V_M x.1.2.2 am0 am1 am2 am3 am4 am5 am6 am7 am8 am9 am10 am11 am12 am13 am14 m_said m_tries m_state m_images m_isKept m_pad m_leftOf m_rightOf m_isApart m_group m_isPair m_isOne q_m_order q_m_rest m_aside m_others)) := by
  unfold J_X6_layBest_57 at h
  refine p_iload C dX6_layBest_57 rfl 5 rfl ?_
  obtain ⟨r1, hc2, h⟩ := bd1_of h
  refine p_callVi_s (As := [.int e0, .int v5]) (st' := []) (Wc' := (V_M x.1.2.2 am0 am1 am2 am3 am4 am5 am6 am7 am8 am9 am10 am11 am12 am13 am14 m_said m_tries m_state m_images m_isKept m_pad m_leftOf m_rightOf m_isApart m_group m_isPair m_isOne m_order m_rest m_aside m_others)) C (c_X6_timeOf x.1 (am0 := am0) (am1 := am1) (am2 := am2) (am3 := am3) (am4 := am4) (am5 := am5) (am6 := am6) (am7 := am7) (am8 := am8) (am9 := am9) (am10 := am10) (am11 := am11) (am12 := am12) (am13 := am13) (am14 := am14) (m_said := m_said) (m_tries := m_tries) (m_images := m_images) (m_isKept := m_isKept) (m_pad := m_pad) (m_isApart := m_isApart) (m_group := m_group) (m_isPair := m_isPair) (m_isOne := m_isOne) (m_order := m_order) (m_rest := m_rest) (m_aside := m_aside) (m_others := m_others) hc2) dX6_layBest_59 rfl ml_X6_123 kv_X6_timeOf ds_X6_timeOf ⟨rfl, rfl, by decide, by decide⟩ 0 rfl rfl rfl rfl (by decide) ⟨by decide, by decide⟩ ?_
  refine p_aload_n C dX6_layBest_62 rfl 0 rfl ?_
  refine p_get C dX6_layBest_63 rfl 0 13 inlX6 fl_X6_44 rfl rfl (by decide) rfl rfl ?_
  refine p_bipush (v := (11 : Int32)) C dX6_layBest_66 rfl (by decide) ?_
  refine p_iload_n C dX6_layBest_68 rfl 1 rfl ?_
  refine p_iconst (v := (1 : Int32)) C dX6_layBest_69 rfl (by decide) ?_
  refine p_iload C dX6_layBest_70 rfl 5 rfl ?_
  refine p_ishl C dX6_layBest_72 rfl ?_
  refine p_ior C dX6_layBest_73 rfl ?_
  refine p_imul C dX6_layBest_74 rfl ?_
  refine p_iload C dX6_layBest_75 rfl 5 rfl ?_
  refine p_iadd C dX6_layBest_77 rfl ?_
  obtain ⟨g3, h⟩ := grd_of h
  refine p_iald C dX6_layBest_78 rfl 12 rfl g3 ?_
  refine p_iadd C dX6_layBest_79 rfl ?_
  refine p_aload_n C dX6_layBest_80 rfl 0 rfl ?_
  refine p_get C dX6_layBest_81 rfl 0 13 inlX6 fl_X6_44 rfl rfl (by decide) rfl rfl ?_
  refine p_bipush (v := (11 : Int32)) C dX6_layBest_84 rfl (by decide) ?_
  refine p_iload_n C dX6_layBest_86 rfl 1 rfl ?_
  refine p_imul C dX6_layBest_87 rfl ?_
  refine p_iload_n C dX6_layBest_88 rfl 2 rfl ?_
  refine p_iadd C dX6_layBest_89 rfl ?_
  obtain ⟨g4, h⟩ := grd_of h
  refine p_iald C dX6_layBest_90 rfl 12 rfl g4 ?_
  refine p_icmp_ne C dX6_layBest_91 (tgt := 98) (by decide) rfl (fun c5 => ?_) (fun c5 => ?_)
  · have h := if_f c5 h
    refine p_locals [0, 1, 2, 3, 4, 5] (lv' := [(0, .ref am0), (1, .int v1), (2, .int v2), (3, .int v3), (4, .int v4), (5, .int v5)]) rfl ?_
    exact tj_X6_layBest_98 C (fun u0 u1 h => hk31 u0 u1 h) (fun u0 u1 u2 u3 h => hk11 u0 u1 u2 u3 h) h
  · have h := if_t c5 h
    refine p_iconst (v := (1 : Int32)) C dX6_layBest_94 rfl (by decide) ?_
    refine p_goto C dX6_layBest_95 (pc' := 99) (by decide) ?_
    refine p_locals [0, 1, 2, 3, 4, 5] (lv' := [(0, .ref am0), (1, .int v1), (2, .int v2), (3, .int v3), (4, .int v4), (5, .int v5)]) rfl ?_
    exact tj_X6_layBest_99 C (fun u0 u1 h => hk31 u0 u1 h) (fun u0 u1 u2 u3 h => hk11 u0 u1 u2 u3 h) h
def B_X6_layBest_31 (m_tries : Int32) (m_state : Ar) (m_leftOf : Ar) (m_rightOf : Ar) (m_order : Ar) (m_rest : Ar) (k11 : Int32 → Int32 → Int32 → Ar → Option (Ar × Ar)) (v1 : Int32) (v2 : Int32) (v3 : Int32) (kk : Int32 → Int32 → Option (Ar × Ar)) (v4 : Int32) (v5 : Int32)  : Option (Ar × Ar) := if v5 < 0 then (grd (gI v3 16) (k11 (v1 ||| (((1 : Int32)) <<< (v4 &&& 31))) v4 (v3 + 1) (upd m_order v3.toNatClampNeg v4))) else (if ((v1 >>> (v5 &&& 31)) &&& ((1 : Int32))) = 0 then (if v2 = ((10 : Int32)) then (J_X6_layBest_57 m_tries m_state m_leftOf m_rightOf m_order m_rest (kk) (k11) ((-1 : Int32)) v1 v2 v3 v4 v5) else (J_X6_layBest_57 m_tries m_state m_leftOf m_rightOf m_order m_rest (kk) (k11) v2 v1 v2 v3 v4 v5)) else (J_X6_layBest_98 m_tries m_state m_leftOf m_rightOf m_order m_rest (kk) (k11) v1 v2 v3 v4 v5))
def L_X6_layBest_31 (m_tries : Int32) (m_state : Ar) (m_leftOf : Ar) (m_rightOf : Ar) (m_order : Ar) (m_rest : Ar) (k11 : Int32 → Int32 → Int32 → Ar → Option (Ar × Ar)) (v1 : Int32) (v2 : Int32) (v3 : Int32) : Nat → Int32 → Int32 → Option (Ar × Ar) := lpG (fun _ _ => none) (B_X6_layBest_31 m_tries m_state m_leftOf m_rightOf m_order m_rest k11 v1 v2 v3)
set_option maxHeartbeats 4000000 in
set_option maxRecDepth 100000 in
theorem tl_X6_layBest_31 {x : Cxt} {am0 am1 am2 am3 am4 am5 am6 am7 am8 am9 am10 am11 am12 am13 am14 : Nat} {m_said : Int32} {m_tries : Int32} {m_state : Ar} {m_images : Ar} {m_isKept : Ar} {m_pad : Ar} {m_leftOf : Ar} {m_rightOf : Ar} {m_isApart : Ar} {m_group : Ar} {m_isPair : Ar} {m_isOne : Ar} {m_order : Ar} {m_rest : Ar} {m_aside : Ar} {m_others : Ar} {k11 : Int32 → Int32 → Int32 → Ar → Option (Ar × Ar)} {v1 : Int32} {v2 : Int32} {v3 : Int32} {q_m_order : Ar} {q_m_rest : Ar} (C : CX RX6 cX6_layBest 7 none x) (hk11 : ∀ (w1 : Int32) (w2 : Int32) (w3 : Int32) (w_m_order : Ar), k11 w1 w2 w3 w_m_order = some (q_m_order, q_m_rest) → PT (RM 4 97) 7 x 11 [(0, .ref am0), (1, .int w1), (2, .int w2), (3, .int w3)] [] (V_M x.1.2.2 am0 am1 am2 am3 am4 am5 am6 am7 am8 am9 am10 am11 am12 am13 am14 m_said m_tries m_state m_images m_isKept m_pad m_leftOf m_rightOf m_isApart m_group m_isPair m_isOne w_m_order m_rest m_aside m_others) 0 0 (QV x (V_M x.1.2.2 am0 am1 am2 am3 am4 am5 am6 am7 am8 am9 am10 am11 am12 am13 am14 m_said m_tries m_state m_images m_isKept m_pad m_leftOf m_rightOf m_isApart m_group m_isPair m_isOne q_m_order q_m_rest m_aside m_others))) : ∀ (n : Nat) (v4 : Int32) (v5 : Int32) , L_X6_layBest_31 m_tries m_state m_leftOf m_rightOf m_order m_rest k11 v1 v2 v3 n v4 v5 = some (q_m_order, q_m_rest) → PT (RM 4 97) 7 x 31 [(0, .ref am0), (1, .int v1), (2, .int v2), (3, .int v3), (4, .int v4), (5, .int v5)] [] (V_M x.1.2.2 am0 am1 am2 am3 am4 am5 am6 am7 am8 am9 am10 am11 am12 am13 am14 m_said m_tries m_state m_images m_isKept m_pad m_leftOf m_rightOf m_isApart m_group m_isPair m_isOne m_order m_rest m_aside m_others) 0 0 (QV x (V_M x.1.2.2 am0 am1 am2 am3 am4 am5 am6 am7 am8 am9 am10 am11 am12 am13 am14 m_said m_tries m_state m_images m_isKept m_pad m_leftOf m_rightOf m_isApart m_group m_isPair m_isOne q_m_order q_m_rest m_aside m_others)) := by
  intro n
  induction n with
  | zero =>
    intro v4 v5 h
    cases h
  | succ n ih =>
    intro v4 v5 h
    have h : B_X6_layBest_31 m_tries m_state m_leftOf m_rightOf m_order m_rest k11 v1 v2 v3 (L_X6_layBest_31 m_tries m_state m_leftOf m_rightOf m_order m_rest k11 v1 v2 v3 n) v4 v5 = some (q_m_order, q_m_rest) := h
    unfold B_X6_layBest_31 at h
    refine p_iload C dX6_layBest_31 rfl 5 rfl ?_
    refine p_if_lt C dX6_layBest_33 (tgt := 121) (by decide) rfl (fun c1 => ?_) (fun c1 => ?_)
    · have h := if_t c1 h
      refine p_aload_n C dX6_layBest_121 rfl 0 rfl ?_
      refine p_get C dX6_layBest_122 rfl 0 12 inlX6 fl_X6_41 rfl rfl (by decide) rfl rfl ?_
      refine p_iload_n C dX6_layBest_125 rfl 3 rfl ?_
      refine p_iload C dX6_layBest_126 rfl 4 rfl ?_
      obtain ⟨g2, h⟩ := grd_of h
      refine p_iast (Wd' := (V_M x.1.2.2 am0 am1 am2 am3 am4 am5 am6 am7 am8 am9 am10 am11 am12 am13 am14 m_said m_tries m_state m_images m_isKept m_pad m_leftOf m_rightOf m_isApart m_group m_isPair m_isOne (upd m_order v3.toNatClampNeg v4) m_rest m_aside m_others)) C dX6_layBest_128 rfl 11 rfl g2 rfl ?_
      refine p_iload_n C dX6_layBest_129 rfl 1 rfl ?_
      refine p_iconst (v := (1 : Int32)) C dX6_layBest_130 rfl (by decide) ?_
      refine p_iload C dX6_layBest_131 rfl 4 rfl ?_
      refine p_ishl C dX6_layBest_133 rfl ?_
      refine p_ior C dX6_layBest_134 rfl ?_
      refine p_istore_n (lv' := [(1, .int (v1 ||| (((1 : Int32)) <<< (v4 &&& 31)))), (0, .ref am0), (2, .int v2), (3, .int v3), (4, .int v4), (5, .int v5)]) C dX6_layBest_135 rfl (by decide) rfl ?_
      refine p_iload C dX6_layBest_136 rfl 4 rfl ?_
      refine p_istore_n (lv' := [(2, .int v4), (1, .int (v1 ||| (((1 : Int32)) <<< (v4 &&& 31)))), (0, .ref am0), (3, .int v3), (4, .int v4), (5, .int v5)]) C dX6_layBest_138 rfl (by decide) rfl ?_
      refine p_iinc (w := v3 + 1) (lv' := [(3, .int (v3 + 1)), (2, .int v4), (1, .int (v1 ||| (((1 : Int32)) <<< (v4 &&& 31)))), (0, .ref am0), (4, .int v4), (5, .int v5)]) C dX6_layBest_139 rfl 3 rfl rfl (by decide) rfl ?_
      refine p_goto C dX6_layBest_142 (pc' := 11) (by decide) ?_
      refine p_locals [3, 2, 1, 0] (lv' := [(0, .ref am0), (1, .int (v1 ||| (((1 : Int32)) <<< (v4 &&& 31)))), (2, .int v4), (3, .int (v3 + 1))]) rfl ?_
      exact hk11 _ _ _ _ h
    · have h := if_f c1 h
      refine p_iload_n C dX6_layBest_36 rfl 1 rfl ?_
      refine p_iload C dX6_layBest_37 rfl 5 rfl ?_
      refine p_ishr C dX6_layBest_39 rfl ?_
      refine p_iconst (v := (1 : Int32)) C dX6_layBest_40 rfl (by decide) ?_
      refine p_iand C dX6_layBest_41 rfl ?_
      refine p_if_ne C dX6_layBest_42 (tgt := 98) (by decide) rfl (fun c3 => ?_) (fun c3 => ?_)
      · have h := if_f c3 h
        refine p_locals [0, 1, 2, 3, 4, 5] (lv' := [(0, .ref am0), (1, .int v1), (2, .int v2), (3, .int v3), (4, .int v4), (5, .int v5)]) rfl ?_
        exact tj_X6_layBest_98 C (fun u0 u1 h => ih u0 u1 h) (fun u0 u1 u2 u3 h => hk11 u0 u1 u2 u3 h) h
      · have h := if_t c3 h
        refine p_aload_n C dX6_layBest_45 rfl 0 rfl ?_
        refine p_iload_n C dX6_layBest_46 rfl 2 rfl ?_
        refine p_bipush (v := (10 : Int32)) C dX6_layBest_47 rfl (by decide) ?_
        refine p_icmp_ne C dX6_layBest_49 (tgt := 56) (by decide) rfl (fun c4 => ?_) (fun c4 => ?_)
        · have h := if_f c4 h
          refine p_iload_n C dX6_layBest_56 rfl 2 rfl ?_
          refine p_locals [0, 1, 2, 3, 4, 5] (lv' := [(0, .ref am0), (1, .int v1), (2, .int v2), (3, .int v3), (4, .int v4), (5, .int v5)]) rfl ?_
          exact tj_X6_layBest_57 C (fun u0 u1 h => ih u0 u1 h) (fun u0 u1 u2 u3 h => hk11 u0 u1 u2 u3 h) h
        · have h := if_t c4 h
          refine p_iconst (v := (-1 : Int32)) C dX6_layBest_52 rfl (by decide) ?_
          refine p_goto C dX6_layBest_53 (pc' := 57) (by decide) ?_
          refine p_locals [0, 1, 2, 3, 4, 5] (lv' := [(0, .ref am0), (1, .int v1), (2, .int v2), (3, .int v3), (4, .int v4), (5, .int v5)]) rfl ?_
          exact tj_X6_layBest_57 C (fun u0 u1 h => ih u0 u1 h) (fun u0 u1 u2 u3 h => hk11 u0 u1 u2 u3 h) h
def B_X6_layBest_11 (m_tries : Int32) (m_state : Ar) (m_leftOf : Ar) (m_rightOf : Ar) (m_rest : Ar)   (kk : Int32 → Int32 → Int32 → Ar → Option (Ar × Ar)) (v1 : Int32) (v2 : Int32) (v3 : Int32) (m_order : Ar) : Option (Ar × Ar) := if m_tries ≤ v3 then (some (m_order, m_rest)) else (L_X6_layBest_31 m_tries m_state m_leftOf m_rightOf m_order m_rest kk v1 v2 v3 FU ((-6 : Int32)) (m_tries - ((1 : Int32))))
def L_X6_layBest_11 (m_tries : Int32) (m_state : Ar) (m_leftOf : Ar) (m_rightOf : Ar) (m_rest : Ar)   : Nat → Int32 → Int32 → Int32 → Ar → Option (Ar × Ar) := lpG (fun _ _ _ _ => none) (B_X6_layBest_11 m_tries m_state m_leftOf m_rightOf m_rest)
set_option maxHeartbeats 4000000 in
set_option maxRecDepth 100000 in
theorem tl_X6_layBest_11 {x : Cxt} {am0 am1 am2 am3 am4 am5 am6 am7 am8 am9 am10 am11 am12 am13 am14 : Nat} {m_said : Int32} {m_tries : Int32} {m_state : Ar} {m_images : Ar} {m_isKept : Ar} {m_pad : Ar} {m_leftOf : Ar} {m_rightOf : Ar} {m_isApart : Ar} {m_group : Ar} {m_isPair : Ar} {m_isOne : Ar} {m_rest : Ar} {m_aside : Ar} {m_others : Ar}   {q_m_order : Ar} {q_m_rest : Ar} (C : CX RX6 cX6_layBest 7 none x)  : ∀ (n : Nat) (v1 : Int32) (v2 : Int32) (v3 : Int32) (m_order : Ar), L_X6_layBest_11 m_tries m_state m_leftOf m_rightOf m_rest n v1 v2 v3 m_order = some (q_m_order, q_m_rest) → PT (RM 4 97) 7 x 11 [(0, .ref am0), (1, .int v1), (2, .int v2), (3, .int v3)] [] (V_M x.1.2.2 am0 am1 am2 am3 am4 am5 am6 am7 am8 am9 am10 am11 am12 am13 am14 m_said m_tries m_state m_images m_isKept m_pad m_leftOf m_rightOf m_isApart m_group m_isPair m_isOne m_order m_rest m_aside m_others) 0 0 (QV x (V_M x.1.2.2 am0 am1 am2 am3 am4 am5 am6 am7 am8 am9 am10 am11 am12 am13 am14 m_said m_tries m_state m_images m_isKept m_pad m_leftOf m_rightOf m_isApart m_group m_isPair m_isOne q_m_order q_m_rest m_aside m_others)) := by
  intro n
  induction n with
  | zero =>
    intro v1 v2 v3 m_order h
    cases h
  | succ n ih =>
    intro v1 v2 v3 m_order h
    have h : B_X6_layBest_11 m_tries m_state m_leftOf m_rightOf m_rest (L_X6_layBest_11 m_tries m_state m_leftOf m_rightOf m_rest n) v1 v2 v3 m_order = some (q_m_order, q_m_rest) := h
    unfold B_X6_layBest_11 at h
    refine p_iload_n C dX6_layBest_11 rfl 3 rfl ?_
    refine p_aload_n C dX6_layBest_12 rfl 0 rfl ?_
    refine p_get C dX6_layBest_13 rfl 0 8 inlX6 fl_X6_72 rfl rfl (by decide) rfl rfl ?_
    refine p_icmp_ge C dX6_layBest_16 (tgt := 145) (by decide) rfl (fun c1 => ?_) (fun c1 => ?_)
    · have h := if_t c1 h
      cases h
      exact p_vret C dX6_layBest_145
    · have h := if_f c1 h
      refine p_bipush (v := (-6 : Int32)) C dX6_layBest_19 rfl (by decide) ?_
      refine p_istore (lv' := [(4, .int ((-6 : Int32))), (0, .ref am0), (1, .int v1), (2, .int v2), (3, .int v3)]) C dX6_layBest_21 rfl (by decide) rfl ?_
      refine p_aload_n C dX6_layBest_23 rfl 1 rfl ?_
      refine p_get C dX6_layBest_24 rfl 0 8 inlX6 fl_X6_72 rfl rfl (by decide) rfl rfl ?_
      refine p_iconst (v := (1 : Int32)) C dX6_layBest_27 rfl (by decide) ?_
      refine p_isub C dX6_layBest_28 rfl ?_
      refine p_istore (lv' := [(5, .int (m_tries - ((1 : Int32)))), (4, .int ((-6 : Int32))), (0, .ref am0), (1, .int v1), (2, .int v2), (3, .int v3)]) C dX6_layBest_29 rfl (by decide) rfl ?_
      refine p_locals [2, 3, 4, 5, 1, 0] (lv' := [(0, .ref am0), (1, .int v1), (2, .int v2), (3, .int v3), (4, .int ((-6 : Int32))), (5, .int (m_tries - ((1 : Int32))))]) rfl ?_
      exact tl_X6_layBest_31 C (fun u0 u1 u2 u3 h => ih u0 u1 u2 u3 h) FU _ _ h
def m_X6_layBest (m_tries : Int32) (m_state : Ar) (m_leftOf : Ar) (m_rightOf : Ar) (m_order : Ar) (m_rest : Ar)  : Option (Ar × Ar) := bd1 (m_X6_layRest m_tries m_state m_leftOf m_rightOf m_rest) (fun z_rest1 => L_X6_layBest_11 m_tries m_state m_leftOf m_rightOf z_rest1 FU ((0 : Int32)) ((10 : Int32)) ((0 : Int32)) m_order)
theorem ds_X6_layBest : (yX6_layBest).cls ≠ "java/lang/invoke/MethodHandle" ∧ (yX6_layBest).cls ≠ "java/lang/invoke/VarHandle" ∧ (parseMethodDescriptor (yX6_layBest).desc).map (fun d => d.parameters.length) = some 0 := by decide +kernel
set_option maxHeartbeats 4000000 in
set_option maxRecDepth 100000 in
theorem c_X6_layBest (E : En) {am0 am1 am2 am3 am4 am5 am6 am7 am8 am9 am10 am11 am12 am13 am14 : Nat} {m_said : Int32} {m_tries : Int32} {m_state : Ar} {m_images : Ar} {m_isKept : Ar} {m_pad : Ar} {m_leftOf : Ar} {m_rightOf : Ar} {m_isApart : Ar} {m_group : Ar} {m_isPair : Ar} {m_isOne : Ar} {m_order : Ar} {m_rest : Ar} {m_aside : Ar} {m_others : Ar}  {q_m_order : Ar} {q_m_rest : Ar} (h : m_X6_layBest m_tries m_state m_leftOf m_rightOf m_order m_rest = some (q_m_order, q_m_rest)) : Cv E yX6_layBest (wU yX6_layBest cX6_layBest 7 none) (RM 4 97) [.ref am0] (V_M E.2.2 am0 am1 am2 am3 am4 am5 am6 am7 am8 am9 am10 am11 am12 am13 am14 m_said m_tries m_state m_images m_isKept m_pad m_leftOf m_rightOf m_isApart m_group m_isPair m_isOne m_order m_rest m_aside m_others) (V_M E.2.2 am0 am1 am2 am3 am4 am5 am6 am7 am8 am9 am10 am11 am12 am13 am14 m_said m_tries m_state m_images m_isKept m_pad m_leftOf m_rightOf m_isApart m_group m_isPair m_isOne q_m_order q_m_rest m_aside m_others) := by
  refine Cv.of (by decide) (Nat.le_of_ble_eq_true rfl) ?_
  intro x hE C
  subst hE
  have C : CX RX6 cX6_layBest 7 none x := C
  refine p_locals [0] (lv' := [(0, .ref am0)]) rfl ?_
  unfold m_X6_layBest at h
  refine p_aload_n C dX6_layBest_0 rfl 0 rfl ?_
  obtain ⟨z_rest1, hc2, h⟩ := bd1_of h
  refine p_callVv_s (As := []) (st' := []) (Wc' := (V_M x.1.2.2 am0 am1 am2 am3 am4 am5 am6 am7 am8 am9 am10 am11 am12 am13 am14 m_said m_tries m_state m_images m_isKept m_pad m_leftOf m_rightOf m_isApart m_group m_isPair m_isOne m_order z_rest1 m_aside m_others)) C (c_X6_layRest x.1 (am0 := am0) (am1 := am1) (am2 := am2) (am3 := am3) (am4 := am4) (am5 := am5) (am6 := am6) (am7 := am7) (am8 := am8) (am9 := am9) (am10 := am10) (am11 := am11) (am12 := am12) (am13 := am13) (am14 := am14) (m_said := m_said) (m_images := m_images) (m_isKept := m_isKept) (m_pad := m_pad) (m_isApart := m_isApart) (m_group := m_group) (m_isPair := m_isPair) (m_isOne := m_isOne) (m_order := m_order) (m_aside := m_aside) (m_others := m_others) hc2) dX6_layBest_1 rfl ml_X6_135 kv_X6_layRest ds_X6_layRest ⟨rfl, rfl, by decide, by decide⟩ 0 rfl rfl rfl rfl (by decide) ⟨by decide, by decide⟩ ?_
  refine p_iconst (v := (0 : Int32)) C dX6_layBest_4 rfl (by decide) ?_
  refine p_istore_n (lv' := [(1, .int ((0 : Int32))), (0, .ref am0)]) C dX6_layBest_5 rfl (by decide) rfl ?_
  refine p_bipush (v := (10 : Int32)) C dX6_layBest_6 rfl (by decide) ?_
  refine p_istore_n (lv' := [(2, .int ((10 : Int32))), (1, .int ((0 : Int32))), (0, .ref am0)]) C dX6_layBest_8 rfl (by decide) rfl ?_
  refine p_iconst (v := (0 : Int32)) C dX6_layBest_9 rfl (by decide) ?_
  refine p_istore_n (lv' := [(3, .int ((0 : Int32))), (2, .int ((10 : Int32))), (1, .int ((0 : Int32))), (0, .ref am0)]) C dX6_layBest_10 rfl (by decide) rfl ?_
  refine p_locals [3, 2, 1, 0] (lv' := [(0, .ref am0), (1, .int ((0 : Int32))), (2, .int ((10 : Int32))), (3, .int ((0 : Int32)))]) rfl ?_
  exact tl_X6_layBest_11 C  FU _ _ _ _ h
