def J_X6_hidden_54 (m_tries : Int32) (m_state : Ar) (m_leftOf : Ar) (m_rightOf : Ar) (m_isApart : Ar) (m_group : Ar) (m_isPair : Ar) (m_isOne : Ar) (m_aside : Ar) (k25 : Int32 → Int32 → Int32 → Ar → Ar → Ar → Option (Int32 × Int32 × Ar × Ar × Ar × Ar × Ar × Ar × Ar × Ar))  (v1 : Int32) (v2 : Int32) (v3 : Int32) (v4 : Int32) : Option (Int32 × Int32 × Ar × Ar × Ar × Ar × Ar × Ar × Ar × Ar) := k25 v2 v3 (v4 + (-1)) m_state m_isOne m_aside
set_option maxHeartbeats 4000000 in
set_option maxRecDepth 100000 in
theorem tj_X6_hidden_54 {x : Cxt} {am0 am1 am2 am3 am4 am5 am6 am7 am8 am9 am10 am11 am12 am13 am14 : Nat} {m_said : Int32} {m_tries : Int32} {m_state : Ar} {m_images : Ar} {m_isKept : Ar} {m_pad : Ar} {m_leftOf : Ar} {m_rightOf : Ar} {m_isApart : Ar} {m_group : Ar} {m_isPair : Ar} {m_isOne : Ar} {m_order : Ar} {m_rest : Ar} {m_aside : Ar} {m_others : Ar} {k25 : Int32 → Int32 → Int32 → Ar → Ar → Ar → Option (Int32 × Int32 × Ar × Ar × Ar × Ar × Ar × Ar × Ar × Ar)}  {v1 : Int32} {v2 : Int32} {v3 : Int32} {v4 : Int32} {rr : Int32} {q_m_tries : Int32} {q_m_state : Ar} {q_m_leftOf : Ar} {q_m_rightOf : Ar} {q_m_isApart : Ar} {q_m_group : Ar} {q_m_isPair : Ar} {q_m_isOne : Ar} {q_m_aside : Ar} (C : CX RX6 cX6_hidden 5 (some .int) x) (hk25 : ∀ (w2 : Int32) (w3 : Int32) (w4 : Int32) (w_m_state : Ar) (w_m_isOne : Ar) (w_m_aside : Ar), k25 w2 w3 w4 w_m_state w_m_isOne w_m_aside = some (rr, q_m_tries, q_m_state, q_m_leftOf, q_m_rightOf, q_m_isApart, q_m_group, q_m_isPair, q_m_isOne, q_m_aside) → PT (RM 4 93) 5 x 25 [(0, .ref am0), (1, .int v1), (2, .int w2), (3, .int w3), (4, .int w4)] [] (V_M x.1.2.2 am0 am1 am2 am3 am4 am5 am6 am7 am8 am9 am10 am11 am12 am13 am14 m_said m_tries w_m_state m_images m_isKept m_pad m_leftOf m_rightOf m_isApart m_group m_isPair w_m_isOne m_order m_rest w_m_aside m_others) 0 0 (QI x rr (V_M x.1.2.2 am0 am1 am2 am3 am4 am5 am6 am7 am8 am9 am10 am11 am12 am13 am14 m_said q_m_tries q_m_state m_images m_isKept m_pad q_m_leftOf q_m_rightOf q_m_isApart q_m_group q_m_isPair q_m_isOne m_order m_rest q_m_aside m_others))) (h : J_X6_hidden_54 m_tries m_state m_leftOf m_rightOf m_isApart m_group m_isPair m_isOne m_aside k25 v1 v2 v3 v4 = some (rr, q_m_tries, q_m_state, q_m_leftOf, q_m_rightOf, q_m_isApart, q_m_group, q_m_isPair, q_m_isOne, q_m_aside)) : PT (RM 4 93) 5 x 54 [(0, .ref am0), (1, .int v1), (2, .int v2), (3, .int v3), (4, .int v4)] [] (V_M x.1.2.2 am0 am1 am2 am3 am4 am5 am6 am7 am8 am9 am10 am11 am12 am13 am14 m_said m_tries m_state m_images m_isKept m_pad m_leftOf m_rightOf m_isApart m_group m_isPair m_isOne m_order m_rest m_aside m_others) 0 0 (QI x rr (V_M x.1.2.2 am0 am1 am2 am3 am4 am5 am6 am7 am8 am9 am10 am11 am12 am13 am14 m_said q_m_tries q_m_state m_images m_isKept m_pad q_m_leftOf q_m_rightOf q_m_isApart q_m_group q_m_isPair q_m_isOne m_order m_rest q_m_aside m_others)) := by
  unfold J_X6_hidden_54 at h
  refine p_iinc (w := v4 + (-1)) (lv' := [(4, .int (v4 + (-1))), (0, .ref am0), (1, .int v1), (2, .int v2), (3, .int v3)]) C dX6_hidden_54 rfl 4 rfl rfl (by decide) rfl ?_
  refine p_goto C dX6_hidden_57 (pc' := 25) (by decide) ?_
  refine p_locals [1, 2, 3, 4, 0] (lv' := [(0, .ref am0), (1, .int v1), (2, .int v2), (3, .int v3), (4, .int (v4 + (-1)))]) rfl ?_
  exact hk25 _ _ _ _ _ _ h
def B_X6_hidden_25 (m_tries : Int32) (m_leftOf : Ar) (m_rightOf : Ar) (m_isApart : Ar) (m_group : Ar) (m_isPair : Ar)  (v1 : Int32) (kk : Int32 → Int32 → Int32 → Ar → Ar → Ar → Option (Int32 × Int32 × Ar × Ar × Ar × Ar × Ar × Ar × Ar × Ar)) (v2 : Int32) (v3 : Int32) (v4 : Int32) (m_state : Ar) (m_isOne : Ar) (m_aside : Ar) : Option (Int32 × Int32 × Ar × Ar × Ar × Ar × Ar × Ar × Ar × Ar) := if v4 < 0 then (if v1 = 0 then (some (v2, m_tries, m_state, m_leftOf, m_rightOf, m_isApart, m_group, m_isPair, m_isOne, m_aside)) else (some (v3, m_tries, m_state, m_leftOf, m_rightOf, m_isApart, m_group, m_isPair, m_isOne, m_aside))) else (bd1 (m_X6_isSingle m_state v4) (fun r3 => if r3 = 0 then (J_X6_hidden_54 m_tries m_state m_leftOf m_rightOf m_isApart m_group m_isPair m_isOne m_aside (kk) v1 v2 v3 v4) else (bd4 (m_X6_seenBy m_tries m_state m_leftOf m_rightOf m_isApart m_isOne m_aside v4) (fun r6 z_state7 z_isOne8 z_aside9 => if r6 = 0 then (J_X6_hidden_54 m_tries z_state7 m_leftOf m_rightOf m_isApart m_group m_isPair z_isOne8 z_aside9 (kk) v1 (v2 + 1) v4 v4) else (J_X6_hidden_54 m_tries z_state7 m_leftOf m_rightOf m_isApart m_group m_isPair z_isOne8 z_aside9 (kk) v1 v2 v3 v4)))))
def L_X6_hidden_25 (m_tries : Int32) (m_leftOf : Ar) (m_rightOf : Ar) (m_isApart : Ar) (m_group : Ar) (m_isPair : Ar)  (v1 : Int32) : Nat → Int32 → Int32 → Int32 → Ar → Ar → Ar → Option (Int32 × Int32 × Ar × Ar × Ar × Ar × Ar × Ar × Ar × Ar) := lpG (fun _ _ _ _ _ _ => none) (B_X6_hidden_25 m_tries m_leftOf m_rightOf m_isApart m_group m_isPair v1)
set_option maxHeartbeats 4000000 in
set_option maxRecDepth 100000 in
theorem tl_X6_hidden_25 {x : Cxt} {am0 am1 am2 am3 am4 am5 am6 am7 am8 am9 am10 am11 am12 am13 am14 : Nat} {m_said : Int32} {m_tries : Int32} {m_images : Ar} {m_isKept : Ar} {m_pad : Ar} {m_leftOf : Ar} {m_rightOf : Ar} {m_isApart : Ar} {m_group : Ar} {m_isPair : Ar} {m_order : Ar} {m_rest : Ar} {m_others : Ar}  {v1 : Int32} {rr : Int32} {q_m_tries : Int32} {q_m_state : Ar} {q_m_leftOf : Ar} {q_m_rightOf : Ar} {q_m_isApart : Ar} {q_m_group : Ar} {q_m_isPair : Ar} {q_m_isOne : Ar} {q_m_aside : Ar} (C : CX RX6 cX6_hidden 5 (some .int) x)  : ∀ (n : Nat) (v2 : Int32) (v3 : Int32) (v4 : Int32) (m_state : Ar) (m_isOne : Ar) (m_aside : Ar), L_X6_hidden_25 m_tries m_leftOf m_rightOf m_isApart m_group m_isPair v1 n v2 v3 v4 m_state m_isOne m_aside = some (rr, q_m_tries, q_m_state, q_m_leftOf, q_m_rightOf, q_m_isApart, q_m_group, q_m_isPair, q_m_isOne, q_m_aside) → PT (RM 4 93) 5 x 25 [(0, .ref am0), (1, .int v1), (2, .int v2), (3, .int v3), (4, .int v4)] [] (V_M x.1.2.2 am0 am1 am2 am3 am4 am5 am6 am7 am8 am9 am10 am11 am12 am13 am14 m_said m_tries m_state m_images m_isKept m_pad m_leftOf m_rightOf m_isApart m_group m_isPair m_isOne m_order m_rest m_aside m_others) 0 0 (QI x rr (V_M x.1.2.2 am0 am1 am2 am3 am4 am5 am6 am7 am8 am9 am10 am11 am12 am13 am14 m_said q_m_tries q_m_state m_images m_isKept m_pad q_m_leftOf q_m_rightOf q_m_isApart q_m_group q_m_isPair q_m_isOne m_order m_rest q_m_aside m_others)) := by
  intro n
  induction n with
  | zero =>
    intro v2 v3 v4 m_state m_isOne m_aside h
    cases h
  | succ n ih =>
    intro v2 v3 v4 m_state m_isOne m_aside h
    have h : B_X6_hidden_25 m_tries m_leftOf m_rightOf m_isApart m_group m_isPair v1 (L_X6_hidden_25 m_tries m_leftOf m_rightOf m_isApart m_group m_isPair v1 n) v2 v3 v4 m_state m_isOne m_aside = some (rr, q_m_tries, q_m_state, q_m_leftOf, q_m_rightOf, q_m_isApart, q_m_group, q_m_isPair, q_m_isOne, q_m_aside) := h
    unfold B_X6_hidden_25 at h
    refine p_iload C dX6_hidden_25 rfl 4 rfl ?_
    refine p_if_lt C dX6_hidden_27 (tgt := 60) (by decide) rfl (fun c1 => ?_) (fun c1 => ?_)
    · have h := if_t c1 h
      refine p_iload_n C dX6_hidden_60 rfl 1 rfl ?_
      refine p_if_ne C dX6_hidden_61 (tgt := 68) (by decide) rfl (fun c2 => ?_) (fun c2 => ?_)
      · have h := if_f c2 h
        refine p_iload_n C dX6_hidden_68 rfl 3 rfl ?_
        cases h
        exact p_iret C dX6_hidden_69
      · have h := if_t c2 h
        refine p_iload_n C dX6_hidden_64 rfl 2 rfl ?_
        refine p_goto C dX6_hidden_65 (pc' := 69) (by decide) ?_
        cases h
        exact p_iret C dX6_hidden_69
    · have h := if_f c1 h
      refine p_aload_n C dX6_hidden_30 rfl 0 rfl ?_
      refine p_iload C dX6_hidden_31 rfl 4 rfl ?_
      obtain ⟨r3, hc4, h⟩ := bd1_of h
      refine p_callVi_s (As := [.int v4]) (st' := []) (Wc' := (V_M x.1.2.2 am0 am1 am2 am3 am4 am5 am6 am7 am8 am9 am10 am11 am12 am13 am14 m_said m_tries m_state m_images m_isKept m_pad m_leftOf m_rightOf m_isApart m_group m_isPair m_isOne m_order m_rest m_aside m_others)) C (c_X6_isSingle x.1 (am0 := am0) (am1 := am1) (am2 := am2) (am3 := am3) (am4 := am4) (am5 := am5) (am6 := am6) (am7 := am7) (am8 := am8) (am9 := am9) (am10 := am10) (am11 := am11) (am12 := am12) (am13 := am13) (am14 := am14) (m_said := m_said) (m_tries := m_tries) (m_images := m_images) (m_isKept := m_isKept) (m_pad := m_pad) (m_leftOf := m_leftOf) (m_rightOf := m_rightOf) (m_isApart := m_isApart) (m_group := m_group) (m_isPair := m_isPair) (m_isOne := m_isOne) (m_order := m_order) (m_rest := m_rest) (m_aside := m_aside) (m_others := m_others) hc4) dX6_hidden_33 rfl ml_X6_150 kv_X6_isSingle ds_X6_isSingle ⟨rfl, rfl, by decide, by decide⟩ 0 rfl rfl rfl rfl (by decide) ⟨by decide, by decide⟩ ?_
      refine p_if_eq C dX6_hidden_36 (tgt := 54) (by decide) rfl (fun c5 => ?_) (fun c5 => ?_)
      · have h := if_t c5 h
        refine p_locals [0, 1, 2, 3, 4] (lv' := [(0, .ref am0), (1, .int v1), (2, .int v2), (3, .int v3), (4, .int v4)]) rfl ?_
        exact tj_X6_hidden_54 C (fun u0 u1 u2 u3 u4 u5 h => ih u0 u1 u2 u3 u4 u5 h) h
      · have h := if_f c5 h
        refine p_aload_n C dX6_hidden_39 rfl 0 rfl ?_
        refine p_iload C dX6_hidden_40 rfl 4 rfl ?_
        obtain ⟨r6, z_state7, z_isOne8, z_aside9, hc10, h⟩ := bd4_of h
        refine p_callVi_s (As := [.int v4]) (st' := []) (Wc' := (V_M x.1.2.2 am0 am1 am2 am3 am4 am5 am6 am7 am8 am9 am10 am11 am12 am13 am14 m_said m_tries z_state7 m_images m_isKept m_pad m_leftOf m_rightOf m_isApart m_group m_isPair z_isOne8 m_order m_rest z_aside9 m_others)) C (c_X6_seenBy x.1 (am0 := am0) (am1 := am1) (am2 := am2) (am3 := am3) (am4 := am4) (am5 := am5) (am6 := am6) (am7 := am7) (am8 := am8) (am9 := am9) (am10 := am10) (am11 := am11) (am12 := am12) (am13 := am13) (am14 := am14) (m_said := m_said) (m_images := m_images) (m_isKept := m_isKept) (m_pad := m_pad) (m_group := m_group) (m_isPair := m_isPair) (m_order := m_order) (m_rest := m_rest) (m_others := m_others) hc10) dX6_hidden_42 rfl ml_X6_153 kv_X6_seenBy ds_X6_seenBy ⟨rfl, rfl, by decide, by decide⟩ 0 rfl rfl rfl rfl (by decide) ⟨by decide, by decide⟩ ?_
        refine p_if_ne C dX6_hidden_45 (tgt := 54) (by decide) rfl (fun c11 => ?_) (fun c11 => ?_)
        · have h := if_f c11 h
          refine p_locals [0, 1, 2, 3, 4] (lv' := [(0, .ref am0), (1, .int v1), (2, .int v2), (3, .int v3), (4, .int v4)]) rfl ?_
          exact tj_X6_hidden_54 C (fun u0 u1 u2 u3 u4 u5 h => ih u0 u1 u2 u3 u4 u5 h) h
        · have h := if_t c11 h
          refine p_iinc (w := v2 + 1) (lv' := [(2, .int (v2 + 1)), (0, .ref am0), (1, .int v1), (3, .int v3), (4, .int v4)]) C dX6_hidden_48 rfl 2 rfl rfl (by decide) rfl ?_
          refine p_iload C dX6_hidden_51 rfl 4 rfl ?_
          refine p_istore_n (lv' := [(3, .int v4), (2, .int (v2 + 1)), (0, .ref am0), (1, .int v1), (4, .int v4)]) C dX6_hidden_53 rfl (by decide) rfl ?_
          refine p_locals [2, 3, 1, 0, 4] (lv' := [(0, .ref am0), (1, .int v1), (2, .int (v2 + 1)), (3, .int v4), (4, .int v4)]) rfl ?_
          exact tj_X6_hidden_54 C (fun u0 u1 u2 u3 u4 u5 h => ih u0 u1 u2 u3 u4 u5 h) h
def m_X6_hidden (m_tries : Int32) (m_state : Ar) (m_leftOf : Ar) (m_rightOf : Ar) (m_isApart : Ar) (m_group : Ar) (m_isPair : Ar) (m_isOne : Ar) (m_aside : Ar) (p1 : Int32) : Option (Int32 × Int32 × Ar × Ar × Ar × Ar × Ar × Ar × Ar × Ar) := bd1 (m_X6_in p1 ((0 : Int32)) ((1 : Int32))) (fun r1 => if r1 = 0 then (some ((-2 : Int32), m_tries, m_state, m_leftOf, m_rightOf, m_isApart, m_group, m_isPair, m_isOne, m_aside)) else (bd6 (m_X6_layTries m_tries m_state m_leftOf m_rightOf m_isApart m_group m_isPair) (fun z_tries4 z_leftOf5 z_rightOf6 z_isApart7 z_group8 z_isPair9 => L_X6_hidden_25 z_tries4 z_leftOf5 z_rightOf6 z_isApart7 z_group8 z_isPair9 p1 FU ((0 : Int32)) ((-6 : Int32)) ((25 : Int32)) m_state m_isOne m_aside)))
theorem ds_X6_hidden : (yX6_hidden).cls ≠ "java/lang/invoke/MethodHandle" ∧ (yX6_hidden).cls ≠ "java/lang/invoke/VarHandle" ∧ (parseMethodDescriptor (yX6_hidden).desc).map (fun d => d.parameters.length) = some 1 := by decide +kernel
set_option maxHeartbeats 4000000 in
set_option maxRecDepth 100000 in
theorem c_X6_hidden (E : En) {am0 am1 am2 am3 am4 am5 am6 am7 am8 am9 am10 am11 am12 am13 am14 : Nat} {m_said : Int32} {m_tries : Int32} {m_state : Ar} {m_images : Ar} {m_isKept : Ar} {m_pad : Ar} {m_leftOf : Ar} {m_rightOf : Ar} {m_isApart : Ar} {m_group : Ar} {m_isPair : Ar} {m_isOne : Ar} {m_order : Ar} {m_rest : Ar} {m_aside : Ar} {m_others : Ar} {p1 : Int32} {rr : Int32} {q_m_tries : Int32} {q_m_state : Ar} {q_m_leftOf : Ar} {q_m_rightOf : Ar} {q_m_isApart : Ar} {q_m_group : Ar} {q_m_isPair : Ar} {q_m_isOne : Ar} {q_m_aside : Ar} (h : m_X6_hidden m_tries m_state m_leftOf m_rightOf m_isApart m_group m_isPair m_isOne m_aside p1 = some (rr, q_m_tries, q_m_state, q_m_leftOf, q_m_rightOf, q_m_isApart, q_m_group, q_m_isPair, q_m_isOne, q_m_aside)) : Ci E yX6_hidden (wU yX6_hidden cX6_hidden 5 (some .int)) (RM 4 93) [.ref am0, .int p1] (V_M E.2.2 am0 am1 am2 am3 am4 am5 am6 am7 am8 am9 am10 am11 am12 am13 am14 m_said m_tries m_state m_images m_isKept m_pad m_leftOf m_rightOf m_isApart m_group m_isPair m_isOne m_order m_rest m_aside m_others) (V_M E.2.2 am0 am1 am2 am3 am4 am5 am6 am7 am8 am9 am10 am11 am12 am13 am14 m_said q_m_tries q_m_state m_images m_isKept m_pad q_m_leftOf q_m_rightOf q_m_isApart q_m_group q_m_isPair q_m_isOne m_order m_rest q_m_aside m_others) rr := by
  refine Ci.of (by decide) (Nat.le_of_ble_eq_true rfl) ?_
  intro x hE C
  subst hE
  have C : CX RX6 cX6_hidden 5 (some .int) x := C
  refine p_locals [0, 1] (lv' := [(0, .ref am0), (1, .int p1)]) rfl ?_
  unfold m_X6_hidden at h
  refine p_iload_n C dX6_hidden_0 rfl 1 rfl ?_
  refine p_iconst (v := (0 : Int32)) C dX6_hidden_1 rfl (by decide) ?_
  refine p_iconst (v := (1 : Int32)) C dX6_hidden_2 rfl (by decide) ?_
  obtain ⟨r1, hc2, h⟩ := bd1_of h
  refine p_callSi (As := [.int p1, .int ((0 : Int32)), .int ((1 : Int32))]) (st' := []) (Wd' := (V_M x.1.2.2 am0 am1 am2 am3 am4 am5 am6 am7 am8 am9 am10 am11 am12 am13 am14 m_said m_tries m_state m_images m_isKept m_pad m_leftOf m_rightOf m_isApart m_group m_isPair m_isOne m_order m_rest m_aside m_others)) C (c_X6_in x.1 hc2) dX6_hidden_3 rfl ml_X6_53 ks_X6_in ds_X6_in ⟨rfl, rfl, by decide, by decide⟩ [] rfl rfl rfl rfl (by decide) ⟨by decide, by decide⟩ rfl ?_
  refine p_if_ne C dX6_hidden_6 (tgt := 12) (by decide) rfl (fun c3 => ?_) (fun c3 => ?_)
  · have h := if_f c3 h
    refine p_aload_n C dX6_hidden_12 rfl 0 rfl ?_
    obtain ⟨z_tries4, z_leftOf5, z_rightOf6, z_isApart7, z_group8, z_isPair9, hc10, h⟩ := bd6_of h
    refine p_callVv_s (As := []) (st' := []) (Wc' := (V_M x.1.2.2 am0 am1 am2 am3 am4 am5 am6 am7 am8 am9 am10 am11 am12 am13 am14 m_said z_tries4 m_state m_images m_isKept m_pad z_leftOf5 z_rightOf6 z_isApart7 z_group8 z_isPair9 m_isOne m_order m_rest m_aside m_others)) C (c_X6_layTries x.1 (am0 := am0) (am1 := am1) (am2 := am2) (am3 := am3) (am4 := am4) (am5 := am5) (am6 := am6) (am7 := am7) (am8 := am8) (am9 := am9) (am10 := am10) (am11 := am11) (am12 := am12) (am13 := am13) (am14 := am14) (m_said := m_said) (m_images := m_images) (m_isKept := m_isKept) (m_pad := m_pad) (m_isOne := m_isOne) (m_order := m_order) (m_rest := m_rest) (m_aside := m_aside) (m_others := m_others) hc10) dX6_hidden_13 rfl ml_X6_107 kv_X6_layTries ds_X6_layTries ⟨rfl, rfl, by decide, by decide⟩ 0 rfl rfl rfl rfl (by decide) ⟨by decide, by decide⟩ ?_
    refine p_iconst (v := (0 : Int32)) C dX6_hidden_16 rfl (by decide) ?_
    refine p_istore_n (lv' := [(2, .int ((0 : Int32))), (0, .ref am0), (1, .int p1)]) C dX6_hidden_17 rfl (by decide) rfl ?_
    refine p_bipush (v := (-6 : Int32)) C dX6_hidden_18 rfl (by decide) ?_
    refine p_istore_n (lv' := [(3, .int ((-6 : Int32))), (2, .int ((0 : Int32))), (0, .ref am0), (1, .int p1)]) C dX6_hidden_20 rfl (by decide) rfl ?_
    refine p_bipush (v := (25 : Int32)) C dX6_hidden_21 rfl (by decide) ?_
    refine p_istore (lv' := [(4, .int ((25 : Int32))), (3, .int ((-6 : Int32))), (2, .int ((0 : Int32))), (0, .ref am0), (1, .int p1)]) C dX6_hidden_23 rfl (by decide) rfl ?_
    refine p_locals [3, 4, 2, 1, 0] (lv' := [(0, .ref am0), (1, .int p1), (2, .int ((0 : Int32))), (3, .int ((-6 : Int32))), (4, .int ((25 : Int32)))]) rfl ?_
    exact tl_X6_hidden_25 C  FU _ _ _ _ _ _ h
  · have h := if_t c3 h
    refine p_bipush (v := (-2 : Int32)) C dX6_hidden_9 rfl (by decide) ?_
    cases h
    exact p_iret C dX6_hidden_11
def B_X6_image_14 (m_state : Ar) (m_isKept : Ar)  (v1 : Int32) (kk : Int32 → Ar → Option (Int32 × Ar × Ar)) (v2 : Int32) (m_images : Ar) : Option (Int32 × Ar × Ar) := if ((40 : Int32)) ≤ v2 then (grd (gI v1 2) (some ((1 : Int32), m_images, upd m_isKept v1.toNatClampNeg ((1 : Int32))))) else (grd (gI v2 40) (grd (gI ((((40 : Int32)) * v1) + v2) 80) (kk (v2 + 1) (upd m_images ((((40 : Int32)) * v1) + v2).toNatClampNeg (m_state v2.toNatClampNeg)))))
def L_X6_image_14 (m_state : Ar) (m_isKept : Ar)  (v1 : Int32) : Nat → Int32 → Ar → Option (Int32 × Ar × Ar) := lpG (fun _ _ => none) (B_X6_image_14 m_state m_isKept v1)
set_option maxHeartbeats 4000000 in
set_option maxRecDepth 100000 in
theorem tl_X6_image_14 {x : Cxt} {am0 am1 am2 am3 am4 am5 am6 am7 am8 am9 am10 am11 am12 am13 am14 : Nat} {m_said : Int32} {m_tries : Int32} {m_state : Ar} {m_isKept : Ar} {m_pad : Ar} {m_leftOf : Ar} {m_rightOf : Ar} {m_isApart : Ar} {m_group : Ar} {m_isPair : Ar} {m_isOne : Ar} {m_order : Ar} {m_rest : Ar} {m_aside : Ar} {m_others : Ar}  {v1 : Int32} {rr : Int32} {q_m_images : Ar} {q_m_isKept : Ar} (C : CX RX6 cX6_image 3 (some .int) x)  : ∀ (n : Nat) (v2 : Int32) (m_images : Ar), L_X6_image_14 m_state m_isKept v1 n v2 m_images = some (rr, q_m_images, q_m_isKept) → PT (RM 1 22) 3 x 14 [(0, .ref am0), (1, .int v1), (2, .int v2)] [] (V_M x.1.2.2 am0 am1 am2 am3 am4 am5 am6 am7 am8 am9 am10 am11 am12 am13 am14 m_said m_tries m_state m_images m_isKept m_pad m_leftOf m_rightOf m_isApart m_group m_isPair m_isOne m_order m_rest m_aside m_others) 0 0 (QI x rr (V_M x.1.2.2 am0 am1 am2 am3 am4 am5 am6 am7 am8 am9 am10 am11 am12 am13 am14 m_said m_tries m_state q_m_images q_m_isKept m_pad m_leftOf m_rightOf m_isApart m_group m_isPair m_isOne m_order m_rest m_aside m_others)) := by
  intro n
  induction n with
  | zero =>
    intro v2 m_images h
    cases h
  | succ n ih =>
    intro v2 m_images h
    have h : B_X6_image_14 m_state m_isKept v1 (L_X6_image_14 m_state m_isKept v1 n) v2 m_images = some (rr, q_m_images, q_m_isKept) := h
    unfold B_X6_image_14 at h
    refine p_iload_n C dX6_image_14 rfl 2 rfl ?_
    refine p_bipush (v := (40 : Int32)) C dX6_image_15 rfl (by decide) ?_
    refine p_icmp_ge C dX6_image_17 (tgt := 43) (by decide) rfl (fun c1 => ?_) (fun c1 => ?_)
    · have h := if_t c1 h
      refine p_aload_n C dX6_image_43 rfl 0 rfl ?_
      refine p_get C dX6_image_44 rfl 0 2 inlX6 fl_X6_16 rfl rfl (by decide) rfl rfl ?_
      refine p_iload_n C dX6_image_47 rfl 1 rfl ?_
      refine p_iconst (v := (1 : Int32)) C dX6_image_48 rfl (by decide) ?_
      obtain ⟨g2, h⟩ := grd_of h
      refine p_zast (Wd' := (V_M x.1.2.2 am0 am1 am2 am3 am4 am5 am6 am7 am8 am9 am10 am11 am12 am13 am14 m_said m_tries m_state m_images (upd m_isKept v1.toNatClampNeg ((1 : Int32))) m_pad m_leftOf m_rightOf m_isApart m_group m_isPair m_isOne m_order m_rest m_aside m_others)) C dX6_image_49 rfl 3 rfl g2 rfl ?_
      refine p_iconst (v := (1 : Int32)) C dX6_image_50 rfl (by decide) ?_
      cases h
      exact p_iret C dX6_image_51
    · have h := if_f c1 h
      refine p_aload_n C dX6_image_20 rfl 0 rfl ?_
      refine p_get C dX6_image_21 rfl 0 1 inlX6 fl_X6_13 rfl rfl (by decide) rfl rfl ?_
      refine p_bipush (v := (40 : Int32)) C dX6_image_24 rfl (by decide) ?_
      refine p_iload_n C dX6_image_26 rfl 1 rfl ?_
      refine p_imul C dX6_image_27 rfl ?_
      refine p_iload_n C dX6_image_28 rfl 2 rfl ?_
      refine p_iadd C dX6_image_29 rfl ?_
      refine p_aload_n C dX6_image_30 rfl 0 rfl ?_
      refine p_get C dX6_image_31 rfl 0 0 inlX6 fl_X6_7 rfl rfl (by decide) rfl rfl ?_
      refine p_iload_n C dX6_image_34 rfl 2 rfl ?_
      obtain ⟨g3, h⟩ := grd_of h
      refine p_iald C dX6_image_35 rfl 1 rfl g3 ?_
      obtain ⟨g4, h⟩ := grd_of h
      refine p_iast (Wd' := (V_M x.1.2.2 am0 am1 am2 am3 am4 am5 am6 am7 am8 am9 am10 am11 am12 am13 am14 m_said m_tries m_state (upd m_images ((((40 : Int32)) * v1) + v2).toNatClampNeg (m_state v2.toNatClampNeg)) m_isKept m_pad m_leftOf m_rightOf m_isApart m_group m_isPair m_isOne m_order m_rest m_aside m_others)) C dX6_image_36 rfl 2 rfl g4 rfl ?_
      refine p_iinc (w := v2 + 1) (lv' := [(2, .int (v2 + 1)), (0, .ref am0), (1, .int v1)]) C dX6_image_37 rfl 2 rfl rfl (by decide) rfl ?_
      refine p_goto C dX6_image_40 (pc' := 14) (by decide) ?_
      refine p_locals [1, 2, 0] (lv' := [(0, .ref am0), (1, .int v1), (2, .int (v2 + 1))]) rfl ?_
      exact ih _ _ h
def m_X6_image (m_state : Ar) (m_images : Ar) (m_isKept : Ar) (p1 : Int32) : Option (Int32 × Ar × Ar) := bd1 (m_X6_in p1 ((0 : Int32)) ((1 : Int32))) (fun r1 => if r1 = 0 then (some ((-2 : Int32), m_images, m_isKept)) else (L_X6_image_14 m_state m_isKept p1 FU ((0 : Int32)) m_images))
theorem ds_X6_image : (yX6_image).cls ≠ "java/lang/invoke/MethodHandle" ∧ (yX6_image).cls ≠ "java/lang/invoke/VarHandle" ∧ (parseMethodDescriptor (yX6_image).desc).map (fun d => d.parameters.length) = some 1 := by decide +kernel
set_option maxHeartbeats 4000000 in
set_option maxRecDepth 100000 in
theorem c_X6_image (E : En) {am0 am1 am2 am3 am4 am5 am6 am7 am8 am9 am10 am11 am12 am13 am14 : Nat} {m_said : Int32} {m_tries : Int32} {m_state : Ar} {m_images : Ar} {m_isKept : Ar} {m_pad : Ar} {m_leftOf : Ar} {m_rightOf : Ar} {m_isApart : Ar} {m_group : Ar} {m_isPair : Ar} {m_isOne : Ar} {m_order : Ar} {m_rest : Ar} {m_aside : Ar} {m_others : Ar} {p1 : Int32} {rr : Int32} {q_m_images : Ar} {q_m_isKept : Ar} (h : m_X6_image m_state m_images m_isKept p1 = some (rr, q_m_images, q_m_isKept)) : Ci E yX6_image (wU yX6_image cX6_image 3 (some .int)) (RM 1 22) [.ref am0, .int p1] (V_M E.2.2 am0 am1 am2 am3 am4 am5 am6 am7 am8 am9 am10 am11 am12 am13 am14 m_said m_tries m_state m_images m_isKept m_pad m_leftOf m_rightOf m_isApart m_group m_isPair m_isOne m_order m_rest m_aside m_others) (V_M E.2.2 am0 am1 am2 am3 am4 am5 am6 am7 am8 am9 am10 am11 am12 am13 am14 m_said m_tries m_state q_m_images q_m_isKept m_pad m_leftOf m_rightOf m_isApart m_group m_isPair m_isOne m_order m_rest m_aside m_others) rr := by
  refine Ci.of (by decide) (Nat.le_of_ble_eq_true rfl) ?_
  intro x hE C
  subst hE
  have C : CX RX6 cX6_image 3 (some .int) x := C
  refine p_locals [0, 1] (lv' := [(0, .ref am0), (1, .int p1)]) rfl ?_
  unfold m_X6_image at h
  refine p_iload_n C dX6_image_0 rfl 1 rfl ?_
  refine p_iconst (v := (0 : Int32)) C dX6_image_1 rfl (by decide) ?_
  refine p_iconst (v := (1 : Int32)) C dX6_image_2 rfl (by decide) ?_
  obtain ⟨r1, hc2, h⟩ := bd1_of h
  refine p_callSi (As := [.int p1, .int ((0 : Int32)), .int ((1 : Int32))]) (st' := []) (Wd' := (V_M x.1.2.2 am0 am1 am2 am3 am4 am5 am6 am7 am8 am9 am10 am11 am12 am13 am14 m_said m_tries m_state m_images m_isKept m_pad m_leftOf m_rightOf m_isApart m_group m_isPair m_isOne m_order m_rest m_aside m_others)) C (c_X6_in x.1 hc2) dX6_image_3 rfl ml_X6_53 ks_X6_in ds_X6_in ⟨rfl, rfl, by decide, by decide⟩ [] rfl rfl rfl rfl (by decide) ⟨by decide, by decide⟩ rfl ?_
  refine p_if_ne C dX6_image_6 (tgt := 12) (by decide) rfl (fun c3 => ?_) (fun c3 => ?_)
  · have h := if_f c3 h
    refine p_iconst (v := (0 : Int32)) C dX6_image_12 rfl (by decide) ?_
    refine p_istore_n (lv' := [(2, .int ((0 : Int32))), (0, .ref am0), (1, .int p1)]) C dX6_image_13 rfl (by decide) rfl ?_
    refine p_locals [1, 2, 0] (lv' := [(0, .ref am0), (1, .int p1), (2, .int ((0 : Int32)))]) rfl ?_
    exact tl_X6_image_14 C  FU _ _ h
  · have h := if_t c3 h
    refine p_bipush (v := (-2 : Int32)) C dX6_image_9 rfl (by decide) ?_
    cases h
    exact p_iret C dX6_image_11
def m_X6_isHere  (p0 : Int32) (p1 : Int32) : Option (Int32) := bd1 (m_X6_in p0 ((0 : Int32)) ((20 : Int32))) (fun r1 => if r1 = 0 then (some ((0 : Int32))) else (bd1 (m_X6_in p1 ((0 : Int32)) ((20 : Int32))) (fun r4 => if r4 = 0 then (some ((0 : Int32))) else (some ((1 : Int32))))))
theorem ds_X6_isHere : (yX6_isHere).cls ≠ "java/lang/invoke/MethodHandle" ∧ (yX6_isHere).cls ≠ "java/lang/invoke/VarHandle" ∧ (parseMethodDescriptor (yX6_isHere).desc).map (fun d => d.parameters.length) = some 2 := by decide +kernel
set_option maxHeartbeats 4000000 in
set_option maxRecDepth 100000 in
theorem c_X6_isHere (E : En)  {p0 : Int32} {p1 : Int32} {rr : Int32} (h : m_X6_isHere p0 p1 = some rr) : Ci E yX6_isHere (wU yX6_isHere cX6_isHere 2 (some .boolean)) (RM 1 22) [.int p0, .int p1] ([] : va_W) ([] : va_W) rr := by
  refine Ci.of (by decide) (Nat.le_of_ble_eq_true rfl) ?_
  intro x hE C
  subst hE
  have C : CX RX6 cX6_isHere 2 (some .boolean) x := C
  refine p_locals [0, 1] (lv' := [(0, .int p0), (1, .int p1)]) rfl ?_
  unfold m_X6_isHere at h
  refine p_iload_n C dX6_isHere_0 rfl 0 rfl ?_
  refine p_iconst (v := (0 : Int32)) C dX6_isHere_1 rfl (by decide) ?_
  refine p_bipush (v := (20 : Int32)) C dX6_isHere_2 rfl (by decide) ?_
  obtain ⟨r1, hc2, h⟩ := bd1_of h
  refine p_callSi_s (As := [.int p0, .int ((0 : Int32)), .int ((20 : Int32))]) (st' := []) (Wc' := ([] : va_W)) C (c_X6_in x.1 hc2) dX6_isHere_4 rfl ml_X6_53 ks_X6_in ds_X6_in ⟨rfl, rfl, by decide, by decide⟩ rfl rfl (by decide) ⟨by decide, by decide⟩ ?_
  refine p_if_eq C dX6_isHere_7 (tgt := 24) (by decide) rfl (fun c3 => ?_) (fun c3 => ?_)
  · have h := if_t c3 h
    refine p_iconst (v := (0 : Int32)) C dX6_isHere_24 rfl (by decide) ?_
    cases h
    exact p_zret C dX6_isHere_25 rfl
  · have h := if_f c3 h
    refine p_iload_n C dX6_isHere_10 rfl 1 rfl ?_
    refine p_iconst (v := (0 : Int32)) C dX6_isHere_11 rfl (by decide) ?_
    refine p_bipush (v := (20 : Int32)) C dX6_isHere_12 rfl (by decide) ?_
    obtain ⟨r4, hc5, h⟩ := bd1_of h
    refine p_callSi_s (As := [.int p1, .int ((0 : Int32)), .int ((20 : Int32))]) (st' := []) (Wc' := ([] : va_W)) C (c_X6_in x.1 hc5) dX6_isHere_14 rfl ml_X6_53 ks_X6_in ds_X6_in ⟨rfl, rfl, by decide, by decide⟩ rfl rfl (by decide) ⟨by decide, by decide⟩ ?_
    refine p_if_eq C dX6_isHere_17 (tgt := 24) (by decide) rfl (fun c6 => ?_) (fun c6 => ?_)
    · have h := if_t c6 h
      refine p_iconst (v := (0 : Int32)) C dX6_isHere_24 rfl (by decide) ?_
      cases h
      exact p_zret C dX6_isHere_25 rfl
    · have h := if_f c6 h
      refine p_iconst (v := (1 : Int32)) C dX6_isHere_20 rfl (by decide) ?_
      refine p_goto C dX6_isHere_21 (pc' := 25) (by decide) ?_
      cases h
      exact p_zret C dX6_isHere_25 rfl
def m_X6_join_ (m_state : Ar) (p1 : Int32) (p2 : Int32) (p3 : Int32) : Option (Int32 × Ar) := bd1 (m_X6_isNet p1) (fun r1 => if r1 = 0 then (some ((-1 : Int32), m_state)) else (bd1 (m_X6_isNet p2) (fun r4 => if r4 = 0 then (some ((-1 : Int32), m_state)) else (if p1 = p2 then (some ((-2 : Int32), m_state)) else (bd1 (m_X6_in p3 ((0 : Int32)) ((1 : Int32))) (fun r8 => if r8 = 0 then (some ((-2 : Int32), m_state)) else (bd1 (m_X6_pairOf p1 p2) (fun r11 => grd (gI (((34 : Int32)) + r11) 40) (bd1 (m_X6_shortMany (upd m_state (((34 : Int32)) + r11).toNatClampNeg p3)) (fun r14 => some (r14, upd m_state (((34 : Int32)) + r11).toNatClampNeg p3)))))))))))
theorem ds_X6_join_ : (yX6_join_).cls ≠ "java/lang/invoke/MethodHandle" ∧ (yX6_join_).cls ≠ "java/lang/invoke/VarHandle" ∧ (parseMethodDescriptor (yX6_join_).desc).map (fun d => d.parameters.length) = some 3 := by decide +kernel
set_option maxHeartbeats 4000000 in
set_option maxRecDepth 100000 in
theorem c_X6_join_ (E : En) {am0 am1 am2 am3 am4 am5 am6 am7 am8 am9 am10 am11 am12 am13 am14 : Nat} {m_said : Int32} {m_tries : Int32} {m_state : Ar} {m_images : Ar} {m_isKept : Ar} {m_pad : Ar} {m_leftOf : Ar} {m_rightOf : Ar} {m_isApart : Ar} {m_group : Ar} {m_isPair : Ar} {m_isOne : Ar} {m_order : Ar} {m_rest : Ar} {m_aside : Ar} {m_others : Ar} {p1 : Int32} {p2 : Int32} {p3 : Int32} {rr : Int32} {q_m_state : Ar} (h : m_X6_join_ m_state p1 p2 p3 = some (rr, q_m_state)) : Ci E yX6_join_ (wU yX6_join_ cX6_join_ 4 (some .int)) (RM 2 42) [.ref am0, .int p1, .int p2, .int p3] (V_M E.2.2 am0 am1 am2 am3 am4 am5 am6 am7 am8 am9 am10 am11 am12 am13 am14 m_said m_tries m_state m_images m_isKept m_pad m_leftOf m_rightOf m_isApart m_group m_isPair m_isOne m_order m_rest m_aside m_others) (V_M E.2.2 am0 am1 am2 am3 am4 am5 am6 am7 am8 am9 am10 am11 am12 am13 am14 m_said m_tries q_m_state m_images m_isKept m_pad m_leftOf m_rightOf m_isApart m_group m_isPair m_isOne m_order m_rest m_aside m_others) rr := by
  refine Ci.of (by decide) (Nat.le_of_ble_eq_true rfl) ?_
  intro x hE C
  subst hE
  have C : CX RX6 cX6_join_ 4 (some .int) x := C
  refine p_locals [0, 1, 2, 3] (lv' := [(0, .ref am0), (1, .int p1), (2, .int p2), (3, .int p3)]) rfl ?_
  unfold m_X6_join_ at h
  refine p_iload_n C dX6_join__0 rfl 1 rfl ?_
  obtain ⟨r1, hc2, h⟩ := bd1_of h
  refine p_callSi (As := [.int p1]) (st' := []) (Wd' := (V_M x.1.2.2 am0 am1 am2 am3 am4 am5 am6 am7 am8 am9 am10 am11 am12 am13 am14 m_said m_tries m_state m_images m_isKept m_pad m_leftOf m_rightOf m_isApart m_group m_isPair m_isOne m_order m_rest m_aside m_others)) C (c_X6_isNet x.1 hc2) dX6_join__1 rfl ml_X6_57 ks_X6_isNet ds_X6_isNet ⟨rfl, rfl, by decide, by decide⟩ [] rfl rfl rfl rfl (by decide) ⟨by decide, by decide⟩ rfl ?_
  refine p_if_eq C dX6_join__4 (tgt := 14) (by decide) rfl (fun c3 => ?_) (fun c3 => ?_)
  · have h := if_t c3 h
    refine p_iconst (v := (-1 : Int32)) C dX6_join__14 rfl (by decide) ?_
    cases h
    exact p_iret C dX6_join__15
  · have h := if_f c3 h
    refine p_iload_n C dX6_join__7 rfl 2 rfl ?_
    obtain ⟨r4, hc5, h⟩ := bd1_of h
    refine p_callSi (As := [.int p2]) (st' := []) (Wd' := (V_M x.1.2.2 am0 am1 am2 am3 am4 am5 am6 am7 am8 am9 am10 am11 am12 am13 am14 m_said m_tries m_state m_images m_isKept m_pad m_leftOf m_rightOf m_isApart m_group m_isPair m_isOne m_order m_rest m_aside m_others)) C (c_X6_isNet x.1 hc5) dX6_join__8 rfl ml_X6_57 ks_X6_isNet ds_X6_isNet ⟨rfl, rfl, by decide, by decide⟩ [] rfl rfl rfl rfl (by decide) ⟨by decide, by decide⟩ rfl ?_
    refine p_if_ne C dX6_join__11 (tgt := 16) (by decide) rfl (fun c6 => ?_) (fun c6 => ?_)
    · have h := if_f c6 h
      refine p_iload_n C dX6_join__16 rfl 1 rfl ?_
      refine p_iload_n C dX6_join__17 rfl 2 rfl ?_
      refine p_icmp_eq C dX6_join__18 (tgt := 30) (by decide) rfl (fun c7 => ?_) (fun c7 => ?_)
      · have h := if_t c7 h
        refine p_bipush (v := (-2 : Int32)) C dX6_join__30 rfl (by decide) ?_
        cases h
        exact p_iret C dX6_join__32
      · have h := if_f c7 h
        refine p_iload_n C dX6_join__21 rfl 3 rfl ?_
        refine p_iconst (v := (0 : Int32)) C dX6_join__22 rfl (by decide) ?_
        refine p_iconst (v := (1 : Int32)) C dX6_join__23 rfl (by decide) ?_
        obtain ⟨r8, hc9, h⟩ := bd1_of h
        refine p_callSi (As := [.int p3, .int ((0 : Int32)), .int ((1 : Int32))]) (st' := []) (Wd' := (V_M x.1.2.2 am0 am1 am2 am3 am4 am5 am6 am7 am8 am9 am10 am11 am12 am13 am14 m_said m_tries m_state m_images m_isKept m_pad m_leftOf m_rightOf m_isApart m_group m_isPair m_isOne m_order m_rest m_aside m_others)) C (c_X6_in x.1 hc9) dX6_join__24 rfl ml_X6_53 ks_X6_in ds_X6_in ⟨rfl, rfl, by decide, by decide⟩ [] rfl rfl rfl rfl (by decide) ⟨by decide, by decide⟩ rfl ?_
        refine p_if_ne C dX6_join__27 (tgt := 33) (by decide) rfl (fun c10 => ?_) (fun c10 => ?_)
        · have h := if_f c10 h
          refine p_aload_n C dX6_join__33 rfl 0 rfl ?_
          refine p_get C dX6_join__34 rfl 0 0 inlX6 fl_X6_7 rfl rfl (by decide) rfl rfl ?_
          refine p_bipush (v := (34 : Int32)) C dX6_join__37 rfl (by decide) ?_
          refine p_iload_n C dX6_join__39 rfl 1 rfl ?_
          refine p_iload_n C dX6_join__40 rfl 2 rfl ?_
          obtain ⟨r11, hc12, h⟩ := bd1_of h
          refine p_callSi (As := [.int p1, .int p2]) (st' := [.int ((34 : Int32)), .ref am1]) (Wd' := (V_M x.1.2.2 am0 am1 am2 am3 am4 am5 am6 am7 am8 am9 am10 am11 am12 am13 am14 m_said m_tries m_state m_images m_isKept m_pad m_leftOf m_rightOf m_isApart m_group m_isPair m_isOne m_order m_rest m_aside m_others)) C (c_X6_pairOf x.1 hc12) dX6_join__41 rfl ml_X6_98 ks_X6_pairOf ds_X6_pairOf ⟨rfl, rfl, by decide, by decide⟩ [] rfl rfl rfl rfl (Nat.le_of_ble_eq_true rfl) ⟨by decide, by decide⟩ rfl ?_
          refine p_iadd C dX6_join__44 rfl ?_
          refine p_iload_n C dX6_join__45 rfl 3 rfl ?_
          obtain ⟨g13, h⟩ := grd_of h
          refine p_iast (Wd' := (V_M x.1.2.2 am0 am1 am2 am3 am4 am5 am6 am7 am8 am9 am10 am11 am12 am13 am14 m_said m_tries (upd m_state (((34 : Int32)) + r11).toNatClampNeg p3) m_images m_isKept m_pad m_leftOf m_rightOf m_isApart m_group m_isPair m_isOne m_order m_rest m_aside m_others)) C dX6_join__46 rfl 1 rfl g13 rfl ?_
          refine p_aload_n C dX6_join__47 rfl 0 rfl ?_
          obtain ⟨r14, hc15, h⟩ := bd1_of h
          refine p_callVi_s (As := []) (st' := []) (Wc' := (V_M x.1.2.2 am0 am1 am2 am3 am4 am5 am6 am7 am8 am9 am10 am11 am12 am13 am14 m_said m_tries (upd m_state (((34 : Int32)) + r11).toNatClampNeg p3) m_images m_isKept m_pad m_leftOf m_rightOf m_isApart m_group m_isPair m_isOne m_order m_rest m_aside m_others)) C (c_X6_shortMany x.1 (am0 := am0) (am1 := am1) (am2 := am2) (am3 := am3) (am4 := am4) (am5 := am5) (am6 := am6) (am7 := am7) (am8 := am8) (am9 := am9) (am10 := am10) (am11 := am11) (am12 := am12) (am13 := am13) (am14 := am14) (m_said := m_said) (m_tries := m_tries) (m_images := m_images) (m_isKept := m_isKept) (m_pad := m_pad) (m_leftOf := m_leftOf) (m_rightOf := m_rightOf) (m_isApart := m_isApart) (m_group := m_group) (m_isPair := m_isPair) (m_isOne := m_isOne) (m_order := m_order) (m_rest := m_rest) (m_aside := m_aside) (m_others := m_others) hc15) dX6_join__48 rfl ml_X6_147 kv_X6_shortMany ds_X6_shortMany ⟨rfl, rfl, by decide, by decide⟩ 0 rfl rfl rfl rfl (by decide) ⟨by decide, by decide⟩ ?_
          cases h
          exact p_iret C dX6_join__51
        · have h := if_t c10 h
          refine p_bipush (v := (-2 : Int32)) C dX6_join__30 rfl (by decide) ?_
          cases h
          exact p_iret C dX6_join__32
    · have h := if_t c6 h
      refine p_iconst (v := (-1 : Int32)) C dX6_join__14 rfl (by decide) ?_
      cases h
      exact p_iret C dX6_join__15
def m_X6_loosen (m_state : Ar) (p1 : Int32) (p2 : Int32) : Option (Int32 × Ar) := bd1 (m_X6_isPoint m_state p1) (fun r1 => if r1 = 0 then (some ((-1 : Int32), m_state)) else (bd1 (m_X6_in p2 ((0 : Int32)) ((1 : Int32))) (fun r4 => if r4 = 0 then (some ((-2 : Int32), m_state)) else (grd (gI (((25 : Int32)) + p1) 40) (bd1 (m_X6_looseMany (upd m_state (((25 : Int32)) + p1).toNatClampNeg p2)) (fun r8 => some (r8, upd m_state (((25 : Int32)) + p1).toNatClampNeg p2)))))))
theorem ds_X6_loosen : (yX6_loosen).cls ≠ "java/lang/invoke/MethodHandle" ∧ (yX6_loosen).cls ≠ "java/lang/invoke/VarHandle" ∧ (parseMethodDescriptor (yX6_loosen).desc).map (fun d => d.parameters.length) = some 2 := by decide +kernel
set_option maxHeartbeats 4000000 in
set_option maxRecDepth 100000 in
theorem c_X6_loosen (E : En) {am0 am1 am2 am3 am4 am5 am6 am7 am8 am9 am10 am11 am12 am13 am14 : Nat} {m_said : Int32} {m_tries : Int32} {m_state : Ar} {m_images : Ar} {m_isKept : Ar} {m_pad : Ar} {m_leftOf : Ar} {m_rightOf : Ar} {m_isApart : Ar} {m_group : Ar} {m_isPair : Ar} {m_isOne : Ar} {m_order : Ar} {m_rest : Ar} {m_aside : Ar} {m_others : Ar} {p1 : Int32} {p2 : Int32} {rr : Int32} {q_m_state : Ar} (h : m_X6_loosen m_state p1 p2 = some (rr, q_m_state)) : Ci E yX6_loosen (wU yX6_loosen cX6_loosen 3 (some .int)) (RM 2 43) [.ref am0, .int p1, .int p2] (V_M E.2.2 am0 am1 am2 am3 am4 am5 am6 am7 am8 am9 am10 am11 am12 am13 am14 m_said m_tries m_state m_images m_isKept m_pad m_leftOf m_rightOf m_isApart m_group m_isPair m_isOne m_order m_rest m_aside m_others) (V_M E.2.2 am0 am1 am2 am3 am4 am5 am6 am7 am8 am9 am10 am11 am12 am13 am14 m_said m_tries q_m_state m_images m_isKept m_pad m_leftOf m_rightOf m_isApart m_group m_isPair m_isOne m_order m_rest m_aside m_others) rr := by
  refine Ci.of (by decide) (Nat.le_of_ble_eq_true rfl) ?_
  intro x hE C
  subst hE
  have C : CX RX6 cX6_loosen 3 (some .int) x := C
  refine p_locals [0, 1, 2] (lv' := [(0, .ref am0), (1, .int p1), (2, .int p2)]) rfl ?_
  unfold m_X6_loosen at h
  refine p_aload_n C dX6_loosen_0 rfl 0 rfl ?_
  refine p_iload_n C dX6_loosen_1 rfl 1 rfl ?_
  obtain ⟨r1, hc2, h⟩ := bd1_of h
  refine p_callVi_s (As := [.int p1]) (st' := []) (Wc' := (V_M x.1.2.2 am0 am1 am2 am3 am4 am5 am6 am7 am8 am9 am10 am11 am12 am13 am14 m_said m_tries m_state m_images m_isKept m_pad m_leftOf m_rightOf m_isApart m_group m_isPair m_isOne m_order m_rest m_aside m_others)) C (c_X6_isPoint x.1 (am0 := am0) (am1 := am1) (am2 := am2) (am3 := am3) (am4 := am4) (am5 := am5) (am6 := am6) (am7 := am7) (am8 := am8) (am9 := am9) (am10 := am10) (am11 := am11) (am12 := am12) (am13 := am13) (am14 := am14) (m_said := m_said) (m_tries := m_tries) (m_images := m_images) (m_isKept := m_isKept) (m_pad := m_pad) (m_leftOf := m_leftOf) (m_rightOf := m_rightOf) (m_isApart := m_isApart) (m_group := m_group) (m_isPair := m_isPair) (m_isOne := m_isOne) (m_order := m_order) (m_rest := m_rest) (m_aside := m_aside) (m_others := m_others) hc2) dX6_loosen_2 rfl ml_X6_65 kv_X6_isPoint ds_X6_isPoint ⟨rfl, rfl, by decide, by decide⟩ 0 rfl rfl rfl rfl (by decide) ⟨by decide, by decide⟩ ?_
  refine p_if_ne C dX6_loosen_5 (tgt := 10) (by decide) rfl (fun c3 => ?_) (fun c3 => ?_)
  · have h := if_f c3 h
    refine p_iload_n C dX6_loosen_10 rfl 2 rfl ?_
    refine p_iconst (v := (0 : Int32)) C dX6_loosen_11 rfl (by decide) ?_
    refine p_iconst (v := (1 : Int32)) C dX6_loosen_12 rfl (by decide) ?_
    obtain ⟨r4, hc5, h⟩ := bd1_of h
    refine p_callSi (As := [.int p2, .int ((0 : Int32)), .int ((1 : Int32))]) (st' := []) (Wd' := (V_M x.1.2.2 am0 am1 am2 am3 am4 am5 am6 am7 am8 am9 am10 am11 am12 am13 am14 m_said m_tries m_state m_images m_isKept m_pad m_leftOf m_rightOf m_isApart m_group m_isPair m_isOne m_order m_rest m_aside m_others)) C (c_X6_in x.1 hc5) dX6_loosen_13 rfl ml_X6_53 ks_X6_in ds_X6_in ⟨rfl, rfl, by decide, by decide⟩ [] rfl rfl rfl rfl (by decide) ⟨by decide, by decide⟩ rfl ?_
    refine p_if_ne C dX6_loosen_16 (tgt := 22) (by decide) rfl (fun c6 => ?_) (fun c6 => ?_)
    · have h := if_f c6 h
      refine p_aload_n C dX6_loosen_22 rfl 0 rfl ?_
      refine p_get C dX6_loosen_23 rfl 0 0 inlX6 fl_X6_7 rfl rfl (by decide) rfl rfl ?_
      refine p_bipush (v := (25 : Int32)) C dX6_loosen_26 rfl (by decide) ?_
      refine p_iload_n C dX6_loosen_28 rfl 1 rfl ?_
      refine p_iadd C dX6_loosen_29 rfl ?_
      refine p_iload_n C dX6_loosen_30 rfl 2 rfl ?_
      obtain ⟨g7, h⟩ := grd_of h
      refine p_iast (Wd' := (V_M x.1.2.2 am0 am1 am2 am3 am4 am5 am6 am7 am8 am9 am10 am11 am12 am13 am14 m_said m_tries (upd m_state (((25 : Int32)) + p1).toNatClampNeg p2) m_images m_isKept m_pad m_leftOf m_rightOf m_isApart m_group m_isPair m_isOne m_order m_rest m_aside m_others)) C dX6_loosen_31 rfl 1 rfl g7 rfl ?_
      refine p_aload_n C dX6_loosen_32 rfl 0 rfl ?_
      obtain ⟨r8, hc9, h⟩ := bd1_of h
      refine p_callVi_s (As := []) (st' := []) (Wc' := (V_M x.1.2.2 am0 am1 am2 am3 am4 am5 am6 am7 am8 am9 am10 am11 am12 am13 am14 m_said m_tries (upd m_state (((25 : Int32)) + p1).toNatClampNeg p2) m_images m_isKept m_pad m_leftOf m_rightOf m_isApart m_group m_isPair m_isOne m_order m_rest m_aside m_others)) C (c_X6_looseMany x.1 (am0 := am0) (am1 := am1) (am2 := am2) (am3 := am3) (am4 := am4) (am5 := am5) (am6 := am6) (am7 := am7) (am8 := am8) (am9 := am9) (am10 := am10) (am11 := am11) (am12 := am12) (am13 := am13) (am14 := am14) (m_said := m_said) (m_tries := m_tries) (m_images := m_images) (m_isKept := m_isKept) (m_pad := m_pad) (m_leftOf := m_leftOf) (m_rightOf := m_rightOf) (m_isApart := m_isApart) (m_group := m_group) (m_isPair := m_isPair) (m_isOne := m_isOne) (m_order := m_order) (m_rest := m_rest) (m_aside := m_aside) (m_others := m_others) hc9) dX6_loosen_33 rfl ml_X6_144 kv_X6_looseMany ds_X6_looseMany ⟨rfl, rfl, by decide, by decide⟩ 0 rfl rfl rfl rfl (by decide) ⟨by decide, by decide⟩ ?_
      cases h
      exact p_iret C dX6_loosen_36
    · have h := if_t c6 h
      refine p_bipush (v := (-2 : Int32)) C dX6_loosen_19 rfl (by decide) ?_
      cases h
      exact p_iret C dX6_loosen_21
  · have h := if_t c3 h
    refine p_iconst (v := (-1 : Int32)) C dX6_loosen_8 rfl (by decide) ?_
    cases h
    exact p_iret C dX6_loosen_9
