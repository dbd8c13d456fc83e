def J_X6_fits_51 (m_tries : Int32) (m_state : Ar) (m_leftOf : Ar) (m_rightOf : Ar) (m_isApart : Ar) (m_group : Ar) (m_isPair : Ar) (m_isOne : Ar) (m_aside : Ar) (k14 : Int32 → Int32 → Ar → Ar → Ar → Option (Int32 × Int32 × Ar × Ar × Ar × Ar × Ar × Ar × Ar × Ar))  (v1 : Int32) (v2 : Int32) (v3 : Int32) (v4 : Int32) : Option (Int32 × Int32 × Ar × Ar × Ar × Ar × Ar × Ar × Ar × Ar) := k14 v3 (v4 + 1) m_state m_isOne m_aside
set_option maxHeartbeats 4000000 in
set_option maxRecDepth 100000 in
theorem tj_X6_fits_51 {x : Cxt} {am0 am1 am2 am3 am4 am5 am6 am7 am8 am9 am10 am11 am12 am13 am14 : Nat} {m_said : Int32} {m_tries : Int32} {m_state : Ar} {m_images : Ar} {m_isKept : Ar} {m_pad : Ar} {m_leftOf : Ar} {m_rightOf : Ar} {m_isApart : Ar} {m_group : Ar} {m_isPair : Ar} {m_isOne : Ar} {m_order : Ar} {m_rest : Ar} {m_aside : Ar} {m_others : Ar} {k14 : Int32 → Int32 → Ar → Ar → Ar → Option (Int32 × Int32 × Ar × Ar × Ar × Ar × Ar × Ar × Ar × Ar)}  {v1 : Int32} {v2 : Int32} {v3 : Int32} {v4 : Int32} {rr : Int32} {q_m_tries : Int32} {q_m_state : Ar} {q_m_leftOf : Ar} {q_m_rightOf : Ar} {q_m_isApart : Ar} {q_m_group : Ar} {q_m_isPair : Ar} {q_m_isOne : Ar} {q_m_aside : Ar} (C : CX RX6 cX6_fits 5 (some .int) x) (hk14 : ∀ (w3 : Int32) (w4 : Int32) (w_m_state : Ar) (w_m_isOne : Ar) (w_m_aside : Ar), k14 w3 w4 w_m_state w_m_isOne w_m_aside = some (rr, q_m_tries, q_m_state, q_m_leftOf, q_m_rightOf, q_m_isApart, q_m_group, q_m_isPair, q_m_isOne, q_m_aside) → PT (RM 4 93) 5 x 14 [(0, .ref am0), (1, .int v1), (2, .int v2), (3, .int w3), (4, .int w4)] [] (V_M x.1.2.2 am0 am1 am2 am3 am4 am5 am6 am7 am8 am9 am10 am11 am12 am13 am14 m_said m_tries w_m_state m_images m_isKept m_pad m_leftOf m_rightOf m_isApart m_group m_isPair w_m_isOne m_order m_rest w_m_aside m_others) 0 0 (QI x rr (V_M x.1.2.2 am0 am1 am2 am3 am4 am5 am6 am7 am8 am9 am10 am11 am12 am13 am14 m_said q_m_tries q_m_state m_images m_isKept m_pad q_m_leftOf q_m_rightOf q_m_isApart q_m_group q_m_isPair q_m_isOne m_order m_rest q_m_aside m_others))) (h : J_X6_fits_51 m_tries m_state m_leftOf m_rightOf m_isApart m_group m_isPair m_isOne m_aside k14 v1 v2 v3 v4 = some (rr, q_m_tries, q_m_state, q_m_leftOf, q_m_rightOf, q_m_isApart, q_m_group, q_m_isPair, q_m_isOne, q_m_aside)) : PT (RM 4 93) 5 x 51 [(0, .ref am0), (1, .int v1), (2, .int v2), (3, .int v3), (4, .int v4)] [] (V_M x.1.2.2 am0 am1 am2 am3 am4 am5 am6 am7 am8 am9 am10 am11 am12 am13 am14 m_said m_tries m_state m_images m_isKept m_pad m_leftOf m_rightOf m_isApart m_group m_isPair m_isOne m_order m_rest m_aside m_others) 0 0 (QI x rr (V_M x.1.2.2 am0 am1 am2 am3 am4 am5 am6 am7 am8 am9 am10 am11 am12 am13 am14 m_said q_m_tries q_m_state m_images m_isKept m_pad q_m_leftOf q_m_rightOf q_m_isApart q_m_group q_m_isPair q_m_isOne m_order m_rest q_m_aside m_others)) := by
  unfold J_X6_fits_51 at h
  refine p_iinc (w := v4 + 1) (lv' := [(4, .int (v4 + 1)), (0, .ref am0), (1, .int v1), (2, .int v2), (3, .int v3)]) C dX6_fits_51 rfl 4 rfl rfl (by decide) rfl ?_
  refine p_goto C dX6_fits_54 (pc' := 14) (by decide) ?_
  refine p_locals [1, 2, 3, 4, 0] (lv' := [(0, .ref am0), (1, .int v1), (2, .int v2), (3, .int v3), (4, .int (v4 + 1))]) rfl ?_
  exact hk14 _ _ _ _ _ h
def B_X6_fits_14 (m_tries : Int32) (m_leftOf : Ar) (m_rightOf : Ar) (m_isApart : Ar) (m_group : Ar) (m_isPair : Ar)  (v1 : Int32) (v2 : Int32) (kk : Int32 → Int32 → Ar → Ar → Ar → Option (Int32 × Int32 × Ar × Ar × Ar × Ar × Ar × Ar × Ar × Ar)) (v3 : Int32) (v4 : Int32) (m_state : Ar) (m_isOne : Ar) (m_aside : Ar) : Option (Int32 × Int32 × Ar × Ar × Ar × Ar × Ar × Ar × Ar × Ar) := if ((26 : Int32)) ≤ v4 then (if v1 = ((-1 : Int32)) then (some (v3, m_tries, m_state, m_leftOf, m_rightOf, m_isApart, m_group, m_isPair, m_isOne, m_aside)) else (some ((-6 : Int32), m_tries, m_state, m_leftOf, m_rightOf, m_isApart, m_group, m_isPair, m_isOne, m_aside))) else (bd1 (m_X6_isSingle m_state v4) (fun r3 => if r3 = 0 then (J_X6_fits_51 m_tries m_state m_leftOf m_rightOf m_isApart m_group m_isPair m_isOne m_aside (kk) v1 v2 v3 v4) else (bd4 (m_X6_seenBy m_tries m_state m_leftOf m_rightOf m_isApart m_isOne m_aside v4) (fun r6 z_state7 z_isOne8 z_aside9 => if r6 = v2 then (if v3 = v1 then (some (v4, m_tries, z_state7, m_leftOf, m_rightOf, m_isApart, m_group, m_isPair, z_isOne8, z_aside9)) else (J_X6_fits_51 m_tries z_state7 m_leftOf m_rightOf m_isApart m_group m_isPair z_isOne8 z_aside9 (kk) v1 v2 (v3 + 1) v4)) else (J_X6_fits_51 m_tries z_state7 m_leftOf m_rightOf m_isApart m_group m_isPair z_isOne8 z_aside9 (kk) v1 v2 v3 v4)))))
def L_X6_fits_14 (m_tries : Int32) (m_leftOf : Ar) (m_rightOf : Ar) (m_isApart : Ar) (m_group : Ar) (m_isPair : Ar)  (v1 : Int32) (v2 : Int32) : Nat → Int32 → Int32 → Ar → Ar → Ar → Option (Int32 × Int32 × Ar × Ar × Ar × Ar × Ar × Ar × Ar × Ar) := lpG (fun _ _ _ _ _ => none) (B_X6_fits_14 m_tries m_leftOf m_rightOf m_isApart m_group m_isPair v1 v2)
set_option maxHeartbeats 4000000 in
set_option maxRecDepth 100000 in
theorem tl_X6_fits_14 {x : Cxt} {am0 am1 am2 am3 am4 am5 am6 am7 am8 am9 am10 am11 am12 am13 am14 : Nat} {m_said : Int32} {m_tries : Int32} {m_images : Ar} {m_isKept : Ar} {m_pad : Ar} {m_leftOf : Ar} {m_rightOf : Ar} {m_isApart : Ar} {m_group : Ar} {m_isPair : Ar} {m_order : Ar} {m_rest : Ar} {m_others : Ar}  {v1 : Int32} {v2 : Int32} {rr : Int32} {q_m_tries : Int32} {q_m_state : Ar} {q_m_leftOf : Ar} {q_m_rightOf : Ar} {q_m_isApart : Ar} {q_m_group : Ar} {q_m_isPair : Ar} {q_m_isOne : Ar} {q_m_aside : Ar} (C : CX RX6 cX6_fits 5 (some .int) x)  : ∀ (n : Nat) (v3 : Int32) (v4 : Int32) (m_state : Ar) (m_isOne : Ar) (m_aside : Ar), L_X6_fits_14 m_tries m_leftOf m_rightOf m_isApart m_group m_isPair v1 v2 n v3 v4 m_state m_isOne m_aside = some (rr, q_m_tries, q_m_state, q_m_leftOf, q_m_rightOf, q_m_isApart, q_m_group, q_m_isPair, q_m_isOne, q_m_aside) → PT (RM 4 93) 5 x 14 [(0, .ref am0), (1, .int v1), (2, .int v2), (3, .int v3), (4, .int v4)] [] (V_M x.1.2.2 am0 am1 am2 am3 am4 am5 am6 am7 am8 am9 am10 am11 am12 am13 am14 m_said m_tries m_state m_images m_isKept m_pad m_leftOf m_rightOf m_isApart m_group m_isPair m_isOne m_order m_rest m_aside m_others) 0 0 (QI x rr (V_M x.1.2.2 am0 am1 am2 am3 am4 am5 am6 am7 am8 am9 am10 am11 am12 am13 am14 m_said q_m_tries q_m_state m_images m_isKept m_pad q_m_leftOf q_m_rightOf q_m_isApart q_m_group q_m_isPair q_m_isOne m_order m_rest q_m_aside m_others)) := by
  intro n
  induction n with
  | zero =>
    intro v3 v4 m_state m_isOne m_aside h
    cases h
  | succ n ih =>
    intro v3 v4 m_state m_isOne m_aside h
    have h : B_X6_fits_14 m_tries m_leftOf m_rightOf m_isApart m_group m_isPair v1 v2 (L_X6_fits_14 m_tries m_leftOf m_rightOf m_isApart m_group m_isPair v1 v2 n) v3 v4 m_state m_isOne m_aside = some (rr, q_m_tries, q_m_state, q_m_leftOf, q_m_rightOf, q_m_isApart, q_m_group, q_m_isPair, q_m_isOne, q_m_aside) := h
    unfold B_X6_fits_14 at h
    refine p_iload C dX6_fits_14 rfl 4 rfl ?_
    refine p_bipush (v := (26 : Int32)) C dX6_fits_16 rfl (by decide) ?_
    refine p_icmp_ge C dX6_fits_18 (tgt := 57) (by decide) rfl (fun c1 => ?_) (fun c1 => ?_)
    · have h := if_t c1 h
      refine p_iload_n C dX6_fits_57 rfl 1 rfl ?_
      refine p_iconst (v := (-1 : Int32)) C dX6_fits_58 rfl (by decide) ?_
      refine p_icmp_ne C dX6_fits_59 (tgt := 66) (by decide) rfl (fun c2 => ?_) (fun c2 => ?_)
      · have h := if_f c2 h
        refine p_bipush (v := (-6 : Int32)) C dX6_fits_66 rfl (by decide) ?_
        cases h
        exact p_iret C dX6_fits_68
      · have h := if_t c2 h
        refine p_iload_n C dX6_fits_62 rfl 3 rfl ?_
        refine p_goto C dX6_fits_63 (pc' := 68) (by decide) ?_
        cases h
        exact p_iret C dX6_fits_68
    · have h := if_f c1 h
      refine p_aload_n C dX6_fits_21 rfl 0 rfl ?_
      refine p_iload C dX6_fits_22 rfl 4 rfl ?_
      obtain ⟨r3, hc4, h⟩ := bd1_of h
      refine p_callVi_s (As := [.int v4]) (st' := []) (Wc' := (V_M x.1.2.2 am0 am1 am2 am3 am4 am5 am6 am7 am8 am9 am10 am11 am12 am13 am14 m_said m_tries m_state m_images m_isKept m_pad m_leftOf m_rightOf m_isApart m_group m_isPair m_isOne m_order m_rest m_aside m_others)) C (c_X6_isSingle x.1 (am0 := am0) (am1 := am1) (am2 := am2) (am3 := am3) (am4 := am4) (am5 := am5) (am6 := am6) (am7 := am7) (am8 := am8) (am9 := am9) (am10 := am10) (am11 := am11) (am12 := am12) (am13 := am13) (am14 := am14) (m_said := m_said) (m_tries := m_tries) (m_images := m_images) (m_isKept := m_isKept) (m_pad := m_pad) (m_leftOf := m_leftOf) (m_rightOf := m_rightOf) (m_isApart := m_isApart) (m_group := m_group) (m_isPair := m_isPair) (m_isOne := m_isOne) (m_order := m_order) (m_rest := m_rest) (m_aside := m_aside) (m_others := m_others) hc4) dX6_fits_24 rfl ml_X6_150 kv_X6_isSingle ds_X6_isSingle ⟨rfl, rfl, by decide, by decide⟩ 0 rfl rfl rfl rfl (by decide) ⟨by decide, by decide⟩ ?_
      refine p_if_eq C dX6_fits_27 (tgt := 51) (by decide) rfl (fun c5 => ?_) (fun c5 => ?_)
      · have h := if_t c5 h
        refine p_locals [0, 1, 2, 3, 4] (lv' := [(0, .ref am0), (1, .int v1), (2, .int v2), (3, .int v3), (4, .int v4)]) rfl ?_
        exact tj_X6_fits_51 C (fun u0 u1 u2 u3 u4 h => ih u0 u1 u2 u3 u4 h) h
      · have h := if_f c5 h
        refine p_aload_n C dX6_fits_30 rfl 0 rfl ?_
        refine p_iload C dX6_fits_31 rfl 4 rfl ?_
        obtain ⟨r6, z_state7, z_isOne8, z_aside9, hc10, h⟩ := bd4_of h
        refine p_callVi_s (As := [.int v4]) (st' := []) (Wc' := (V_M x.1.2.2 am0 am1 am2 am3 am4 am5 am6 am7 am8 am9 am10 am11 am12 am13 am14 m_said m_tries z_state7 m_images m_isKept m_pad m_leftOf m_rightOf m_isApart m_group m_isPair z_isOne8 m_order m_rest z_aside9 m_others)) C (c_X6_seenBy x.1 (am0 := am0) (am1 := am1) (am2 := am2) (am3 := am3) (am4 := am4) (am5 := am5) (am6 := am6) (am7 := am7) (am8 := am8) (am9 := am9) (am10 := am10) (am11 := am11) (am12 := am12) (am13 := am13) (am14 := am14) (m_said := m_said) (m_images := m_images) (m_isKept := m_isKept) (m_pad := m_pad) (m_group := m_group) (m_isPair := m_isPair) (m_order := m_order) (m_rest := m_rest) (m_others := m_others) hc10) dX6_fits_33 rfl ml_X6_153 kv_X6_seenBy ds_X6_seenBy ⟨rfl, rfl, by decide, by decide⟩ 0 rfl rfl rfl rfl (by decide) ⟨by decide, by decide⟩ ?_
        refine p_iload_n C dX6_fits_36 rfl 2 rfl ?_
        refine p_icmp_ne C dX6_fits_37 (tgt := 51) (by decide) rfl (fun c11 => ?_) (fun c11 => ?_)
        · have h := if_f c11 h
          refine p_locals [0, 1, 2, 3, 4] (lv' := [(0, .ref am0), (1, .int v1), (2, .int v2), (3, .int v3), (4, .int v4)]) rfl ?_
          exact tj_X6_fits_51 C (fun u0 u1 u2 u3 u4 h => ih u0 u1 u2 u3 u4 h) h
        · have h := if_t c11 h
          refine p_iload_n C dX6_fits_40 rfl 3 rfl ?_
          refine p_iload_n C dX6_fits_41 rfl 1 rfl ?_
          refine p_icmp_ne C dX6_fits_42 (tgt := 48) (by decide) rfl (fun c12 => ?_) (fun c12 => ?_)
          · have h := if_f c12 h
            refine p_iinc (w := v3 + 1) (lv' := [(3, .int (v3 + 1)), (0, .ref am0), (1, .int v1), (2, .int v2), (4, .int v4)]) C dX6_fits_48 rfl 3 rfl rfl (by decide) rfl ?_
            refine p_locals [1, 2, 3, 0, 4] (lv' := [(0, .ref am0), (1, .int v1), (2, .int v2), (3, .int (v3 + 1)), (4, .int v4)]) rfl ?_
            exact tj_X6_fits_51 C (fun u0 u1 u2 u3 u4 h => ih u0 u1 u2 u3 u4 h) h
          · have h := if_t c12 h
            refine p_iload C dX6_fits_45 rfl 4 rfl ?_
            cases h
            exact p_iret C dX6_fits_47
def m_X6_fits (m_tries : Int32) (m_state : Ar) (m_leftOf : Ar) (m_rightOf : Ar) (m_isApart : Ar) (m_group : Ar) (m_isPair : Ar) (m_isOne : Ar) (m_aside : Ar) (p1 : Int32) : Option (Int32 × Int32 × Ar × Ar × Ar × Ar × Ar × Ar × Ar × Ar) := bd6 (m_X6_layTries m_tries m_state m_leftOf m_rightOf m_isApart m_group m_isPair) (fun z_tries1 z_leftOf2 z_rightOf3 z_isApart4 z_group5 z_isPair6 => bd2 (m_X6_seen z_tries1 m_state z_leftOf2 z_rightOf3 z_isApart4 m_isOne) (fun r8 z_isOne9 => L_X6_fits_14 z_tries1 z_leftOf2 z_rightOf3 z_isApart4 z_group5 z_isPair6 p1 r8 FU ((0 : Int32)) ((0 : Int32)) m_state z_isOne9 m_aside))
theorem ds_X6_fits : (yX6_fits).cls ≠ "java/lang/invoke/MethodHandle" ∧ (yX6_fits).cls ≠ "java/lang/invoke/VarHandle" ∧ (parseMethodDescriptor (yX6_fits).desc).map (fun d => d.parameters.length) = some 1 := by decide +kernel
set_option maxHeartbeats 4000000 in
set_option maxRecDepth 100000 in
theorem c_X6_fits (E : En) {am0 am1 am2 am3 am4 am5 am6 am7 am8 am9 am10 am11 am12 am13 am14 : Nat} {m_said : Int32} {m_tries : Int32} {m_state : Ar} {m_images : Ar} {m_isKept : Ar} {m_pad : Ar} {m_leftOf : Ar} {m_rightOf : Ar} {m_isApart : Ar} {m_group : Ar} {m_isPair : Ar} {m_isOne : Ar} {m_order : Ar} {m_rest : Ar} {m_aside : Ar} {m_others : Ar} {p1 : Int32} {rr : Int32} {q_m_tries : Int32} {q_m_state : Ar} {q_m_leftOf : Ar} {q_m_rightOf : Ar} {q_m_isApart : Ar} {q_m_group : Ar} {q_m_isPair : Ar} {q_m_isOne : Ar} {q_m_aside : Ar} (h : m_X6_fits m_tries m_state m_leftOf m_rightOf m_isApart m_group m_isPair m_isOne m_aside p1 = some (rr, q_m_tries, q_m_state, q_m_leftOf, q_m_rightOf, q_m_isApart, q_m_group, q_m_isPair, q_m_isOne, q_m_aside)) : Ci E yX6_fits (wU yX6_fits cX6_fits 5 (some .int)) (RM 4 93) [.ref am0, .int p1] (V_M E.2.2 am0 am1 am2 am3 am4 am5 am6 am7 am8 am9 am10 am11 am12 am13 am14 m_said m_tries m_state m_images m_isKept m_pad m_leftOf m_rightOf m_isApart m_group m_isPair m_isOne m_order m_rest m_aside m_others) (V_M E.2.2 am0 am1 am2 am3 am4 am5 am6 am7 am8 am9 am10 am11 am12 am13 am14 m_said q_m_tries q_m_state m_images m_isKept m_pad q_m_leftOf q_m_rightOf q_m_isApart q_m_group q_m_isPair q_m_isOne m_order m_rest q_m_aside m_others) rr := by
  refine Ci.of (by decide) (Nat.le_of_ble_eq_true rfl) ?_
  intro x hE C
  subst hE
  have C : CX RX6 cX6_fits 5 (some .int) x := C
  refine p_locals [0, 1] (lv' := [(0, .ref am0), (1, .int p1)]) rfl ?_
  unfold m_X6_fits at h
  refine p_aload_n C dX6_fits_0 rfl 0 rfl ?_
  obtain ⟨z_tries1, z_leftOf2, z_rightOf3, z_isApart4, z_group5, z_isPair6, hc7, h⟩ := bd6_of h
  refine p_callVv_s (As := []) (st' := []) (Wc' := (V_M x.1.2.2 am0 am1 am2 am3 am4 am5 am6 am7 am8 am9 am10 am11 am12 am13 am14 m_said z_tries1 m_state m_images m_isKept m_pad z_leftOf2 z_rightOf3 z_isApart4 z_group5 z_isPair6 m_isOne m_order m_rest m_aside m_others)) C (c_X6_layTries x.1 (am0 := am0) (am1 := am1) (am2 := am2) (am3 := am3) (am4 := am4) (am5 := am5) (am6 := am6) (am7 := am7) (am8 := am8) (am9 := am9) (am10 := am10) (am11 := am11) (am12 := am12) (am13 := am13) (am14 := am14) (m_said := m_said) (m_images := m_images) (m_isKept := m_isKept) (m_pad := m_pad) (m_isOne := m_isOne) (m_order := m_order) (m_rest := m_rest) (m_aside := m_aside) (m_others := m_others) hc7) dX6_fits_1 rfl ml_X6_107 kv_X6_layTries ds_X6_layTries ⟨rfl, rfl, by decide, by decide⟩ 0 rfl rfl rfl rfl (by decide) ⟨by decide, by decide⟩ ?_
  refine p_aload_n C dX6_fits_4 rfl 0 rfl ?_
  obtain ⟨r8, z_isOne9, hc10, h⟩ := bd2_of h
  refine p_callVi_s (As := []) (st' := []) (Wc' := (V_M x.1.2.2 am0 am1 am2 am3 am4 am5 am6 am7 am8 am9 am10 am11 am12 am13 am14 m_said z_tries1 m_state m_images m_isKept m_pad z_leftOf2 z_rightOf3 z_isApart4 z_group5 z_isPair6 z_isOne9 m_order m_rest m_aside m_others)) C (c_X6_seen x.1 (am0 := am0) (am1 := am1) (am2 := am2) (am3 := am3) (am4 := am4) (am5 := am5) (am6 := am6) (am7 := am7) (am8 := am8) (am9 := am9) (am10 := am10) (am11 := am11) (am12 := am12) (am13 := am13) (am14 := am14) (m_said := m_said) (m_images := m_images) (m_isKept := m_isKept) (m_pad := m_pad) (m_group := z_group5) (m_isPair := z_isPair6) (m_order := m_order) (m_rest := m_rest) (m_aside := m_aside) (m_others := m_others) hc10) dX6_fits_5 rfl ml_X6_113 kv_X6_seen ds_X6_seen ⟨rfl, rfl, by decide, by decide⟩ 0 rfl rfl rfl rfl (by decide) ⟨by decide, by decide⟩ ?_
  refine p_istore_n (lv' := [(2, .int r8), (0, .ref am0), (1, .int p1)]) C dX6_fits_8 rfl (by decide) rfl ?_
  refine p_iconst (v := (0 : Int32)) C dX6_fits_9 rfl (by decide) ?_
  refine p_istore_n (lv' := [(3, .int ((0 : Int32))), (2, .int r8), (0, .ref am0), (1, .int p1)]) C dX6_fits_10 rfl (by decide) rfl ?_
  refine p_iconst (v := (0 : Int32)) C dX6_fits_11 rfl (by decide) ?_
  refine p_istore (lv' := [(4, .int ((0 : Int32))), (3, .int ((0 : Int32))), (2, .int r8), (0, .ref am0), (1, .int p1)]) C dX6_fits_12 rfl (by decide) rfl ?_
  refine p_locals [3, 4, 2, 1, 0] (lv' := [(0, .ref am0), (1, .int p1), (2, .int r8), (3, .int ((0 : Int32))), (4, .int ((0 : Int32)))]) rfl ?_
  exact tl_X6_fits_14 C  FU _ _ _ _ _ h
def J_X6_isAnyOne_41 (m_isOne : Ar) (m_others : Ar) (k6 : Int32 → Int32 → Option (Int32)) (e0 : Int32) (v1 : Int32) (v3 : Int32) (v5 : Int32) : Option (Int32) := k6 e0 (v5 + 1)
set_option maxHeartbeats 4000000 in
set_option maxRecDepth 100000 in
theorem tj_X6_isAnyOne_41 {x : Cxt} {am0 am1 am2 am3 am4 am5 am6 am7 am8 am9 am10 am11 am12 am13 am14 : Nat} {m_said : Int32} {m_tries : Int32} {m_state : Ar} {m_images : Ar} {m_isKept : Ar} {m_pad : Ar} {m_leftOf : Ar} {m_rightOf : Ar} {m_isApart : Ar} {m_group : Ar} {m_isPair : Ar} {m_isOne : Ar} {m_order : Ar} {m_rest : Ar} {m_aside : Ar} {m_others : Ar} {k6 : Int32 → Int32 → Option (Int32)} {e0 : Int32} {v1 : Int32} {v3 : Int32} {v5 : Int32} {rr : Int32} (C : CX RX6 cX6_isAnyOne 6 (some .boolean) x) (hk6 : ∀ (w4 : Int32) (w5 : Int32) , k6 w4 w5 = some rr → PT (RM 0 0) 6 x 6 [(0, .ref am0), (1, .int v1), (3, .int v3), (4, .int w4), (5, .int w5)] [] (V_M x.1.2.2 am0 am1 am2 am3 am4 am5 am6 am7 am8 am9 am10 am11 am12 am13 am14 m_said m_tries m_state m_images m_isKept m_pad m_leftOf m_rightOf m_isApart m_group m_isPair m_isOne m_order m_rest m_aside m_others) 0 0 (QI x rr (V_M x.1.2.2 am0 am1 am2 am3 am4 am5 am6 am7 am8 am9 am10 am11 am12 am13 am14 m_said m_tries m_state m_images m_isKept m_pad m_leftOf m_rightOf m_isApart m_group m_isPair m_isOne m_order m_rest m_aside m_others))) (h : J_X6_isAnyOne_41 m_isOne m_others k6 e0 v1 v3 v5 = some rr) : PT (RM 0 0) 6 x 41 [(0, .ref am0), (1, .int v1), (3, .int v3), (5, .int v5)] [.int e0] (V_M x.1.2.2 am0 am1 am2 am3 am4 am5 am6 am7 am8 am9 am10 am11 am12 am13 am14 m_said m_tries m_state m_images m_isKept m_pad m_leftOf m_rightOf m_isApart m_group m_isPair m_isOne m_order m_rest m_aside m_others) 0 0 (QI x rr (V_M x.1.2.2 am0 am1 am2 am3 am4 am5 am6 am7 am8 am9 am10 am11 am12 am13 am14 m_said m_tries m_state m_images m_isKept m_pad m_leftOf m_rightOf m_isApart m_group m_isPair m_isOne m_order m_rest m_aside m_others)) := by
  unfold J_X6_isAnyOne_41 at h
  refine p_istore (lv' := [(4, .int e0), (0, .ref am0), (1, .int v1), (3, .int v3), (5, .int v5)]) C dX6_isAnyOne_41 rfl (by decide) rfl ?_
  refine p_iinc (w := v5 + 1) (lv' := [(5, .int (v5 + 1)), (4, .int e0), (0, .ref am0), (1, .int v1), (3, .int v3)]) C dX6_isAnyOne_43 rfl 4 rfl rfl (by decide) rfl ?_
  refine p_goto C dX6_isAnyOne_46 (pc' := 6) (by decide) ?_
  refine p_locals [2, 3, 4, 1, 0] (lv' := [(0, .ref am0), (1, .int v1), (3, .int v3), (4, .int e0), (5, .int (v5 + 1))]) rfl ?_
  exact hk6 _ _ h
def J_X6_isAnyOne_36 (m_isOne : Ar) (m_others : Ar) (k6 : Int32 → Int32 → Option (Int32))  (v1 : Int32) (v3 : Int32) (v5 : Int32) : Option (Int32) := J_X6_isAnyOne_41 m_isOne m_others (k6) ((1 : Int32)) v1 v3 v5
set_option maxHeartbeats 4000000 in
set_option maxRecDepth 100000 in
theorem tj_X6_isAnyOne_36 {x : Cxt} {am0 am1 am2 am3 am4 am5 am6 am7 am8 am9 am10 am11 am12 am13 am14 : Nat} {m_said : Int32} {m_tries : Int32} {m_state : Ar} {m_images : Ar} {m_isKept : Ar} {m_pad : Ar} {m_leftOf : Ar} {m_rightOf : Ar} {m_isApart : Ar} {m_group : Ar} {m_isPair : Ar} {m_isOne : Ar} {m_order : Ar} {m_rest : Ar} {m_aside : Ar} {m_others : Ar} {k6 : Int32 → Int32 → Option (Int32)}  {v1 : Int32} {v3 : Int32} {v5 : Int32} {rr : Int32} (C : CX RX6 cX6_isAnyOne 6 (some .boolean) x) (hk6 : ∀ (w4 : Int32) (w5 : Int32) , k6 w4 w5 = some rr → PT (RM 0 0) 6 x 6 [(0, .ref am0), (1, .int v1), (3, .int v3), (4, .int w4), (5, .int w5)] [] (V_M x.1.2.2 am0 am1 am2 am3 am4 am5 am6 am7 am8 am9 am10 am11 am12 am13 am14 m_said m_tries m_state m_images m_isKept m_pad m_leftOf m_rightOf m_isApart m_group m_isPair m_isOne m_order m_rest m_aside m_others) 0 0 (QI x rr (V_M x.1.2.2 am0 am1 am2 am3 am4 am5 am6 am7 am8 am9 am10 am11 am12 am13 am14 m_said m_tries m_state m_images m_isKept m_pad m_leftOf m_rightOf m_isApart m_group m_isPair m_isOne m_order m_rest m_aside m_others))) (h : J_X6_isAnyOne_36 m_isOne m_others k6 v1 v3 v5 = some rr) : PT (RM 0 0) 6 x 36 [(0, .ref am0), (1, .int v1), (3, .int v3), (5, .int v5)] [] (V_M x.1.2.2 am0 am1 am2 am3 am4 am5 am6 am7 am8 am9 am10 am11 am12 am13 am14 m_said m_tries m_state m_images m_isKept m_pad m_leftOf m_rightOf m_isApart m_group m_isPair m_isOne m_order m_rest m_aside m_others) 0 0 (QI x rr (V_M x.1.2.2 am0 am1 am2 am3 am4 am5 am6 am7 am8 am9 am10 am11 am12 am13 am14 m_said m_tries m_state m_images m_isKept m_pad m_leftOf m_rightOf m_isApart m_group m_isPair m_isOne m_order m_rest m_aside m_others)) := by
  unfold J_X6_isAnyOne_36 at h
  refine p_iconst (v := (1 : Int32)) C dX6_isAnyOne_36 rfl (by decide) ?_
  refine p_goto C dX6_isAnyOne_37 (pc' := 41) (by decide) ?_
  refine p_locals [0, 1, 2, 3] (lv' := [(0, .ref am0), (1, .int v1), (3, .int v3), (5, .int v5)]) rfl ?_
  exact tj_X6_isAnyOne_41 C (fun u0 u1 h => hk6 u0 u1 h) h
def B_X6_isAnyOne_6 (m_isOne : Ar) (m_others : Ar)  (v1 : Int32) (v3 : Int32) (kk : Int32 → Int32 → Option (Int32)) (v4 : Int32) (v5 : Int32)  : Option (Int32) := if v3 ≤ v5 then (grd (zb v4) (some v4)) else (if v4 = 0 then (grd (gI v5 3) (grd (gI ((((4 : Int32)) * v1) + (m_others v5.toNatClampNeg)) 16) (if (m_isOne ((((4 : Int32)) * v1) + (m_others v5.toNatClampNeg)).toNatClampNeg) = 0 then (J_X6_isAnyOne_41 m_isOne m_others (kk) ((0 : Int32)) v1 v3 v5) else (J_X6_isAnyOne_36 m_isOne m_others (kk) v1 v3 v5)))) else (J_X6_isAnyOne_36 m_isOne m_others (kk) v1 v3 v5))
def L_X6_isAnyOne_6 (m_isOne : Ar) (m_others : Ar)  (v1 : Int32) (v3 : Int32) : Nat → Int32 → Int32 → Option (Int32) := lpG (fun _ _ => none) (B_X6_isAnyOne_6 m_isOne m_others v1 v3)
set_option maxHeartbeats 4000000 in
set_option maxRecDepth 100000 in
theorem tl_X6_isAnyOne_6 {x : Cxt} {am0 am1 am2 am3 am4 am5 am6 am7 am8 am9 am10 am11 am12 am13 am14 : Nat} {m_said : Int32} {m_tries : Int32} {m_state : Ar} {m_images : Ar} {m_isKept : Ar} {m_pad : Ar} {m_leftOf : Ar} {m_rightOf : Ar} {m_isApart : Ar} {m_group : Ar} {m_isPair : Ar} {m_isOne : Ar} {m_order : Ar} {m_rest : Ar} {m_aside : Ar} {m_others : Ar}  {v1 : Int32} {v3 : Int32} {rr : Int32} (C : CX RX6 cX6_isAnyOne 6 (some .boolean) x)  : ∀ (n : Nat) (v4 : Int32) (v5 : Int32) , L_X6_isAnyOne_6 m_isOne m_others v1 v3 n v4 v5 = some rr → PT (RM 0 0) 6 x 6 [(0, .ref am0), (1, .int v1), (3, .int v3), (4, .int v4), (5, .int v5)] [] (V_M x.1.2.2 am0 am1 am2 am3 am4 am5 am6 am7 am8 am9 am10 am11 am12 am13 am14 m_said m_tries m_state m_images m_isKept m_pad m_leftOf m_rightOf m_isApart m_group m_isPair m_isOne m_order m_rest m_aside m_others) 0 0 (QI x rr (V_M x.1.2.2 am0 am1 am2 am3 am4 am5 am6 am7 am8 am9 am10 am11 am12 am13 am14 m_said m_tries m_state m_images m_isKept m_pad m_leftOf m_rightOf m_isApart m_group m_isPair m_isOne m_order m_rest m_aside m_others)) := by
  intro n
  induction n with
  | zero =>
    intro v4 v5 h
    cases h
  | succ n ih =>
    intro v4 v5 h
    have h : B_X6_isAnyOne_6 m_isOne m_others v1 v3 (L_X6_isAnyOne_6 m_isOne m_others v1 v3 n) v4 v5 = some rr := h
    unfold B_X6_isAnyOne_6 at h
    refine p_iload C dX6_isAnyOne_6 rfl 4 rfl ?_
    refine p_iload_n C dX6_isAnyOne_8 rfl 2 rfl ?_
    refine p_icmp_ge C dX6_isAnyOne_9 (tgt := 49) (by decide) rfl (fun c1 => ?_) (fun c1 => ?_)
    · have h := if_t c1 h
      refine p_iload C dX6_isAnyOne_49 rfl 3 rfl ?_
      obtain ⟨g2, h⟩ := grd_of h
      cases h
      exact p_zret C dX6_isAnyOne_51 (zb_ok g2)
    · have h := if_f c1 h
      refine p_iload C dX6_isAnyOne_12 rfl 3 rfl ?_
      refine p_if_ne C dX6_isAnyOne_14 (tgt := 36) (by decide) rfl (fun c3 => ?_) (fun c3 => ?_)
      · have h := if_f c3 h
        refine p_locals [0, 1, 2, 4] (lv' := [(0, .ref am0), (1, .int v1), (3, .int v3), (5, .int v5)]) rfl ?_
        exact tj_X6_isAnyOne_36 C (fun u0 u1 h => ih u0 u1 h) h
      · have h := if_t c3 h
        refine p_aload_n C dX6_isAnyOne_17 rfl 0 rfl ?_
        refine p_get C dX6_isAnyOne_18 rfl 0 11 inlX6 fl_X6_38 rfl rfl (by decide) rfl rfl ?_
        refine p_iconst (v := (4 : Int32)) C dX6_isAnyOne_21 rfl (by decide) ?_
        refine p_iload_n C dX6_isAnyOne_22 rfl 1 rfl ?_
        refine p_imul C dX6_isAnyOne_23 rfl ?_
        refine p_aload_n C dX6_isAnyOne_24 rfl 0 rfl ?_
        refine p_get C dX6_isAnyOne_25 rfl 0 15 inlX6 fl_X6_50 rfl rfl (by decide) rfl rfl ?_
        refine p_iload C dX6_isAnyOne_28 rfl 4 rfl ?_
        obtain ⟨g4, h⟩ := grd_of h
        refine p_iald C dX6_isAnyOne_30 rfl 14 rfl g4 ?_
        refine p_iadd C dX6_isAnyOne_31 rfl ?_
        obtain ⟨g5, h⟩ := grd_of h
        refine p_zald C dX6_isAnyOne_32 rfl 10 rfl g5 ?_
        refine p_if_eq C dX6_isAnyOne_33 (tgt := 40) (by decide) rfl (fun c6 => ?_) (fun c6 => ?_)
        · have h := if_t c6 h
          refine p_iconst (v := (0 : Int32)) C dX6_isAnyOne_40 rfl (by decide) ?_
          refine p_locals [0, 1, 2, 4] (lv' := [(0, .ref am0), (1, .int v1), (3, .int v3), (5, .int v5)]) rfl ?_
          exact tj_X6_isAnyOne_41 C (fun u0 u1 h => ih u0 u1 h) h
        · have h := if_f c6 h
          refine p_locals [0, 1, 2, 4] (lv' := [(0, .ref am0), (1, .int v1), (3, .int v3), (5, .int v5)]) rfl ?_
          exact tj_X6_isAnyOne_36 C (fun u0 u1 h => ih u0 u1 h) h
def m_X6_isAnyOne (m_isOne : Ar) (m_others : Ar) (p1 : Int32) (p2 : Int32) (p3 : Int32) : Option (Int32) := L_X6_isAnyOne_6 m_isOne m_others p1 p3 FU ((0 : Int32)) p2
theorem ds_X6_isAnyOne : (yX6_isAnyOne).cls ≠ "java/lang/invoke/MethodHandle" ∧ (yX6_isAnyOne).cls ≠ "java/lang/invoke/VarHandle" ∧ (parseMethodDescriptor (yX6_isAnyOne).desc).map (fun d => d.parameters.length) = some 3 := by decide +kernel
set_option maxHeartbeats 4000000 in
set_option maxRecDepth 100000 in
theorem c_X6_isAnyOne (E : En) {am0 am1 am2 am3 am4 am5 am6 am7 am8 am9 am10 am11 am12 am13 am14 : Nat} {m_said : Int32} {m_tries : Int32} {m_state : Ar} {m_images : Ar} {m_isKept : Ar} {m_pad : Ar} {m_leftOf : Ar} {m_rightOf : Ar} {m_isApart : Ar} {m_group : Ar} {m_isPair : Ar} {m_isOne : Ar} {m_order : Ar} {m_rest : Ar} {m_aside : Ar} {m_others : Ar} {p1 : Int32} {p2 : Int32} {p3 : Int32} {rr : Int32} (h : m_X6_isAnyOne m_isOne m_others p1 p2 p3 = some rr) : Ci E yX6_isAnyOne (wU yX6_isAnyOne cX6_isAnyOne 6 (some .boolean)) (RM 0 0) [.ref am0, .int p1, .int p2, .int p3] (V_M E.2.2 am0 am1 am2 am3 am4 am5 am6 am7 am8 am9 am10 am11 am12 am13 am14 m_said m_tries m_state m_images m_isKept m_pad m_leftOf m_rightOf m_isApart m_group m_isPair m_isOne m_order m_rest m_aside m_others) (V_M E.2.2 am0 am1 am2 am3 am4 am5 am6 am7 am8 am9 am10 am11 am12 am13 am14 m_said m_tries m_state m_images m_isKept m_pad m_leftOf m_rightOf m_isApart m_group m_isPair m_isOne m_order m_rest m_aside m_others) rr := by
  refine Ci.of (by decide) (Nat.le_of_ble_eq_true rfl) ?_
  intro x hE C
  subst hE
  have C : CX RX6 cX6_isAnyOne 6 (some .boolean) x := C
  refine p_locals [0, 1, 2, 3] (lv' := [(0, .ref am0), (1, .int p1), (2, .int p2), (3, .int p3)]) rfl ?_
  unfold m_X6_isAnyOne at h
  refine p_iconst (v := (0 : Int32)) C dX6_isAnyOne_0 rfl (by decide) ?_
  refine p_istore (lv' := [(4, .int ((0 : Int32))), (0, .ref am0), (1, .int p1), (2, .int p2), (3, .int p3)]) C dX6_isAnyOne_1 rfl (by decide) rfl ?_
  refine p_iload_n C dX6_isAnyOne_3 rfl 3 rfl ?_
  refine p_istore (lv' := [(5, .int p2), (4, .int ((0 : Int32))), (0, .ref am0), (1, .int p1), (2, .int p2), (3, .int p3)]) C dX6_isAnyOne_4 rfl (by decide) rfl ?_
  refine p_locals [2, 3, 5, 1, 0] (lv' := [(0, .ref am0), (1, .int p1), (3, .int p3), (4, .int ((0 : Int32))), (5, .int p2)]) rfl ?_
  exact tl_X6_isAnyOne_6 C  FU _ _ h
def m_X6_isNet  (p0 : Int32) : Option (Int32) := bd1 (m_X6_in p0 ((0 : Int32)) ((3 : Int32))) (fun r1 => grd (zb r1) (some r1))
theorem ds_X6_isNet : (yX6_isNet).cls ≠ "java/lang/invoke/MethodHandle" ∧ (yX6_isNet).cls ≠ "java/lang/invoke/VarHandle" ∧ (parseMethodDescriptor (yX6_isNet).desc).map (fun d => d.parameters.length) = some 1 := by decide +kernel
set_option maxHeartbeats 4000000 in
set_option maxRecDepth 100000 in
theorem c_X6_isNet (E : En)  {p0 : Int32} {rr : Int32} (h : m_X6_isNet p0 = some rr) : Ci E yX6_isNet (wU yX6_isNet cX6_isNet 1 (some .boolean)) (RM 1 22) [.int p0] ([] : va_W) ([] : va_W) rr := by
  refine Ci.of (by decide) (Nat.le_of_ble_eq_true rfl) ?_
  intro x hE C
  subst hE
  have C : CX RX6 cX6_isNet 1 (some .boolean) x := C
  refine p_locals [0] (lv' := [(0, .int p0)]) rfl ?_
  unfold m_X6_isNet at h
  refine p_iload_n C dX6_isNet_0 rfl 0 rfl ?_
  refine p_iconst (v := (0 : Int32)) C dX6_isNet_1 rfl (by decide) ?_
  refine p_iconst (v := (3 : Int32)) C dX6_isNet_2 rfl (by decide) ?_
  obtain ⟨r1, hc2, h⟩ := bd1_of h
  refine p_callSi_s (As := [.int p0, .int ((0 : Int32)), .int ((3 : Int32))]) (st' := []) (Wc' := ([] : va_W)) C (c_X6_in x.1 hc2) dX6_isNet_3 rfl ml_X6_53 ks_X6_in ds_X6_in ⟨rfl, rfl, by decide, by decide⟩ rfl rfl (by decide) ⟨by decide, by decide⟩ ?_
  obtain ⟨g3, h⟩ := grd_of h
  cases h
  exact p_zret C dX6_isNet_6 (zb_ok g3)
def J_X6_halves_106 (m_state : Ar) (m_isOne : Ar) (m_others : Ar) (k64 : Int32 → Int32 → Int32 → Option (Int32 × Ar × Ar))  (v1 : Int32) (v2 : Int32) (v3 : Int32) (v4 : Int32) (v5 : Int32) : Option (Int32 × Ar × Ar) := k64 v3 v4 v5
set_option maxHeartbeats 4000000 in
set_option maxRecDepth 100000 in
theorem tj_X6_halves_106 {x : Cxt} {am0 am1 am2 am3 am4 am5 am6 am7 am8 am9 am10 am11 am12 am13 am14 : Nat} {m_said : Int32} {m_tries : Int32} {m_state : Ar} {m_images : Ar} {m_isKept : Ar} {m_pad : Ar} {m_leftOf : Ar} {m_rightOf : Ar} {m_isApart : Ar} {m_group : Ar} {m_isPair : Ar} {m_isOne : Ar} {m_order : Ar} {m_rest : Ar} {m_aside : Ar} {m_others : Ar} {k64 : Int32 → Int32 → Int32 → Option (Int32 × Ar × Ar)}  {v1 : Int32} {v2 : Int32} {v3 : Int32} {v4 : Int32} {v5 : Int32} {rr : Int32} {q_m_isOne : Ar} {q_m_others : Ar} (C : CX RX6 cX6_halves 7 (some .int) x) (hk64 : ∀ (w3 : Int32) (w4 : Int32) (w5 : Int32) , k64 w3 w4 w5 = some (rr, q_m_isOne, q_m_others) → PT (RM 2 45) 7 x 64 [(0, .ref am0), (1, .int v1), (2, .int v2), (3, .int w3), (4, .int w4), (5, .int w5)] [] (V_M x.1.2.2 am0 am1 am2 am3 am4 am5 am6 am7 am8 am9 am10 am11 am12 am13 am14 m_said m_tries m_state m_images m_isKept m_pad m_leftOf m_rightOf m_isApart m_group m_isPair m_isOne m_order m_rest m_aside m_others) 0 0 (QI x rr (V_M x.1.2.2 am0 am1 am2 am3 am4 am5 am6 am7 am8 am9 am10 am11 am12 am13 am14 m_said m_tries m_state m_images m_isKept m_pad m_leftOf m_rightOf m_isApart m_group m_isPair q_m_isOne m_order m_rest m_aside q_m_others))) (h : J_X6_halves_106 m_state m_isOne m_others k64 v1 v2 v3 v4 v5 = some (rr, q_m_isOne, q_m_others)) : PT (RM 2 45) 7 x 106 [(0, .ref am0), (1, .int v1), (2, .int v2), (3, .int v3), (4, .int v4), (5, .int v5)] [] (V_M x.1.2.2 am0 am1 am2 am3 am4 am5 am6 am7 am8 am9 am10 am11 am12 am13 am14 m_said m_tries m_state m_images m_isKept m_pad m_leftOf m_rightOf m_isApart m_group m_isPair m_isOne m_order m_rest m_aside m_others) 0 0 (QI x rr (V_M x.1.2.2 am0 am1 am2 am3 am4 am5 am6 am7 am8 am9 am10 am11 am12 am13 am14 m_said m_tries m_state m_images m_isKept m_pad m_leftOf m_rightOf m_isApart m_group m_isPair q_m_isOne m_order m_rest m_aside q_m_others)) := by
  unfold J_X6_halves_106 at h
  refine p_goto C dX6_halves_106 (pc' := 64) (by decide) ?_
  refine p_locals [0, 1, 2, 3, 4, 5] (lv' := [(0, .ref am0), (1, .int v1), (2, .int v2), (3, .int v3), (4, .int v4), (5, .int v5)]) rfl ?_
  exact hk64 _ _ _ h
def B_X6_halves_64 (m_state : Ar) (m_isOne : Ar) (m_others : Ar)  (v1 : Int32) (v2 : Int32) (kk : Int32 → Int32 → Int32 → Option (Int32 × Ar × Ar)) (v3 : Int32) (v4 : Int32) (v5 : Int32)  : Option (Int32 × Ar × Ar) := if (v4 - v3) ≤ ((1 : Int32)) then (if v2 = 0 then (some (v5 + 1, m_isOne, m_others)) else (grd (gI v3 3) (grd (gI ((((4 : Int32)) * v1) + (m_others v3.toNatClampNeg)) 16) (if (m_isOne ((((4 : Int32)) * v1) + (m_others v3.toNatClampNeg)).toNatClampNeg) = 0 then (some ((-6 : Int32), m_isOne, m_others)) else (grd (gI v3 3) (some (m_others v3.toNatClampNeg, m_isOne, m_others))))))) else (bd1 (m_X6_isAnyOne m_isOne m_others v1 v3 (v3 + ((v4 - v3) / ((2 : Int32))))) (fun r7 => if r7 = 0 then (J_X6_halves_106 m_state m_isOne m_others (kk) v1 v2 (v3 + ((v4 - v3) / ((2 : Int32)))) v4 (v5 + 1)) else (J_X6_halves_106 m_state m_isOne m_others (kk) v1 v2 v3 (v3 + ((v4 - v3) / ((2 : Int32)))) (v5 + 1))))
def L_X6_halves_64 (m_state : Ar) (m_isOne : Ar) (m_others : Ar)  (v1 : Int32) (v2 : Int32) : Nat → Int32 → Int32 → Int32 → Option (Int32 × Ar × Ar) := lpG (fun _ _ _ => none) (B_X6_halves_64 m_state m_isOne m_others v1 v2)
set_option maxHeartbeats 4000000 in
set_option maxRecDepth 100000 in
theorem tl_X6_halves_64 {x : Cxt} {am0 am1 am2 am3 am4 am5 am6 am7 am8 am9 am10 am11 am12 am13 am14 : Nat} {m_said : Int32} {m_tries : Int32} {m_state : Ar} {m_images : Ar} {m_isKept : Ar} {m_pad : Ar} {m_leftOf : Ar} {m_rightOf : Ar} {m_isApart : Ar} {m_group : Ar} {m_isPair : Ar} {m_isOne : Ar} {m_order : Ar} {m_rest : Ar} {m_aside : Ar} {m_others : Ar}  {v1 : Int32} {v2 : Int32} {rr : Int32} {q_m_isOne : Ar} {q_m_others : Ar} (C : CX RX6 cX6_halves 7 (some .int) x)  : ∀ (n : Nat) (v3 : Int32) (v4 : Int32) (v5 : Int32) , L_X6_halves_64 m_state m_isOne m_others v1 v2 n v3 v4 v5 = some (rr, q_m_isOne, q_m_others) → PT (RM 2 45) 7 x 64 [(0, .ref am0), (1, .int v1), (2, .int v2), (3, .int v3), (4, .int v4), (5, .int v5)] [] (V_M x.1.2.2 am0 am1 am2 am3 am4 am5 am6 am7 am8 am9 am10 am11 am12 am13 am14 m_said m_tries m_state m_images m_isKept m_pad m_leftOf m_rightOf m_isApart m_group m_isPair m_isOne m_order m_rest m_aside m_others) 0 0 (QI x rr (V_M x.1.2.2 am0 am1 am2 am3 am4 am5 am6 am7 am8 am9 am10 am11 am12 am13 am14 m_said m_tries m_state m_images m_isKept m_pad m_leftOf m_rightOf m_isApart m_group m_isPair q_m_isOne m_order m_rest m_aside q_m_others)) := by
  intro n
  induction n with
  | zero =>
    intro v3 v4 v5 h
    cases h
  | succ n ih =>
    intro v3 v4 v5 h
    have h : B_X6_halves_64 m_state m_isOne m_others v1 v2 (L_X6_halves_64 m_state m_isOne m_others v1 v2 n) v3 v4 v5 = some (rr, q_m_isOne, q_m_others) := h
    unfold B_X6_halves_64 at h
    refine p_iload C dX6_halves_64 rfl 4 rfl ?_
    refine p_iload_n C dX6_halves_66 rfl 3 rfl ?_
    refine p_isub C dX6_halves_67 rfl ?_
    refine p_iconst (v := (1 : Int32)) C dX6_halves_68 rfl (by decide) ?_
    refine p_icmp_le C dX6_halves_69 (tgt := 109) (by decide) rfl (fun c1 => ?_) (fun c1 => ?_)
    · have h := if_t c1 h
      refine p_iinc (w := v5 + 1) (lv' := [(5, .int (v5 + 1)), (0, .ref am0), (1, .int v1), (2, .int v2), (3, .int v3), (4, .int v4)]) C dX6_halves_109 rfl 5 rfl rfl (by decide) rfl ?_
      refine p_iload_n C dX6_halves_112 rfl 3 rfl ?_
      refine p_if_ne C dX6_halves_113 (tgt := 121) (by decide) rfl (fun c2 => ?_) (fun c2 => ?_)
      · have h := if_f c2 h
        refine p_aload_n C dX6_halves_121 rfl 1 rfl ?_
        refine p_get C dX6_halves_122 rfl 0 11 inlX6 fl_X6_38 rfl rfl (by decide) rfl rfl ?_
        refine p_iconst (v := (4 : Int32)) C dX6_halves_125 rfl (by decide) ?_
        refine p_iload_n C dX6_halves_126 rfl 2 rfl ?_
        refine p_imul C dX6_halves_127 rfl ?_
        refine p_aload_n C dX6_halves_128 rfl 1 rfl ?_
        refine p_get C dX6_halves_129 rfl 0 15 inlX6 fl_X6_50 rfl rfl (by decide) rfl rfl ?_
        refine p_iload_n C dX6_halves_132 rfl 4 rfl ?_
        obtain ⟨g3, h⟩ := grd_of h
        refine p_iald C dX6_halves_133 rfl 14 rfl g3 ?_
        refine p_iadd C dX6_halves_134 rfl ?_
        obtain ⟨g4, h⟩ := grd_of h
        refine p_zald C dX6_halves_135 rfl 10 rfl g4 ?_
        refine p_if_eq C dX6_halves_136 (tgt := 148) (by decide) rfl (fun c5 => ?_) (fun c5 => ?_)
        · have h := if_t c5 h
          refine p_bipush (v := (-6 : Int32)) C dX6_halves_148 rfl (by decide) ?_
          cases h
          exact p_iret C dX6_halves_150
        · have h := if_f c5 h
          refine p_aload_n C dX6_halves_139 rfl 1 rfl ?_
          refine p_get C dX6_halves_140 rfl 0 15 inlX6 fl_X6_50 rfl rfl (by decide) rfl rfl ?_
          refine p_iload_n C dX6_halves_143 rfl 4 rfl ?_
          obtain ⟨g6, h⟩ := grd_of h
          refine p_iald C dX6_halves_144 rfl 14 rfl g6 ?_
          refine p_goto C dX6_halves_145 (pc' := 150) (by decide) ?_
          cases h
          exact p_iret C dX6_halves_150
      · have h := if_t c2 h
        refine p_iload C dX6_halves_116 rfl 0 rfl ?_
        refine p_goto C dX6_halves_118 (pc' := 150) (by decide) ?_
        cases h
        exact p_iret C dX6_halves_150
    · have h := if_f c1 h
      refine p_iload_n C dX6_halves_72 rfl 3 rfl ?_
      refine p_iload C dX6_halves_73 rfl 4 rfl ?_
      refine p_iload_n C dX6_halves_75 rfl 3 rfl ?_
      refine p_isub C dX6_halves_76 rfl ?_
      refine p_iconst (v := (2 : Int32)) C dX6_halves_77 rfl (by decide) ?_
      refine p_idiv C dX6_halves_78 rfl (by decide) ?_
      refine p_iadd C dX6_halves_79 rfl ?_
      refine p_istore (lv' := [(6, .int (v3 + ((v4 - v3) / ((2 : Int32))))), (0, .ref am0), (1, .int v1), (2, .int v2), (3, .int v3), (4, .int v4), (5, .int v5)]) C dX6_halves_80 rfl (by decide) rfl ?_
      refine p_iinc (w := v5 + 1) (lv' := [(5, .int (v5 + 1)), (6, .int (v3 + ((v4 - v3) / ((2 : Int32))))), (0, .ref am0), (1, .int v1), (2, .int v2), (3, .int v3), (4, .int v4)]) C dX6_halves_82 rfl 6 rfl rfl (by decide) rfl ?_
      refine p_aload_n C dX6_halves_85 rfl 2 rfl ?_
      refine p_iload_n C dX6_halves_86 rfl 3 rfl ?_
      refine p_iload_n C dX6_halves_87 rfl 5 rfl ?_
      refine p_iload C dX6_halves_88 rfl 1 rfl ?_
      obtain ⟨r7, hc8, h⟩ := bd1_of h
      refine p_callVi_s (As := [.int v1, .int v3, .int (v3 + ((v4 - v3) / ((2 : Int32))))]) (st' := []) (Wc' := (V_M x.1.2.2 am0 am1 am2 am3 am4 am5 am6 am7 am8 am9 am10 am11 am12 am13 am14 m_said m_tries m_state m_images m_isKept m_pad m_leftOf m_rightOf m_isApart m_group m_isPair m_isOne m_order m_rest m_aside m_others)) C (c_X6_isAnyOne x.1 (am0 := am0) (am1 := am1) (am2 := am2) (am3 := am3) (am4 := am4) (am5 := am5) (am6 := am6) (am7 := am7) (am8 := am8) (am9 := am9) (am10 := am10) (am11 := am11) (am12 := am12) (am13 := am13) (am14 := am14) (m_said := m_said) (m_tries := m_tries) (m_state := m_state) (m_images := m_images) (m_isKept := m_isKept) (m_pad := m_pad) (m_leftOf := m_leftOf) (m_rightOf := m_rightOf) (m_isApart := m_isApart) (m_group := m_group) (m_isPair := m_isPair) (m_order := m_order) (m_rest := m_rest) (m_aside := m_aside) hc8) dX6_halves_90 rfl ml_X6_156 kv_X6_isAnyOne ds_X6_isAnyOne ⟨rfl, rfl, by decide, by decide⟩ 0 rfl rfl rfl rfl (by decide) ⟨by decide, by decide⟩ ?_
      refine p_if_eq C dX6_halves_93 (tgt := 103) (by decide) rfl (fun c9 => ?_) (fun c9 => ?_)
      · have h := if_t c9 h
        refine p_iload C dX6_halves_103 rfl 1 rfl ?_
        refine p_istore_n (lv' := [(3, .int (v3 + ((v4 - v3) / ((2 : Int32))))), (5, .int (v5 + 1)), (6, .int (v3 + ((v4 - v3) / ((2 : Int32))))), (0, .ref am0), (1, .int v1), (2, .int v2), (4, .int v4)]) C dX6_halves_105 rfl (by decide) rfl ?_
        refine p_locals [3, 4, 5, 0, 6, 1] (lv' := [(0, .ref am0), (1, .int v1), (2, .int v2), (3, .int (v3 + ((v4 - v3) / ((2 : Int32))))), (4, .int v4), (5, .int (v5 + 1))]) rfl ?_
        exact tj_X6_halves_106 C (fun u0 u1 u2 h => ih u0 u1 u2 h) h
      · have h := if_f c9 h
        refine p_iload C dX6_halves_96 rfl 1 rfl ?_
        refine p_istore (lv' := [(4, .int (v3 + ((v4 - v3) / ((2 : Int32))))), (5, .int (v5 + 1)), (6, .int (v3 + ((v4 - v3) / ((2 : Int32))))), (0, .ref am0), (1, .int v1), (2, .int v2), (3, .int v3)]) C dX6_halves_98 rfl (by decide) rfl ?_
        refine p_goto C dX6_halves_100 (pc' := 106) (by decide) ?_
        refine p_locals [3, 4, 5, 6, 0, 1] (lv' := [(0, .ref am0), (1, .int v1), (2, .int v2), (3, .int v3), (4, .int (v3 + ((v4 - v3) / ((2 : Int32))))), (5, .int (v5 + 1))]) rfl ?_
        exact tj_X6_halves_106 C (fun u0 u1 u2 h => ih u0 u1 u2 h) h
def J_X6_halves_49 (m_state : Ar) (m_isOne : Ar) (m_others : Ar) (k27 : Int32 → Ar → Option (Int32 × Ar × Ar)) (e0 : Int32) (e1 : Int32) (v1 : Int32) (v2 : Int32) (v3 : Int32) : Option (Int32 × Ar × Ar) := grd (gI e1 3) (k27 (v3 + 1) (upd m_others e1.toNatClampNeg e0))
set_option maxHeartbeats 4000000 in
set_option maxRecDepth 100000 in
theorem tj_X6_halves_49 {x : Cxt} {am0 am1 am2 am3 am4 am5 am6 am7 am8 am9 am10 am11 am12 am13 am14 : Nat} {m_said : Int32} {m_tries : Int32} {m_state : Ar} {m_images : Ar} {m_isKept : Ar} {m_pad : Ar} {m_leftOf : Ar} {m_rightOf : Ar} {m_isApart : Ar} {m_group : Ar} {m_isPair : Ar} {m_isOne : Ar} {m_order : Ar} {m_rest : Ar} {m_aside : Ar} {m_others : Ar} {k27 : Int32 → Ar → Option (Int32 × Ar × Ar)} {e0 : Int32} {e1 : Int32} {v1 : Int32} {v2 : Int32} {v3 : Int32} {rr : Int32} {q_m_isOne : Ar} {q_m_others : Ar} (C : CX RX6 cX6_halves 7 (some .int) x) (hk27 : ∀ (w3 : Int32) (w_m_others : Ar), k27 w3 w_m_others = some (rr, q_m_isOne, q_m_others) → PT (RM 2 45) 7 x 27 [(0, .ref am0), (1, .int v1), (2, .int v2), (3, .int w3)] [] (V_M x.1.2.2 am0 am1 am2 am3 am4 am5 am6 am7 am8 am9 am10 am11 am12 am13 am14 m_said m_tries m_state m_images m_isKept m_pad m_leftOf m_rightOf m_isApart m_group m_isPair m_isOne m_order m_rest m_aside w_m_others) 0 0 (QI x rr (V_M x.1.2.2 am0 am1 am2 am3 am4 am5 am6 am7 am8 am9 am10 am11 am12 am13 am14 m_said m_tries m_state m_images m_isKept m_pad m_leftOf m_rightOf m_isApart m_group m_isPair q_m_isOne m_order m_rest m_aside q_m_others))) (h : J_X6_halves_49 m_state m_isOne m_others k27 e0 e1 v1 v2 v3 = some (rr, q_m_isOne, q_m_others)) : PT (RM 2 45) 7 x 49 [(0, .ref am0), (1, .int v1), (2, .int v2), (3, .int v3)] [.int e0, .int e1, .ref am14] (V_M x.1.2.2 am0 am1 am2 am3 am4 am5 am6 am7 am8 am9 am10 am11 am12 am13 am14 m_said m_tries m_state m_images m_isKept m_pad m_leftOf m_rightOf m_isApart m_group m_isPair m_isOne m_order m_rest m_aside m_others) 0 0 (QI x rr (V_M x.1.2.2 am0 am1 am2 am3 am4 am5 am6 am7 am8 am9 am10 am11 am12 am13 am14 m_said m_tries m_state m_images m_isKept m_pad m_leftOf m_rightOf m_isApart m_group m_isPair q_m_isOne m_order m_rest m_aside q_m_others)) := by
  unfold J_X6_halves_49 at h
  obtain ⟨g1, h⟩ := grd_of h
  refine p_iast (Wd' := (V_M x.1.2.2 am0 am1 am2 am3 am4 am5 am6 am7 am8 am9 am10 am11 am12 am13 am14 m_said m_tries m_state m_images m_isKept m_pad m_leftOf m_rightOf m_isApart m_group m_isPair m_isOne m_order m_rest m_aside (upd m_others e1.toNatClampNeg e0))) C dX6_halves_49 rfl 14 rfl g1 rfl ?_
  refine p_iinc (w := v3 + 1) (lv' := [(3, .int (v3 + 1)), (0, .ref am0), (1, .int v1), (2, .int v2)]) C dX6_halves_50 rfl 3 rfl rfl (by decide) rfl ?_
  refine p_goto C dX6_halves_53 (pc' := 27) (by decide) ?_
  refine p_locals [1, 2, 3, 0] (lv' := [(0, .ref am0), (1, .int v1), (2, .int v2), (3, .int (v3 + 1))]) rfl ?_
  exact hk27 _ _ h
def B_X6_halves_27 (m_state : Ar) (m_isOne : Ar)  (v1 : Int32) (v2 : Int32) (kk : Int32 → Ar → Option (Int32 × Ar × Ar)) (v3 : Int32) (m_others : Ar) : Option (Int32 × Ar × Ar) := if ((3 : Int32)) ≤ v3 then (L_X6_halves_64 m_state m_isOne m_others v1 v2 FU ((0 : Int32)) ((3 : Int32)) ((0 : Int32))) else (if v1 ≤ v3 then (J_X6_halves_49 m_state m_isOne m_others (kk) (v3 + ((1 : Int32))) v3 v1 v2 v3) else (J_X6_halves_49 m_state m_isOne m_others (kk) v3 v3 v1 v2 v3))
def L_X6_halves_27 (m_state : Ar) (m_isOne : Ar)  (v1 : Int32) (v2 : Int32) : Nat → Int32 → Ar → Option (Int32 × Ar × Ar) := lpG (fun _ _ => none) (B_X6_halves_27 m_state m_isOne v1 v2)
set_option maxHeartbeats 4000000 in
set_option maxRecDepth 100000 in
theorem tl_X6_halves_27 {x : Cxt} {am0 am1 am2 am3 am4 am5 am6 am7 am8 am9 am10 am11 am12 am13 am14 : Nat} {m_said : Int32} {m_tries : Int32} {m_state : Ar} {m_images : Ar} {m_isKept : Ar} {m_pad : Ar} {m_leftOf : Ar} {m_rightOf : Ar} {m_isApart : Ar} {m_group : Ar} {m_isPair : Ar} {m_isOne : Ar} {m_order : Ar} {m_rest : Ar} {m_aside : Ar}  {v1 : Int32} {v2 : Int32} {rr : Int32} {q_m_isOne : Ar} {q_m_others : Ar} (C : CX RX6 cX6_halves 7 (some .int) x)  : ∀ (n : Nat) (v3 : Int32) (m_others : Ar), L_X6_halves_27 m_state m_isOne v1 v2 n v3 m_others = some (rr, q_m_isOne, q_m_others) → PT (RM 2 45) 7 x 27 [(0, .ref am0), (1, .int v1), (2, .int v2), (3, .int v3)] [] (V_M x.1.2.2 am0 am1 am2 am3 am4 am5 am6 am7 am8 am9 am10 am11 am12 am13 am14 m_said m_tries m_state m_images m_isKept m_pad m_leftOf m_rightOf m_isApart m_group m_isPair m_isOne m_order m_rest m_aside m_others) 0 0 (QI x rr (V_M x.1.2.2 am0 am1 am2 am3 am4 am5 am6 am7 am8 am9 am10 am11 am12 am13 am14 m_said m_tries m_state m_images m_isKept m_pad m_leftOf m_rightOf m_isApart m_group m_isPair q_m_isOne m_order m_rest m_aside q_m_others)) := by
  intro n
  induction n with
  | zero =>
    intro v3 m_others h
    cases h
  | succ n ih =>
    intro v3 m_others h
    have h : B_X6_halves_27 m_state m_isOne v1 v2 (L_X6_halves_27 m_state m_isOne v1 v2 n) v3 m_others = some (rr, q_m_isOne, q_m_others) := h
    unfold B_X6_halves_27 at h
    refine p_iload_n C dX6_halves_27 rfl 3 rfl ?_
    refine p_iconst (v := (3 : Int32)) C dX6_halves_28 rfl (by decide) ?_
    refine p_icmp_ge C dX6_halves_29 (tgt := 56) (by decide) rfl (fun c1 => ?_) (fun c1 => ?_)
    · have h := if_t c1 h
      refine p_iconst (v := (0 : Int32)) C dX6_halves_56 rfl (by decide) ?_
      refine p_istore_n (lv' := [(3, .int ((0 : Int32))), (0, .ref am0), (1, .int v1), (2, .int v2)]) C dX6_halves_57 rfl (by decide) rfl ?_
      refine p_iconst (v := (3 : Int32)) C dX6_halves_58 rfl (by decide) ?_
      refine p_istore (lv' := [(4, .int ((3 : Int32))), (3, .int ((0 : Int32))), (0, .ref am0), (1, .int v1), (2, .int v2)]) C dX6_halves_59 rfl (by decide) rfl ?_
      refine p_iconst (v := (0 : Int32)) C dX6_halves_61 rfl (by decide) ?_
      refine p_istore (lv' := [(5, .int ((0 : Int32))), (4, .int ((3 : Int32))), (3, .int ((0 : Int32))), (0, .ref am0), (1, .int v1), (2, .int v2)]) C dX6_halves_62 rfl (by decide) rfl ?_
      refine p_locals [3, 4, 5, 2, 1, 0] (lv' := [(0, .ref am0), (1, .int v1), (2, .int v2), (3, .int ((0 : Int32))), (4, .int ((3 : Int32))), (5, .int ((0 : Int32)))]) rfl ?_
      exact tl_X6_halves_64 C  FU _ _ _ h
    · have h := if_f c1 h
      refine p_aload_n C dX6_halves_32 rfl 0 rfl ?_
      refine p_get C dX6_halves_33 rfl 0 15 inlX6 fl_X6_50 rfl rfl (by decide) rfl rfl ?_
      refine p_iload_n C dX6_halves_36 rfl 3 rfl ?_
      refine p_iload_n C dX6_halves_37 rfl 3 rfl ?_
      refine p_iload_n C dX6_halves_38 rfl 1 rfl ?_
      refine p_icmp_ge C dX6_halves_39 (tgt := 46) (by decide) rfl (fun c2 => ?_) (fun c2 => ?_)
      · have h := if_t c2 h
        refine p_iload_n C dX6_halves_46 rfl 3 rfl ?_
        refine p_iconst (v := (1 : Int32)) C dX6_halves_47 rfl (by decide) ?_
        refine p_iadd C dX6_halves_48 rfl ?_
        refine p_locals [0, 1, 2, 3] (lv' := [(0, .ref am0), (1, .int v1), (2, .int v2), (3, .int v3)]) rfl ?_
        exact tj_X6_halves_49 C (fun u0 u1 h => ih u0 u1 h) h
      · have h := if_f c2 h
        refine p_iload_n C dX6_halves_42 rfl 3 rfl ?_
        refine p_goto C dX6_halves_43 (pc' := 49) (by decide) ?_
        refine p_locals [0, 1, 2, 3] (lv' := [(0, .ref am0), (1, .int v1), (2, .int v2), (3, .int v3)]) rfl ?_
        exact tj_X6_halves_49 C (fun u0 u1 h => ih u0 u1 h) h
def m_X6_halves (m_state : Ar) (m_isOne : Ar) (m_others : Ar) (p1 : Int32) (p2 : Int32) : Option (Int32 × Ar × Ar) := bd1 (m_X6_isNet p1) (fun r1 => if r1 = 0 then (some ((-1 : Int32), m_isOne, m_others)) else (bd1 (m_X6_in p2 ((0 : Int32)) ((1 : Int32))) (fun r4 => if r4 = 0 then (some ((-2 : Int32), m_isOne, m_others)) else (bd1 (m_X6_layOnes m_state m_isOne) (fun z_isOne7 => L_X6_halves_27 m_state z_isOne7 p1 p2 FU ((0 : Int32)) m_others)))))
theorem ds_X6_halves : (yX6_halves).cls ≠ "java/lang/invoke/MethodHandle" ∧ (yX6_halves).cls ≠ "java/lang/invoke/VarHandle" ∧ (parseMethodDescriptor (yX6_halves).desc).map (fun d => d.parameters.length) = some 2 := by decide +kernel
set_option maxHeartbeats 4000000 in
set_option maxRecDepth 100000 in
theorem c_X6_halves (E : En) {am0 am1 am2 am3 am4 am5 am6 am7 am8 am9 am10 am11 am12 am13 am14 : Nat} {m_said : Int32} {m_tries : Int32} {m_state : Ar} {m_images : Ar} {m_isKept : Ar} {m_pad : Ar} {m_leftOf : Ar} {m_rightOf : Ar} {m_isApart : Ar} {m_group : Ar} {m_isPair : Ar} {m_isOne : Ar} {m_order : Ar} {m_rest : Ar} {m_aside : Ar} {m_others : Ar} {p1 : Int32} {p2 : Int32} {rr : Int32} {q_m_isOne : Ar} {q_m_others : Ar} (h : m_X6_halves m_state m_isOne m_others p1 p2 = some (rr, q_m_isOne, q_m_others)) : Ci E yX6_halves (wU yX6_halves cX6_halves 7 (some .int)) (RM 2 45) [.ref am0, .int p1, .int p2] (V_M E.2.2 am0 am1 am2 am3 am4 am5 am6 am7 am8 am9 am10 am11 am12 am13 am14 m_said m_tries m_state m_images m_isKept m_pad m_leftOf m_rightOf m_isApart m_group m_isPair m_isOne m_order m_rest m_aside m_others) (V_M E.2.2 am0 am1 am2 am3 am4 am5 am6 am7 am8 am9 am10 am11 am12 am13 am14 m_said m_tries m_state m_images m_isKept m_pad m_leftOf m_rightOf m_isApart m_group m_isPair q_m_isOne m_order m_rest m_aside q_m_others) rr := by
  refine Ci.of (by decide) (Nat.le_of_ble_eq_true rfl) ?_
  intro x hE C
  subst hE
  have C : CX RX6 cX6_halves 7 (some .int) x := C
  refine p_locals [0, 1, 2] (lv' := [(0, .ref am0), (1, .int p1), (2, .int p2)]) rfl ?_
  unfold m_X6_halves at h
  refine p_iload_n C dX6_halves_0 rfl 1 rfl ?_
  obtain ⟨r1, hc2, h⟩ := bd1_of h
  refine p_callSi (As := [.int p1]) (st' := []) (Wd' := (V_M x.1.2.2 am0 am1 am2 am3 am4 am5 am6 am7 am8 am9 am10 am11 am12 am13 am14 m_said m_tries m_state m_images m_isKept m_pad m_leftOf m_rightOf m_isApart m_group m_isPair m_isOne m_order m_rest m_aside m_others)) C (c_X6_isNet x.1 hc2) dX6_halves_1 rfl ml_X6_57 ks_X6_isNet ds_X6_isNet ⟨rfl, rfl, by decide, by decide⟩ [] rfl rfl rfl rfl (by decide) ⟨by decide, by decide⟩ rfl ?_
  refine p_if_ne C dX6_halves_4 (tgt := 9) (by decide) rfl (fun c3 => ?_) (fun c3 => ?_)
  · have h := if_f c3 h
    refine p_iload_n C dX6_halves_9 rfl 2 rfl ?_
    refine p_iconst (v := (0 : Int32)) C dX6_halves_10 rfl (by decide) ?_
    refine p_iconst (v := (1 : Int32)) C dX6_halves_11 rfl (by decide) ?_
    obtain ⟨r4, hc5, h⟩ := bd1_of h
    refine p_callSi (As := [.int p2, .int ((0 : Int32)), .int ((1 : Int32))]) (st' := []) (Wd' := (V_M x.1.2.2 am0 am1 am2 am3 am4 am5 am6 am7 am8 am9 am10 am11 am12 am13 am14 m_said m_tries m_state m_images m_isKept m_pad m_leftOf m_rightOf m_isApart m_group m_isPair m_isOne m_order m_rest m_aside m_others)) C (c_X6_in x.1 hc5) dX6_halves_12 rfl ml_X6_53 ks_X6_in ds_X6_in ⟨rfl, rfl, by decide, by decide⟩ [] rfl rfl rfl rfl (by decide) ⟨by decide, by decide⟩ rfl ?_
    refine p_if_ne C dX6_halves_15 (tgt := 21) (by decide) rfl (fun c6 => ?_) (fun c6 => ?_)
    · have h := if_f c6 h
      refine p_aload_n C dX6_halves_21 rfl 0 rfl ?_
      obtain ⟨z_isOne7, hc8, h⟩ := bd1_of h
      refine p_callVv_s (As := []) (st' := []) (Wc' := (V_M x.1.2.2 am0 am1 am2 am3 am4 am5 am6 am7 am8 am9 am10 am11 am12 am13 am14 m_said m_tries m_state m_images m_isKept m_pad m_leftOf m_rightOf m_isApart m_group m_isPair z_isOne7 m_order m_rest m_aside m_others)) C (c_X6_layOnes x.1 (am0 := am0) (am1 := am1) (am2 := am2) (am3 := am3) (am4 := am4) (am5 := am5) (am6 := am6) (am7 := am7) (am8 := am8) (am9 := am9) (am10 := am10) (am11 := am11) (am12 := am12) (am13 := am13) (am14 := am14) (m_said := m_said) (m_tries := m_tries) (m_images := m_images) (m_isKept := m_isKept) (m_pad := m_pad) (m_leftOf := m_leftOf) (m_rightOf := m_rightOf) (m_isApart := m_isApart) (m_group := m_group) (m_isPair := m_isPair) (m_order := m_order) (m_rest := m_rest) (m_aside := m_aside) (m_others := m_others) hc8) dX6_halves_22 rfl ml_X6_101 kv_X6_layOnes ds_X6_layOnes ⟨rfl, rfl, by decide, by decide⟩ 0 rfl rfl rfl rfl (by decide) ⟨by decide, by decide⟩ ?_
      refine p_iconst (v := (0 : Int32)) C dX6_halves_25 rfl (by decide) ?_
      refine p_istore_n (lv' := [(3, .int ((0 : Int32))), (0, .ref am0), (1, .int p1), (2, .int p2)]) C dX6_halves_26 rfl (by decide) rfl ?_
      refine p_locals [1, 2, 3, 0] (lv' := [(0, .ref am0), (1, .int p1), (2, .int p2), (3, .int ((0 : Int32)))]) rfl ?_
      exact tl_X6_halves_27 C  FU _ _ h
    · have h := if_t c6 h
      refine p_bipush (v := (-2 : Int32)) C dX6_halves_18 rfl (by decide) ?_
      cases h
      exact p_iret C dX6_halves_20
  · have h := if_t c3 h
    refine p_iconst (v := (-1 : Int32)) C dX6_halves_7 rfl (by decide) ?_
    cases h
    exact p_iret C dX6_halves_8
