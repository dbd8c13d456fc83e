def B_X6_shortMany_4 (m_state : Ar)   (kk : Int32 → Int32 → Option (Int32)) (v1 : Int32) (v2 : Int32)  : Option (Int32) := if ((6 : Int32)) ≤ v2 then (some v1) else (grd (gI (((34 : Int32)) + v2) 40) (kk (v1 + (m_state (((34 : Int32)) + v2).toNatClampNeg)) (v2 + 1)))
def L_X6_shortMany_4 (m_state : Ar)   : Nat → Int32 → Int32 → Option (Int32) := lpG (fun _ _ => none) (B_X6_shortMany_4 m_state)
set_option maxHeartbeats 4000000 in
set_option maxRecDepth 100000 in
theorem tl_X6_shortMany_4 {x : Cxt} {am0 am1 am2 am3 am4 am5 am6 am7 am8 am9 am10 am11 am12 am13 am14 : Nat} {m_said : Int32} {m_tries : Int32} {m_state : Ar} {m_images : Ar} {m_isKept : Ar} {m_pad : Ar} {m_leftOf : Ar} {m_rightOf : Ar} {m_isApart : Ar} {m_group : Ar} {m_isPair : Ar} {m_isOne : Ar} {m_order : Ar} {m_rest : Ar} {m_aside : Ar} {m_others : Ar}   {rr : Int32} (C : CX RX6 cX6_shortMany 3 (some .int) x)  : ∀ (n : Nat) (v1 : Int32) (v2 : Int32) , L_X6_shortMany_4 m_state n v1 v2 = some rr → PT (RM 0 0) 3 x 4 [(0, .ref am0), (1, .int v1), (2, .int v2)] [] (V_M x.1.2.2 am0 am1 am2 am3 am4 am5 am6 am7 am8 am9 am10 am11 am12 am13 am14 m_said m_tries m_state m_images m_isKept m_pad m_leftOf m_rightOf m_isApart m_group m_isPair m_isOne m_order m_rest m_aside m_others) 0 0 (QI x rr (V_M x.1.2.2 am0 am1 am2 am3 am4 am5 am6 am7 am8 am9 am10 am11 am12 am13 am14 m_said m_tries m_state m_images m_isKept m_pad m_leftOf m_rightOf m_isApart m_group m_isPair m_isOne m_order m_rest m_aside m_others)) := by
  intro n
  induction n with
  | zero =>
    intro v1 v2 h
    cases h
  | succ n ih =>
    intro v1 v2 h
    have h : B_X6_shortMany_4 m_state (L_X6_shortMany_4 m_state n) v1 v2 = some rr := h
    unfold B_X6_shortMany_4 at h
    refine p_iload_n C dX6_shortMany_4 rfl 2 rfl ?_
    refine p_bipush (v := (6 : Int32)) C dX6_shortMany_5 rfl (by decide) ?_
    refine p_icmp_ge C dX6_shortMany_7 (tgt := 28) (by decide) rfl (fun c1 => ?_) (fun c1 => ?_)
    · have h := if_t c1 h
      refine p_iload_n C dX6_shortMany_28 rfl 1 rfl ?_
      cases h
      exact p_iret C dX6_shortMany_29
    · have h := if_f c1 h
      refine p_iload_n C dX6_shortMany_10 rfl 1 rfl ?_
      refine p_aload_n C dX6_shortMany_11 rfl 0 rfl ?_
      refine p_get C dX6_shortMany_12 rfl 0 0 inlX6 fl_X6_7 rfl rfl (by decide) rfl rfl ?_
      refine p_bipush (v := (34 : Int32)) C dX6_shortMany_15 rfl (by decide) ?_
      refine p_iload_n C dX6_shortMany_17 rfl 2 rfl ?_
      refine p_iadd C dX6_shortMany_18 rfl ?_
      obtain ⟨g2, h⟩ := grd_of h
      refine p_iald C dX6_shortMany_19 rfl 1 rfl g2 ?_
      refine p_iadd C dX6_shortMany_20 rfl ?_
      refine p_istore_n (lv' := [(1, .int (v1 + (m_state (((34 : Int32)) + v2).toNatClampNeg))), (0, .ref am0), (2, .int v2)]) C dX6_shortMany_21 rfl (by decide) rfl ?_
      refine p_iinc (w := v2 + 1) (lv' := [(2, .int (v2 + 1)), (1, .int (v1 + (m_state (((34 : Int32)) + v2).toNatClampNeg))), (0, .ref am0)]) C dX6_shortMany_22 rfl 2 rfl rfl (by decide) rfl ?_
      refine p_goto C dX6_shortMany_25 (pc' := 4) (by decide) ?_
      refine p_locals [2, 1, 0] (lv' := [(0, .ref am0), (1, .int (v1 + (m_state (((34 : Int32)) + v2).toNatClampNeg))), (2, .int (v2 + 1))]) rfl ?_
      exact ih _ _ h
def m_X6_shortMany (m_state : Ar)  : Option (Int32) := L_X6_shortMany_4 m_state FU ((0 : Int32)) ((0 : Int32))
theorem ds_X6_shortMany : (yX6_shortMany).cls ≠ "java/lang/invoke/MethodHandle" ∧ (yX6_shortMany).cls ≠ "java/lang/invoke/VarHandle" ∧ (parseMethodDescriptor (yX6_shortMany).desc).map (fun d => d.parameters.length) = some 0 := by decide +kernel
set_option maxHeartbeats 4000000 in
set_option maxRecDepth 100000 in
theorem c_X6_shortMany (E : En) {am0 am1 am2 am3 am4 am5 am6 am7 am8 am9 am10 am11 am12 am13 am14 : Nat} {m_said : Int32} {m_tries : Int32} {m_state : Ar} {m_images : Ar} {m_isKept : Ar} {m_pad : Ar} {m_leftOf : Ar} {m_rightOf : Ar} {m_isApart : Ar} {m_group : Ar} {m_isPair : Ar} {m_isOne : Ar} {m_order : Ar} {m_rest : Ar} {m_aside : Ar} {m_others : Ar}  {rr : Int32} (h : m_X6_shortMany m_state = some rr) : Ci E yX6_shortMany (wU yX6_shortMany cX6_shortMany 3 (some .int)) (RM 0 0) [.ref am0] (V_M E.2.2 am0 am1 am2 am3 am4 am5 am6 am7 am8 am9 am10 am11 am12 am13 am14 m_said m_tries m_state m_images m_isKept m_pad m_leftOf m_rightOf m_isApart m_group m_isPair m_isOne m_order m_rest m_aside m_others) (V_M E.2.2 am0 am1 am2 am3 am4 am5 am6 am7 am8 am9 am10 am11 am12 am13 am14 m_said m_tries m_state m_images m_isKept m_pad m_leftOf m_rightOf m_isApart m_group m_isPair m_isOne m_order m_rest m_aside m_others) rr := by
  refine Ci.of (by decide) (Nat.le_of_ble_eq_true rfl) ?_
  intro x hE C
  subst hE
  have C : CX RX6 cX6_shortMany 3 (some .int) x := C
  refine p_locals [0] (lv' := [(0, .ref am0)]) rfl ?_
  unfold m_X6_shortMany at h
  refine p_iconst (v := (0 : Int32)) C dX6_shortMany_0 rfl (by decide) ?_
  refine p_istore_n (lv' := [(1, .int ((0 : Int32))), (0, .ref am0)]) C dX6_shortMany_1 rfl (by decide) rfl ?_
  refine p_iconst (v := (0 : Int32)) C dX6_shortMany_2 rfl (by decide) ?_
  refine p_istore_n (lv' := [(2, .int ((0 : Int32))), (1, .int ((0 : Int32))), (0, .ref am0)]) C dX6_shortMany_3 rfl (by decide) rfl ?_
  refine p_locals [2, 1, 0] (lv' := [(0, .ref am0), (1, .int ((0 : Int32))), (2, .int ((0 : Int32)))]) rfl ?_
  exact tl_X6_shortMany_4 C  FU _ _ h
def J_X6_count_115 (m_said : Int32) (m_tries : Int32) (m_state : Ar) (m_isKept : Ar) (m_leftOf : Ar) (m_rightOf : Ar) (m_isApart : Ar) (m_group : Ar) (m_isPair : Ar)  (e0 : Int32)  : Option (Int32 × Int32 × Ar × Ar × Ar × Ar × Ar) := if (m_isKept 1) = 0 then (some (e0 + ((0 : Int32)), m_tries, m_leftOf, m_rightOf, m_isApart, m_group, m_isPair)) else (some (e0 + ((2 : Int32)), m_tries, m_leftOf, m_rightOf, m_isApart, m_group, m_isPair))
set_option maxHeartbeats 4000000 in
set_option maxRecDepth 100000 in
theorem tj_X6_count_115 {x : Cxt} {am0 am1 am2 am3 am4 am5 am6 am7 am8 am9 am10 am11 am12 am13 am14 : Nat} {m_said : Int32} {m_tries : Int32} {m_state : Ar} {m_images : Ar} {m_isKept : Ar} {m_pad : Ar} {m_leftOf : Ar} {m_rightOf : Ar} {m_isApart : Ar} {m_group : Ar} {m_isPair : Ar} {m_isOne : Ar} {m_order : Ar} {m_rest : Ar} {m_aside : Ar} {m_others : Ar}  {e0 : Int32}  {rr : Int32} {q_m_tries : Int32} {q_m_leftOf : Ar} {q_m_rightOf : Ar} {q_m_isApart : Ar} {q_m_group : Ar} {q_m_isPair : Ar} (C : CX RX6 cX6_count 2 (some .int) x)  (h : J_X6_count_115 m_said m_tries m_state m_isKept m_leftOf m_rightOf m_isApart m_group m_isPair e0 = some (rr, q_m_tries, q_m_leftOf, q_m_rightOf, q_m_isApart, q_m_group, q_m_isPair)) : PT (RM 4 93) 2 x 115 [(0, .ref am0)] [.int e0] (V_M x.1.2.2 am0 am1 am2 am3 am4 am5 am6 am7 am8 am9 am10 am11 am12 am13 am14 m_said m_tries m_state m_images m_isKept m_pad m_leftOf m_rightOf m_isApart m_group m_isPair m_isOne m_order m_rest m_aside m_others) 0 0 (QI x rr (V_M x.1.2.2 am0 am1 am2 am3 am4 am5 am6 am7 am8 am9 am10 am11 am12 am13 am14 m_said q_m_tries m_state m_images m_isKept m_pad q_m_leftOf q_m_rightOf q_m_isApart q_m_group q_m_isPair m_isOne m_order m_rest m_aside m_others)) := by
  unfold J_X6_count_115 at h
  refine p_aload_n C dX6_count_115 rfl 0 rfl ?_
  refine p_get C dX6_count_116 rfl 0 2 inlX6 fl_X6_16 rfl rfl (by decide) rfl rfl ?_
  refine p_iconst (v := (1 : Int32)) C dX6_count_119 rfl (by decide) ?_
  refine p_zaldj (j := 1) C dX6_count_120 rfl 3 rfl (by decide) (by decide) ?_
  refine p_if_eq C dX6_count_121 (tgt := 128) (by decide) rfl (fun c2 => ?_) (fun c2 => ?_)
  · have h := if_t c2 h
    refine p_iconst (v := (0 : Int32)) C dX6_count_128 rfl (by decide) ?_
    refine p_iadd C dX6_count_129 rfl ?_
    cases h
    exact p_iret C dX6_count_130
  · have h := if_f c2 h
    refine p_iconst (v := (2 : Int32)) C dX6_count_124 rfl (by decide) ?_
    refine p_goto C dX6_count_125 (pc' := 129) (by decide) ?_
    refine p_iadd C dX6_count_129 rfl ?_
    cases h
    exact p_iret C dX6_count_130
def m_X6_count (m_said : Int32) (m_tries : Int32) (m_state : Ar) (m_isKept : Ar) (m_leftOf : Ar) (m_rightOf : Ar) (m_isApart : Ar) (m_group : Ar) (m_isPair : Ar) (p1 : Int32) : Option (Int32 × Int32 × Ar × Ar × Ar × Ar × Ar) := bd6 (m_X6_layTries m_tries m_state m_leftOf m_rightOf m_isApart m_group m_isPair) (fun z_tries1 z_leftOf2 z_rightOf3 z_isApart4 z_group5 z_isPair6 => if p1 = 0 then (some (m_state 0, z_tries1, z_leftOf2, z_rightOf3, z_isApart4, z_group5, z_isPair6)) else (if p1 = 1 then (some (z_tries1, z_tries1, z_leftOf2, z_rightOf3, z_isApart4, z_group5, z_isPair6)) else (if p1 = 2 then (bd1 (m_X6_apartMany z_tries1 z_isApart4) (fun r12 => some (r12, z_tries1, z_leftOf2, z_rightOf3, z_isApart4, z_group5, z_isPair6))) else (if p1 = 3 then (bd1 (m_X6_netsUsed m_state) (fun r15 => some (r15, z_tries1, z_leftOf2, z_rightOf3, z_isApart4, z_group5, z_isPair6))) else (if p1 = 4 then (bd1 (m_X6_looseMany m_state) (fun r18 => some (r18, z_tries1, z_leftOf2, z_rightOf3, z_isApart4, z_group5, z_isPair6))) else (if p1 = 5 then (bd1 (m_X6_shortMany m_state) (fun r21 => some (r21, z_tries1, z_leftOf2, z_rightOf3, z_isApart4, z_group5, z_isPair6))) else (if p1 = 6 then (some (m_state 33, z_tries1, z_leftOf2, z_rightOf3, z_isApart4, z_group5, z_isPair6)) else (if p1 = 7 then (some (m_said, z_tries1, z_leftOf2, z_rightOf3, z_isApart4, z_group5, z_isPair6)) else (if p1 = 8 then (if (m_isKept 0) = 0 then (J_X6_count_115 m_said z_tries1 m_state m_isKept z_leftOf2 z_rightOf3 z_isApart4 z_group5 z_isPair6 ((0 : Int32))) else (J_X6_count_115 m_said z_tries1 m_state m_isKept z_leftOf2 z_rightOf3 z_isApart4 z_group5 z_isPair6 ((1 : Int32)))) else (some ((-2 : Int32), z_tries1, z_leftOf2, z_rightOf3, z_isApart4, z_group5, z_isPair6)))))))))))
theorem ds_X6_count : (yX6_count).cls ≠ "java/lang/invoke/MethodHandle" ∧ (yX6_count).cls ≠ "java/lang/invoke/VarHandle" ∧ (parseMethodDescriptor (yX6_count).desc).map (fun d => d.parameters.length) = some 1 := by decide +kernel
set_option maxHeartbeats 4000000 in
set_option maxRecDepth 100000 in
theorem c_X6_count (E : En) {am0 am1 am2 am3 am4 am5 am6 am7 am8 am9 am10 am11 am12 am13 am14 : Nat} {m_said : Int32} {m_tries : Int32} {m_state : Ar} {m_images : Ar} {m_isKept : Ar} {m_pad : Ar} {m_leftOf : Ar} {m_rightOf : Ar} {m_isApart : Ar} {m_group : Ar} {m_isPair : Ar} {m_isOne : Ar} {m_order : Ar} {m_rest : Ar} {m_aside : Ar} {m_others : Ar} {p1 : Int32} {rr : Int32} {q_m_tries : Int32} {q_m_leftOf : Ar} {q_m_rightOf : Ar} {q_m_isApart : Ar} {q_m_group : Ar} {q_m_isPair : Ar} (h : m_X6_count m_said m_tries m_state m_isKept m_leftOf m_rightOf m_isApart m_group m_isPair p1 = some (rr, q_m_tries, q_m_leftOf, q_m_rightOf, q_m_isApart, q_m_group, q_m_isPair)) : Ci E yX6_count (wU yX6_count cX6_count 2 (some .int)) (RM 4 93) [.ref am0, .int p1] (V_M E.2.2 am0 am1 am2 am3 am4 am5 am6 am7 am8 am9 am10 am11 am12 am13 am14 m_said m_tries m_state m_images m_isKept m_pad m_leftOf m_rightOf m_isApart m_group m_isPair m_isOne m_order m_rest m_aside m_others) (V_M E.2.2 am0 am1 am2 am3 am4 am5 am6 am7 am8 am9 am10 am11 am12 am13 am14 m_said q_m_tries m_state m_images m_isKept m_pad q_m_leftOf q_m_rightOf q_m_isApart q_m_group q_m_isPair m_isOne m_order m_rest m_aside m_others) rr := by
  refine Ci.of (by decide) (Nat.le_of_ble_eq_true rfl) ?_
  intro x hE C
  subst hE
  have C : CX RX6 cX6_count 2 (some .int) x := C
  refine p_locals [0, 1] (lv' := [(0, .ref am0), (1, .int p1)]) rfl ?_
  unfold m_X6_count at h
  refine p_aload_n C dX6_count_0 rfl 0 rfl ?_
  obtain ⟨z_tries1, z_leftOf2, z_rightOf3, z_isApart4, z_group5, z_isPair6, hc7, h⟩ := bd6_of h
  refine p_callVv_s (As := []) (st' := []) (Wc' := (V_M x.1.2.2 am0 am1 am2 am3 am4 am5 am6 am7 am8 am9 am10 am11 am12 am13 am14 m_said z_tries1 m_state m_images m_isKept m_pad z_leftOf2 z_rightOf3 z_isApart4 z_group5 z_isPair6 m_isOne m_order m_rest m_aside m_others)) C (c_X6_layTries x.1 (am0 := am0) (am1 := am1) (am2 := am2) (am3 := am3) (am4 := am4) (am5 := am5) (am6 := am6) (am7 := am7) (am8 := am8) (am9 := am9) (am10 := am10) (am11 := am11) (am12 := am12) (am13 := am13) (am14 := am14) (m_said := m_said) (m_images := m_images) (m_isKept := m_isKept) (m_pad := m_pad) (m_isOne := m_isOne) (m_order := m_order) (m_rest := m_rest) (m_aside := m_aside) (m_others := m_others) hc7) dX6_count_1 rfl ml_X6_107 kv_X6_layTries ds_X6_layTries ⟨rfl, rfl, by decide, by decide⟩ 0 rfl rfl rfl rfl (by decide) ⟨by decide, by decide⟩ ?_
  refine p_iload_n C dX6_count_4 rfl 1 rfl ?_
  by_cases c8 : p1 = 0
  · have h := if_t c8 h
    refine p_tabIn C dX6_count_5 (pc' := 56) (off := 51) c8 (by decide +kernel) (by decide +kernel) (by decide +kernel) (by decide) ?_
    refine p_aload_n C dX6_count_56 rfl 0 rfl ?_
    refine p_get C dX6_count_57 rfl 0 0 inlX6 fl_X6_7 rfl rfl (by decide) rfl rfl ?_
    refine p_iconst (v := (0 : Int32)) C dX6_count_60 rfl (by decide) ?_
    refine p_ialdj (j := 0) C dX6_count_61 rfl 1 rfl (by decide) (by decide) ?_
    cases h
    exact p_iret C dX6_count_62
  · have h := if_f c8 h
    by_cases c10 : p1 = 1
    · have h := if_t c10 h
      refine p_tabIn C dX6_count_5 (pc' := 63) (off := 58) c10 (by decide +kernel) (by decide +kernel) (by decide +kernel) (by decide) ?_
      refine p_aload_n C dX6_count_63 rfl 0 rfl ?_
      refine p_get C dX6_count_64 rfl 0 8 inlX6 fl_X6_72 rfl rfl (by decide) rfl rfl ?_
      cases h
      exact p_iret C dX6_count_67
    · have h := if_f c10 h
      by_cases c11 : p1 = 2
      · have h := if_t c11 h
        refine p_tabIn C dX6_count_5 (pc' := 68) (off := 63) c11 (by decide +kernel) (by decide +kernel) (by decide +kernel) (by decide) ?_
        refine p_aload_n C dX6_count_68 rfl 0 rfl ?_
        obtain ⟨r12, hc13, h⟩ := bd1_of h
        refine p_callVi_s (As := []) (st' := []) (Wc' := (V_M x.1.2.2 am0 am1 am2 am3 am4 am5 am6 am7 am8 am9 am10 am11 am12 am13 am14 m_said z_tries1 m_state m_images m_isKept m_pad z_leftOf2 z_rightOf3 z_isApart4 z_group5 z_isPair6 m_isOne m_order m_rest m_aside m_others)) C (c_X6_apartMany x.1 (am0 := am0) (am1 := am1) (am2 := am2) (am3 := am3) (am4 := am4) (am5 := am5) (am6 := am6) (am7 := am7) (am8 := am8) (am9 := am9) (am10 := am10) (am11 := am11) (am12 := am12) (am13 := am13) (am14 := am14) (m_said := m_said) (m_state := m_state) (m_images := m_images) (m_isKept := m_isKept) (m_pad := m_pad) (m_leftOf := z_leftOf2) (m_rightOf := z_rightOf3) (m_group := z_group5) (m_isPair := z_isPair6) (m_isOne := m_isOne) (m_order := m_order) (m_rest := m_rest) (m_aside := m_aside) (m_others := m_others) hc13) dX6_count_69 rfl ml_X6_159 kv_X6_apartMany ds_X6_apartMany ⟨rfl, rfl, by decide, by decide⟩ 0 rfl rfl rfl rfl (by decide) ⟨by decide, by decide⟩ ?_
        cases h
        exact p_iret C dX6_count_72
      · have h := if_f c11 h
        by_cases c14 : p1 = 3
        · have h := if_t c14 h
          refine p_tabIn C dX6_count_5 (pc' := 73) (off := 68) c14 (by decide +kernel) (by decide +kernel) (by decide +kernel) (by decide) ?_
          refine p_aload_n C dX6_count_73 rfl 0 rfl ?_
          obtain ⟨r15, hc16, h⟩ := bd1_of h
          refine p_callVi_s (As := []) (st' := []) (Wc' := (V_M x.1.2.2 am0 am1 am2 am3 am4 am5 am6 am7 am8 am9 am10 am11 am12 am13 am14 m_said z_tries1 m_state m_images m_isKept m_pad z_leftOf2 z_rightOf3 z_isApart4 z_group5 z_isPair6 m_isOne m_order m_rest m_aside m_others)) C (c_X6_netsUsed x.1 (am0 := am0) (am1 := am1) (am2 := am2) (am3 := am3) (am4 := am4) (am5 := am5) (am6 := am6) (am7 := am7) (am8 := am8) (am9 := am9) (am10 := am10) (am11 := am11) (am12 := am12) (am13 := am13) (am14 := am14) (m_said := m_said) (m_tries := z_tries1) (m_images := m_images) (m_isKept := m_isKept) (m_pad := m_pad) (m_leftOf := z_leftOf2) (m_rightOf := z_rightOf3) (m_isApart := z_isApart4) (m_group := z_group5) (m_isPair := z_isPair6) (m_isOne := m_isOne) (m_order := m_order) (m_rest := m_rest) (m_aside := m_aside) (m_others := m_others) hc16) dX6_count_74 rfl ml_X6_162 kv_X6_netsUsed ds_X6_netsUsed ⟨rfl, rfl, by decide, by decide⟩ 0 rfl rfl rfl rfl (by decide) ⟨by decide, by decide⟩ ?_
          cases h
          exact p_iret C dX6_count_77
        · have h := if_f c14 h
          by_cases c17 : p1 = 4
          · have h := if_t c17 h
            refine p_tabIn C dX6_count_5 (pc' := 78) (off := 73) c17 (by decide +kernel) (by decide +kernel) (by decide +kernel) (by decide) ?_
            refine p_aload_n C dX6_count_78 rfl 0 rfl ?_
            obtain ⟨r18, hc19, h⟩ := bd1_of h
            refine p_callVi_s (As := []) (st' := []) (Wc' := (V_M x.1.2.2 am0 am1 am2 am3 am4 am5 am6 am7 am8 am9 am10 am11 am12 am13 am14 m_said z_tries1 m_state m_images m_isKept m_pad z_leftOf2 z_rightOf3 z_isApart4 z_group5 z_isPair6 m_isOne m_order m_rest m_aside m_others)) C (c_X6_looseMany x.1 (am0 := am0) (am1 := am1) (am2 := am2) (am3 := am3) (am4 := am4) (am5 := am5) (am6 := am6) (am7 := am7) (am8 := am8) (am9 := am9) (am10 := am10) (am11 := am11) (am12 := am12) (am13 := am13) (am14 := am14) (m_said := m_said) (m_tries := z_tries1) (m_images := m_images) (m_isKept := m_isKept) (m_pad := m_pad) (m_leftOf := z_leftOf2) (m_rightOf := z_rightOf3) (m_isApart := z_isApart4) (m_group := z_group5) (m_isPair := z_isPair6) (m_isOne := m_isOne) (m_order := m_order) (m_rest := m_rest) (m_aside := m_aside) (m_others := m_others) hc19) dX6_count_79 rfl ml_X6_144 kv_X6_looseMany ds_X6_looseMany ⟨rfl, rfl, by decide, by decide⟩ 0 rfl rfl rfl rfl (by decide) ⟨by decide, by decide⟩ ?_
            cases h
            exact p_iret C dX6_count_82
          · have h := if_f c17 h
            by_cases c20 : p1 = 5
            · have h := if_t c20 h
              refine p_tabIn C dX6_count_5 (pc' := 83) (off := 78) c20 (by decide +kernel) (by decide +kernel) (by decide +kernel) (by decide) ?_
              refine p_aload_n C dX6_count_83 rfl 0 rfl ?_
              obtain ⟨r21, hc22, h⟩ := bd1_of h
              refine p_callVi_s (As := []) (st' := []) (Wc' := (V_M x.1.2.2 am0 am1 am2 am3 am4 am5 am6 am7 am8 am9 am10 am11 am12 am13 am14 m_said z_tries1 m_state m_images m_isKept m_pad z_leftOf2 z_rightOf3 z_isApart4 z_group5 z_isPair6 m_isOne m_order m_rest m_aside m_others)) C (c_X6_shortMany x.1 (am0 := am0) (am1 := am1) (am2 := am2) (am3 := am3) (am4 := am4) (am5 := am5) (am6 := am6) (am7 := am7) (am8 := am8) (am9 := am9) (am10 := am10) (am11 := am11) (am12 := am12) (am13 := am13) (am14 := am14) (m_said := m_said) (m_tries := z_tries1) (m_images := m_images) (m_isKept := m_isKept) (m_pad := m_pad) (m_leftOf := z_leftOf2) (m_rightOf := z_rightOf3) (m_isApart := z_isApart4) (m_group := z_group5) (m_isPair := z_isPair6) (m_isOne := m_isOne) (m_order := m_order) (m_rest := m_rest) (m_aside := m_aside) (m_others := m_others) hc22) dX6_count_84 rfl ml_X6_147 kv_X6_shortMany ds_X6_shortMany ⟨rfl, rfl, by decide, by decide⟩ 0 rfl rfl rfl rfl (by decide) ⟨by decide, by decide⟩ ?_
              cases h
              exact p_iret C dX6_count_87
            · have h := if_f c20 h
              by_cases c23 : p1 = 6
              · have h := if_t c23 h
                refine p_tabIn C dX6_count_5 (pc' := 88) (off := 83) c23 (by decide +kernel) (by decide +kernel) (by decide +kernel) (by decide) ?_
                refine p_aload_n C dX6_count_88 rfl 0 rfl ?_
                refine p_get C dX6_count_89 rfl 0 0 inlX6 fl_X6_7 rfl rfl (by decide) rfl rfl ?_
                refine p_bipush (v := (33 : Int32)) C dX6_count_92 rfl (by decide) ?_
                refine p_ialdj (j := 33) C dX6_count_94 rfl 1 rfl (by decide) (by decide) ?_
                cases h
                exact p_iret C dX6_count_95
              · have h := if_f c23 h
                by_cases c25 : p1 = 7
                · have h := if_t c25 h
                  refine p_tabIn C dX6_count_5 (pc' := 96) (off := 91) c25 (by decide +kernel) (by decide +kernel) (by decide +kernel) (by decide) ?_
                  refine p_aload_n C dX6_count_96 rfl 0 rfl ?_
                  refine p_get C dX6_count_97 rfl 0 4 inlX6 fl_X6_126 rfl rfl (by decide) rfl rfl ?_
                  cases h
                  exact p_iret C dX6_count_100
                · have h := if_f c25 h
                  by_cases c26 : p1 = 8
                  · have h := if_t c26 h
                    refine p_tabIn C dX6_count_5 (pc' := 101) (off := 96) c26 (by decide +kernel) (by decide +kernel) (by decide +kernel) (by decide) ?_
                    refine p_aload_n C dX6_count_101 rfl 0 rfl ?_
                    refine p_get C dX6_count_102 rfl 0 2 inlX6 fl_X6_16 rfl rfl (by decide) rfl rfl ?_
                    refine p_iconst (v := (0 : Int32)) C dX6_count_105 rfl (by decide) ?_
                    refine p_zaldj (j := 0) C dX6_count_106 rfl 3 rfl (by decide) (by decide) ?_
                    refine p_if_eq C dX6_count_107 (tgt := 114) (by decide) rfl (fun c28 => ?_) (fun c28 => ?_)
                    · have h := if_t c28 h
                      refine p_iconst (v := (0 : Int32)) C dX6_count_114 rfl (by decide) ?_
                      refine p_locals [0] (lv' := [(0, .ref am0)]) rfl ?_
                      exact tj_X6_count_115 C  h
                    · have h := if_f c28 h
                      refine p_iconst (v := (1 : Int32)) C dX6_count_110 rfl (by decide) ?_
                      refine p_goto C dX6_count_111 (pc' := 115) (by decide) ?_
                      refine p_locals [0] (lv' := [(0, .ref am0)]) rfl ?_
                      exact tj_X6_count_115 C  h
                  · have h := if_f c26 h
                    refine p_tabOut C dX6_count_5 (pc' := 131) (n := 9) (by decide) (by decide) (by intro k hk; match k, hk with | 0, _ => exact tabne (by decide) c8 | 1, _ => exact tabne (by decide) c10 | 2, _ => exact tabne (by decide) c11 | 3, _ => exact tabne (by decide) c14 | 4, _ => exact tabne (by decide) c17 | 5, _ => exact tabne (by decide) c20 | 6, _ => exact tabne (by decide) c23 | 7, _ => exact tabne (by decide) c25 | 8, _ => exact tabne (by decide) c26 | _ + 9, hk => exact absurd hk (by omega)) (by decide) ?_
                    refine p_bipush (v := (-2 : Int32)) C dX6_count_131 rfl (by decide) ?_
                    cases h
                    exact p_iret C dX6_count_133
def m_X6_isPoint (m_state : Ar) (p1 : Int32) : Option (Int32) := bd1 (m_X6_in p1 ((0 : Int32)) ((m_state 0) - ((1 : Int32)))) (fun r2 => grd (zb r2) (some r2))
theorem ds_X6_isPoint : (yX6_isPoint).cls ≠ "java/lang/invoke/MethodHandle" ∧ (yX6_isPoint).cls ≠ "java/lang/invoke/VarHandle" ∧ (parseMethodDescriptor (yX6_isPoint).desc).map (fun d => d.parameters.length) = some 1 := by decide +kernel
set_option maxHeartbeats 4000000 in
set_option maxRecDepth 100000 in
theorem c_X6_isPoint (E : En) {am0 am1 am2 am3 am4 am5 am6 am7 am8 am9 am10 am11 am12 am13 am14 : Nat} {m_said : Int32} {m_tries : Int32} {m_state : Ar} {m_images : Ar} {m_isKept : Ar} {m_pad : Ar} {m_leftOf : Ar} {m_rightOf : Ar} {m_isApart : Ar} {m_group : Ar} {m_isPair : Ar} {m_isOne : Ar} {m_order : Ar} {m_rest : Ar} {m_aside : Ar} {m_others : Ar} {p1 : Int32} {rr : Int32} (h : m_X6_isPoint m_state p1 = some rr) : Ci E yX6_isPoint (wU yX6_isPoint cX6_isPoint 2 (some .boolean)) (RM 1 22) [.ref am0, .int p1] (V_M E.2.2 am0 am1 am2 am3 am4 am5 am6 am7 am8 am9 am10 am11 am12 am13 am14 m_said m_tries m_state m_images m_isKept m_pad m_leftOf m_rightOf m_isApart m_group m_isPair m_isOne m_order m_rest m_aside m_others) (V_M E.2.2 am0 am1 am2 am3 am4 am5 am6 am7 am8 am9 am10 am11 am12 am13 am14 m_said m_tries m_state m_images m_isKept m_pad m_leftOf m_rightOf m_isApart m_group m_isPair m_isOne m_order m_rest m_aside m_others) rr := by
  refine Ci.of (by decide) (Nat.le_of_ble_eq_true rfl) ?_
  intro x hE C
  subst hE
  have C : CX RX6 cX6_isPoint 2 (some .boolean) x := C
  refine p_locals [0, 1] (lv' := [(0, .ref am0), (1, .int p1)]) rfl ?_
  unfold m_X6_isPoint at h
  refine p_iload_n C dX6_isPoint_0 rfl 1 rfl ?_
  refine p_iconst (v := (0 : Int32)) C dX6_isPoint_1 rfl (by decide) ?_
  refine p_aload_n C dX6_isPoint_2 rfl 0 rfl ?_
  refine p_get C dX6_isPoint_3 rfl 0 0 inlX6 fl_X6_7 rfl rfl (by decide) rfl rfl ?_
  refine p_iconst (v := (0 : Int32)) C dX6_isPoint_6 rfl (by decide) ?_
  refine p_ialdj (j := 0) C dX6_isPoint_7 rfl 1 rfl (by decide) (by decide) ?_
  refine p_iconst (v := (1 : Int32)) C dX6_isPoint_8 rfl (by decide) ?_
  refine p_isub C dX6_isPoint_9 rfl ?_
  obtain ⟨r2, hc3, h⟩ := bd1_of h
  refine p_callSi (As := [.int p1, .int ((0 : Int32)), .int ((m_state 0) - ((1 : Int32)))]) (st' := []) (Wd' := (V_M x.1.2.2 am0 am1 am2 am3 am4 am5 am6 am7 am8 am9 am10 am11 am12 am13 am14 m_said m_tries m_state m_images m_isKept m_pad m_leftOf m_rightOf m_isApart m_group m_isPair m_isOne m_order m_rest m_aside m_others)) C (c_X6_in x.1 hc3) dX6_isPoint_10 rfl ml_X6_53 ks_X6_in ds_X6_in ⟨rfl, rfl, by decide, by decide⟩ [] rfl rfl rfl rfl (by decide) ⟨by decide, by decide⟩ rfl ?_
  obtain ⟨g4, h⟩ := grd_of h
  cases h
  exact p_zret C dX6_isPoint_13 (zb_ok g4)
def m_X6_far (m_state : Ar) (p1 : Int32) (p2 : Int32) : Option (Int32) := bd1 (m_X6_isPoint m_state p1) (fun r1 => if r1 = 0 then (some ((-1 : Int32))) else (bd1 (m_X6_isPoint m_state p2) (fun r4 => if r4 = 0 then (some ((-1 : Int32))) else (bd1 (m_X6_farOf m_state p1 p2) (fun r7 => some r7)))))
theorem ds_X6_far : (yX6_far).cls ≠ "java/lang/invoke/MethodHandle" ∧ (yX6_far).cls ≠ "java/lang/invoke/VarHandle" ∧ (parseMethodDescriptor (yX6_far).desc).map (fun d => d.parameters.length) = some 2 := by decide +kernel
set_option maxHeartbeats 4000000 in
set_option maxRecDepth 100000 in
theorem c_X6_far (E : En) {am0 am1 am2 am3 am4 am5 am6 am7 am8 am9 am10 am11 am12 am13 am14 : Nat} {m_said : Int32} {m_tries : Int32} {m_state : Ar} {m_images : Ar} {m_isKept : Ar} {m_pad : Ar} {m_leftOf : Ar} {m_rightOf : Ar} {m_isApart : Ar} {m_group : Ar} {m_isPair : Ar} {m_isOne : Ar} {m_order : Ar} {m_rest : Ar} {m_aside : Ar} {m_others : Ar} {p1 : Int32} {p2 : Int32} {rr : Int32} (h : m_X6_far m_state p1 p2 = some rr) : Ci E yX6_far (wU yX6_far cX6_far 3 (some .int)) (RM 2 43) [.ref am0, .int p1, .int p2] (V_M E.2.2 am0 am1 am2 am3 am4 am5 am6 am7 am8 am9 am10 am11 am12 am13 am14 m_said m_tries m_state m_images m_isKept m_pad m_leftOf m_rightOf m_isApart m_group m_isPair m_isOne m_order m_rest m_aside m_others) (V_M E.2.2 am0 am1 am2 am3 am4 am5 am6 am7 am8 am9 am10 am11 am12 am13 am14 m_said m_tries m_state m_images m_isKept m_pad m_leftOf m_rightOf m_isApart m_group m_isPair m_isOne m_order m_rest m_aside m_others) rr := by
  refine Ci.of (by decide) (Nat.le_of_ble_eq_true rfl) ?_
  intro x hE C
  subst hE
  have C : CX RX6 cX6_far 3 (some .int) x := C
  refine p_locals [0, 1, 2] (lv' := [(0, .ref am0), (1, .int p1), (2, .int p2)]) rfl ?_
  unfold m_X6_far at h
  refine p_aload_n C dX6_far_0 rfl 0 rfl ?_
  refine p_iload_n C dX6_far_1 rfl 1 rfl ?_
  obtain ⟨r1, hc2, h⟩ := bd1_of h
  refine p_callVi_s (As := [.int p1]) (st' := []) (Wc' := (V_M x.1.2.2 am0 am1 am2 am3 am4 am5 am6 am7 am8 am9 am10 am11 am12 am13 am14 m_said m_tries m_state m_images m_isKept m_pad m_leftOf m_rightOf m_isApart m_group m_isPair m_isOne m_order m_rest m_aside m_others)) C (c_X6_isPoint x.1 (am0 := am0) (am1 := am1) (am2 := am2) (am3 := am3) (am4 := am4) (am5 := am5) (am6 := am6) (am7 := am7) (am8 := am8) (am9 := am9) (am10 := am10) (am11 := am11) (am12 := am12) (am13 := am13) (am14 := am14) (m_said := m_said) (m_tries := m_tries) (m_images := m_images) (m_isKept := m_isKept) (m_pad := m_pad) (m_leftOf := m_leftOf) (m_rightOf := m_rightOf) (m_isApart := m_isApart) (m_group := m_group) (m_isPair := m_isPair) (m_isOne := m_isOne) (m_order := m_order) (m_rest := m_rest) (m_aside := m_aside) (m_others := m_others) hc2) dX6_far_2 rfl ml_X6_65 kv_X6_isPoint ds_X6_isPoint ⟨rfl, rfl, by decide, by decide⟩ 0 rfl rfl rfl rfl (by decide) ⟨by decide, by decide⟩ ?_
  refine p_if_eq C dX6_far_5 (tgt := 25) (by decide) rfl (fun c3 => ?_) (fun c3 => ?_)
  · have h := if_t c3 h
    refine p_iconst (v := (-1 : Int32)) C dX6_far_25 rfl (by decide) ?_
    cases h
    exact p_iret C dX6_far_26
  · have h := if_f c3 h
    refine p_aload_n C dX6_far_8 rfl 0 rfl ?_
    refine p_iload_n C dX6_far_9 rfl 2 rfl ?_
    obtain ⟨r4, hc5, h⟩ := bd1_of h
    refine p_callVi_s (As := [.int p2]) (st' := []) (Wc' := (V_M x.1.2.2 am0 am1 am2 am3 am4 am5 am6 am7 am8 am9 am10 am11 am12 am13 am14 m_said m_tries m_state m_images m_isKept m_pad m_leftOf m_rightOf m_isApart m_group m_isPair m_isOne m_order m_rest m_aside m_others)) C (c_X6_isPoint x.1 (am0 := am0) (am1 := am1) (am2 := am2) (am3 := am3) (am4 := am4) (am5 := am5) (am6 := am6) (am7 := am7) (am8 := am8) (am9 := am9) (am10 := am10) (am11 := am11) (am12 := am12) (am13 := am13) (am14 := am14) (m_said := m_said) (m_tries := m_tries) (m_images := m_images) (m_isKept := m_isKept) (m_pad := m_pad) (m_leftOf := m_leftOf) (m_rightOf := m_rightOf) (m_isApart := m_isApart) (m_group := m_group) (m_isPair := m_isPair) (m_isOne := m_isOne) (m_order := m_order) (m_rest := m_rest) (m_aside := m_aside) (m_others := m_others) hc5) dX6_far_10 rfl ml_X6_65 kv_X6_isPoint ds_X6_isPoint ⟨rfl, rfl, by decide, by decide⟩ 0 rfl rfl rfl rfl (by decide) ⟨by decide, by decide⟩ ?_
    refine p_if_eq C dX6_far_13 (tgt := 25) (by decide) rfl (fun c6 => ?_) (fun c6 => ?_)
    · have h := if_t c6 h
      refine p_iconst (v := (-1 : Int32)) C dX6_far_25 rfl (by decide) ?_
      cases h
      exact p_iret C dX6_far_26
    · have h := if_f c6 h
      refine p_aload_n C dX6_far_16 rfl 0 rfl ?_
      refine p_iload_n C dX6_far_17 rfl 1 rfl ?_
      refine p_iload_n C dX6_far_18 rfl 2 rfl ?_
      obtain ⟨r7, hc8, h⟩ := bd1_of h
      refine p_callVi_s (As := [.int p1, .int p2]) (st' := []) (Wc' := (V_M x.1.2.2 am0 am1 am2 am3 am4 am5 am6 am7 am8 am9 am10 am11 am12 am13 am14 m_said m_tries m_state m_images m_isKept m_pad m_leftOf m_rightOf m_isApart m_group m_isPair m_isOne m_order m_rest m_aside m_others)) C (c_X6_farOf x.1 (am0 := am0) (am1 := am1) (am2 := am2) (am3 := am3) (am4 := am4) (am5 := am5) (am6 := am6) (am7 := am7) (am8 := am8) (am9 := am9) (am10 := am10) (am11 := am11) (am12 := am12) (am13 := am13) (am14 := am14) (m_said := m_said) (m_tries := m_tries) (m_images := m_images) (m_isKept := m_isKept) (m_pad := m_pad) (m_leftOf := m_leftOf) (m_rightOf := m_rightOf) (m_isApart := m_isApart) (m_group := m_group) (m_isPair := m_isPair) (m_isOne := m_isOne) (m_order := m_order) (m_rest := m_rest) (m_aside := m_aside) (m_others := m_others) hc8) dX6_far_19 rfl ml_X6_68 kv_X6_farOf ds_X6_farOf ⟨rfl, rfl, by decide, by decide⟩ 0 rfl rfl rfl rfl (by decide) ⟨by decide, by decide⟩ ?_
      refine p_goto C dX6_far_22 (pc' := 26) (by decide) ?_
      cases h
      exact p_iret C dX6_far_26
def J_X6_isSingle_19 (m_state : Ar)    : Option (Int32) := some ((1 : Int32))
set_option maxHeartbeats 4000000 in
set_option maxRecDepth 100000 in
theorem tj_X6_isSingle_19 {x : Cxt} {am0 am1 am2 am3 am4 am5 am6 am7 am8 am9 am10 am11 am12 am13 am14 : Nat} {m_said : Int32} {m_tries : Int32} {m_state : Ar} {m_images : Ar} {m_isKept : Ar} {m_pad : Ar} {m_leftOf : Ar} {m_rightOf : Ar} {m_isApart : Ar} {m_group : Ar} {m_isPair : Ar} {m_isOne : Ar} {m_order : Ar} {m_rest : Ar} {m_aside : Ar} {m_others : Ar}    {rr : Int32} (C : CX RX6 cX6_isSingle 2 (some .boolean) x)  (h : J_X6_isSingle_19 m_state = some rr) : PT (RM 2 43) 2 x 19 [(0, .ref am0)] [] (V_M x.1.2.2 am0 am1 am2 am3 am4 am5 am6 am7 am8 am9 am10 am11 am12 am13 am14 m_said m_tries m_state m_images m_isKept m_pad m_leftOf m_rightOf m_isApart m_group m_isPair m_isOne m_order m_rest m_aside m_others) 0 0 (QI x rr (V_M x.1.2.2 am0 am1 am2 am3 am4 am5 am6 am7 am8 am9 am10 am11 am12 am13 am14 m_said m_tries m_state m_images m_isKept m_pad m_leftOf m_rightOf m_isApart m_group m_isPair m_isOne m_order m_rest m_aside m_others)) := by
  unfold J_X6_isSingle_19 at h
  refine p_iconst (v := (1 : Int32)) C dX6_isSingle_19 rfl (by decide) ?_
  refine p_goto C dX6_isSingle_20 (pc' := 24) (by decide) ?_
  cases h
  exact p_zret C dX6_isSingle_24 rfl
def m_X6_isSingle (m_state : Ar) (p1 : Int32) : Option (Int32) := bd1 (m_X6_isPoint m_state p1) (fun r1 => if r1 = 0 then (bd1 (m_X6_in p1 ((20 : Int32)) ((25 : Int32))) (fun r4 => if r4 = 0 then (some ((0 : Int32))) else (J_X6_isSingle_19 m_state))) else (J_X6_isSingle_19 m_state))
theorem ds_X6_isSingle : (yX6_isSingle).cls ≠ "java/lang/invoke/MethodHandle" ∧ (yX6_isSingle).cls ≠ "java/lang/invoke/VarHandle" ∧ (parseMethodDescriptor (yX6_isSingle).desc).map (fun d => d.parameters.length) = some 1 := by decide +kernel
set_option maxHeartbeats 4000000 in
set_option maxRecDepth 100000 in
theorem c_X6_isSingle (E : En) {am0 am1 am2 am3 am4 am5 am6 am7 am8 am9 am10 am11 am12 am13 am14 : Nat} {m_said : Int32} {m_tries : Int32} {m_state : Ar} {m_images : Ar} {m_isKept : Ar} {m_pad : Ar} {m_leftOf : Ar} {m_rightOf : Ar} {m_isApart : Ar} {m_group : Ar} {m_isPair : Ar} {m_isOne : Ar} {m_order : Ar} {m_rest : Ar} {m_aside : Ar} {m_others : Ar} {p1 : Int32} {rr : Int32} (h : m_X6_isSingle m_state p1 = some rr) : Ci E yX6_isSingle (wU yX6_isSingle cX6_isSingle 2 (some .boolean)) (RM 2 43) [.ref am0, .int p1] (V_M E.2.2 am0 am1 am2 am3 am4 am5 am6 am7 am8 am9 am10 am11 am12 am13 am14 m_said m_tries m_state m_images m_isKept m_pad m_leftOf m_rightOf m_isApart m_group m_isPair m_isOne m_order m_rest m_aside m_others) (V_M E.2.2 am0 am1 am2 am3 am4 am5 am6 am7 am8 am9 am10 am11 am12 am13 am14 m_said m_tries m_state m_images m_isKept m_pad m_leftOf m_rightOf m_isApart m_group m_isPair m_isOne m_order m_rest m_aside m_others) rr := by
  refine Ci.of (by decide) (Nat.le_of_ble_eq_true rfl) ?_
  intro x hE C
  subst hE
  have C : CX RX6 cX6_isSingle 2 (some .boolean) x := C
  refine p_locals [0, 1] (lv' := [(0, .ref am0), (1, .int p1)]) rfl ?_
  unfold m_X6_isSingle at h
  refine p_aload_n C dX6_isSingle_0 rfl 0 rfl ?_
  refine p_iload_n C dX6_isSingle_1 rfl 1 rfl ?_
  obtain ⟨r1, hc2, h⟩ := bd1_of h
  refine p_callVi_s (As := [.int p1]) (st' := []) (Wc' := (V_M x.1.2.2 am0 am1 am2 am3 am4 am5 am6 am7 am8 am9 am10 am11 am12 am13 am14 m_said m_tries m_state m_images m_isKept m_pad m_leftOf m_rightOf m_isApart m_group m_isPair m_isOne m_order m_rest m_aside m_others)) C (c_X6_isPoint x.1 (am0 := am0) (am1 := am1) (am2 := am2) (am3 := am3) (am4 := am4) (am5 := am5) (am6 := am6) (am7 := am7) (am8 := am8) (am9 := am9) (am10 := am10) (am11 := am11) (am12 := am12) (am13 := am13) (am14 := am14) (m_said := m_said) (m_tries := m_tries) (m_images := m_images) (m_isKept := m_isKept) (m_pad := m_pad) (m_leftOf := m_leftOf) (m_rightOf := m_rightOf) (m_isApart := m_isApart) (m_group := m_group) (m_isPair := m_isPair) (m_isOne := m_isOne) (m_order := m_order) (m_rest := m_rest) (m_aside := m_aside) (m_others := m_others) hc2) dX6_isSingle_2 rfl ml_X6_65 kv_X6_isPoint ds_X6_isPoint ⟨rfl, rfl, by decide, by decide⟩ 0 rfl rfl rfl rfl (by decide) ⟨by decide, by decide⟩ ?_
  refine p_if_ne C dX6_isSingle_5 (tgt := 19) (by decide) rfl (fun c3 => ?_) (fun c3 => ?_)
  · have h := if_f c3 h
    refine p_locals [0] (lv' := [(0, .ref am0)]) rfl ?_
    exact tj_X6_isSingle_19 C  h
  · have h := if_t c3 h
    refine p_iload_n C dX6_isSingle_8 rfl 1 rfl ?_
    refine p_bipush (v := (20 : Int32)) C dX6_isSingle_9 rfl (by decide) ?_
    refine p_bipush (v := (25 : Int32)) C dX6_isSingle_11 rfl (by decide) ?_
    obtain ⟨r4, hc5, h⟩ := bd1_of h
    refine p_callSi (As := [.int p1, .int ((20 : Int32)), .int ((25 : Int32))]) (st' := []) (Wd' := (V_M x.1.2.2 am0 am1 am2 am3 am4 am5 am6 am7 am8 am9 am10 am11 am12 am13 am14 m_said m_tries m_state m_images m_isKept m_pad m_leftOf m_rightOf m_isApart m_group m_isPair m_isOne m_order m_rest m_aside m_others)) C (c_X6_in x.1 hc5) dX6_isSingle_13 rfl ml_X6_53 ks_X6_in ds_X6_in ⟨rfl, rfl, by decide, by decide⟩ [] rfl rfl rfl rfl (by decide) ⟨by decide, by decide⟩ rfl ?_
    refine p_if_eq C dX6_isSingle_16 (tgt := 23) (by decide) rfl (fun c6 => ?_) (fun c6 => ?_)
    · have h := if_t c6 h
      refine p_iconst (v := (0 : Int32)) C dX6_isSingle_23 rfl (by decide) ?_
      cases h
      exact p_zret C dX6_isSingle_24 rfl
    · have h := if_f c6 h
      refine p_locals [0] (lv' := [(0, .ref am0)]) rfl ?_
      exact tj_X6_isSingle_19 C  h
def B_X6_seenBy_102 (m_tries : Int32) (m_leftOf : Ar) (m_rightOf : Ar) (m_isApart : Ar) (m_isOne : Ar) (m_aside : Ar)  (v2 : Int32) (kk : Int32 → Ar → Option (Int32 × Ar × Ar × Ar)) (v3 : Int32) (m_state : Ar) : Option (Int32 × Ar × Ar × Ar) := if ((40 : Int32)) ≤ v3 then (some (v2, m_state, m_isOne, m_aside)) else (grd (gI v3 40) (grd (gI v3 40) (kk (v3 + 1) (upd m_state v3.toNatClampNeg (m_aside v3.toNatClampNeg)))))
def L_X6_seenBy_102 (m_tries : Int32) (m_leftOf : Ar) (m_rightOf : Ar) (m_isApart : Ar) (m_isOne : Ar) (m_aside : Ar)  (v2 : Int32) : Nat → Int32 → Ar → Option (Int32 × Ar × Ar × Ar) := lpG (fun _ _ => none) (B_X6_seenBy_102 m_tries m_leftOf m_rightOf m_isApart m_isOne m_aside v2)
set_option maxHeartbeats 4000000 in
set_option maxRecDepth 100000 in
theorem tl_X6_seenBy_102 {x : Cxt} {am0 am1 am2 am3 am4 am5 am6 am7 am8 am9 am10 am11 am12 am13 am14 : Nat} {m_said : Int32} {m_tries : Int32} {m_images : Ar} {m_isKept : Ar} {m_pad : Ar} {m_leftOf : Ar} {m_rightOf : Ar} {m_isApart : Ar} {m_group : Ar} {m_isPair : Ar} {m_isOne : Ar} {m_order : Ar} {m_rest : Ar} {m_aside : Ar} {m_others : Ar}  {v2 : Int32} {rr : Int32} {q_m_state : Ar} {q_m_isOne : Ar} {q_m_aside : Ar} (C : CX RX6 cX6_seenBy 4 (some .int) x)  : ∀ (n : Nat) (v3 : Int32) (m_state : Ar), L_X6_seenBy_102 m_tries m_leftOf m_rightOf m_isApart m_isOne m_aside v2 n v3 m_state = some (rr, q_m_state, q_m_isOne, q_m_aside) → PT (RM 3 67) 4 x 102 [(0, .ref am0), (2, .int v2), (3, .int v3)] [] (V_M x.1.2.2 am0 am1 am2 am3 am4 am5 am6 am7 am8 am9 am10 am11 am12 am13 am14 m_said m_tries m_state m_images m_isKept m_pad m_leftOf m_rightOf m_isApart m_group m_isPair m_isOne m_order m_rest m_aside m_others) 0 0 (QI x rr (V_M x.1.2.2 am0 am1 am2 am3 am4 am5 am6 am7 am8 am9 am10 am11 am12 am13 am14 m_said m_tries q_m_state m_images m_isKept m_pad m_leftOf m_rightOf m_isApart m_group m_isPair q_m_isOne m_order m_rest q_m_aside m_others)) := by
  intro n
  induction n with
  | zero =>
    intro v3 m_state h
    cases h
  | succ n ih =>
    intro v3 m_state h
    have h : B_X6_seenBy_102 m_tries m_leftOf m_rightOf m_isApart m_isOne m_aside v2 (L_X6_seenBy_102 m_tries m_leftOf m_rightOf m_isApart m_isOne m_aside v2 n) v3 m_state = some (rr, q_m_state, q_m_isOne, q_m_aside) := h
    unfold B_X6_seenBy_102 at h
    refine p_iload_n C dX6_seenBy_102 rfl 2 rfl ?_
    refine p_bipush (v := (40 : Int32)) C dX6_seenBy_103 rfl (by decide) ?_
    refine p_icmp_ge C dX6_seenBy_105 (tgt := 126) (by decide) rfl (fun c1 => ?_) (fun c1 => ?_)
    · have h := if_t c1 h
      refine p_iload_n C dX6_seenBy_126 rfl 1 rfl ?_
      cases h
      exact p_iret C dX6_seenBy_127
    · have h := if_f c1 h
      refine p_aload_n C dX6_seenBy_108 rfl 0 rfl ?_
      refine p_get C dX6_seenBy_109 rfl 0 0 inlX6 fl_X6_7 rfl rfl (by decide) rfl rfl ?_
      refine p_iload_n C dX6_seenBy_112 rfl 2 rfl ?_
      refine p_aload_n C dX6_seenBy_113 rfl 0 rfl ?_
      refine p_get C dX6_seenBy_114 rfl 0 14 inlX6 fl_X6_47 rfl rfl (by decide) rfl rfl ?_
      refine p_iload_n C dX6_seenBy_117 rfl 2 rfl ?_
      obtain ⟨g2, h⟩ := grd_of h
      refine p_iald C dX6_seenBy_118 rfl 13 rfl g2 ?_
      obtain ⟨g3, h⟩ := grd_of h
      refine p_iast (Wd' := (V_M x.1.2.2 am0 am1 am2 am3 am4 am5 am6 am7 am8 am9 am10 am11 am12 am13 am14 m_said m_tries (upd m_state v3.toNatClampNeg (m_aside v3.toNatClampNeg)) m_images m_isKept m_pad m_leftOf m_rightOf m_isApart m_group m_isPair m_isOne m_order m_rest m_aside m_others)) C dX6_seenBy_119 rfl 1 rfl g3 rfl ?_
      refine p_iinc (w := v3 + 1) (lv' := [(3, .int (v3 + 1)), (0, .ref am0), (2, .int v2)]) C dX6_seenBy_120 rfl 2 rfl rfl (by decide) rfl ?_
      refine p_goto C dX6_seenBy_123 (pc' := 102) (by decide) ?_
      refine p_locals [1, 2, 0] (lv' := [(0, .ref am0), (2, .int v2), (3, .int (v3 + 1))]) rfl ?_
      exact ih _ _ h
def J_X6_seenBy_88 (m_tries : Int32) (m_state : Ar) (m_leftOf : Ar) (m_rightOf : Ar) (m_isApart : Ar) (m_isOne : Ar) (m_aside : Ar) (k61 : Int32 → Ar → Option (Int32 × Ar × Ar × Ar)) (e0 : Int32) (e1 : Int32) (v1 : Int32) (v2 : Int32) : Option (Int32 × Ar × Ar × Ar) := grd (gI e1 40) (k61 (v2 + 1) (upd m_state e1.toNatClampNeg e0))
set_option maxHeartbeats 4000000 in
set_option maxRecDepth 100000 in
theorem tj_X6_seenBy_88 {x : Cxt} {am0 am1 am2 am3 am4 am5 am6 am7 am8 am9 am10 am11 am12 am13 am14 : Nat} {m_said : Int32} {m_tries : Int32} {m_state : Ar} {m_images : Ar} {m_isKept : Ar} {m_pad : Ar} {m_leftOf : Ar} {m_rightOf : Ar} {m_isApart : Ar} {m_group : Ar} {m_isPair : Ar} {m_isOne : Ar} {m_order : Ar} {m_rest : Ar} {m_aside : Ar} {m_others : Ar} {k61 : Int32 → Ar → Option (Int32 × Ar × Ar × Ar)} {e0 : Int32} {e1 : Int32} {v1 : Int32} {v2 : Int32} {rr : Int32} {q_m_state : Ar} {q_m_isOne : Ar} {q_m_aside : Ar} (C : CX RX6 cX6_seenBy 4 (some .int) x) (hk61 : ∀ (w2 : Int32) (w_m_state : Ar), k61 w2 w_m_state = some (rr, q_m_state, q_m_isOne, q_m_aside) → PT (RM 3 67) 4 x 61 [(0, .ref am0), (1, .int v1), (2, .int w2)] [] (V_M x.1.2.2 am0 am1 am2 am3 am4 am5 am6 am7 am8 am9 am10 am11 am12 am13 am14 m_said m_tries w_m_state m_images m_isKept m_pad m_leftOf m_rightOf m_isApart m_group m_isPair m_isOne m_order m_rest m_aside m_others) 0 0 (QI x rr (V_M x.1.2.2 am0 am1 am2 am3 am4 am5 am6 am7 am8 am9 am10 am11 am12 am13 am14 m_said m_tries q_m_state m_images m_isKept m_pad m_leftOf m_rightOf m_isApart m_group m_isPair q_m_isOne m_order m_rest q_m_aside m_others))) (h : J_X6_seenBy_88 m_tries m_state m_leftOf m_rightOf m_isApart m_isOne m_aside k61 e0 e1 v1 v2 = some (rr, q_m_state, q_m_isOne, q_m_aside)) : PT (RM 3 67) 4 x 88 [(0, .ref am0), (1, .int v1), (2, .int v2)] [.int e0, .int e1, .ref am1] (V_M x.1.2.2 am0 am1 am2 am3 am4 am5 am6 am7 am8 am9 am10 am11 am12 am13 am14 m_said m_tries m_state m_images m_isKept m_pad m_leftOf m_rightOf m_isApart m_group m_isPair m_isOne m_order m_rest m_aside m_others) 0 0 (QI x rr (V_M x.1.2.2 am0 am1 am2 am3 am4 am5 am6 am7 am8 am9 am10 am11 am12 am13 am14 m_said m_tries q_m_state m_images m_isKept m_pad m_leftOf m_rightOf m_isApart m_group m_isPair q_m_isOne m_order m_rest q_m_aside m_others)) := by
  unfold J_X6_seenBy_88 at h
  obtain ⟨g1, h⟩ := grd_of h
  refine p_iast (Wd' := (V_M x.1.2.2 am0 am1 am2 am3 am4 am5 am6 am7 am8 am9 am10 am11 am12 am13 am14 m_said m_tries (upd m_state e1.toNatClampNeg e0) m_images m_isKept m_pad m_leftOf m_rightOf m_isApart m_group m_isPair m_isOne m_order m_rest m_aside m_others)) C dX6_seenBy_88 rfl 1 rfl g1 rfl ?_
  refine p_iinc (w := v2 + 1) (lv' := [(2, .int (v2 + 1)), (0, .ref am0), (1, .int v1)]) C dX6_seenBy_89 rfl 2 rfl rfl (by decide) rfl ?_
  refine p_goto C dX6_seenBy_92 (pc' := 61) (by decide) ?_
  refine p_locals [1, 2, 0] (lv' := [(0, .ref am0), (1, .int v1), (2, .int (v2 + 1))]) rfl ?_
  exact hk61 _ _ h
def B_X6_seenBy_61 (m_tries : Int32) (m_leftOf : Ar) (m_rightOf : Ar) (m_isApart : Ar) (m_isOne : Ar) (m_aside : Ar)  (v1 : Int32) (kk : Int32 → Ar → Option (Int32 × Ar × Ar × Ar)) (v2 : Int32) (m_state : Ar) : Option (Int32 × Ar × Ar × Ar) := if ((6 : Int32)) ≤ v2 then (bd2 (m_X6_seen m_tries m_state m_leftOf m_rightOf m_isApart m_isOne) (fun r2 z_isOne3 => L_X6_seenBy_102 m_tries m_leftOf m_rightOf m_isApart z_isOne3 m_aside r2 FU ((0 : Int32)) m_state)) else (if v1 = (((20 : Int32)) + v2) then (J_X6_seenBy_88 m_tries m_state m_leftOf m_rightOf m_isApart m_isOne m_aside (kk) ((1 : Int32)) (((34 : Int32)) + v2) v1 v2) else (J_X6_seenBy_88 m_tries m_state m_leftOf m_rightOf m_isApart m_isOne m_aside (kk) ((0 : Int32)) (((34 : Int32)) + v2) v1 v2))
def L_X6_seenBy_61 (m_tries : Int32) (m_leftOf : Ar) (m_rightOf : Ar) (m_isApart : Ar) (m_isOne : Ar) (m_aside : Ar)  (v1 : Int32) : Nat → Int32 → Ar → Option (Int32 × Ar × Ar × Ar) := lpG (fun _ _ => none) (B_X6_seenBy_61 m_tries m_leftOf m_rightOf m_isApart m_isOne m_aside v1)
set_option maxHeartbeats 4000000 in
set_option maxRecDepth 100000 in
theorem tl_X6_seenBy_61 {x : Cxt} {am0 am1 am2 am3 am4 am5 am6 am7 am8 am9 am10 am11 am12 am13 am14 : Nat} {m_said : Int32} {m_tries : Int32} {m_images : Ar} {m_isKept : Ar} {m_pad : Ar} {m_leftOf : Ar} {m_rightOf : Ar} {m_isApart : Ar} {m_group : Ar} {m_isPair : Ar} {m_isOne : Ar} {m_order : Ar} {m_rest : Ar} {m_aside : Ar} {m_others : Ar}  {v1 : Int32} {rr : Int32} {q_m_state : Ar} {q_m_isOne : Ar} {q_m_aside : Ar} (C : CX RX6 cX6_seenBy 4 (some .int) x)  : ∀ (n : Nat) (v2 : Int32) (m_state : Ar), L_X6_seenBy_61 m_tries m_leftOf m_rightOf m_isApart m_isOne m_aside v1 n v2 m_state = some (rr, q_m_state, q_m_isOne, q_m_aside) → PT (RM 3 67) 4 x 61 [(0, .ref am0), (1, .int v1), (2, .int v2)] [] (V_M x.1.2.2 am0 am1 am2 am3 am4 am5 am6 am7 am8 am9 am10 am11 am12 am13 am14 m_said m_tries m_state m_images m_isKept m_pad m_leftOf m_rightOf m_isApart m_group m_isPair m_isOne m_order m_rest m_aside m_others) 0 0 (QI x rr (V_M x.1.2.2 am0 am1 am2 am3 am4 am5 am6 am7 am8 am9 am10 am11 am12 am13 am14 m_said m_tries q_m_state m_images m_isKept m_pad m_leftOf m_rightOf m_isApart m_group m_isPair q_m_isOne m_order m_rest q_m_aside m_others)) := by
  intro n
  induction n with
  | zero =>
    intro v2 m_state h
    cases h
  | succ n ih =>
    intro v2 m_state h
    have h : B_X6_seenBy_61 m_tries m_leftOf m_rightOf m_isApart m_isOne m_aside v1 (L_X6_seenBy_61 m_tries m_leftOf m_rightOf m_isApart m_isOne m_aside v1 n) v2 m_state = some (rr, q_m_state, q_m_isOne, q_m_aside) := h
    unfold B_X6_seenBy_61 at h
    refine p_iload_n C dX6_seenBy_61 rfl 2 rfl ?_
    refine p_bipush (v := (6 : Int32)) C dX6_seenBy_62 rfl (by decide) ?_
    refine p_icmp_ge C dX6_seenBy_64 (tgt := 95) (by decide) rfl (fun c1 => ?_) (fun c1 => ?_)
    · have h := if_t c1 h
      refine p_aload_n C dX6_seenBy_95 rfl 0 rfl ?_
      obtain ⟨r2, z_isOne3, hc4, h⟩ := bd2_of h
      refine p_callVi_s (As := []) (st' := []) (Wc' := (V_M x.1.2.2 am0 am1 am2 am3 am4 am5 am6 am7 am8 am9 am10 am11 am12 am13 am14 m_said m_tries m_state m_images m_isKept m_pad m_leftOf m_rightOf m_isApart m_group m_isPair z_isOne3 m_order m_rest m_aside m_others)) C (c_X6_seen x.1 (am0 := am0) (am1 := am1) (am2 := am2) (am3 := am3) (am4 := am4) (am5 := am5) (am6 := am6) (am7 := am7) (am8 := am8) (am9 := am9) (am10 := am10) (am11 := am11) (am12 := am12) (am13 := am13) (am14 := am14) (m_said := m_said) (m_images := m_images) (m_isKept := m_isKept) (m_pad := m_pad) (m_group := m_group) (m_isPair := m_isPair) (m_order := m_order) (m_rest := m_rest) (m_aside := m_aside) (m_others := m_others) hc4) dX6_seenBy_96 rfl ml_X6_113 kv_X6_seen ds_X6_seen ⟨rfl, rfl, by decide, by decide⟩ 0 rfl rfl rfl rfl (by decide) ⟨by decide, by decide⟩ ?_
      refine p_istore_n (lv' := [(2, .int r2), (0, .ref am0), (1, .int v1)]) C dX6_seenBy_99 rfl (by decide) rfl ?_
      refine p_iconst (v := (0 : Int32)) C dX6_seenBy_100 rfl (by decide) ?_
      refine p_istore_n (lv' := [(3, .int ((0 : Int32))), (2, .int r2), (0, .ref am0), (1, .int v1)]) C dX6_seenBy_101 rfl (by decide) rfl ?_
      refine p_locals [2, 1, 0] (lv' := [(0, .ref am0), (2, .int r2), (3, .int ((0 : Int32)))]) rfl ?_
      exact tl_X6_seenBy_102 C  FU _ _ h
    · have h := if_f c1 h
      refine p_aload_n C dX6_seenBy_67 rfl 0 rfl ?_
      refine p_get C dX6_seenBy_68 rfl 0 0 inlX6 fl_X6_7 rfl rfl (by decide) rfl rfl ?_
      refine p_bipush (v := (34 : Int32)) C dX6_seenBy_71 rfl (by decide) ?_
      refine p_iload_n C dX6_seenBy_73 rfl 2 rfl ?_
      refine p_iadd C dX6_seenBy_74 rfl ?_
      refine p_iload_n C dX6_seenBy_75 rfl 1 rfl ?_
      refine p_bipush (v := (20 : Int32)) C dX6_seenBy_76 rfl (by decide) ?_
      refine p_iload_n C dX6_seenBy_78 rfl 2 rfl ?_
      refine p_iadd C dX6_seenBy_79 rfl ?_
      refine p_icmp_ne C dX6_seenBy_80 (tgt := 87) (by decide) rfl (fun c5 => ?_) (fun c5 => ?_)
      · have h := if_f c5 h
        refine p_iconst (v := (0 : Int32)) C dX6_seenBy_87 rfl (by decide) ?_
        refine p_locals [0, 1, 2] (lv' := [(0, .ref am0), (1, .int v1), (2, .int v2)]) rfl ?_
        exact tj_X6_seenBy_88 C (fun u0 u1 h => ih u0 u1 h) h
      · have h := if_t c5 h
        refine p_iconst (v := (1 : Int32)) C dX6_seenBy_83 rfl (by decide) ?_
        refine p_goto C dX6_seenBy_84 (pc' := 88) (by decide) ?_
        refine p_locals [0, 1, 2] (lv' := [(0, .ref am0), (1, .int v1), (2, .int v2)]) rfl ?_
        exact tj_X6_seenBy_88 C (fun u0 u1 h => ih u0 u1 h) h
def J_X6_seenBy_52 (m_tries : Int32) (m_state : Ar) (m_leftOf : Ar) (m_rightOf : Ar) (m_isApart : Ar) (m_isOne : Ar) (m_aside : Ar) (k28 : Int32 → Ar → Option (Int32 × Ar × Ar × Ar)) (e0 : Int32) (e1 : Int32) (v1 : Int32) (v2 : Int32) : Option (Int32 × Ar × Ar × Ar) := grd (gI e1 40) (k28 (v2 + 1) (upd m_state e1.toNatClampNeg e0))
set_option maxHeartbeats 4000000 in
set_option maxRecDepth 100000 in
theorem tj_X6_seenBy_52 {x : Cxt} {am0 am1 am2 am3 am4 am5 am6 am7 am8 am9 am10 am11 am12 am13 am14 : Nat} {m_said : Int32} {m_tries : Int32} {m_state : Ar} {m_images : Ar} {m_isKept : Ar} {m_pad : Ar} {m_leftOf : Ar} {m_rightOf : Ar} {m_isApart : Ar} {m_group : Ar} {m_isPair : Ar} {m_isOne : Ar} {m_order : Ar} {m_rest : Ar} {m_aside : Ar} {m_others : Ar} {k28 : Int32 → Ar → Option (Int32 × Ar × Ar × Ar)} {e0 : Int32} {e1 : Int32} {v1 : Int32} {v2 : Int32} {rr : Int32} {q_m_state : Ar} {q_m_isOne : Ar} {q_m_aside : Ar} (C : CX RX6 cX6_seenBy 4 (some .int) x) (hk28 : ∀ (w2 : Int32) (w_m_state : Ar), k28 w2 w_m_state = some (rr, q_m_state, q_m_isOne, q_m_aside) → PT (RM 3 67) 4 x 28 [(0, .ref am0), (1, .int v1), (2, .int w2)] [] (V_M x.1.2.2 am0 am1 am2 am3 am4 am5 am6 am7 am8 am9 am10 am11 am12 am13 am14 m_said m_tries w_m_state m_images m_isKept m_pad m_leftOf m_rightOf m_isApart m_group m_isPair m_isOne m_order m_rest m_aside m_others) 0 0 (QI x rr (V_M x.1.2.2 am0 am1 am2 am3 am4 am5 am6 am7 am8 am9 am10 am11 am12 am13 am14 m_said m_tries q_m_state m_images m_isKept m_pad m_leftOf m_rightOf m_isApart m_group m_isPair q_m_isOne m_order m_rest q_m_aside m_others))) (h : J_X6_seenBy_52 m_tries m_state m_leftOf m_rightOf m_isApart m_isOne m_aside k28 e0 e1 v1 v2 = some (rr, q_m_state, q_m_isOne, q_m_aside)) : PT (RM 3 67) 4 x 52 [(0, .ref am0), (1, .int v1), (2, .int v2)] [.int e0, .int e1, .ref am1] (V_M x.1.2.2 am0 am1 am2 am3 am4 am5 am6 am7 am8 am9 am10 am11 am12 am13 am14 m_said m_tries m_state m_images m_isKept m_pad m_leftOf m_rightOf m_isApart m_group m_isPair m_isOne m_order m_rest m_aside m_others) 0 0 (QI x rr (V_M x.1.2.2 am0 am1 am2 am3 am4 am5 am6 am7 am8 am9 am10 am11 am12 am13 am14 m_said m_tries q_m_state m_images m_isKept m_pad m_leftOf m_rightOf m_isApart m_group m_isPair q_m_isOne m_order m_rest q_m_aside m_others)) := by
  unfold J_X6_seenBy_52 at h
  obtain ⟨g1, h⟩ := grd_of h
  refine p_iast (Wd' := (V_M x.1.2.2 am0 am1 am2 am3 am4 am5 am6 am7 am8 am9 am10 am11 am12 am13 am14 m_said m_tries (upd m_state e1.toNatClampNeg e0) m_images m_isKept m_pad m_leftOf m_rightOf m_isApart m_group m_isPair m_isOne m_order m_rest m_aside m_others)) C dX6_seenBy_52 rfl 1 rfl g1 rfl ?_
  refine p_iinc (w := v2 + 1) (lv' := [(2, .int (v2 + 1)), (0, .ref am0), (1, .int v1)]) C dX6_seenBy_53 rfl 2 rfl rfl (by decide) rfl ?_
  refine p_goto C dX6_seenBy_56 (pc' := 28) (by decide) ?_
  refine p_locals [1, 2, 0] (lv' := [(0, .ref am0), (1, .int v1), (2, .int (v2 + 1))]) rfl ?_
  exact hk28 _ _ h
def B_X6_seenBy_28 (m_tries : Int32) (m_leftOf : Ar) (m_rightOf : Ar) (m_isApart : Ar) (m_isOne : Ar) (m_aside : Ar)  (v1 : Int32) (kk : Int32 → Ar → Option (Int32 × Ar × Ar × Ar)) (v2 : Int32) (m_state : Ar) : Option (Int32 × Ar × Ar × Ar) := if ((8 : Int32)) ≤ v2 then (L_X6_seenBy_61 m_tries m_leftOf m_rightOf m_isApart m_isOne m_aside v1 FU ((0 : Int32)) m_state) else (if v1 = v2 then (J_X6_seenBy_52 m_tries m_state m_leftOf m_rightOf m_isApart m_isOne m_aside (kk) ((1 : Int32)) (((25 : Int32)) + v2) v1 v2) else (J_X6_seenBy_52 m_tries m_state m_leftOf m_rightOf m_isApart m_isOne m_aside (kk) ((0 : Int32)) (((25 : Int32)) + v2) v1 v2))
def L_X6_seenBy_28 (m_tries : Int32) (m_leftOf : Ar) (m_rightOf : Ar) (m_isApart : Ar) (m_isOne : Ar) (m_aside : Ar)  (v1 : Int32) : Nat → Int32 → Ar → Option (Int32 × Ar × Ar × Ar) := lpG (fun _ _ => none) (B_X6_seenBy_28 m_tries m_leftOf m_rightOf m_isApart m_isOne m_aside v1)
set_option maxHeartbeats 4000000 in
set_option maxRecDepth 100000 in
theorem tl_X6_seenBy_28 {x : Cxt} {am0 am1 am2 am3 am4 am5 am6 am7 am8 am9 am10 am11 am12 am13 am14 : Nat} {m_said : Int32} {m_tries : Int32} {m_images : Ar} {m_isKept : Ar} {m_pad : Ar} {m_leftOf : Ar} {m_rightOf : Ar} {m_isApart : Ar} {m_group : Ar} {m_isPair : Ar} {m_isOne : Ar} {m_order : Ar} {m_rest : Ar} {m_aside : Ar} {m_others : Ar}  {v1 : Int32} {rr : Int32} {q_m_state : Ar} {q_m_isOne : Ar} {q_m_aside : Ar} (C : CX RX6 cX6_seenBy 4 (some .int) x)  : ∀ (n : Nat) (v2 : Int32) (m_state : Ar), L_X6_seenBy_28 m_tries m_leftOf m_rightOf m_isApart m_isOne m_aside v1 n v2 m_state = some (rr, q_m_state, q_m_isOne, q_m_aside) → PT (RM 3 67) 4 x 28 [(0, .ref am0), (1, .int v1), (2, .int v2)] [] (V_M x.1.2.2 am0 am1 am2 am3 am4 am5 am6 am7 am8 am9 am10 am11 am12 am13 am14 m_said m_tries m_state m_images m_isKept m_pad m_leftOf m_rightOf m_isApart m_group m_isPair m_isOne m_order m_rest m_aside m_others) 0 0 (QI x rr (V_M x.1.2.2 am0 am1 am2 am3 am4 am5 am6 am7 am8 am9 am10 am11 am12 am13 am14 m_said m_tries q_m_state m_images m_isKept m_pad m_leftOf m_rightOf m_isApart m_group m_isPair q_m_isOne m_order m_rest q_m_aside m_others)) := by
  intro n
  induction n with
  | zero =>
    intro v2 m_state h
    cases h
  | succ n ih =>
    intro v2 m_state h
    have h : B_X6_seenBy_28 m_tries m_leftOf m_rightOf m_isApart m_isOne m_aside v1 (L_X6_seenBy_28 m_tries m_leftOf m_rightOf m_isApart m_isOne m_aside v1 n) v2 m_state = some (rr, q_m_state, q_m_isOne, q_m_aside) := h
    unfold B_X6_seenBy_28 at h
    refine p_iload_n C dX6_seenBy_28 rfl 2 rfl ?_
    refine p_bipush (v := (8 : Int32)) C dX6_seenBy_29 rfl (by decide) ?_
    refine p_icmp_ge C dX6_seenBy_31 (tgt := 59) (by decide) rfl (fun c1 => ?_) (fun c1 => ?_)
    · have h := if_t c1 h
      refine p_iconst (v := (0 : Int32)) C dX6_seenBy_59 rfl (by decide) ?_
      refine p_istore_n (lv' := [(2, .int ((0 : Int32))), (0, .ref am0), (1, .int v1)]) C dX6_seenBy_60 rfl (by decide) rfl ?_
      refine p_locals [1, 2, 0] (lv' := [(0, .ref am0), (1, .int v1), (2, .int ((0 : Int32)))]) rfl ?_
      exact tl_X6_seenBy_61 C  FU _ _ h
    · have h := if_f c1 h
      refine p_aload_n C dX6_seenBy_34 rfl 0 rfl ?_
      refine p_get C dX6_seenBy_35 rfl 0 0 inlX6 fl_X6_7 rfl rfl (by decide) rfl rfl ?_
      refine p_bipush (v := (25 : Int32)) C dX6_seenBy_38 rfl (by decide) ?_
      refine p_iload_n C dX6_seenBy_40 rfl 2 rfl ?_
      refine p_iadd C dX6_seenBy_41 rfl ?_
      refine p_iload_n C dX6_seenBy_42 rfl 1 rfl ?_
      refine p_iload_n C dX6_seenBy_43 rfl 2 rfl ?_
      refine p_icmp_ne C dX6_seenBy_44 (tgt := 51) (by decide) rfl (fun c2 => ?_) (fun c2 => ?_)
      · have h := if_f c2 h
        refine p_iconst (v := (0 : Int32)) C dX6_seenBy_51 rfl (by decide) ?_
        refine p_locals [0, 1, 2] (lv' := [(0, .ref am0), (1, .int v1), (2, .int v2)]) rfl ?_
        exact tj_X6_seenBy_52 C (fun u0 u1 h => ih u0 u1 h) h
      · have h := if_t c2 h
        refine p_iconst (v := (1 : Int32)) C dX6_seenBy_47 rfl (by decide) ?_
        refine p_goto C dX6_seenBy_48 (pc' := 52) (by decide) ?_
        refine p_locals [0, 1, 2] (lv' := [(0, .ref am0), (1, .int v1), (2, .int v2)]) rfl ?_
        exact tj_X6_seenBy_52 C (fun u0 u1 h => ih u0 u1 h) h
def B_X6_seenBy_2 (m_tries : Int32) (m_state : Ar) (m_leftOf : Ar) (m_rightOf : Ar) (m_isApart : Ar) (m_isOne : Ar)  (v1 : Int32) (kk : Int32 → Ar → Option (Int32 × Ar × Ar × Ar)) (v2 : Int32) (m_aside : Ar) : Option (Int32 × Ar × Ar × Ar) := if ((40 : Int32)) ≤ v2 then (L_X6_seenBy_28 m_tries m_leftOf m_rightOf m_isApart m_isOne m_aside v1 FU ((0 : Int32)) m_state) else (grd (gI v2 40) (grd (gI v2 40) (kk (v2 + 1) (upd m_aside v2.toNatClampNeg (m_state v2.toNatClampNeg)))))
def L_X6_seenBy_2 (m_tries : Int32) (m_state : Ar) (m_leftOf : Ar) (m_rightOf : Ar) (m_isApart : Ar) (m_isOne : Ar)  (v1 : Int32) : Nat → Int32 → Ar → Option (Int32 × Ar × Ar × Ar) := lpG (fun _ _ => none) (B_X6_seenBy_2 m_tries m_state m_leftOf m_rightOf m_isApart m_isOne v1)
set_option maxHeartbeats 4000000 in
set_option maxRecDepth 100000 in
theorem tl_X6_seenBy_2 {x : Cxt} {am0 am1 am2 am3 am4 am5 am6 am7 am8 am9 am10 am11 am12 am13 am14 : Nat} {m_said : Int32} {m_tries : Int32} {m_state : Ar} {m_images : Ar} {m_isKept : Ar} {m_pad : Ar} {m_leftOf : Ar} {m_rightOf : Ar} {m_isApart : Ar} {m_group : Ar} {m_isPair : Ar} {m_isOne : Ar} {m_order : Ar} {m_rest : Ar} {m_others : Ar}  {v1 : Int32} {rr : Int32} {q_m_state : Ar} {q_m_isOne : Ar} {q_m_aside : Ar} (C : CX RX6 cX6_seenBy 4 (some .int) x)  : ∀ (n : Nat) (v2 : Int32) (m_aside : Ar), L_X6_seenBy_2 m_tries m_state m_leftOf m_rightOf m_isApart m_isOne v1 n v2 m_aside = some (rr, q_m_state, q_m_isOne, q_m_aside) → PT (RM 3 67) 4 x 2 [(0, .ref am0), (1, .int v1), (2, .int v2)] [] (V_M x.1.2.2 am0 am1 am2 am3 am4 am5 am6 am7 am8 am9 am10 am11 am12 am13 am14 m_said m_tries m_state m_images m_isKept m_pad m_leftOf m_rightOf m_isApart m_group m_isPair m_isOne m_order m_rest m_aside m_others) 0 0 (QI x rr (V_M x.1.2.2 am0 am1 am2 am3 am4 am5 am6 am7 am8 am9 am10 am11 am12 am13 am14 m_said m_tries q_m_state m_images m_isKept m_pad m_leftOf m_rightOf m_isApart m_group m_isPair q_m_isOne m_order m_rest q_m_aside m_others)) := by
  intro n
  induction n with
  | zero =>
    intro v2 m_aside h
    cases h
  | succ n ih =>
    intro v2 m_aside h
    have h : B_X6_seenBy_2 m_tries m_state m_leftOf m_rightOf m_isApart m_isOne v1 (L_X6_seenBy_2 m_tries m_state m_leftOf m_rightOf m_isApart m_isOne v1 n) v2 m_aside = some (rr, q_m_state, q_m_isOne, q_m_aside) := h
    unfold B_X6_seenBy_2 at h
    refine p_iload_n C dX6_seenBy_2 rfl 2 rfl ?_
    refine p_bipush (v := (40 : Int32)) C dX6_seenBy_3 rfl (by decide) ?_
    refine p_icmp_ge C dX6_seenBy_5 (tgt := 26) (by decide) rfl (fun c1 => ?_) (fun c1 => ?_)
    · have h := if_t c1 h
      refine p_iconst (v := (0 : Int32)) C dX6_seenBy_26 rfl (by decide) ?_
      refine p_istore_n (lv' := [(2, .int ((0 : Int32))), (0, .ref am0), (1, .int v1)]) C dX6_seenBy_27 rfl (by decide) rfl ?_
      refine p_locals [1, 2, 0] (lv' := [(0, .ref am0), (1, .int v1), (2, .int ((0 : Int32)))]) rfl ?_
      exact tl_X6_seenBy_28 C  FU _ _ h
    · have h := if_f c1 h
      refine p_aload_n C dX6_seenBy_8 rfl 0 rfl ?_
      refine p_get C dX6_seenBy_9 rfl 0 14 inlX6 fl_X6_47 rfl rfl (by decide) rfl rfl ?_
      refine p_iload_n C dX6_seenBy_12 rfl 2 rfl ?_
      refine p_aload_n C dX6_seenBy_13 rfl 0 rfl ?_
      refine p_get C dX6_seenBy_14 rfl 0 0 inlX6 fl_X6_7 rfl rfl (by decide) rfl rfl ?_
      refine p_iload_n C dX6_seenBy_17 rfl 2 rfl ?_
      obtain ⟨g2, h⟩ := grd_of h
      refine p_iald C dX6_seenBy_18 rfl 1 rfl g2 ?_
      obtain ⟨g3, h⟩ := grd_of h
      refine p_iast (Wd' := (V_M x.1.2.2 am0 am1 am2 am3 am4 am5 am6 am7 am8 am9 am10 am11 am12 am13 am14 m_said m_tries m_state m_images m_isKept m_pad m_leftOf m_rightOf m_isApart m_group m_isPair m_isOne m_order m_rest (upd m_aside v2.toNatClampNeg (m_state v2.toNatClampNeg)) m_others)) C dX6_seenBy_19 rfl 13 rfl g3 rfl ?_
      refine p_iinc (w := v2 + 1) (lv' := [(2, .int (v2 + 1)), (0, .ref am0), (1, .int v1)]) C dX6_seenBy_20 rfl 2 rfl rfl (by decide) rfl ?_
      refine p_goto C dX6_seenBy_23 (pc' := 2) (by decide) ?_
      refine p_locals [1, 2, 0] (lv' := [(0, .ref am0), (1, .int v1), (2, .int (v2 + 1))]) rfl ?_
      exact ih _ _ h
def m_X6_seenBy (m_tries : Int32) (m_state : Ar) (m_leftOf : Ar) (m_rightOf : Ar) (m_isApart : Ar) (m_isOne : Ar) (m_aside : Ar) (p1 : Int32) : Option (Int32 × Ar × Ar × Ar) := L_X6_seenBy_2 m_tries m_state m_leftOf m_rightOf m_isApart m_isOne p1 FU ((0 : Int32)) m_aside
theorem ds_X6_seenBy : (yX6_seenBy).cls ≠ "java/lang/invoke/MethodHandle" ∧ (yX6_seenBy).cls ≠ "java/lang/invoke/VarHandle" ∧ (parseMethodDescriptor (yX6_seenBy).desc).map (fun d => d.parameters.length) = some 1 := by decide +kernel
set_option maxHeartbeats 4000000 in
set_option maxRecDepth 100000 in
theorem c_X6_seenBy (E : En) {am0 am1 am2 am3 am4 am5 am6 am7 am8 am9 am10 am11 am12 am13 am14 : Nat} {m_said : Int32} {m_tries : Int32} {m_state : Ar} {m_images : Ar} {m_isKept : Ar} {m_pad : Ar} {m_leftOf : Ar} {m_rightOf : Ar} {m_isApart : Ar} {m_group : Ar} {m_isPair : Ar} {m_isOne : Ar} {m_order : Ar} {m_rest : Ar} {m_aside : Ar} {m_others : Ar} {p1 : Int32} {rr : Int32} {q_m_state : Ar} {q_m_isOne : Ar} {q_m_aside : Ar} (h : m_X6_seenBy m_tries m_state m_leftOf m_rightOf m_isApart m_isOne m_aside p1 = some (rr, q_m_state, q_m_isOne, q_m_aside)) : Ci E yX6_seenBy (wU yX6_seenBy cX6_seenBy 4 (some .int)) (RM 3 67) [.ref am0, .int p1] (V_M E.2.2 am0 am1 am2 am3 am4 am5 am6 am7 am8 am9 am10 am11 am12 am13 am14 m_said m_tries m_state m_images m_isKept m_pad m_leftOf m_rightOf m_isApart m_group m_isPair m_isOne m_order m_rest m_aside m_others) (V_M E.2.2 am0 am1 am2 am3 am4 am5 am6 am7 am8 am9 am10 am11 am12 am13 am14 m_said m_tries q_m_state m_images m_isKept m_pad m_leftOf m_rightOf m_isApart m_group m_isPair q_m_isOne m_order m_rest q_m_aside m_others) rr := by
  refine Ci.of (by decide) (Nat.le_of_ble_eq_true rfl) ?_
  intro x hE C
  subst hE
  have C : CX RX6 cX6_seenBy 4 (some .int) x := C
  refine p_locals [0, 1] (lv' := [(0, .ref am0), (1, .int p1)]) rfl ?_
  unfold m_X6_seenBy at h
  refine p_iconst (v := (0 : Int32)) C dX6_seenBy_0 rfl (by decide) ?_
  refine p_istore_n (lv' := [(2, .int ((0 : Int32))), (0, .ref am0), (1, .int p1)]) C dX6_seenBy_1 rfl (by decide) rfl ?_
  refine p_locals [1, 2, 0] (lv' := [(0, .ref am0), (1, .int p1), (2, .int ((0 : Int32)))]) rfl ?_
  exact tl_X6_seenBy_2 C  FU _ _ h
