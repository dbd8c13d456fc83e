def B_X6_layTries_76 (m_state : Ar) (m_group : Ar) (m_isPair : Ar) (k67 : Int32 → Int32 → Ar → Ar → Ar → Option (Int32 × Ar × Ar × Ar × Ar × Ar)) (v1 : Int32) (kk : Int32 → Int32 → Ar → Ar → Ar → Option (Int32 × Ar × Ar × Ar × Ar × Ar)) (v2 : Int32) (m_tries : Int32) (m_leftOf : Ar) (m_rightOf : Ar) (m_isApart : Ar) : Option (Int32 × Ar × Ar × Ar × Ar × Ar) := if ((4 : Int32)) ≤ v2 then (k67 (v1 + 1) m_tries m_leftOf m_rightOf m_isApart) else (bd4 (m_X6_layNeighbours m_tries m_state m_leftOf m_rightOf m_isApart v1 v2) (fun z_tries2 z_leftOf3 z_rightOf4 z_isApart5 => kk (v2 + 1) z_tries2 z_leftOf3 z_rightOf4 z_isApart5))
def L_X6_layTries_76 (m_state : Ar) (m_group : Ar) (m_isPair : Ar) (k67 : Int32 → Int32 → Ar → Ar → Ar → Option (Int32 × Ar × Ar × Ar × Ar × Ar)) (v1 : Int32) : Nat → Int32 → Int32 → Ar → Ar → Ar → Option (Int32 × Ar × Ar × Ar × Ar × Ar) := lpG (fun _ _ _ _ _ => none) (B_X6_layTries_76 m_state m_group m_isPair k67 v1)
set_option maxHeartbeats 4000000 in
set_option maxRecDepth 100000 in
theorem tl_X6_layTries_76 {x : Cxt} {am0 am1 am2 am3 am4 am5 am6 am7 am8 am9 am10 am11 am12 am13 am14 : Nat} {m_said : Int32} {m_state : Ar} {m_images : Ar} {m_isKept : Ar} {m_pad : Ar} {m_group : Ar} {m_isPair : Ar} {m_isOne : Ar} {m_order : Ar} {m_rest : Ar} {m_aside : Ar} {m_others : Ar} {k67 : Int32 → Int32 → Ar → Ar → Ar → Option (Int32 × Ar × Ar × Ar × Ar × Ar)} {v1 : Int32} {q_m_tries : Int32} {q_m_leftOf : Ar} {q_m_rightOf : Ar} {q_m_isApart : Ar} {q_m_group : Ar} {q_m_isPair : Ar} (C : CX RX6 cX6_layTries 3 none x) (hk67 : ∀ (w1 : Int32) (w_m_tries : Int32) (w_m_leftOf : Ar) (w_m_rightOf : Ar) (w_m_isApart : Ar), k67 w1 w_m_tries w_m_leftOf w_m_rightOf w_m_isApart = some (q_m_tries, q_m_leftOf, q_m_rightOf, q_m_isApart, q_m_group, q_m_isPair) → PT (RM 3 71) 3 x 67 [(0, .ref am0), (1, .int w1)] [] (V_M x.1.2.2 am0 am1 am2 am3 am4 am5 am6 am7 am8 am9 am10 am11 am12 am13 am14 m_said w_m_tries m_state m_images m_isKept m_pad w_m_leftOf w_m_rightOf w_m_isApart m_group m_isPair m_isOne m_order m_rest m_aside m_others) 0 0 (QV x (V_M x.1.2.2 am0 am1 am2 am3 am4 am5 am6 am7 am8 am9 am10 am11 am12 am13 am14 m_said q_m_tries m_state m_images m_isKept m_pad q_m_leftOf q_m_rightOf q_m_isApart q_m_group q_m_isPair m_isOne m_order m_rest m_aside m_others))) : ∀ (n : Nat) (v2 : Int32) (m_tries : Int32) (m_leftOf : Ar) (m_rightOf : Ar) (m_isApart : Ar), L_X6_layTries_76 m_state m_group m_isPair k67 v1 n v2 m_tries m_leftOf m_rightOf m_isApart = some (q_m_tries, q_m_leftOf, q_m_rightOf, q_m_isApart, q_m_group, q_m_isPair) → PT (RM 3 71) 3 x 76 [(0, .ref am0), (1, .int v1), (2, .int v2)] [] (V_M x.1.2.2 am0 am1 am2 am3 am4 am5 am6 am7 am8 am9 am10 am11 am12 am13 am14 m_said m_tries m_state m_images m_isKept m_pad m_leftOf m_rightOf m_isApart m_group m_isPair m_isOne m_order m_rest m_aside m_others) 0 0 (QV x (V_M x.1.2.2 am0 am1 am2 am3 am4 am5 am6 am7 am8 am9 am10 am11 am12 am13 am14 m_said q_m_tries m_state m_images m_isKept m_pad q_m_leftOf q_m_rightOf q_m_isApart q_m_group q_m_isPair m_isOne m_order m_rest m_aside m_others)) := by
  intro n
  induction n with
  | zero =>
    intro v2 m_tries m_leftOf m_rightOf m_isApart h
    cases h
  | succ n ih =>
    intro v2 m_tries m_leftOf m_rightOf m_isApart h
    have h : B_X6_layTries_76 m_state m_group m_isPair k67 v1 (L_X6_layTries_76 m_state m_group m_isPair k67 v1 n) v2 m_tries m_leftOf m_rightOf m_isApart = some (q_m_tries, q_m_leftOf, q_m_rightOf, q_m_isApart, q_m_group, q_m_isPair) := h
    unfold B_X6_layTries_76 at h
    refine p_iload_n C dX6_layTries_76 rfl 2 rfl ?_
    refine p_iconst (v := (4 : Int32)) C dX6_layTries_77 rfl (by decide) ?_
    refine p_icmp_ge C dX6_layTries_78 (tgt := 93) (by decide) rfl (fun c1 => ?_) (fun c1 => ?_)
    · have h := if_t c1 h
      refine p_iinc (w := v1 + 1) (lv' := [(1, .int (v1 + 1)), (0, .ref am0), (2, .int v2)]) C dX6_layTries_93 rfl 1 rfl rfl (by decide) rfl ?_
      refine p_goto C dX6_layTries_96 (pc' := 67) (by decide) ?_
      refine p_locals [1, 0] (lv' := [(0, .ref am0), (1, .int (v1 + 1))]) rfl ?_
      exact hk67 _ _ _ _ _ h
    · have h := if_f c1 h
      refine p_aload_n C dX6_layTries_81 rfl 0 rfl ?_
      refine p_iload_n C dX6_layTries_82 rfl 1 rfl ?_
      refine p_iload_n C dX6_layTries_83 rfl 2 rfl ?_
      obtain ⟨z_tries2, z_leftOf3, z_rightOf4, z_isApart5, hc6, h⟩ := bd4_of h
      refine p_callVv_s (As := [.int v1, .int v2]) (st' := []) (Wc' := (V_M x.1.2.2 am0 am1 am2 am3 am4 am5 am6 am7 am8 am9 am10 am11 am12 am13 am14 m_said z_tries2 m_state m_images m_isKept m_pad z_leftOf3 z_rightOf4 z_isApart5 m_group m_isPair m_isOne m_order m_rest m_aside m_others)) C (c_X6_layNeighbours x.1 (am0 := am0) (am1 := am1) (am2 := am2) (am3 := am3) (am4 := am4) (am5 := am5) (am6 := am6) (am7 := am7) (am8 := am8) (am9 := am9) (am10 := am10) (am11 := am11) (am12 := am12) (am13 := am13) (am14 := am14) (m_said := m_said) (m_images := m_images) (m_isKept := m_isKept) (m_pad := m_pad) (m_group := m_group) (m_isPair := m_isPair) (m_isOne := m_isOne) (m_order := m_order) (m_rest := m_rest) (m_aside := m_aside) (m_others := m_others) hc6) dX6_layTries_84 rfl ml_X6_95 kv_X6_layNeighbours ds_X6_layNeighbours ⟨rfl, rfl, by decide, by decide⟩ 0 rfl rfl rfl rfl (by decide) ⟨by decide, by decide⟩ ?_
      refine p_iinc (w := v2 + 1) (lv' := [(2, .int (v2 + 1)), (0, .ref am0), (1, .int v1)]) C dX6_layTries_87 rfl 2 rfl rfl (by decide) rfl ?_
      refine p_goto C dX6_layTries_90 (pc' := 76) (by decide) ?_
      refine p_locals [1, 2, 0] (lv' := [(0, .ref am0), (1, .int v1), (2, .int (v2 + 1))]) rfl ?_
      exact ih _ _ _ _ _ h
def B_X6_layTries_67 (m_state : Ar) (m_group : Ar) (m_isPair : Ar)   (kk : Int32 → Int32 → Ar → Ar → Ar → Option (Int32 × Ar × Ar × Ar × Ar × Ar)) (v1 : Int32) (m_tries : Int32) (m_leftOf : Ar) (m_rightOf : Ar) (m_isApart : Ar) : Option (Int32 × Ar × Ar × Ar × Ar × Ar) := if ((4 : Int32)) ≤ v1 then (some (m_tries, m_leftOf, m_rightOf, m_isApart, m_group, m_isPair)) else (L_X6_layTries_76 m_state m_group m_isPair kk v1 FU (v1 + ((1 : Int32))) m_tries m_leftOf m_rightOf m_isApart)
def L_X6_layTries_67 (m_state : Ar) (m_group : Ar) (m_isPair : Ar)   : Nat → Int32 → Int32 → Ar → Ar → Ar → Option (Int32 × Ar × Ar × Ar × Ar × Ar) := lpG (fun _ _ _ _ _ => none) (B_X6_layTries_67 m_state m_group m_isPair)
set_option maxHeartbeats 4000000 in
set_option maxRecDepth 100000 in
theorem tl_X6_layTries_67 {x : Cxt} {am0 am1 am2 am3 am4 am5 am6 am7 am8 am9 am10 am11 am12 am13 am14 : Nat} {m_said : Int32} {m_state : Ar} {m_images : Ar} {m_isKept : Ar} {m_pad : Ar} {m_group : Ar} {m_isPair : Ar} {m_isOne : Ar} {m_order : Ar} {m_rest : Ar} {m_aside : Ar} {m_others : Ar}   {q_m_tries : Int32} {q_m_leftOf : Ar} {q_m_rightOf : Ar} {q_m_isApart : Ar} {q_m_group : Ar} {q_m_isPair : Ar} (C : CX RX6 cX6_layTries 3 none x)  : ∀ (n : Nat) (v1 : Int32) (m_tries : Int32) (m_leftOf : Ar) (m_rightOf : Ar) (m_isApart : Ar), L_X6_layTries_67 m_state m_group m_isPair n v1 m_tries m_leftOf m_rightOf m_isApart = some (q_m_tries, q_m_leftOf, q_m_rightOf, q_m_isApart, q_m_group, q_m_isPair) → PT (RM 3 71) 3 x 67 [(0, .ref am0), (1, .int v1)] [] (V_M x.1.2.2 am0 am1 am2 am3 am4 am5 am6 am7 am8 am9 am10 am11 am12 am13 am14 m_said m_tries m_state m_images m_isKept m_pad m_leftOf m_rightOf m_isApart m_group m_isPair m_isOne m_order m_rest m_aside m_others) 0 0 (QV x (V_M x.1.2.2 am0 am1 am2 am3 am4 am5 am6 am7 am8 am9 am10 am11 am12 am13 am14 m_said q_m_tries m_state m_images m_isKept m_pad q_m_leftOf q_m_rightOf q_m_isApart q_m_group q_m_isPair m_isOne m_order m_rest m_aside m_others)) := by
  intro n
  induction n with
  | zero =>
    intro v1 m_tries m_leftOf m_rightOf m_isApart h
    cases h
  | succ n ih =>
    intro v1 m_tries m_leftOf m_rightOf m_isApart h
    have h : B_X6_layTries_67 m_state m_group m_isPair (L_X6_layTries_67 m_state m_group m_isPair n) v1 m_tries m_leftOf m_rightOf m_isApart = some (q_m_tries, q_m_leftOf, q_m_rightOf, q_m_isApart, q_m_group, q_m_isPair) := h
    unfold B_X6_layTries_67 at h
    refine p_iload_n C dX6_layTries_67 rfl 1 rfl ?_
    refine p_iconst (v := (4 : Int32)) C dX6_layTries_68 rfl (by decide) ?_
    refine p_icmp_ge C dX6_layTries_69 (tgt := 99) (by decide) rfl (fun c1 => ?_) (fun c1 => ?_)
    · have h := if_t c1 h
      cases h
      exact p_vret C dX6_layTries_99
    · have h := if_f c1 h
      refine p_iload_n C dX6_layTries_72 rfl 1 rfl ?_
      refine p_iconst (v := (1 : Int32)) C dX6_layTries_73 rfl (by decide) ?_
      refine p_iadd C dX6_layTries_74 rfl ?_
      refine p_istore_n (lv' := [(2, .int (v1 + ((1 : Int32)))), (0, .ref am0), (1, .int v1)]) C dX6_layTries_75 rfl (by decide) rfl ?_
      refine p_locals [1, 2, 0] (lv' := [(0, .ref am0), (1, .int v1), (2, .int (v1 + ((1 : Int32))))]) rfl ?_
      exact tl_X6_layTries_76 C (fun u0 u1 u2 u3 u4 h => ih u0 u1 u2 u3 u4 h) FU _ _ _ _ _ h
def B_X6_layTries_49 (m_state : Ar)   (kk : Int32 → Int32 → Ar → Ar → Ar → Ar → Ar → Option (Int32 × Ar × Ar × Ar × Ar × Ar)) (v1 : Int32) (m_tries : Int32) (m_leftOf : Ar) (m_rightOf : Ar) (m_isApart : Ar) (m_group : Ar) (m_isPair : Ar) : Option (Int32 × Ar × Ar × Ar × Ar × Ar) := if ((4 : Int32)) ≤ v1 then (L_X6_layTries_67 m_state m_group m_isPair FU ((0 : Int32)) m_tries m_leftOf m_rightOf m_isApart) else (bd6 (m_X6_layTree m_tries m_state m_leftOf m_rightOf m_isApart m_group m_isPair v1) (fun z_tries2 z_leftOf3 z_rightOf4 z_isApart5 z_group6 z_isPair7 => kk (v1 + 1) z_tries2 z_leftOf3 z_rightOf4 z_isApart5 z_group6 z_isPair7))
def L_X6_layTries_49 (m_state : Ar)   : Nat → Int32 → Int32 → Ar → Ar → Ar → Ar → Ar → Option (Int32 × Ar × Ar × Ar × Ar × Ar) := lpG (fun _ _ _ _ _ _ _ => none) (B_X6_layTries_49 m_state)
set_option maxHeartbeats 4000000 in
set_option maxRecDepth 100000 in
theorem tl_X6_layTries_49 {x : Cxt} {am0 am1 am2 am3 am4 am5 am6 am7 am8 am9 am10 am11 am12 am13 am14 : Nat} {m_said : Int32} {m_state : Ar} {m_images : Ar} {m_isKept : Ar} {m_pad : Ar} {m_isOne : Ar} {m_order : Ar} {m_rest : Ar} {m_aside : Ar} {m_others : Ar}   {q_m_tries : Int32} {q_m_leftOf : Ar} {q_m_rightOf : Ar} {q_m_isApart : Ar} {q_m_group : Ar} {q_m_isPair : Ar} (C : CX RX6 cX6_layTries 3 none x)  : ∀ (n : Nat) (v1 : Int32) (m_tries : Int32) (m_leftOf : Ar) (m_rightOf : Ar) (m_isApart : Ar) (m_group : Ar) (m_isPair : Ar), L_X6_layTries_49 m_state n v1 m_tries m_leftOf m_rightOf m_isApart m_group m_isPair = some (q_m_tries, q_m_leftOf, q_m_rightOf, q_m_isApart, q_m_group, q_m_isPair) → PT (RM 3 71) 3 x 49 [(0, .ref am0), (1, .int v1)] [] (V_M x.1.2.2 am0 am1 am2 am3 am4 am5 am6 am7 am8 am9 am10 am11 am12 am13 am14 m_said m_tries m_state m_images m_isKept m_pad m_leftOf m_rightOf m_isApart m_group m_isPair m_isOne m_order m_rest m_aside m_others) 0 0 (QV x (V_M x.1.2.2 am0 am1 am2 am3 am4 am5 am6 am7 am8 am9 am10 am11 am12 am13 am14 m_said q_m_tries m_state m_images m_isKept m_pad q_m_leftOf q_m_rightOf q_m_isApart q_m_group q_m_isPair m_isOne m_order m_rest m_aside m_others)) := by
  intro n
  induction n with
  | zero =>
    intro v1 m_tries m_leftOf m_rightOf m_isApart m_group m_isPair h
    cases h
  | succ n ih =>
    intro v1 m_tries m_leftOf m_rightOf m_isApart m_group m_isPair h
    have h : B_X6_layTries_49 m_state (L_X6_layTries_49 m_state n) v1 m_tries m_leftOf m_rightOf m_isApart m_group m_isPair = some (q_m_tries, q_m_leftOf, q_m_rightOf, q_m_isApart, q_m_group, q_m_isPair) := h
    unfold B_X6_layTries_49 at h
    refine p_iload_n C dX6_layTries_49 rfl 1 rfl ?_
    refine p_iconst (v := (4 : Int32)) C dX6_layTries_50 rfl (by decide) ?_
    refine p_icmp_ge C dX6_layTries_51 (tgt := 65) (by decide) rfl (fun c1 => ?_) (fun c1 => ?_)
    · have h := if_t c1 h
      refine p_iconst (v := (0 : Int32)) C dX6_layTries_65 rfl (by decide) ?_
      refine p_istore_n (lv' := [(1, .int ((0 : Int32))), (0, .ref am0)]) C dX6_layTries_66 rfl (by decide) rfl ?_
      refine p_locals [1, 0] (lv' := [(0, .ref am0), (1, .int ((0 : Int32)))]) rfl ?_
      exact tl_X6_layTries_67 C  FU _ _ _ _ _ h
    · have h := if_f c1 h
      refine p_aload_n C dX6_layTries_54 rfl 0 rfl ?_
      refine p_iload_n C dX6_layTries_55 rfl 1 rfl ?_
      obtain ⟨z_tries2, z_leftOf3, z_rightOf4, z_isApart5, z_group6, z_isPair7, hc8, h⟩ := bd6_of h
      refine p_callVv_s (As := [.int v1]) (st' := []) (Wc' := (V_M x.1.2.2 am0 am1 am2 am3 am4 am5 am6 am7 am8 am9 am10 am11 am12 am13 am14 m_said z_tries2 m_state m_images m_isKept m_pad z_leftOf3 z_rightOf4 z_isApart5 z_group6 z_isPair7 m_isOne m_order m_rest m_aside m_others)) C (c_X6_layTree x.1 (am0 := am0) (am1 := am1) (am2 := am2) (am3 := am3) (am4 := am4) (am5 := am5) (am6 := am6) (am7 := am7) (am8 := am8) (am9 := am9) (am10 := am10) (am11 := am11) (am12 := am12) (am13 := am13) (am14 := am14) (m_said := m_said) (m_images := m_images) (m_isKept := m_isKept) (m_pad := m_pad) (m_isOne := m_isOne) (m_order := m_order) (m_rest := m_rest) (m_aside := m_aside) (m_others := m_others) hc8) dX6_layTries_56 rfl ml_X6_91 kv_X6_layTree ds_X6_layTree ⟨rfl, rfl, by decide, by decide⟩ 0 rfl rfl rfl rfl (by decide) ⟨by decide, by decide⟩ ?_
      refine p_iinc (w := v1 + 1) (lv' := [(1, .int (v1 + 1)), (0, .ref am0)]) C dX6_layTries_59 rfl 1 rfl rfl (by decide) rfl ?_
      refine p_goto C dX6_layTries_62 (pc' := 49) (by decide) ?_
      refine p_locals [1, 0] (lv' := [(0, .ref am0), (1, .int (v1 + 1))]) rfl ?_
      exact ih _ _ _ _ _ _ _ h
def B_X6_layTries_28 (m_tries : Int32) (m_state : Ar) (m_leftOf : Ar) (m_rightOf : Ar) (m_isApart : Ar) (m_group : Ar)   (kk : Int32 → Ar → Option (Int32 × Ar × Ar × Ar × Ar × Ar)) (v1 : Int32) (m_isPair : Ar) : Option (Int32 × Ar × Ar × Ar × Ar × Ar) := if ((64 : Int32)) ≤ v1 then (L_X6_layTries_49 m_state FU ((0 : Int32)) m_tries m_leftOf m_rightOf m_isApart m_group m_isPair) else (grd (gI v1 64) (kk (v1 + 1) (upd m_isPair v1.toNatClampNeg ((0 : Int32)))))
def L_X6_layTries_28 (m_tries : Int32) (m_state : Ar) (m_leftOf : Ar) (m_rightOf : Ar) (m_isApart : Ar) (m_group : Ar)   : Nat → Int32 → Ar → Option (Int32 × Ar × Ar × Ar × Ar × Ar) := lpG (fun _ _ => none) (B_X6_layTries_28 m_tries m_state m_leftOf m_rightOf m_isApart m_group)
set_option maxHeartbeats 4000000 in
set_option maxRecDepth 100000 in
theorem tl_X6_layTries_28 {x : Cxt} {am0 am1 am2 am3 am4 am5 am6 am7 am8 am9 am10 am11 am12 am13 am14 : Nat} {m_said : Int32} {m_tries : Int32} {m_state : Ar} {m_images : Ar} {m_isKept : Ar} {m_pad : Ar} {m_leftOf : Ar} {m_rightOf : Ar} {m_isApart : Ar} {m_group : Ar} {m_isOne : Ar} {m_order : Ar} {m_rest : Ar} {m_aside : Ar} {m_others : Ar}   {q_m_tries : Int32} {q_m_leftOf : Ar} {q_m_rightOf : Ar} {q_m_isApart : Ar} {q_m_group : Ar} {q_m_isPair : Ar} (C : CX RX6 cX6_layTries 3 none x)  : ∀ (n : Nat) (v1 : Int32) (m_isPair : Ar), L_X6_layTries_28 m_tries m_state m_leftOf m_rightOf m_isApart m_group n v1 m_isPair = some (q_m_tries, q_m_leftOf, q_m_rightOf, q_m_isApart, q_m_group, q_m_isPair) → PT (RM 3 71) 3 x 28 [(0, .ref am0), (1, .int v1)] [] (V_M x.1.2.2 am0 am1 am2 am3 am4 am5 am6 am7 am8 am9 am10 am11 am12 am13 am14 m_said m_tries m_state m_images m_isKept m_pad m_leftOf m_rightOf m_isApart m_group m_isPair m_isOne m_order m_rest m_aside m_others) 0 0 (QV x (V_M x.1.2.2 am0 am1 am2 am3 am4 am5 am6 am7 am8 am9 am10 am11 am12 am13 am14 m_said q_m_tries m_state m_images m_isKept m_pad q_m_leftOf q_m_rightOf q_m_isApart q_m_group q_m_isPair m_isOne m_order m_rest m_aside m_others)) := by
  intro n
  induction n with
  | zero =>
    intro v1 m_isPair h
    cases h
  | succ n ih =>
    intro v1 m_isPair h
    have h : B_X6_layTries_28 m_tries m_state m_leftOf m_rightOf m_isApart m_group (L_X6_layTries_28 m_tries m_state m_leftOf m_rightOf m_isApart m_group n) v1 m_isPair = some (q_m_tries, q_m_leftOf, q_m_rightOf, q_m_isApart, q_m_group, q_m_isPair) := h
    unfold B_X6_layTries_28 at h
    refine p_iload_n C dX6_layTries_28 rfl 1 rfl ?_
    refine p_bipush (v := (64 : Int32)) C dX6_layTries_29 rfl (by decide) ?_
    refine p_icmp_ge C dX6_layTries_31 (tgt := 47) (by decide) rfl (fun c1 => ?_) (fun c1 => ?_)
    · have h := if_t c1 h
      refine p_iconst (v := (0 : Int32)) C dX6_layTries_47 rfl (by decide) ?_
      refine p_istore_n (lv' := [(1, .int ((0 : Int32))), (0, .ref am0)]) C dX6_layTries_48 rfl (by decide) rfl ?_
      refine p_locals [1, 0] (lv' := [(0, .ref am0), (1, .int ((0 : Int32)))]) rfl ?_
      exact tl_X6_layTries_49 C  FU _ _ _ _ _ _ _ h
    · have h := if_f c1 h
      refine p_aload_n C dX6_layTries_34 rfl 0 rfl ?_
      refine p_get C dX6_layTries_35 rfl 0 10 inlX6 fl_X6_35 rfl rfl (by decide) rfl rfl ?_
      refine p_iload_n C dX6_layTries_38 rfl 1 rfl ?_
      refine p_iconst (v := (0 : Int32)) C dX6_layTries_39 rfl (by decide) ?_
      obtain ⟨g2, h⟩ := grd_of h
      refine p_zast (Wd' := (V_M x.1.2.2 am0 am1 am2 am3 am4 am5 am6 am7 am8 am9 am10 am11 am12 am13 am14 m_said m_tries m_state m_images m_isKept m_pad m_leftOf m_rightOf m_isApart m_group (upd m_isPair v1.toNatClampNeg ((0 : Int32))) m_isOne m_order m_rest m_aside m_others)) C dX6_layTries_40 rfl 9 rfl g2 rfl ?_
      refine p_iinc (w := v1 + 1) (lv' := [(1, .int (v1 + 1)), (0, .ref am0)]) C dX6_layTries_41 rfl 1 rfl rfl (by decide) rfl ?_
      refine p_goto C dX6_layTries_44 (pc' := 28) (by decide) ?_
      refine p_locals [1, 0] (lv' := [(0, .ref am0), (1, .int (v1 + 1))]) rfl ?_
      exact ih _ _ h
def B_X6_layTries_7 (m_tries : Int32) (m_state : Ar) (m_leftOf : Ar) (m_rightOf : Ar) (m_isApart : Ar) (m_isPair : Ar)   (kk : Int32 → Ar → Option (Int32 × Ar × Ar × Ar × Ar × Ar)) (v1 : Int32) (m_group : Ar) : Option (Int32 × Ar × Ar × Ar × Ar × Ar) := if ((8 : Int32)) ≤ v1 then (L_X6_layTries_28 m_tries m_state m_leftOf m_rightOf m_isApart m_group FU ((0 : Int32)) m_isPair) else (grd (gI v1 8) (kk (v1 + 1) (upd m_group v1.toNatClampNeg v1)))
def L_X6_layTries_7 (m_tries : Int32) (m_state : Ar) (m_leftOf : Ar) (m_rightOf : Ar) (m_isApart : Ar) (m_isPair : Ar)   : Nat → Int32 → Ar → Option (Int32 × Ar × Ar × Ar × Ar × Ar) := lpG (fun _ _ => none) (B_X6_layTries_7 m_tries m_state m_leftOf m_rightOf m_isApart m_isPair)
set_option maxHeartbeats 4000000 in
set_option maxRecDepth 100000 in
theorem tl_X6_layTries_7 {x : Cxt} {am0 am1 am2 am3 am4 am5 am6 am7 am8 am9 am10 am11 am12 am13 am14 : Nat} {m_said : Int32} {m_tries : Int32} {m_state : Ar} {m_images : Ar} {m_isKept : Ar} {m_pad : Ar} {m_leftOf : Ar} {m_rightOf : Ar} {m_isApart : Ar} {m_isPair : Ar} {m_isOne : Ar} {m_order : Ar} {m_rest : Ar} {m_aside : Ar} {m_others : Ar}   {q_m_tries : Int32} {q_m_leftOf : Ar} {q_m_rightOf : Ar} {q_m_isApart : Ar} {q_m_group : Ar} {q_m_isPair : Ar} (C : CX RX6 cX6_layTries 3 none x)  : ∀ (n : Nat) (v1 : Int32) (m_group : Ar), L_X6_layTries_7 m_tries m_state m_leftOf m_rightOf m_isApart m_isPair n v1 m_group = some (q_m_tries, q_m_leftOf, q_m_rightOf, q_m_isApart, q_m_group, q_m_isPair) → PT (RM 3 71) 3 x 7 [(0, .ref am0), (1, .int v1)] [] (V_M x.1.2.2 am0 am1 am2 am3 am4 am5 am6 am7 am8 am9 am10 am11 am12 am13 am14 m_said m_tries m_state m_images m_isKept m_pad m_leftOf m_rightOf m_isApart m_group m_isPair m_isOne m_order m_rest m_aside m_others) 0 0 (QV x (V_M x.1.2.2 am0 am1 am2 am3 am4 am5 am6 am7 am8 am9 am10 am11 am12 am13 am14 m_said q_m_tries m_state m_images m_isKept m_pad q_m_leftOf q_m_rightOf q_m_isApart q_m_group q_m_isPair m_isOne m_order m_rest m_aside m_others)) := by
  intro n
  induction n with
  | zero =>
    intro v1 m_group h
    cases h
  | succ n ih =>
    intro v1 m_group h
    have h : B_X6_layTries_7 m_tries m_state m_leftOf m_rightOf m_isApart m_isPair (L_X6_layTries_7 m_tries m_state m_leftOf m_rightOf m_isApart m_isPair n) v1 m_group = some (q_m_tries, q_m_leftOf, q_m_rightOf, q_m_isApart, q_m_group, q_m_isPair) := h
    unfold B_X6_layTries_7 at h
    refine p_iload_n C dX6_layTries_7 rfl 1 rfl ?_
    refine p_bipush (v := (8 : Int32)) C dX6_layTries_8 rfl (by decide) ?_
    refine p_icmp_ge C dX6_layTries_10 (tgt := 26) (by decide) rfl (fun c1 => ?_) (fun c1 => ?_)
    · have h := if_t c1 h
      refine p_iconst (v := (0 : Int32)) C dX6_layTries_26 rfl (by decide) ?_
      refine p_istore_n (lv' := [(1, .int ((0 : Int32))), (0, .ref am0)]) C dX6_layTries_27 rfl (by decide) rfl ?_
      refine p_locals [1, 0] (lv' := [(0, .ref am0), (1, .int ((0 : Int32)))]) rfl ?_
      exact tl_X6_layTries_28 C  FU _ _ h
    · have h := if_f c1 h
      refine p_aload_n C dX6_layTries_13 rfl 0 rfl ?_
      refine p_get C dX6_layTries_14 rfl 0 9 inlX6 fl_X6_32 rfl rfl (by decide) rfl rfl ?_
      refine p_iload_n C dX6_layTries_17 rfl 1 rfl ?_
      refine p_iload_n C dX6_layTries_18 rfl 1 rfl ?_
      obtain ⟨g2, h⟩ := grd_of h
      refine p_iast (Wd' := (V_M x.1.2.2 am0 am1 am2 am3 am4 am5 am6 am7 am8 am9 am10 am11 am12 am13 am14 m_said m_tries m_state m_images m_isKept m_pad m_leftOf m_rightOf m_isApart (upd m_group v1.toNatClampNeg v1) m_isPair m_isOne m_order m_rest m_aside m_others)) C dX6_layTries_19 rfl 8 rfl g2 rfl ?_
      refine p_iinc (w := v1 + 1) (lv' := [(1, .int (v1 + 1)), (0, .ref am0)]) C dX6_layTries_20 rfl 1 rfl rfl (by decide) rfl ?_
      refine p_goto C dX6_layTries_23 (pc' := 7) (by decide) ?_
      refine p_locals [1, 0] (lv' := [(0, .ref am0), (1, .int (v1 + 1))]) rfl ?_
      exact ih _ _ h
def m_X6_layTries (m_tries : Int32) (m_state : Ar) (m_leftOf : Ar) (m_rightOf : Ar) (m_isApart : Ar) (m_group : Ar) (m_isPair : Ar)  : Option (Int32 × Ar × Ar × Ar × Ar × Ar) := L_X6_layTries_7 ((0 : Int32)) m_state m_leftOf m_rightOf m_isApart m_isPair FU ((0 : Int32)) m_group
theorem ds_X6_layTries : (yX6_layTries).cls ≠ "java/lang/invoke/MethodHandle" ∧ (yX6_layTries).cls ≠ "java/lang/invoke/VarHandle" ∧ (parseMethodDescriptor (yX6_layTries).desc).map (fun d => d.parameters.length) = some 0 := by decide +kernel
set_option maxHeartbeats 4000000 in
set_option maxRecDepth 100000 in
theorem c_X6_layTries (E : En) {am0 am1 am2 am3 am4 am5 am6 am7 am8 am9 am10 am11 am12 am13 am14 : Nat} {m_said : Int32} {m_tries : Int32} {m_state : Ar} {m_images : Ar} {m_isKept : Ar} {m_pad : Ar} {m_leftOf : Ar} {m_rightOf : Ar} {m_isApart : Ar} {m_group : Ar} {m_isPair : Ar} {m_isOne : Ar} {m_order : Ar} {m_rest : Ar} {m_aside : Ar} {m_others : Ar}  {q_m_tries : Int32} {q_m_leftOf : Ar} {q_m_rightOf : Ar} {q_m_isApart : Ar} {q_m_group : Ar} {q_m_isPair : Ar} (h : m_X6_layTries m_tries m_state m_leftOf m_rightOf m_isApart m_group m_isPair = some (q_m_tries, q_m_leftOf, q_m_rightOf, q_m_isApart, q_m_group, q_m_isPair)) : Cv E yX6_layTries (wU yX6_layTries cX6_layTries 3 none) (RM 3 71) [.ref am0] (V_M E.2.2 am0 am1 am2 am3 am4 am5 am6 am7 am8 am9 am10 am11 am12 am13 am14 m_said m_tries m_state m_images m_isKept m_pad m_leftOf m_rightOf m_isApart m_group m_isPair m_isOne m_order m_rest m_aside m_others) (V_M E.2.2 am0 am1 am2 am3 am4 am5 am6 am7 am8 am9 am10 am11 am12 am13 am14 m_said q_m_tries m_state m_images m_isKept m_pad q_m_leftOf q_m_rightOf q_m_isApart q_m_group q_m_isPair m_isOne m_order m_rest m_aside m_others) := by
  refine Cv.of (by decide) (Nat.le_of_ble_eq_true rfl) ?_
  intro x hE C
  subst hE
  have C : CX RX6 cX6_layTries 3 none x := C
  refine p_locals [0] (lv' := [(0, .ref am0)]) rfl ?_
  unfold m_X6_layTries at h
  refine p_aload_n C dX6_layTries_0 rfl 0 rfl ?_
  refine p_iconst (v := (0 : Int32)) C dX6_layTries_1 rfl (by decide) ?_
  refine p_put (Wd' := (V_M x.1.2.2 am0 am1 am2 am3 am4 am5 am6 am7 am8 am9 am10 am11 am12 am13 am14 m_said ((0 : Int32)) m_state m_images m_isKept m_pad m_leftOf m_rightOf m_isApart m_group m_isPair m_isOne m_order m_rest m_aside m_others)) (ty := .int) C dX6_layTries_2 rfl 0 8 inlX6 tyX6 tyX6_ok nmX6 fl_X6_72 rfl rfl (by decide) rfl rfl (by decide +kernel) rfl rfl (Nat.le_of_ble_eq_true rfl) rfl ?_
  refine p_iconst (v := (0 : Int32)) C dX6_layTries_5 rfl (by decide) ?_
  refine p_istore_n (lv' := [(1, .int ((0 : Int32))), (0, .ref am0)]) C dX6_layTries_6 rfl (by decide) rfl ?_
  refine p_locals [1, 0] (lv' := [(0, .ref am0), (1, .int ((0 : Int32)))]) rfl ?_
  exact tl_X6_layTries_7 C  FU _ _ h
def J_X6_pairOf_21   (e0 : Int32) (v2 : Int32) : Option (Int32) := if v2 = 0 then (some (e0 - ((1 : Int32)))) else (some (v2 + e0))
set_option maxHeartbeats 4000000 in
set_option maxRecDepth 100000 in
theorem tj_X6_pairOf_21 {x : Cxt}   {e0 : Int32} {v2 : Int32} {rr : Int32} (C : CX RX6 cX6_pairOf 4 (some .int) x)  (h : J_X6_pairOf_21 e0 v2 = some rr) : PT (RM 0 0) 4 x 21 [(2, .int v2)] [.int e0] ([] : va_W) 0 0 (QI x rr ([] : va_W)) := by
  unfold J_X6_pairOf_21 at h
  refine p_istore_n (lv' := [(3, .int e0), (2, .int v2)]) C dX6_pairOf_21 rfl (by decide) rfl ?_
  refine p_iload_n C dX6_pairOf_22 rfl 1 rfl ?_
  refine p_if_ne C dX6_pairOf_23 (tgt := 32) (by decide) rfl (fun c1 => ?_) (fun c1 => ?_)
  · have h := if_f c1 h
    refine p_iload_n C dX6_pairOf_32 rfl 1 rfl ?_
    refine p_iload_n C dX6_pairOf_33 rfl 0 rfl ?_
    refine p_iadd C dX6_pairOf_34 rfl ?_
    cases h
    exact p_iret C dX6_pairOf_35
  · have h := if_t c1 h
    refine p_iload_n C dX6_pairOf_26 rfl 0 rfl ?_
    refine p_iconst (v := (1 : Int32)) C dX6_pairOf_27 rfl (by decide) ?_
    refine p_isub C dX6_pairOf_28 rfl ?_
    refine p_goto C dX6_pairOf_29 (pc' := 35) (by decide) ?_
    cases h
    exact p_iret C dX6_pairOf_35
def J_X6_pairOf_10   (e0 : Int32) (v0 : Int32) (v1 : Int32) : Option (Int32) := if v1 ≤ v0 then (J_X6_pairOf_21 v0 e0) else (J_X6_pairOf_21 v1 e0)
set_option maxHeartbeats 4000000 in
set_option maxRecDepth 100000 in
theorem tj_X6_pairOf_10 {x : Cxt}   {e0 : Int32} {v0 : Int32} {v1 : Int32} {rr : Int32} (C : CX RX6 cX6_pairOf 4 (some .int) x)  (h : J_X6_pairOf_10 e0 v0 v1 = some rr) : PT (RM 0 0) 4 x 10 [(0, .int v0), (1, .int v1)] [.int e0] ([] : va_W) 0 0 (QI x rr ([] : va_W)) := by
  unfold J_X6_pairOf_10 at h
  refine p_istore_n (lv' := [(2, .int e0), (0, .int v0), (1, .int v1)]) C dX6_pairOf_10 rfl (by decide) rfl ?_
  refine p_iload_n C dX6_pairOf_11 rfl 1 rfl ?_
  refine p_iload_n C dX6_pairOf_12 rfl 2 rfl ?_
  refine p_icmp_ge C dX6_pairOf_13 (tgt := 20) (by decide) rfl (fun c1 => ?_) (fun c1 => ?_)
  · have h := if_t c1 h
    refine p_iload_n C dX6_pairOf_20 rfl 1 rfl ?_
    refine p_locals [0] (lv' := [(2, .int e0)]) rfl ?_
    exact tj_X6_pairOf_21 C  h
  · have h := if_f c1 h
    refine p_iload_n C dX6_pairOf_16 rfl 2 rfl ?_
    refine p_goto C dX6_pairOf_17 (pc' := 21) (by decide) ?_
    refine p_locals [0] (lv' := [(2, .int e0)]) rfl ?_
    exact tj_X6_pairOf_21 C  h
def m_X6_pairOf  (p0 : Int32) (p1 : Int32) : Option (Int32) := if p1 ≤ p0 then (J_X6_pairOf_10 p1 p0 p1) else (J_X6_pairOf_10 p0 p0 p1)
theorem ds_X6_pairOf : (yX6_pairOf).cls ≠ "java/lang/invoke/MethodHandle" ∧ (yX6_pairOf).cls ≠ "java/lang/invoke/VarHandle" ∧ (parseMethodDescriptor (yX6_pairOf).desc).map (fun d => d.parameters.length) = some 2 := by decide +kernel
set_option maxHeartbeats 4000000 in
set_option maxRecDepth 100000 in
theorem c_X6_pairOf (E : En)  {p0 : Int32} {p1 : Int32} {rr : Int32} (h : m_X6_pairOf p0 p1 = some rr) : Ci E yX6_pairOf (wU yX6_pairOf cX6_pairOf 4 (some .int)) (RM 0 0) [.int p0, .int p1] ([] : va_W) ([] : va_W) rr := by
  refine Ci.of (by decide) (Nat.le_of_ble_eq_true rfl) ?_
  intro x hE C
  subst hE
  have C : CX RX6 cX6_pairOf 4 (some .int) x := C
  refine p_locals [0, 1] (lv' := [(0, .int p0), (1, .int p1)]) rfl ?_
  unfold m_X6_pairOf at h
  refine p_iload_n C dX6_pairOf_0 rfl 0 rfl ?_
  refine p_iload_n C dX6_pairOf_1 rfl 1 rfl ?_
  refine p_icmp_ge C dX6_pairOf_2 (tgt := 9) (by decide) rfl (fun c1 => ?_) (fun c1 => ?_)
  · have h := if_t c1 h
    refine p_iload_n C dX6_pairOf_9 rfl 1 rfl ?_
    refine p_locals [0, 1] (lv' := [(0, .int p0), (1, .int p1)]) rfl ?_
    exact tj_X6_pairOf_10 C  h
  · have h := if_f c1 h
    refine p_iload_n C dX6_pairOf_5 rfl 0 rfl ?_
    refine p_goto C dX6_pairOf_6 (pc' := 10) (by decide) ?_
    refine p_locals [0, 1] (lv' := [(0, .int p0), (1, .int p1)]) rfl ?_
    exact tj_X6_pairOf_10 C  h
def J_X6_layOnes_119 (m_state : Ar) (m_isOne : Ar) (k64 : Int32 → Ar → Option (Ar)) (k57 : Int32 → Ar → Option (Ar)) (e0 : Int32) (e1 : Int32) (v1 : Int32) (v2 : Int32) : Option (Ar) := grd (gI e1 16) (k64 (v2 + 1) (upd m_isOne e1.toNatClampNeg (vp_nar .boolean e0)))
set_option maxHeartbeats 4000000 in
set_option maxRecDepth 100000 in
theorem tj_X6_layOnes_119 {x : Cxt} {am0 am1 am2 am3 am4 am5 am6 am7 am8 am9 am10 am11 am12 am13 am14 : Nat} {m_said : Int32} {m_tries : Int32} {m_state : Ar} {m_images : Ar} {m_isKept : Ar} {m_pad : Ar} {m_leftOf : Ar} {m_rightOf : Ar} {m_isApart : Ar} {m_group : Ar} {m_isPair : Ar} {m_isOne : Ar} {m_order : Ar} {m_rest : Ar} {m_aside : Ar} {m_others : Ar} {k64 : Int32 → Ar → Option (Ar)} {k57 : Int32 → Ar → Option (Ar)} {e0 : Int32} {e1 : Int32} {v1 : Int32} {v2 : Int32} {q_m_isOne : Ar} (C : CX RX6 cX6_layOnes 3 none x) (hk64 : ∀ (w2 : Int32) (w_m_isOne : Ar), k64 w2 w_m_isOne = some q_m_isOne → PT (RM 1 23) 3 x 64 [(0, .ref am0), (1, .int v1), (2, .int w2)] [] (V_M x.1.2.2 am0 am1 am2 am3 am4 am5 am6 am7 am8 am9 am10 am11 am12 am13 am14 m_said m_tries m_state m_images m_isKept m_pad m_leftOf m_rightOf m_isApart m_group m_isPair w_m_isOne m_order m_rest m_aside m_others) 0 0 (QV x (V_M x.1.2.2 am0 am1 am2 am3 am4 am5 am6 am7 am8 am9 am10 am11 am12 am13 am14 m_said m_tries m_state m_images m_isKept m_pad m_leftOf m_rightOf m_isApart m_group m_isPair q_m_isOne m_order m_rest m_aside m_others))) (hk57 : ∀ (w1 : Int32) (w_m_isOne : Ar), k57 w1 w_m_isOne = some q_m_isOne → PT (RM 1 23) 3 x 57 [(0, .ref am0), (1, .int w1)] [] (V_M x.1.2.2 am0 am1 am2 am3 am4 am5 am6 am7 am8 am9 am10 am11 am12 am13 am14 m_said m_tries m_state m_images m_isKept m_pad m_leftOf m_rightOf m_isApart m_group m_isPair w_m_isOne m_order m_rest m_aside m_others) 0 0 (QV x (V_M x.1.2.2 am0 am1 am2 am3 am4 am5 am6 am7 am8 am9 am10 am11 am12 am13 am14 m_said m_tries m_state m_images m_isKept m_pad m_leftOf m_rightOf m_isApart m_group m_isPair q_m_isOne m_order m_rest m_aside m_others))) (h : J_X6_layOnes_119 m_state m_isOne k64 k57 e0 e1 v1 v2 = some q_m_isOne) : PT (RM 1 23) 3 x 119 [(0, .ref am0), (1, .int v1), (2, .int v2)] [.int e0, .int e1, .ref am10] (V_M x.1.2.2 am0 am1 am2 am3 am4 am5 am6 am7 am8 am9 am10 am11 am12 am13 am14 m_said m_tries m_state m_images m_isKept m_pad m_leftOf m_rightOf m_isApart m_group m_isPair m_isOne m_order m_rest m_aside m_others) 0 0 (QV x (V_M x.1.2.2 am0 am1 am2 am3 am4 am5 am6 am7 am8 am9 am10 am11 am12 am13 am14 m_said m_tries m_state m_images m_isKept m_pad m_leftOf m_rightOf m_isApart m_group m_isPair q_m_isOne m_order m_rest m_aside m_others)) := by
  unfold J_X6_layOnes_119 at h
  obtain ⟨g1, h⟩ := grd_of h
  refine p_zast (Wd' := (V_M x.1.2.2 am0 am1 am2 am3 am4 am5 am6 am7 am8 am9 am10 am11 am12 am13 am14 m_said m_tries m_state m_images m_isKept m_pad m_leftOf m_rightOf m_isApart m_group m_isPair (upd m_isOne e1.toNatClampNeg (vp_nar .boolean e0)) m_order m_rest m_aside m_others)) C dX6_layOnes_119 rfl 10 rfl g1 rfl ?_
  refine p_iinc (w := v2 + 1) (lv' := [(2, .int (v2 + 1)), (0, .ref am0), (1, .int v1)]) C dX6_layOnes_120 rfl 2 rfl rfl (by decide) rfl ?_
  refine p_goto C dX6_layOnes_123 (pc' := 64) (by decide) ?_
  refine p_locals [1, 2, 0] (lv' := [(0, .ref am0), (1, .int v1), (2, .int (v2 + 1))]) rfl ?_
  exact hk64 _ _ h
def J_X6_layOnes_118 (m_state : Ar) (m_isOne : Ar) (k64 : Int32 → Ar → Option (Ar)) (k57 : Int32 → Ar → Option (Ar)) (e0 : Int32) (v1 : Int32) (v2 : Int32) : Option (Ar) := J_X6_layOnes_119 m_state m_isOne (k64) (k57) ((0 : Int32)) e0 v1 v2
set_option maxHeartbeats 4000000 in
set_option maxRecDepth 100000 in
theorem tj_X6_layOnes_118 {x : Cxt} {am0 am1 am2 am3 am4 am5 am6 am7 am8 am9 am10 am11 am12 am13 am14 : Nat} {m_said : Int32} {m_tries : Int32} {m_state : Ar} {m_images : Ar} {m_isKept : Ar} {m_pad : Ar} {m_leftOf : Ar} {m_rightOf : Ar} {m_isApart : Ar} {m_group : Ar} {m_isPair : Ar} {m_isOne : Ar} {m_order : Ar} {m_rest : Ar} {m_aside : Ar} {m_others : Ar} {k64 : Int32 → Ar → Option (Ar)} {k57 : Int32 → Ar → Option (Ar)} {e0 : Int32} {v1 : Int32} {v2 : Int32} {q_m_isOne : Ar} (C : CX RX6 cX6_layOnes 3 none x) (hk64 : ∀ (w2 : Int32) (w_m_isOne : Ar), k64 w2 w_m_isOne = some q_m_isOne → PT (RM 1 23) 3 x 64 [(0, .ref am0), (1, .int v1), (2, .int w2)] [] (V_M x.1.2.2 am0 am1 am2 am3 am4 am5 am6 am7 am8 am9 am10 am11 am12 am13 am14 m_said m_tries m_state m_images m_isKept m_pad m_leftOf m_rightOf m_isApart m_group m_isPair w_m_isOne m_order m_rest m_aside m_others) 0 0 (QV x (V_M x.1.2.2 am0 am1 am2 am3 am4 am5 am6 am7 am8 am9 am10 am11 am12 am13 am14 m_said m_tries m_state m_images m_isKept m_pad m_leftOf m_rightOf m_isApart m_group m_isPair q_m_isOne m_order m_rest m_aside m_others))) (hk57 : ∀ (w1 : Int32) (w_m_isOne : Ar), k57 w1 w_m_isOne = some q_m_isOne → PT (RM 1 23) 3 x 57 [(0, .ref am0), (1, .int w1)] [] (V_M x.1.2.2 am0 am1 am2 am3 am4 am5 am6 am7 am8 am9 am10 am11 am12 am13 am14 m_said m_tries m_state m_images m_isKept m_pad m_leftOf m_rightOf m_isApart m_group m_isPair w_m_isOne m_order m_rest m_aside m_others) 0 0 (QV x (V_M x.1.2.2 am0 am1 am2 am3 am4 am5 am6 am7 am8 am9 am10 am11 am12 am13 am14 m_said m_tries m_state m_images m_isKept m_pad m_leftOf m_rightOf m_isApart m_group m_isPair q_m_isOne m_order m_rest m_aside m_others))) (h : J_X6_layOnes_118 m_state m_isOne k64 k57 e0 v1 v2 = some q_m_isOne) : PT (RM 1 23) 3 x 118 [(0, .ref am0), (1, .int v1), (2, .int v2)] [.int e0, .ref am10] (V_M x.1.2.2 am0 am1 am2 am3 am4 am5 am6 am7 am8 am9 am10 am11 am12 am13 am14 m_said m_tries m_state m_images m_isKept m_pad m_leftOf m_rightOf m_isApart m_group m_isPair m_isOne m_order m_rest m_aside m_others) 0 0 (QV x (V_M x.1.2.2 am0 am1 am2 am3 am4 am5 am6 am7 am8 am9 am10 am11 am12 am13 am14 m_said m_tries m_state m_images m_isKept m_pad m_leftOf m_rightOf m_isApart m_group m_isPair q_m_isOne m_order m_rest m_aside m_others)) := by
  unfold J_X6_layOnes_118 at h
  refine p_iconst (v := (0 : Int32)) C dX6_layOnes_118 rfl (by decide) ?_
  refine p_locals [0, 1, 2] (lv' := [(0, .ref am0), (1, .int v1), (2, .int v2)]) rfl ?_
  exact tj_X6_layOnes_119 C (fun u0 u1 h => hk64 u0 u1 h) (fun u0 u1 h => hk57 u0 u1 h) h
def J_X6_layOnes_114 (m_state : Ar) (m_isOne : Ar) (k64 : Int32 → Ar → Option (Ar)) (k57 : Int32 → Ar → Option (Ar)) (e0 : Int32) (v1 : Int32) (v2 : Int32) : Option (Ar) := J_X6_layOnes_119 m_state m_isOne (k64) (k57) ((1 : Int32)) e0 v1 v2
set_option maxHeartbeats 4000000 in
set_option maxRecDepth 100000 in
theorem tj_X6_layOnes_114 {x : Cxt} {am0 am1 am2 am3 am4 am5 am6 am7 am8 am9 am10 am11 am12 am13 am14 : Nat} {m_said : Int32} {m_tries : Int32} {m_state : Ar} {m_images : Ar} {m_isKept : Ar} {m_pad : Ar} {m_leftOf : Ar} {m_rightOf : Ar} {m_isApart : Ar} {m_group : Ar} {m_isPair : Ar} {m_isOne : Ar} {m_order : Ar} {m_rest : Ar} {m_aside : Ar} {m_others : Ar} {k64 : Int32 → Ar → Option (Ar)} {k57 : Int32 → Ar → Option (Ar)} {e0 : Int32} {v1 : Int32} {v2 : Int32} {q_m_isOne : Ar} (C : CX RX6 cX6_layOnes 3 none x) (hk64 : ∀ (w2 : Int32) (w_m_isOne : Ar), k64 w2 w_m_isOne = some q_m_isOne → PT (RM 1 23) 3 x 64 [(0, .ref am0), (1, .int v1), (2, .int w2)] [] (V_M x.1.2.2 am0 am1 am2 am3 am4 am5 am6 am7 am8 am9 am10 am11 am12 am13 am14 m_said m_tries m_state m_images m_isKept m_pad m_leftOf m_rightOf m_isApart m_group m_isPair w_m_isOne m_order m_rest m_aside m_others) 0 0 (QV x (V_M x.1.2.2 am0 am1 am2 am3 am4 am5 am6 am7 am8 am9 am10 am11 am12 am13 am14 m_said m_tries m_state m_images m_isKept m_pad m_leftOf m_rightOf m_isApart m_group m_isPair q_m_isOne m_order m_rest m_aside m_others))) (hk57 : ∀ (w1 : Int32) (w_m_isOne : Ar), k57 w1 w_m_isOne = some q_m_isOne → PT (RM 1 23) 3 x 57 [(0, .ref am0), (1, .int w1)] [] (V_M x.1.2.2 am0 am1 am2 am3 am4 am5 am6 am7 am8 am9 am10 am11 am12 am13 am14 m_said m_tries m_state m_images m_isKept m_pad m_leftOf m_rightOf m_isApart m_group m_isPair w_m_isOne m_order m_rest m_aside m_others) 0 0 (QV x (V_M x.1.2.2 am0 am1 am2 am3 am4 am5 am6 am7 am8 am9 am10 am11 am12 am13 am14 m_said m_tries m_state m_images m_isKept m_pad m_leftOf m_rightOf m_isApart m_group m_isPair q_m_isOne m_order m_rest m_aside m_others))) (h : J_X6_layOnes_114 m_state m_isOne k64 k57 e0 v1 v2 = some q_m_isOne) : PT (RM 1 23) 3 x 114 [(0, .ref am0), (1, .int v1), (2, .int v2)] [.int e0, .ref am10] (V_M x.1.2.2 am0 am1 am2 am3 am4 am5 am6 am7 am8 am9 am10 am11 am12 am13 am14 m_said m_tries m_state m_images m_isKept m_pad m_leftOf m_rightOf m_isApart m_group m_isPair m_isOne m_order m_rest m_aside m_others) 0 0 (QV x (V_M x.1.2.2 am0 am1 am2 am3 am4 am5 am6 am7 am8 am9 am10 am11 am12 am13 am14 m_said m_tries m_state m_images m_isKept m_pad m_leftOf m_rightOf m_isApart m_group m_isPair q_m_isOne m_order m_rest m_aside m_others)) := by
  unfold J_X6_layOnes_114 at h
  refine p_iconst (v := (1 : Int32)) C dX6_layOnes_114 rfl (by decide) ?_
  refine p_goto C dX6_layOnes_115 (pc' := 119) (by decide) ?_
  refine p_locals [0, 1, 2] (lv' := [(0, .ref am0), (1, .int v1), (2, .int v2)]) rfl ?_
  exact tj_X6_layOnes_119 C (fun u0 u1 h => hk64 u0 u1 h) (fun u0 u1 h => hk57 u0 u1 h) h
def B_X6_layOnes_64 (m_state : Ar) (k57 : Int32 → Ar → Option (Ar)) (v1 : Int32) (kk : Int32 → Ar → Option (Ar)) (v2 : Int32) (m_isOne : Ar) : Option (Ar) := if ((16 : Int32)) ≤ v2 then (k57 (v1 + 1) m_isOne) else (grd (gI v2 16) (if (m_isOne v2.toNatClampNeg) = 0 then (grd (gI ((((4 : Int32)) * (v2 / ((4 : Int32)))) + v1) 16) (if (m_isOne ((((4 : Int32)) * (v2 / ((4 : Int32)))) + v1).toNatClampNeg) = 0 then (J_X6_layOnes_118 m_state m_isOne (kk) (k57) v2 v1 v2) else (grd (gI ((((4 : Int32)) * v1) + (v2 - v2 / ((4 : Int32)) * ((4 : Int32)))) 16) (if (m_isOne ((((4 : Int32)) * v1) + (v2 - v2 / ((4 : Int32)) * ((4 : Int32)))).toNatClampNeg) = 0 then (J_X6_layOnes_118 m_state m_isOne (kk) (k57) v2 v1 v2) else (J_X6_layOnes_114 m_state m_isOne (kk) (k57) v2 v1 v2))))) else (J_X6_layOnes_114 m_state m_isOne (kk) (k57) v2 v1 v2)))
def L_X6_layOnes_64 (m_state : Ar) (k57 : Int32 → Ar → Option (Ar)) (v1 : Int32) : Nat → Int32 → Ar → Option (Ar) := lpG (fun _ _ => none) (B_X6_layOnes_64 m_state k57 v1)
set_option maxHeartbeats 4000000 in
set_option maxRecDepth 100000 in
theorem tl_X6_layOnes_64 {x : Cxt} {am0 am1 am2 am3 am4 am5 am6 am7 am8 am9 am10 am11 am12 am13 am14 : Nat} {m_said : Int32} {m_tries : Int32} {m_state : Ar} {m_images : Ar} {m_isKept : Ar} {m_pad : Ar} {m_leftOf : Ar} {m_rightOf : Ar} {m_isApart : Ar} {m_group : Ar} {m_isPair : Ar} {m_order : Ar} {m_rest : Ar} {m_aside : Ar} {m_others : Ar} {k57 : Int32 → Ar → Option (Ar)} {v1 : Int32} {q_m_isOne : Ar} (C : CX RX6 cX6_layOnes 3 none x) (hk57 : ∀ (w1 : Int32) (w_m_isOne : Ar), k57 w1 w_m_isOne = some q_m_isOne → PT (RM 1 23) 3 x 57 [(0, .ref am0), (1, .int w1)] [] (V_M x.1.2.2 am0 am1 am2 am3 am4 am5 am6 am7 am8 am9 am10 am11 am12 am13 am14 m_said m_tries m_state m_images m_isKept m_pad m_leftOf m_rightOf m_isApart m_group m_isPair w_m_isOne m_order m_rest m_aside m_others) 0 0 (QV x (V_M x.1.2.2 am0 am1 am2 am3 am4 am5 am6 am7 am8 am9 am10 am11 am12 am13 am14 m_said m_tries m_state m_images m_isKept m_pad m_leftOf m_rightOf m_isApart m_group m_isPair q_m_isOne m_order m_rest m_aside m_others))) : ∀ (n : Nat) (v2 : Int32) (m_isOne : Ar), L_X6_layOnes_64 m_state k57 v1 n v2 m_isOne = some q_m_isOne → PT (RM 1 23) 3 x 64 [(0, .ref am0), (1, .int v1), (2, .int v2)] [] (V_M x.1.2.2 am0 am1 am2 am3 am4 am5 am6 am7 am8 am9 am10 am11 am12 am13 am14 m_said m_tries m_state m_images m_isKept m_pad m_leftOf m_rightOf m_isApart m_group m_isPair m_isOne m_order m_rest m_aside m_others) 0 0 (QV x (V_M x.1.2.2 am0 am1 am2 am3 am4 am5 am6 am7 am8 am9 am10 am11 am12 am13 am14 m_said m_tries m_state m_images m_isKept m_pad m_leftOf m_rightOf m_isApart m_group m_isPair q_m_isOne m_order m_rest m_aside m_others)) := by
  intro n
  induction n with
  | zero =>
    intro v2 m_isOne h
    cases h
  | succ n ih =>
    intro v2 m_isOne h
    have h : B_X6_layOnes_64 m_state k57 v1 (L_X6_layOnes_64 m_state k57 v1 n) v2 m_isOne = some q_m_isOne := h
    unfold B_X6_layOnes_64 at h
    refine p_iload_n C dX6_layOnes_64 rfl 2 rfl ?_
    refine p_bipush (v := (16 : Int32)) C dX6_layOnes_65 rfl (by decide) ?_
    refine p_icmp_ge C dX6_layOnes_67 (tgt := 126) (by decide) rfl (fun c1 => ?_) (fun c1 => ?_)
    · have h := if_t c1 h
      refine p_iinc (w := v1 + 1) (lv' := [(1, .int (v1 + 1)), (0, .ref am0), (2, .int v2)]) C dX6_layOnes_126 rfl 1 rfl rfl (by decide) rfl ?_
      refine p_goto C dX6_layOnes_129 (pc' := 57) (by decide) ?_
      refine p_locals [1, 0] (lv' := [(0, .ref am0), (1, .int (v1 + 1))]) rfl ?_
      exact hk57 _ _ h
    · have h := if_f c1 h
      refine p_aload_n C dX6_layOnes_70 rfl 0 rfl ?_
      refine p_get C dX6_layOnes_71 rfl 0 11 inlX6 fl_X6_38 rfl rfl (by decide) rfl rfl ?_
      refine p_iload_n C dX6_layOnes_74 rfl 2 rfl ?_
      refine p_aload_n C dX6_layOnes_75 rfl 0 rfl ?_
      refine p_get C dX6_layOnes_76 rfl 0 11 inlX6 fl_X6_38 rfl rfl (by decide) rfl rfl ?_
      refine p_iload_n C dX6_layOnes_79 rfl 2 rfl ?_
      obtain ⟨g2, h⟩ := grd_of h
      refine p_zald C dX6_layOnes_80 rfl 10 rfl g2 ?_
      refine p_if_ne C dX6_layOnes_81 (tgt := 114) (by decide) rfl (fun c3 => ?_) (fun c3 => ?_)
      · have h := if_f c3 h
        refine p_locals [0, 1, 2] (lv' := [(0, .ref am0), (1, .int v1), (2, .int v2)]) rfl ?_
        exact tj_X6_layOnes_114 C (fun u0 u1 h => ih u0 u1 h) (fun u0 u1 h => hk57 u0 u1 h) h
      · have h := if_t c3 h
        refine p_aload_n C dX6_layOnes_84 rfl 0 rfl ?_
        refine p_get C dX6_layOnes_85 rfl 0 11 inlX6 fl_X6_38 rfl rfl (by decide) rfl rfl ?_
        refine p_iconst (v := (4 : Int32)) C dX6_layOnes_88 rfl (by decide) ?_
        refine p_iload_n C dX6_layOnes_89 rfl 2 rfl ?_
        refine p_iconst (v := (4 : Int32)) C dX6_layOnes_90 rfl (by decide) ?_
        refine p_idiv C dX6_layOnes_91 rfl (by decide) ?_
        refine p_imul C dX6_layOnes_92 rfl ?_
        refine p_iload_n C dX6_layOnes_93 rfl 1 rfl ?_
        refine p_iadd C dX6_layOnes_94 rfl ?_
        obtain ⟨g4, h⟩ := grd_of h
        refine p_zald C dX6_layOnes_95 rfl 10 rfl g4 ?_
        refine p_if_eq C dX6_layOnes_96 (tgt := 118) (by decide) rfl (fun c5 => ?_) (fun c5 => ?_)
        · have h := if_t c5 h
          refine p_locals [0, 1, 2] (lv' := [(0, .ref am0), (1, .int v1), (2, .int v2)]) rfl ?_
          exact tj_X6_layOnes_118 C (fun u0 u1 h => ih u0 u1 h) (fun u0 u1 h => hk57 u0 u1 h) h
        · have h := if_f c5 h
          refine p_aload_n C dX6_layOnes_99 rfl 0 rfl ?_
          refine p_get C dX6_layOnes_100 rfl 0 11 inlX6 fl_X6_38 rfl rfl (by decide) rfl rfl ?_
          refine p_iconst (v := (4 : Int32)) C dX6_layOnes_103 rfl (by decide) ?_
          refine p_iload_n C dX6_layOnes_104 rfl 1 rfl ?_
          refine p_imul C dX6_layOnes_105 rfl ?_
          refine p_iload_n C dX6_layOnes_106 rfl 2 rfl ?_
          refine p_iconst (v := (4 : Int32)) C dX6_layOnes_107 rfl (by decide) ?_
          refine p_irem C dX6_layOnes_108 rfl (by decide) ?_
          refine p_iadd C dX6_layOnes_109 rfl ?_
          obtain ⟨g6, h⟩ := grd_of h
          refine p_zald C dX6_layOnes_110 rfl 10 rfl g6 ?_
          refine p_if_eq C dX6_layOnes_111 (tgt := 118) (by decide) rfl (fun c7 => ?_) (fun c7 => ?_)
          · have h := if_t c7 h
            refine p_locals [0, 1, 2] (lv' := [(0, .ref am0), (1, .int v1), (2, .int v2)]) rfl ?_
            exact tj_X6_layOnes_118 C (fun u0 u1 h => ih u0 u1 h) (fun u0 u1 h => hk57 u0 u1 h) h
          · have h := if_f c7 h
            refine p_locals [0, 1, 2] (lv' := [(0, .ref am0), (1, .int v1), (2, .int v2)]) rfl ?_
            exact tj_X6_layOnes_114 C (fun u0 u1 h => ih u0 u1 h) (fun u0 u1 h => hk57 u0 u1 h) h
def B_X6_layOnes_57 (m_state : Ar)   (kk : Int32 → Ar → Option (Ar)) (v1 : Int32) (m_isOne : Ar) : Option (Ar) := if ((4 : Int32)) ≤ v1 then (some m_isOne) else (L_X6_layOnes_64 m_state kk v1 FU ((0 : Int32)) m_isOne)
def L_X6_layOnes_57 (m_state : Ar)   : Nat → Int32 → Ar → Option (Ar) := lpG (fun _ _ => none) (B_X6_layOnes_57 m_state)
set_option maxHeartbeats 4000000 in
set_option maxRecDepth 100000 in
theorem tl_X6_layOnes_57 {x : Cxt} {am0 am1 am2 am3 am4 am5 am6 am7 am8 am9 am10 am11 am12 am13 am14 : Nat} {m_said : Int32} {m_tries : Int32} {m_state : Ar} {m_images : Ar} {m_isKept : Ar} {m_pad : Ar} {m_leftOf : Ar} {m_rightOf : Ar} {m_isApart : Ar} {m_group : Ar} {m_isPair : Ar} {m_order : Ar} {m_rest : Ar} {m_aside : Ar} {m_others : Ar}   {q_m_isOne : Ar} (C : CX RX6 cX6_layOnes 3 none x)  : ∀ (n : Nat) (v1 : Int32) (m_isOne : Ar), L_X6_layOnes_57 m_state n v1 m_isOne = some q_m_isOne → PT (RM 1 23) 3 x 57 [(0, .ref am0), (1, .int v1)] [] (V_M x.1.2.2 am0 am1 am2 am3 am4 am5 am6 am7 am8 am9 am10 am11 am12 am13 am14 m_said m_tries m_state m_images m_isKept m_pad m_leftOf m_rightOf m_isApart m_group m_isPair m_isOne m_order m_rest m_aside m_others) 0 0 (QV x (V_M x.1.2.2 am0 am1 am2 am3 am4 am5 am6 am7 am8 am9 am10 am11 am12 am13 am14 m_said m_tries m_state m_images m_isKept m_pad m_leftOf m_rightOf m_isApart m_group m_isPair q_m_isOne m_order m_rest m_aside m_others)) := by
  intro n
  induction n with
  | zero =>
    intro v1 m_isOne h
    cases h
  | succ n ih =>
    intro v1 m_isOne h
    have h : B_X6_layOnes_57 m_state (L_X6_layOnes_57 m_state n) v1 m_isOne = some q_m_isOne := h
    unfold B_X6_layOnes_57 at h
    refine p_iload_n C dX6_layOnes_57 rfl 1 rfl ?_
    refine p_iconst (v := (4 : Int32)) C dX6_layOnes_58 rfl (by decide) ?_
    refine p_icmp_ge C dX6_layOnes_59 (tgt := 132) (by decide) rfl (fun c1 => ?_) (fun c1 => ?_)
    · have h := if_t c1 h
      cases h
      exact p_vret C dX6_layOnes_132
    · have h := if_f c1 h
      refine p_iconst (v := (0 : Int32)) C dX6_layOnes_62 rfl (by decide) ?_
      refine p_istore_n (lv' := [(2, .int ((0 : Int32))), (0, .ref am0), (1, .int v1)]) C dX6_layOnes_63 rfl (by decide) rfl ?_
      refine p_locals [1, 2, 0] (lv' := [(0, .ref am0), (1, .int v1), (2, .int ((0 : Int32)))]) rfl ?_
      exact tl_X6_layOnes_64 C (fun u0 u1 h => ih u0 u1 h) FU _ _ h
def J_X6_layOnes_48 (m_state : Ar) (m_isOne : Ar) (k2 : Int32 → Ar → Option (Ar)) (e0 : Int32) (e1 : Int32) (v1 : Int32) : Option (Ar) := grd (gI e1 16) (k2 (v1 + 1) (upd m_isOne e1.toNatClampNeg (vp_nar .boolean e0)))
set_option maxHeartbeats 4000000 in
set_option maxRecDepth 100000 in
theorem tj_X6_layOnes_48 {x : Cxt} {am0 am1 am2 am3 am4 am5 am6 am7 am8 am9 am10 am11 am12 am13 am14 : Nat} {m_said : Int32} {m_tries : Int32} {m_state : Ar} {m_images : Ar} {m_isKept : Ar} {m_pad : Ar} {m_leftOf : Ar} {m_rightOf : Ar} {m_isApart : Ar} {m_group : Ar} {m_isPair : Ar} {m_isOne : Ar} {m_order : Ar} {m_rest : Ar} {m_aside : Ar} {m_others : Ar} {k2 : Int32 → Ar → Option (Ar)} {e0 : Int32} {e1 : Int32} {v1 : Int32} {q_m_isOne : Ar} (C : CX RX6 cX6_layOnes 3 none x) (hk2 : ∀ (w1 : Int32) (w_m_isOne : Ar), k2 w1 w_m_isOne = some q_m_isOne → PT (RM 1 23) 3 x 2 [(0, .ref am0), (1, .int w1)] [] (V_M x.1.2.2 am0 am1 am2 am3 am4 am5 am6 am7 am8 am9 am10 am11 am12 am13 am14 m_said m_tries m_state m_images m_isKept m_pad m_leftOf m_rightOf m_isApart m_group m_isPair w_m_isOne m_order m_rest m_aside m_others) 0 0 (QV x (V_M x.1.2.2 am0 am1 am2 am3 am4 am5 am6 am7 am8 am9 am10 am11 am12 am13 am14 m_said m_tries m_state m_images m_isKept m_pad m_leftOf m_rightOf m_isApart m_group m_isPair q_m_isOne m_order m_rest m_aside m_others))) (h : J_X6_layOnes_48 m_state m_isOne k2 e0 e1 v1 = some q_m_isOne) : PT (RM 1 23) 3 x 48 [(0, .ref am0), (1, .int v1)] [.int e0, .int e1, .ref am10] (V_M x.1.2.2 am0 am1 am2 am3 am4 am5 am6 am7 am8 am9 am10 am11 am12 am13 am14 m_said m_tries m_state m_images m_isKept m_pad m_leftOf m_rightOf m_isApart m_group m_isPair m_isOne m_order m_rest m_aside m_others) 0 0 (QV x (V_M x.1.2.2 am0 am1 am2 am3 am4 am5 am6 am7 am8 am9 am10 am11 am12 am13 am14 m_said m_tries m_state m_images m_isKept m_pad m_leftOf m_rightOf m_isApart m_group m_isPair q_m_isOne m_order m_rest m_aside m_others)) := by
  unfold J_X6_layOnes_48 at h
  obtain ⟨g1, h⟩ := grd_of h
  refine p_zast (Wd' := (V_M x.1.2.2 am0 am1 am2 am3 am4 am5 am6 am7 am8 am9 am10 am11 am12 am13 am14 m_said m_tries m_state m_images m_isKept m_pad m_leftOf m_rightOf m_isApart m_group m_isPair (upd m_isOne e1.toNatClampNeg (vp_nar .boolean e0)) m_order m_rest m_aside m_others)) C dX6_layOnes_48 rfl 10 rfl g1 rfl ?_
  refine p_iinc (w := v1 + 1) (lv' := [(1, .int (v1 + 1)), (0, .ref am0)]) C dX6_layOnes_49 rfl 1 rfl rfl (by decide) rfl ?_
  refine p_goto C dX6_layOnes_52 (pc' := 2) (by decide) ?_
  refine p_locals [1, 0] (lv' := [(0, .ref am0), (1, .int (v1 + 1))]) rfl ?_
  exact hk2 _ _ h
def J_X6_layOnes_43 (m_state : Ar) (m_isOne : Ar) (k2 : Int32 → Ar → Option (Ar)) (e0 : Int32) (v1 : Int32) : Option (Ar) := J_X6_layOnes_48 m_state m_isOne (k2) ((1 : Int32)) e0 v1
set_option maxHeartbeats 4000000 in
set_option maxRecDepth 100000 in
theorem tj_X6_layOnes_43 {x : Cxt} {am0 am1 am2 am3 am4 am5 am6 am7 am8 am9 am10 am11 am12 am13 am14 : Nat} {m_said : Int32} {m_tries : Int32} {m_state : Ar} {m_images : Ar} {m_isKept : Ar} {m_pad : Ar} {m_leftOf : Ar} {m_rightOf : Ar} {m_isApart : Ar} {m_group : Ar} {m_isPair : Ar} {m_isOne : Ar} {m_order : Ar} {m_rest : Ar} {m_aside : Ar} {m_others : Ar} {k2 : Int32 → Ar → Option (Ar)} {e0 : Int32} {v1 : Int32} {q_m_isOne : Ar} (C : CX RX6 cX6_layOnes 3 none x) (hk2 : ∀ (w1 : Int32) (w_m_isOne : Ar), k2 w1 w_m_isOne = some q_m_isOne → PT (RM 1 23) 3 x 2 [(0, .ref am0), (1, .int w1)] [] (V_M x.1.2.2 am0 am1 am2 am3 am4 am5 am6 am7 am8 am9 am10 am11 am12 am13 am14 m_said m_tries m_state m_images m_isKept m_pad m_leftOf m_rightOf m_isApart m_group m_isPair w_m_isOne m_order m_rest m_aside m_others) 0 0 (QV x (V_M x.1.2.2 am0 am1 am2 am3 am4 am5 am6 am7 am8 am9 am10 am11 am12 am13 am14 m_said m_tries m_state m_images m_isKept m_pad m_leftOf m_rightOf m_isApart m_group m_isPair q_m_isOne m_order m_rest m_aside m_others))) (h : J_X6_layOnes_43 m_state m_isOne k2 e0 v1 = some q_m_isOne) : PT (RM 1 23) 3 x 43 [(0, .ref am0), (1, .int v1)] [.int e0, .ref am10] (V_M x.1.2.2 am0 am1 am2 am3 am4 am5 am6 am7 am8 am9 am10 am11 am12 am13 am14 m_said m_tries m_state m_images m_isKept m_pad m_leftOf m_rightOf m_isApart m_group m_isPair m_isOne m_order m_rest m_aside m_others) 0 0 (QV x (V_M x.1.2.2 am0 am1 am2 am3 am4 am5 am6 am7 am8 am9 am10 am11 am12 am13 am14 m_said m_tries m_state m_images m_isKept m_pad m_leftOf m_rightOf m_isApart m_group m_isPair q_m_isOne m_order m_rest m_aside m_others)) := by
  unfold J_X6_layOnes_43 at h
  refine p_iconst (v := (1 : Int32)) C dX6_layOnes_43 rfl (by decide) ?_
  refine p_goto C dX6_layOnes_44 (pc' := 48) (by decide) ?_
  refine p_locals [0, 1] (lv' := [(0, .ref am0), (1, .int v1)]) rfl ?_
  exact tj_X6_layOnes_48 C (fun u0 u1 h => hk2 u0 u1 h) h
def B_X6_layOnes_2 (m_state : Ar)   (kk : Int32 → Ar → Option (Ar)) (v1 : Int32) (m_isOne : Ar) : Option (Ar) := if ((16 : Int32)) ≤ v1 then (L_X6_layOnes_57 m_state FU ((0 : Int32)) m_isOne) else (if (v1 / ((4 : Int32))) = (v1 - v1 / ((4 : Int32)) * ((4 : Int32))) then (J_X6_layOnes_43 m_state m_isOne (kk) v1 v1) else (bd1 (m_X6_pairOf (v1 / ((4 : Int32))) (v1 - v1 / ((4 : Int32)) * ((4 : Int32)))) (fun r3 => grd (gI (((34 : Int32)) + r3) 40) (if (m_state (((34 : Int32)) + r3).toNatClampNeg) = ((1 : Int32)) then (J_X6_layOnes_43 m_state m_isOne (kk) v1 v1) else (J_X6_layOnes_48 m_state m_isOne (kk) ((0 : Int32)) v1 v1)))))
def L_X6_layOnes_2 (m_state : Ar)   : Nat → Int32 → Ar → Option (Ar) := lpG (fun _ _ => none) (B_X6_layOnes_2 m_state)
set_option maxHeartbeats 4000000 in
set_option maxRecDepth 100000 in
theorem tl_X6_layOnes_2 {x : Cxt} {am0 am1 am2 am3 am4 am5 am6 am7 am8 am9 am10 am11 am12 am13 am14 : Nat} {m_said : Int32} {m_tries : Int32} {m_state : Ar} {m_images : Ar} {m_isKept : Ar} {m_pad : Ar} {m_leftOf : Ar} {m_rightOf : Ar} {m_isApart : Ar} {m_group : Ar} {m_isPair : Ar} {m_order : Ar} {m_rest : Ar} {m_aside : Ar} {m_others : Ar}   {q_m_isOne : Ar} (C : CX RX6 cX6_layOnes 3 none x)  : ∀ (n : Nat) (v1 : Int32) (m_isOne : Ar), L_X6_layOnes_2 m_state n v1 m_isOne = some q_m_isOne → PT (RM 1 23) 3 x 2 [(0, .ref am0), (1, .int v1)] [] (V_M x.1.2.2 am0 am1 am2 am3 am4 am5 am6 am7 am8 am9 am10 am11 am12 am13 am14 m_said m_tries m_state m_images m_isKept m_pad m_leftOf m_rightOf m_isApart m_group m_isPair m_isOne m_order m_rest m_aside m_others) 0 0 (QV x (V_M x.1.2.2 am0 am1 am2 am3 am4 am5 am6 am7 am8 am9 am10 am11 am12 am13 am14 m_said m_tries m_state m_images m_isKept m_pad m_leftOf m_rightOf m_isApart m_group m_isPair q_m_isOne m_order m_rest m_aside m_others)) := by
  intro n
  induction n with
  | zero =>
    intro v1 m_isOne h
    cases h
  | succ n ih =>
    intro v1 m_isOne h
    have h : B_X6_layOnes_2 m_state (L_X6_layOnes_2 m_state n) v1 m_isOne = some q_m_isOne := h
    unfold B_X6_layOnes_2 at h
    refine p_iload_n C dX6_layOnes_2 rfl 1 rfl ?_
    refine p_bipush (v := (16 : Int32)) C dX6_layOnes_3 rfl (by decide) ?_
    refine p_icmp_ge C dX6_layOnes_5 (tgt := 55) (by decide) rfl (fun c1 => ?_) (fun c1 => ?_)
    · have h := if_t c1 h
      refine p_iconst (v := (0 : Int32)) C dX6_layOnes_55 rfl (by decide) ?_
      refine p_istore_n (lv' := [(1, .int ((0 : Int32))), (0, .ref am0)]) C dX6_layOnes_56 rfl (by decide) rfl ?_
      refine p_locals [1, 0] (lv' := [(0, .ref am0), (1, .int ((0 : Int32)))]) rfl ?_
      exact tl_X6_layOnes_57 C  FU _ _ h
    · have h := if_f c1 h
      refine p_aload_n C dX6_layOnes_8 rfl 0 rfl ?_
      refine p_get C dX6_layOnes_9 rfl 0 11 inlX6 fl_X6_38 rfl rfl (by decide) rfl rfl ?_
      refine p_iload_n C dX6_layOnes_12 rfl 1 rfl ?_
      refine p_iload_n C dX6_layOnes_13 rfl 1 rfl ?_
      refine p_iconst (v := (4 : Int32)) C dX6_layOnes_14 rfl (by decide) ?_
      refine p_idiv C dX6_layOnes_15 rfl (by decide) ?_
      refine p_iload_n C dX6_layOnes_16 rfl 1 rfl ?_
      refine p_iconst (v := (4 : Int32)) C dX6_layOnes_17 rfl (by decide) ?_
      refine p_irem C dX6_layOnes_18 rfl (by decide) ?_
      refine p_icmp_eq C dX6_layOnes_19 (tgt := 43) (by decide) rfl (fun c2 => ?_) (fun c2 => ?_)
      · have h := if_t c2 h
        refine p_locals [0, 1] (lv' := [(0, .ref am0), (1, .int v1)]) rfl ?_
        exact tj_X6_layOnes_43 C (fun u0 u1 h => ih u0 u1 h) h
      · have h := if_f c2 h
        refine p_aload_n C dX6_layOnes_22 rfl 0 rfl ?_
        refine p_get C dX6_layOnes_23 rfl 0 0 inlX6 fl_X6_7 rfl rfl (by decide) rfl rfl ?_
        refine p_bipush (v := (34 : Int32)) C dX6_layOnes_26 rfl (by decide) ?_
        refine p_iload_n C dX6_layOnes_28 rfl 1 rfl ?_
        refine p_iconst (v := (4 : Int32)) C dX6_layOnes_29 rfl (by decide) ?_
        refine p_idiv C dX6_layOnes_30 rfl (by decide) ?_
        refine p_iload_n C dX6_layOnes_31 rfl 1 rfl ?_
        refine p_iconst (v := (4 : Int32)) C dX6_layOnes_32 rfl (by decide) ?_
        refine p_irem C dX6_layOnes_33 rfl (by decide) ?_
        obtain ⟨r3, hc4, h⟩ := bd1_of h
        refine p_callSi (As := [.int (v1 / ((4 : Int32))), .int (v1 - v1 / ((4 : Int32)) * ((4 : Int32)))]) (st' := [.int ((34 : Int32)), .ref am1, .int v1, .ref am10]) (Wd' := (V_M x.1.2.2 am0 am1 am2 am3 am4 am5 am6 am7 am8 am9 am10 am11 am12 am13 am14 m_said m_tries m_state m_images m_isKept m_pad m_leftOf m_rightOf m_isApart m_group m_isPair m_isOne m_order m_rest m_aside m_others)) C (c_X6_pairOf x.1 hc4) dX6_layOnes_34 rfl ml_X6_98 ks_X6_pairOf ds_X6_pairOf ⟨rfl, rfl, by decide, by decide⟩ [] rfl rfl rfl rfl (Nat.le_of_ble_eq_true rfl) ⟨by decide, by decide⟩ rfl ?_
        refine p_iadd C dX6_layOnes_37 rfl ?_
        obtain ⟨g5, h⟩ := grd_of h
        refine p_iald C dX6_layOnes_38 rfl 1 rfl g5 ?_
        refine p_iconst (v := (1 : Int32)) C dX6_layOnes_39 rfl (by decide) ?_
        refine p_icmp_ne C dX6_layOnes_40 (tgt := 47) (by decide) rfl (fun c6 => ?_) (fun c6 => ?_)
        · have h := if_f c6 h
          refine p_iconst (v := (0 : Int32)) C dX6_layOnes_47 rfl (by decide) ?_
          refine p_locals [0, 1] (lv' := [(0, .ref am0), (1, .int v1)]) rfl ?_
          exact tj_X6_layOnes_48 C (fun u0 u1 h => ih u0 u1 h) h
        · have h := if_t c6 h
          refine p_locals [0, 1] (lv' := [(0, .ref am0), (1, .int v1)]) rfl ?_
          exact tj_X6_layOnes_43 C (fun u0 u1 h => ih u0 u1 h) h
def m_X6_layOnes (m_state : Ar) (m_isOne : Ar)  : Option (Ar) := L_X6_layOnes_2 m_state FU ((0 : Int32)) m_isOne
theorem ds_X6_layOnes : (yX6_layOnes).cls ≠ "java/lang/invoke/MethodHandle" ∧ (yX6_layOnes).cls ≠ "java/lang/invoke/VarHandle" ∧ (parseMethodDescriptor (yX6_layOnes).desc).map (fun d => d.parameters.length) = some 0 := by decide +kernel
set_option maxHeartbeats 4000000 in
set_option maxRecDepth 100000 in
theorem c_X6_layOnes (E : En) {am0 am1 am2 am3 am4 am5 am6 am7 am8 am9 am10 am11 am12 am13 am14 : Nat} {m_said : Int32} {m_tries : Int32} {m_state : Ar} {m_images : Ar} {m_isKept : Ar} {m_pad : Ar} {m_leftOf : Ar} {m_rightOf : Ar} {m_isApart : Ar} {m_group : Ar} {m_isPair : Ar} {m_isOne : Ar} {m_order : Ar} {m_rest : Ar} {m_aside : Ar} {m_others : Ar}  {q_m_isOne : Ar} (h : m_X6_layOnes m_state m_isOne = some q_m_isOne) : Cv E yX6_layOnes (wU yX6_layOnes cX6_layOnes 3 none) (RM 1 23) [.ref am0] (V_M E.2.2 am0 am1 am2 am3 am4 am5 am6 am7 am8 am9 am10 am11 am12 am13 am14 m_said m_tries m_state m_images m_isKept m_pad m_leftOf m_rightOf m_isApart m_group m_isPair m_isOne m_order m_rest m_aside m_others) (V_M E.2.2 am0 am1 am2 am3 am4 am5 am6 am7 am8 am9 am10 am11 am12 am13 am14 m_said m_tries m_state m_images m_isKept m_pad m_leftOf m_rightOf m_isApart m_group m_isPair q_m_isOne m_order m_rest m_aside m_others) := by
  refine Cv.of (by decide) (Nat.le_of_ble_eq_true rfl) ?_
  intro x hE C
  subst hE
  have C : CX RX6 cX6_layOnes 3 none x := C
  refine p_locals [0] (lv' := [(0, .ref am0)]) rfl ?_
  unfold m_X6_layOnes at h
  refine p_iconst (v := (0 : Int32)) C dX6_layOnes_0 rfl (by decide) ?_
  refine p_istore_n (lv' := [(1, .int ((0 : Int32))), (0, .ref am0)]) C dX6_layOnes_1 rfl (by decide) rfl ?_
  refine p_locals [1, 0] (lv' := [(0, .ref am0), (1, .int ((0 : Int32)))]) rfl ?_
  exact tl_X6_layOnes_2 C  FU _ _ h
