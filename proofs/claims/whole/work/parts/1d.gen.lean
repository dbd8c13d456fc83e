def B_X4_growTrees_32 (b_points : Int32) (b_nets : Ar) (b_xs : Ar) (b_ys : Ar)   (kk : Int32 → Int32 → Ar → Ar → Option (Ar × Ar)) (v2 : Int32) (v3 : Int32) (t_group : Ar) (t_paired : Ar) : Option (Ar × Ar) := if b_points ≤ v3 then (some (t_group, t_paired)) else (if v2 = 0 then (some (t_group, t_paired)) else (bd3 (m_X4_joinNextPair t_group t_paired b_points b_nets b_xs b_ys) (fun r3 z_group4 z_paired5 => kk r3 (v3 + 1) z_group4 z_paired5)))
def L_X4_growTrees_32 (b_points : Int32) (b_nets : Ar) (b_xs : Ar) (b_ys : Ar)   : Nat → Int32 → Int32 → Ar → Ar → Option (Ar × Ar) := lpG (fun _ _ _ _ => none) (B_X4_growTrees_32 b_points b_nets b_xs b_ys)
set_option maxHeartbeats 4000000 in
set_option maxRecDepth 100000 in
theorem tl_X4_growTrees_32 {x : Cxt} {at0 at1 at2 at3 at4 ab0 ab1 ab2 ab3 : Nat} {t_total : Int32} {t_oft : Int32} {t_left : Ar} {t_right : Ar} {b_points : Int32} {b_near : Int32} {b_loose : Int32} {b_short : Int32} {b_nets : Ar} {b_xs : Ar} {b_ys : Ar}   {q_t_group : Ar} {q_t_paired : Ar} (C : CX RX4 cX4_growTrees 4 none x)  : ∀ (n : Nat) (v2 : Int32) (v3 : Int32) (t_group : Ar) (t_paired : Ar), L_X4_growTrees_32 b_points b_nets b_xs b_ys n v2 v3 t_group t_paired = some (q_t_group, q_t_paired) → PT (RM 2 51) 4 x 32 [(0, .ref at0), (1, .ref ab0), (2, .int v2), (3, .int v3)] [] (V_TB x.1.2.2 at0 at1 at2 at3 at4 ab0 ab1 ab2 ab3 t_total t_oft t_left t_right t_group t_paired b_points b_near b_loose b_short b_nets b_xs b_ys) 0 0 (QV x (V_TB x.1.2.2 at0 at1 at2 at3 at4 ab0 ab1 ab2 ab3 t_total t_oft t_left t_right q_t_group q_t_paired b_points b_near b_loose b_short b_nets b_xs b_ys)) := by
  intro n
  induction n with
  | zero =>
    intro v2 v3 t_group t_paired h
    cases h
  | succ n ih =>
    intro v2 v3 t_group t_paired h
    have h : B_X4_growTrees_32 b_points b_nets b_xs b_ys (L_X4_growTrees_32 b_points b_nets b_xs b_ys n) v2 v3 t_group t_paired = some (q_t_group, q_t_paired) := h
    unfold B_X4_growTrees_32 at h
    refine p_iload_n C dX4_growTrees_32 rfl 3 rfl ?_
    refine p_aload_n C dX4_growTrees_33 rfl 1 rfl ?_
    refine p_getN C dX4_growTrees_34 rfl 5 3 inlX0 nf_X4_41 rfl rfl (by decide) rfl rfl ?_
    refine p_icmp_ge C dX4_growTrees_37 (tgt := 56) (by decide) rfl (fun c1 => ?_) (fun c1 => ?_)
    · have h := if_t c1 h
      cases h
      exact p_vret C dX4_growTrees_56
    · have h := if_f c1 h
      refine p_iload_n C dX4_growTrees_40 rfl 2 rfl ?_
      refine p_if_eq C dX4_growTrees_41 (tgt := 56) (by decide) rfl (fun c2 => ?_) (fun c2 => ?_)
      · have h := if_t c2 h
        cases h
        exact p_vret C dX4_growTrees_56
      · have h := if_f c2 h
        refine p_aload_n C dX4_growTrees_44 rfl 0 rfl ?_
        refine p_aload_n C dX4_growTrees_45 rfl 1 rfl ?_
        obtain ⟨r3, z_group4, z_paired5, hc6, h⟩ := bd3_of h
        refine p_callVi (As := [.ref ab0]) (st' := []) (Wd' := (V_TB x.1.2.2 at0 at1 at2 at3 at4 ab0 ab1 ab2 ab3 t_total t_oft t_left t_right z_group4 z_paired5 b_points b_near b_loose b_short b_nets b_xs b_ys)) C (c_X4_joinNextPair x.1 (at0 := at0) (at1 := at1) (at2 := at2) (at3 := at3) (at4 := at4) (ab0 := ab0) (ab1 := ab1) (ab2 := ab2) (ab3 := ab3) (t_total := t_total) (t_oft := t_oft) (t_left := t_left) (t_right := t_right) (b_near := b_near) (b_loose := b_loose) (b_short := b_short) hc6) dX4_growTrees_46 rfl ml_X4_46 kv_X4_joinNextPair ds_X4_joinNextPair ⟨rfl, rfl, by decide, by decide⟩ 0 rfl rfl [0, 1, 2, 3, 4, 5, 6, 7, 8] rfl rfl rfl rfl (by decide) ⟨by decide, by decide⟩ rfl ?_
        refine p_istore_n (lv' := [(2, .int r3), (0, .ref at0), (1, .ref ab0), (3, .int v3)]) C dX4_growTrees_49 rfl (by decide) rfl ?_
        refine p_iinc (w := v3 + 1) (lv' := [(3, .int (v3 + 1)), (2, .int r3), (0, .ref at0), (1, .ref ab0)]) C dX4_growTrees_50 rfl 3 rfl rfl (by decide) rfl ?_
        refine p_goto C dX4_growTrees_53 (pc' := 32) (by decide) ?_
        refine p_locals [2, 3, 1, 0] (lv' := [(0, .ref at0), (1, .ref ab0), (2, .int r3), (3, .int (v3 + 1))]) rfl ?_
        exact ih _ _ _ _ h
def B_X4_growTrees_2 (b_points : Int32) (b_nets : Ar) (b_xs : Ar) (b_ys : Ar)   (kk : Int32 → Ar → Ar → Option (Ar × Ar)) (v2 : Int32) (t_group : Ar) (t_paired : Ar) : Option (Ar × Ar) := if ((8 : Int32)) ≤ v2 then (L_X4_growTrees_32 b_points b_nets b_xs b_ys FU ((1 : Int32)) ((1 : Int32)) t_group t_paired) else (grd (gI v2 8) (grd (gI v2 8) (kk (v2 + 1) (upd t_group v2.toNatClampNeg v2) (upd t_paired v2.toNatClampNeg ((0 : Int32))))))
def L_X4_growTrees_2 (b_points : Int32) (b_nets : Ar) (b_xs : Ar) (b_ys : Ar)   : Nat → Int32 → Ar → Ar → Option (Ar × Ar) := lpG (fun _ _ _ => none) (B_X4_growTrees_2 b_points b_nets b_xs b_ys)
set_option maxHeartbeats 4000000 in
set_option maxRecDepth 100000 in
theorem tl_X4_growTrees_2 {x : Cxt} {at0 at1 at2 at3 at4 ab0 ab1 ab2 ab3 : Nat} {t_total : Int32} {t_oft : Int32} {t_left : Ar} {t_right : Ar} {b_points : Int32} {b_near : Int32} {b_loose : Int32} {b_short : Int32} {b_nets : Ar} {b_xs : Ar} {b_ys : Ar}   {q_t_group : Ar} {q_t_paired : Ar} (C : CX RX4 cX4_growTrees 4 none x)  : ∀ (n : Nat) (v2 : Int32) (t_group : Ar) (t_paired : Ar), L_X4_growTrees_2 b_points b_nets b_xs b_ys n v2 t_group t_paired = some (q_t_group, q_t_paired) → PT (RM 2 51) 4 x 2 [(0, .ref at0), (1, .ref ab0), (2, .int v2)] [] (V_TB x.1.2.2 at0 at1 at2 at3 at4 ab0 ab1 ab2 ab3 t_total t_oft t_left t_right t_group t_paired b_points b_near b_loose b_short b_nets b_xs b_ys) 0 0 (QV x (V_TB x.1.2.2 at0 at1 at2 at3 at4 ab0 ab1 ab2 ab3 t_total t_oft t_left t_right q_t_group q_t_paired b_points b_near b_loose b_short b_nets b_xs b_ys)) := by
  intro n
  induction n with
  | zero =>
    intro v2 t_group t_paired h
    cases h
  | succ n ih =>
    intro v2 t_group t_paired h
    have h : B_X4_growTrees_2 b_points b_nets b_xs b_ys (L_X4_growTrees_2 b_points b_nets b_xs b_ys n) v2 t_group t_paired = some (q_t_group, q_t_paired) := h
    unfold B_X4_growTrees_2 at h
    refine p_iload_n C dX4_growTrees_2 rfl 2 rfl ?_
    refine p_bipush (v := (8 : Int32)) C dX4_growTrees_3 rfl (by decide) ?_
    refine p_icmp_ge C dX4_growTrees_5 (tgt := 28) (by decide) rfl (fun c1 => ?_) (fun c1 => ?_)
    · have h := if_t c1 h
      refine p_iconst (v := (1 : Int32)) C dX4_growTrees_28 rfl (by decide) ?_
      refine p_istore_n (lv' := [(2, .int ((1 : Int32))), (0, .ref at0), (1, .ref ab0)]) C dX4_growTrees_29 rfl (by decide) rfl ?_
      refine p_iconst (v := (1 : Int32)) C dX4_growTrees_30 rfl (by decide) ?_
      refine p_istore_n (lv' := [(3, .int ((1 : Int32))), (2, .int ((1 : Int32))), (0, .ref at0), (1, .ref ab0)]) C dX4_growTrees_31 rfl (by decide) rfl ?_
      refine p_locals [2, 3, 1, 0] (lv' := [(0, .ref at0), (1, .ref ab0), (2, .int ((1 : Int32))), (3, .int ((1 : Int32)))]) rfl ?_
      exact tl_X4_growTrees_32 C  FU _ _ _ _ h
    · have h := if_f c1 h
      refine p_aload_n C dX4_growTrees_8 rfl 0 rfl ?_
      refine p_get C dX4_growTrees_9 rfl 0 4 inlX4 fl_X4_25 rfl rfl (by decide) rfl rfl ?_
      refine p_iload_n C dX4_growTrees_12 rfl 2 rfl ?_
      refine p_iload_n C dX4_growTrees_13 rfl 2 rfl ?_
      obtain ⟨g2, h⟩ := grd_of h
      refine p_iast (Wd' := (V_TB x.1.2.2 at0 at1 at2 at3 at4 ab0 ab1 ab2 ab3 t_total t_oft t_left t_right (upd t_group v2.toNatClampNeg v2) t_paired b_points b_near b_loose b_short b_nets b_xs b_ys)) C dX4_growTrees_14 rfl 3 rfl g2 rfl ?_
      refine p_aload_n C dX4_growTrees_15 rfl 0 rfl ?_
      refine p_get C dX4_growTrees_16 rfl 0 5 inlX4 fl_X4_28 rfl rfl (by decide) rfl rfl ?_
      refine p_iload_n C dX4_growTrees_19 rfl 2 rfl ?_
      refine p_iconst (v := (0 : Int32)) C dX4_growTrees_20 rfl (by decide) ?_
      obtain ⟨g3, h⟩ := grd_of h
      refine p_iast (Wd' := (V_TB x.1.2.2 at0 at1 at2 at3 at4 ab0 ab1 ab2 ab3 t_total t_oft t_left t_right (upd t_group v2.toNatClampNeg v2) (upd t_paired v2.toNatClampNeg ((0 : Int32))) b_points b_near b_loose b_short b_nets b_xs b_ys)) C dX4_growTrees_21 rfl 4 rfl g3 rfl ?_
      refine p_iinc (w := v2 + 1) (lv' := [(2, .int (v2 + 1)), (0, .ref at0), (1, .ref ab0)]) C dX4_growTrees_22 rfl 2 rfl rfl (by decide) rfl ?_
      refine p_goto C dX4_growTrees_25 (pc' := 2) (by decide) ?_
      refine p_locals [1, 2, 0] (lv' := [(0, .ref at0), (1, .ref ab0), (2, .int (v2 + 1))]) rfl ?_
      exact ih _ _ _ h
def m_X4_growTrees (t_group : Ar) (t_paired : Ar) (b_points : Int32) (b_nets : Ar) (b_xs : Ar) (b_ys : Ar)  : Option (Ar × Ar) := L_X4_growTrees_2 b_points b_nets b_xs b_ys FU ((0 : Int32)) t_group t_paired
theorem ds_X4_growTrees : (yX4_growTrees).cls ≠ "java/lang/invoke/MethodHandle" ∧ (yX4_growTrees).cls ≠ "java/lang/invoke/VarHandle" ∧ (parseMethodDescriptor (yX4_growTrees).desc).map (fun d => d.parameters.length) = some 1 := by decide +kernel
set_option maxHeartbeats 4000000 in
set_option maxRecDepth 100000 in
theorem c_X4_growTrees (E : En) {at0 at1 at2 at3 at4 ab0 ab1 ab2 ab3 : Nat} {t_total : Int32} {t_oft : Int32} {t_left : Ar} {t_right : Ar} {t_group : Ar} {t_paired : Ar} {b_points : Int32} {b_near : Int32} {b_loose : Int32} {b_short : Int32} {b_nets : Ar} {b_xs : Ar} {b_ys : Ar}  {q_t_group : Ar} {q_t_paired : Ar} (h : m_X4_growTrees t_group t_paired b_points b_nets b_xs b_ys = some (q_t_group, q_t_paired)) : Cv E yX4_growTrees (wU yX4_growTrees cX4_growTrees 4 none) (RM 2 51) [.ref at0, .ref ab0] (V_TB E.2.2 at0 at1 at2 at3 at4 ab0 ab1 ab2 ab3 t_total t_oft t_left t_right t_group t_paired b_points b_near b_loose b_short b_nets b_xs b_ys) (V_TB E.2.2 at0 at1 at2 at3 at4 ab0 ab1 ab2 ab3 t_total t_oft t_left t_right q_t_group q_t_paired b_points b_near b_loose b_short b_nets b_xs b_ys) := by
  refine Cv.of (by decide) (Nat.le_of_ble_eq_true rfl) ?_
  intro x hE C
  subst hE
  have C : CX RX4 cX4_growTrees 4 none x := C
  refine p_locals [0, 1] (lv' := [(0, .ref at0), (1, .ref ab0)]) rfl ?_
  unfold m_X4_growTrees at h
  refine p_iconst (v := (0 : Int32)) C dX4_growTrees_0 rfl (by decide) ?_
  refine p_istore_n (lv' := [(2, .int ((0 : Int32))), (0, .ref at0), (1, .ref ab0)]) C dX4_growTrees_1 rfl (by decide) rfl ?_
  refine p_locals [1, 2, 0] (lv' := [(0, .ref at0), (1, .ref ab0), (2, .int ((0 : Int32)))]) rfl ?_
  exact tl_X4_growTrees_2 C  FU _ _ _ h
def m_X4_hasTry (t_total : Int32) (p1 : Int32) : Option (Int32) := if p1 < 0 then (some ((0 : Int32))) else (if t_total ≤ p1 then (some ((0 : Int32))) else (some ((1 : Int32))))
theorem ds_X4_hasTry : (yX4_hasTry).cls ≠ "java/lang/invoke/MethodHandle" ∧ (yX4_hasTry).cls ≠ "java/lang/invoke/VarHandle" ∧ (parseMethodDescriptor (yX4_hasTry).desc).map (fun d => d.parameters.length) = some 1 := by decide +kernel
set_option maxHeartbeats 4000000 in
set_option maxRecDepth 100000 in
theorem c_X4_hasTry (E : En) {at0 at1 at2 at3 at4 : Nat} {t_total : Int32} {t_oft : Int32} {t_left : Ar} {t_right : Ar} {t_group : Ar} {t_paired : Ar} {p1 : Int32} {rr : Int32} (h : m_X4_hasTry t_total p1 = some rr) : Ci E yX4_hasTry (wU yX4_hasTry cX4_hasTry 2 (some .boolean)) (RM 0 0) [.ref at0, .int p1] (V_T E.2.2 at0 at1 at2 at3 at4 t_total t_oft t_left t_right t_group t_paired) (V_T E.2.2 at0 at1 at2 at3 at4 t_total t_oft t_left t_right t_group t_paired) rr := by
  refine Ci.of (by decide) (Nat.le_of_ble_eq_true rfl) ?_
  intro x hE C
  subst hE
  have C : CX RX4 cX4_hasTry 2 (some .boolean) x := C
  refine p_locals [0, 1] (lv' := [(0, .ref at0), (1, .int p1)]) rfl ?_
  unfold m_X4_hasTry at h
  refine p_iload_n C dX4_hasTry_0 rfl 1 rfl ?_
  refine p_if_lt C dX4_hasTry_1 (tgt := 16) (by decide) rfl (fun c1 => ?_) (fun c1 => ?_)
  · have h := if_t c1 h
    refine p_iconst (v := (0 : Int32)) C dX4_hasTry_16 rfl (by decide) ?_
    cases h
    exact p_zret C dX4_hasTry_17 rfl
  · have h := if_f c1 h
    refine p_iload_n C dX4_hasTry_4 rfl 1 rfl ?_
    refine p_aload_n C dX4_hasTry_5 rfl 0 rfl ?_
    refine p_get C dX4_hasTry_6 rfl 0 2 inlX4 fl_X4_18 rfl rfl (by decide) rfl rfl ?_
    refine p_icmp_ge C dX4_hasTry_9 (tgt := 16) (by decide) rfl (fun c2 => ?_) (fun c2 => ?_)
    · have h := if_t c2 h
      refine p_iconst (v := (0 : Int32)) C dX4_hasTry_16 rfl (by decide) ?_
      cases h
      exact p_zret C dX4_hasTry_17 rfl
    · have h := if_f c2 h
      refine p_iconst (v := (1 : Int32)) C dX4_hasTry_12 rfl (by decide) ?_
      refine p_goto C dX4_hasTry_13 (pc' := 17) (by decide) ?_
      cases h
      exact p_zret C dX4_hasTry_17 rfl
def m_X4_isOfNeighbours (t_oft : Int32) (p1 : Int32) : Option (Int32) := if p1 < t_oft then (some ((0 : Int32))) else (some ((1 : Int32)))
theorem ds_X4_isOfNeighbours : (yX4_isOfNeighbours).cls ≠ "java/lang/invoke/MethodHandle" ∧ (yX4_isOfNeighbours).cls ≠ "java/lang/invoke/VarHandle" ∧ (parseMethodDescriptor (yX4_isOfNeighbours).desc).map (fun d => d.parameters.length) = some 1 := by decide +kernel
set_option maxHeartbeats 4000000 in
set_option maxRecDepth 100000 in
theorem c_X4_isOfNeighbours (E : En) {at0 at1 at2 at3 at4 : Nat} {t_total : Int32} {t_oft : Int32} {t_left : Ar} {t_right : Ar} {t_group : Ar} {t_paired : Ar} {p1 : Int32} {rr : Int32} (h : m_X4_isOfNeighbours t_oft p1 = some rr) : Ci E yX4_isOfNeighbours (wU yX4_isOfNeighbours cX4_isOfNeighbours 2 (some .boolean)) (RM 0 0) [.ref at0, .int p1] (V_T E.2.2 at0 at1 at2 at3 at4 t_total t_oft t_left t_right t_group t_paired) (V_T E.2.2 at0 at1 at2 at3 at4 t_total t_oft t_left t_right t_group t_paired) rr := by
  refine Ci.of (by decide) (Nat.le_of_ble_eq_true rfl) ?_
  intro x hE C
  subst hE
  have C : CX RX4 cX4_isOfNeighbours 2 (some .boolean) x := C
  refine p_locals [0, 1] (lv' := [(0, .ref at0), (1, .int p1)]) rfl ?_
  unfold m_X4_isOfNeighbours at h
  refine p_iload_n C dX4_isOfNeighbours_0 rfl 1 rfl ?_
  refine p_aload_n C dX4_isOfNeighbours_1 rfl 0 rfl ?_
  refine p_get C dX4_isOfNeighbours_2 rfl 0 3 inlX4 fl_X4_22 rfl rfl (by decide) rfl rfl ?_
  refine p_icmp_lt C dX4_isOfNeighbours_5 (tgt := 12) (by decide) rfl (fun c1 => ?_) (fun c1 => ?_)
  · have h := if_t c1 h
    refine p_iconst (v := (0 : Int32)) C dX4_isOfNeighbours_12 rfl (by decide) ?_
    cases h
    exact p_zret C dX4_isOfNeighbours_13 rfl
  · have h := if_f c1 h
    refine p_iconst (v := (1 : Int32)) C dX4_isOfNeighbours_8 rfl (by decide) ?_
    refine p_goto C dX4_isOfNeighbours_9 (pc' := 13) (by decide) ?_
    cases h
    exact p_zret C dX4_isOfNeighbours_13 rfl
def m_X4_layOut (t_total : Int32) (t_oft : Int32) (t_left : Ar) (t_right : Ar) (t_group : Ar) (t_paired : Ar) (b_points : Int32) (b_near : Int32) (b_nets : Ar) (b_xs : Ar) (b_ys : Ar)  : Option (Int32 × Int32 × Ar × Ar × Ar × Ar) := bd2 (m_X4_growTrees t_group t_paired b_points b_nets b_xs b_ys) (fun z_group1 z_paired2 => bd3 (m_X4_addTrees ((0 : Int32)) t_left t_right z_paired2 b_points b_nets b_xs) (fun z_total4 z_left5 z_right6 => bd3 (m_X4_addNeighbours z_total4 z_left5 z_right6 b_points b_near b_nets b_xs b_ys) (fun z_total8 z_left9 z_right10 => some (z_total8, z_total4, z_left9, z_right10, z_group1, z_paired2))))
theorem ds_X4_layOut : (yX4_layOut).cls ≠ "java/lang/invoke/MethodHandle" ∧ (yX4_layOut).cls ≠ "java/lang/invoke/VarHandle" ∧ (parseMethodDescriptor (yX4_layOut).desc).map (fun d => d.parameters.length) = some 1 := by decide +kernel
set_option maxHeartbeats 4000000 in
set_option maxRecDepth 100000 in
theorem c_X4_layOut (E : En) {at0 at1 at2 at3 at4 ab0 ab1 ab2 ab3 : Nat} {t_total : Int32} {t_oft : Int32} {t_left : Ar} {t_right : Ar} {t_group : Ar} {t_paired : Ar} {b_points : Int32} {b_near : Int32} {b_loose : Int32} {b_short : Int32} {b_nets : Ar} {b_xs : Ar} {b_ys : Ar}  {q_t_total : Int32} {q_t_oft : Int32} {q_t_left : Ar} {q_t_right : Ar} {q_t_group : Ar} {q_t_paired : Ar} (h : m_X4_layOut t_total t_oft t_left t_right t_group t_paired b_points b_near b_nets b_xs b_ys = some (q_t_total, q_t_oft, q_t_left, q_t_right, q_t_group, q_t_paired)) : Cv E yX4_layOut (wU yX4_layOut cX4_layOut 2 none) (RM 4 97) [.ref at0, .ref ab0] (V_TB E.2.2 at0 at1 at2 at3 at4 ab0 ab1 ab2 ab3 t_total t_oft t_left t_right t_group t_paired b_points b_near b_loose b_short b_nets b_xs b_ys) (V_TB E.2.2 at0 at1 at2 at3 at4 ab0 ab1 ab2 ab3 q_t_total q_t_oft q_t_left q_t_right q_t_group q_t_paired b_points b_near b_loose b_short b_nets b_xs b_ys) := by
  refine Cv.of (by decide) (Nat.le_of_ble_eq_true rfl) ?_
  intro x hE C
  subst hE
  have C : CX RX4 cX4_layOut 2 none x := C
  refine p_locals [0, 1] (lv' := [(0, .ref at0), (1, .ref ab0)]) rfl ?_
  unfold m_X4_layOut at h
  refine p_aload_n C dX4_layOut_0 rfl 0 rfl ?_
  refine p_iconst (v := (0 : Int32)) C dX4_layOut_1 rfl (by decide) ?_
  refine p_put (Wd' := (V_TB x.1.2.2 at0 at1 at2 at3 at4 ab0 ab1 ab2 ab3 ((0 : Int32)) t_oft t_left t_right t_group t_paired b_points b_near b_loose b_short b_nets b_xs b_ys)) (ty := .int) C dX4_layOut_2 rfl 0 2 inlX4 tyX4 tyX4_ok nmX4 fl_X4_18 rfl rfl (by decide) rfl rfl (by decide +kernel) rfl rfl (Nat.le_of_ble_eq_true rfl) rfl ?_
  refine p_aload_n C dX4_layOut_5 rfl 0 rfl ?_
  refine p_aload_n C dX4_layOut_6 rfl 1 rfl ?_
  obtain ⟨z_group1, z_paired2, hc3, h⟩ := bd2_of h
  refine p_callVv (As := [.ref ab0]) (st' := []) (Wd' := (V_TB x.1.2.2 at0 at1 at2 at3 at4 ab0 ab1 ab2 ab3 ((0 : Int32)) t_oft t_left t_right z_group1 z_paired2 b_points b_near b_loose b_short b_nets b_xs b_ys)) C (c_X4_growTrees x.1 (at0 := at0) (at1 := at1) (at2 := at2) (at3 := at3) (at4 := at4) (ab0 := ab0) (ab1 := ab1) (ab2 := ab2) (ab3 := ab3) (t_total := (0 : Int32)) (t_oft := t_oft) (t_left := t_left) (t_right := t_right) (b_near := b_near) (b_loose := b_loose) (b_short := b_short) hc3) dX4_layOut_7 rfl ml_X4_31 kv_X4_growTrees ds_X4_growTrees ⟨rfl, rfl, by decide, by decide⟩ 0 rfl rfl [0, 1, 2, 3, 4, 5, 6, 7, 8] rfl rfl rfl rfl (by decide) ⟨by decide, by decide⟩ rfl ?_
  refine p_aload_n C dX4_layOut_10 rfl 0 rfl ?_
  refine p_aload_n C dX4_layOut_11 rfl 1 rfl ?_
  obtain ⟨z_total4, z_left5, z_right6, hc7, h⟩ := bd3_of h
  refine p_callVv (As := [.ref ab0]) (st' := []) (Wd' := (V_TB x.1.2.2 at0 at1 at2 at3 at4 ab0 ab1 ab2 ab3 z_total4 t_oft z_left5 z_right6 z_group1 z_paired2 b_points b_near b_loose b_short b_nets b_xs b_ys)) C (c_X4_addTrees x.1 (at0 := at0) (at1 := at1) (at2 := at2) (at3 := at3) (at4 := at4) (ab0 := ab0) (ab1 := ab1) (ab2 := ab2) (ab3 := ab3) (t_oft := t_oft) (t_group := z_group1) (b_near := b_near) (b_loose := b_loose) (b_short := b_short) (b_ys := b_ys) hc7) dX4_layOut_12 rfl ml_X4_35 kv_X4_addTrees ds_X4_addTrees ⟨rfl, rfl, by decide, by decide⟩ 0 rfl rfl [0, 1, 2, 3, 4, 5, 6, 7, 8] rfl rfl rfl rfl (by decide) ⟨by decide, by decide⟩ rfl ?_
  refine p_aload_n C dX4_layOut_15 rfl 0 rfl ?_
  refine p_aload_n C dX4_layOut_16 rfl 0 rfl ?_
  refine p_get C dX4_layOut_17 rfl 0 2 inlX4 fl_X4_18 rfl rfl (by decide) rfl rfl ?_
  refine p_put (Wd' := (V_TB x.1.2.2 at0 at1 at2 at3 at4 ab0 ab1 ab2 ab3 z_total4 z_total4 z_left5 z_right6 z_group1 z_paired2 b_points b_near b_loose b_short b_nets b_xs b_ys)) (ty := .int) C dX4_layOut_20 rfl 0 3 inlX4 tyX4 tyX4_ok nmX4 fl_X4_22 rfl rfl (by decide) rfl rfl (by decide +kernel) rfl rfl (Nat.le_of_ble_eq_true rfl) rfl ?_
  refine p_aload_n C dX4_layOut_23 rfl 0 rfl ?_
  refine p_aload_n C dX4_layOut_24 rfl 1 rfl ?_
  obtain ⟨z_total8, z_left9, z_right10, hc11, h⟩ := bd3_of h
  refine p_callVv (As := [.ref ab0]) (st' := []) (Wd' := (V_TB x.1.2.2 at0 at1 at2 at3 at4 ab0 ab1 ab2 ab3 z_total8 z_total4 z_left9 z_right10 z_group1 z_paired2 b_points b_near b_loose b_short b_nets b_xs b_ys)) C (c_X4_addNeighbours x.1 (at0 := at0) (at1 := at1) (at2 := at2) (at3 := at3) (at4 := at4) (ab0 := ab0) (ab1 := ab1) (ab2 := ab2) (ab3 := ab3) (t_oft := z_total4) (t_group := z_group1) (t_paired := z_paired2) (b_loose := b_loose) (b_short := b_short) hc11) dX4_layOut_25 rfl ml_X4_38 kv_X4_addNeighbours ds_X4_addNeighbours ⟨rfl, rfl, by decide, by decide⟩ 0 rfl rfl [0, 1, 2, 3, 4, 5, 6, 7, 8] rfl rfl rfl rfl (by decide) ⟨by decide, by decide⟩ rfl ?_
  cases h
  exact p_vret C dX4_layOut_28
def J_X4_seenSet_42 (t_total : Int32) (t_oft : Int32) (t_left : Ar) (t_right : Ar) (b_nets : Ar) (k6 : Int32 → Int32 → Option (Int32))  (v2 : Int32) (v3 : Int32) (v4 : Int32) (v5 : Int32) : Option (Int32) := k6 v4 (v5 + 1)
set_option maxHeartbeats 4000000 in
set_option maxRecDepth 100000 in
theorem tj_X4_seenSet_42 {x : Cxt} {at0 at1 at2 at3 at4 ab0 ab1 ab2 ab3 : Nat} {t_total : Int32} {t_oft : Int32} {t_left : Ar} {t_right : Ar} {t_group : Ar} {t_paired : Ar} {b_points : Int32} {b_near : Int32} {b_loose : Int32} {b_short : Int32} {b_nets : Ar} {b_xs : Ar} {b_ys : Ar} {k6 : Int32 → Int32 → Option (Int32)}  {v2 : Int32} {v3 : Int32} {v4 : Int32} {v5 : Int32} {rr : Int32} (C : CX RX4 cX4_seenSet 6 (some .int) x) (hk6 : ∀ (w4 : Int32) (w5 : Int32) , k6 w4 w5 = some rr → PT (RM 3 72) 6 x 6 [(0, .ref at0), (1, .ref ab0), (2, .int v2), (3, .int v3), (4, .int w4), (5, .int w5)] [] (V_TB x.1.2.2 at0 at1 at2 at3 at4 ab0 ab1 ab2 ab3 t_total t_oft t_left t_right t_group t_paired b_points b_near b_loose b_short b_nets b_xs b_ys) 0 0 (QI x rr (V_TB x.1.2.2 at0 at1 at2 at3 at4 ab0 ab1 ab2 ab3 t_total t_oft t_left t_right t_group t_paired b_points b_near b_loose b_short b_nets b_xs b_ys))) (h : J_X4_seenSet_42 t_total t_oft t_left t_right b_nets k6 v2 v3 v4 v5 = some rr) : PT (RM 3 72) 6 x 42 [(0, .ref at0), (1, .ref ab0), (2, .int v2), (3, .int v3), (4, .int v4), (5, .int v5)] [] (V_TB x.1.2.2 at0 at1 at2 at3 at4 ab0 ab1 ab2 ab3 t_total t_oft t_left t_right t_group t_paired b_points b_near b_loose b_short b_nets b_xs b_ys) 0 0 (QI x rr (V_TB x.1.2.2 at0 at1 at2 at3 at4 ab0 ab1 ab2 ab3 t_total t_oft t_left t_right t_group t_paired b_points b_near b_loose b_short b_nets b_xs b_ys)) := by
  unfold J_X4_seenSet_42 at h
  refine p_iinc (w := v5 + 1) (lv' := [(5, .int (v5 + 1)), (0, .ref at0), (1, .ref ab0), (2, .int v2), (3, .int v3), (4, .int v4)]) C dX4_seenSet_42 rfl 5 rfl rfl (by decide) rfl ?_
  refine p_goto C dX4_seenSet_45 (pc' := 6) (by decide) ?_
  refine p_locals [1, 2, 3, 4, 5, 0] (lv' := [(0, .ref at0), (1, .ref ab0), (2, .int v2), (3, .int v3), (4, .int v4), (5, .int (v5 + 1))]) rfl ?_
  exact hk6 _ _ h
def B_X4_seenSet_6 (t_total : Int32) (t_oft : Int32) (t_left : Ar) (t_right : Ar) (b_nets : Ar)  (v2 : Int32) (v3 : Int32) (kk : Int32 → Int32 → Option (Int32)) (v4 : Int32) (v5 : Int32)  : Option (Int32) := if t_total ≤ v5 then (some v4) else (bd1 (m_X4_conducts t_left t_right b_nets v5 v2 v3) (fun r2 => bd1 (m_X4_isOfNeighbours t_oft v5) (fun r4 => if r2 = r4 then (J_X4_seenSet_42 t_total t_oft t_left t_right b_nets (kk) v2 v3 (v4 ||| (((1 : Int32)) <<< (v5 &&& 31))) v5) else (J_X4_seenSet_42 t_total t_oft t_left t_right b_nets (kk) v2 v3 v4 v5))))
def L_X4_seenSet_6 (t_total : Int32) (t_oft : Int32) (t_left : Ar) (t_right : Ar) (b_nets : Ar)  (v2 : Int32) (v3 : Int32) : Nat → Int32 → Int32 → Option (Int32) := lpG (fun _ _ => none) (B_X4_seenSet_6 t_total t_oft t_left t_right b_nets v2 v3)
set_option maxHeartbeats 4000000 in
set_option maxRecDepth 100000 in
theorem tl_X4_seenSet_6 {x : Cxt} {at0 at1 at2 at3 at4 ab0 ab1 ab2 ab3 : Nat} {t_total : Int32} {t_oft : Int32} {t_left : Ar} {t_right : Ar} {t_group : Ar} {t_paired : Ar} {b_points : Int32} {b_near : Int32} {b_loose : Int32} {b_short : Int32} {b_nets : Ar} {b_xs : Ar} {b_ys : Ar}  {v2 : Int32} {v3 : Int32} {rr : Int32} (C : CX RX4 cX4_seenSet 6 (some .int) x)  : ∀ (n : Nat) (v4 : Int32) (v5 : Int32) , L_X4_seenSet_6 t_total t_oft t_left t_right b_nets v2 v3 n v4 v5 = some rr → PT (RM 3 72) 6 x 6 [(0, .ref at0), (1, .ref ab0), (2, .int v2), (3, .int v3), (4, .int v4), (5, .int v5)] [] (V_TB x.1.2.2 at0 at1 at2 at3 at4 ab0 ab1 ab2 ab3 t_total t_oft t_left t_right t_group t_paired b_points b_near b_loose b_short b_nets b_xs b_ys) 0 0 (QI x rr (V_TB x.1.2.2 at0 at1 at2 at3 at4 ab0 ab1 ab2 ab3 t_total t_oft t_left t_right t_group t_paired b_points b_near b_loose b_short b_nets b_xs b_ys)) := by
  intro n
  induction n with
  | zero =>
    intro v4 v5 h
    cases h
  | succ n ih =>
    intro v4 v5 h
    have h : B_X4_seenSet_6 t_total t_oft t_left t_right b_nets v2 v3 (L_X4_seenSet_6 t_total t_oft t_left t_right b_nets v2 v3 n) v4 v5 = some rr := h
    unfold B_X4_seenSet_6 at h
    refine p_iload C dX4_seenSet_6 rfl 5 rfl ?_
    refine p_aload_n C dX4_seenSet_8 rfl 0 rfl ?_
    refine p_get C dX4_seenSet_9 rfl 0 2 inlX4 fl_X4_18 rfl rfl (by decide) rfl rfl ?_
    refine p_icmp_ge C dX4_seenSet_12 (tgt := 48) (by decide) rfl (fun c1 => ?_) (fun c1 => ?_)
    · have h := if_t c1 h
      refine p_iload C dX4_seenSet_48 rfl 4 rfl ?_
      cases h
      exact p_iret C dX4_seenSet_50
    · have h := if_f c1 h
      refine p_aload_n C dX4_seenSet_15 rfl 0 rfl ?_
      refine p_aload_n C dX4_seenSet_16 rfl 1 rfl ?_
      refine p_iload C dX4_seenSet_17 rfl 5 rfl ?_
      refine p_iload_n C dX4_seenSet_19 rfl 2 rfl ?_
      refine p_iload_n C dX4_seenSet_20 rfl 3 rfl ?_
      obtain ⟨r2, hc3, h⟩ := bd1_of h
      refine p_callVi (As := [.ref ab0, .int v5, .int v2, .int v3]) (st' := []) (Wd' := (V_TB x.1.2.2 at0 at1 at2 at3 at4 ab0 ab1 ab2 ab3 t_total t_oft t_left t_right t_group t_paired b_points b_near b_loose b_short b_nets b_xs b_ys)) C (c_X4_conducts x.1 (at0 := at0) (at1 := at1) (at2 := at2) (at3 := at3) (at4 := at4) (ab0 := ab0) (ab1 := ab1) (ab2 := ab2) (ab3 := ab3) (t_total := t_total) (t_oft := t_oft) (t_group := t_group) (t_paired := t_paired) (b_points := b_points) (b_near := b_near) (b_loose := b_loose) (b_short := b_short) (b_xs := b_xs) (b_ys := b_ys) hc3) dX4_seenSet_21 rfl ml_X4_87 kv_X4_conducts ds_X4_conducts ⟨rfl, rfl, by decide, by decide⟩ 0 rfl rfl [0, 1, 2, 3, 4, 5, 6, 7, 8] rfl rfl rfl rfl (by decide) ⟨by decide, by decide⟩ rfl ?_
      refine p_aload_n C dX4_seenSet_24 rfl 0 rfl ?_
      refine p_iload C dX4_seenSet_25 rfl 5 rfl ?_
      obtain ⟨r4, hc5, h⟩ := bd1_of h
      refine p_callVi (As := [.int v5]) (st' := [.int r2]) (Wd' := (V_TB x.1.2.2 at0 at1 at2 at3 at4 ab0 ab1 ab2 ab3 t_total t_oft t_left t_right t_group t_paired b_points b_near b_loose b_short b_nets b_xs b_ys)) C (c_X4_isOfNeighbours x.1 (at0 := at0) (at1 := at1) (at2 := at2) (at3 := at3) (at4 := at4) (t_total := t_total) (t_left := t_left) (t_right := t_right) (t_group := t_group) (t_paired := t_paired) hc5) dX4_seenSet_27 rfl ml_X4_91 kv_X4_isOfNeighbours ds_X4_isOfNeighbours ⟨rfl, rfl, by decide, by decide⟩ 0 rfl rfl [0, 1, 2, 3, 4] rfl rfl rfl rfl (Nat.le_of_ble_eq_true rfl) ⟨by decide, by decide⟩ rfl ?_
      refine p_icmp_ne C dX4_seenSet_30 (tgt := 42) (by decide) rfl (fun c6 => ?_) (fun c6 => ?_)
      · have h := if_f c6 h
        refine p_locals [0, 1, 2, 3, 4, 5] (lv' := [(0, .ref at0), (1, .ref ab0), (2, .int v2), (3, .int v3), (4, .int v4), (5, .int v5)]) rfl ?_
        exact tj_X4_seenSet_42 C (fun u0 u1 h => ih u0 u1 h) h
      · have h := if_t c6 h
        refine p_iload C dX4_seenSet_33 rfl 4 rfl ?_
        refine p_iconst (v := (1 : Int32)) C dX4_seenSet_35 rfl (by decide) ?_
        refine p_iload C dX4_seenSet_36 rfl 5 rfl ?_
        refine p_ishl C dX4_seenSet_38 rfl ?_
        refine p_ior C dX4_seenSet_39 rfl ?_
        refine p_istore (lv' := [(4, .int (v4 ||| (((1 : Int32)) <<< (v5 &&& 31)))), (0, .ref at0), (1, .ref ab0), (2, .int v2), (3, .int v3), (5, .int v5)]) C dX4_seenSet_40 rfl (by decide) rfl ?_
        refine p_locals [1, 2, 3, 4, 0, 5] (lv' := [(0, .ref at0), (1, .ref ab0), (2, .int v2), (3, .int v3), (4, .int (v4 ||| (((1 : Int32)) <<< (v5 &&& 31)))), (5, .int v5)]) rfl ?_
        exact tj_X4_seenSet_42 C (fun u0 u1 h => ih u0 u1 h) h
def m_X4_seenSet (t_total : Int32) (t_oft : Int32) (t_left : Ar) (t_right : Ar) (b_nets : Ar) (p2 : Int32) (p3 : Int32) : Option (Int32) := L_X4_seenSet_6 t_total t_oft t_left t_right b_nets p2 p3 FU ((0 : Int32)) ((0 : Int32))
theorem ds_X4_seenSet : (yX4_seenSet).cls ≠ "java/lang/invoke/MethodHandle" ∧ (yX4_seenSet).cls ≠ "java/lang/invoke/VarHandle" ∧ (parseMethodDescriptor (yX4_seenSet).desc).map (fun d => d.parameters.length) = some 3 := by decide +kernel
set_option maxHeartbeats 4000000 in
set_option maxRecDepth 100000 in
theorem c_X4_seenSet (E : En) {at0 at1 at2 at3 at4 ab0 ab1 ab2 ab3 : Nat} {t_total : Int32} {t_oft : Int32} {t_left : Ar} {t_right : Ar} {t_group : Ar} {t_paired : Ar} {b_points : Int32} {b_near : Int32} {b_loose : Int32} {b_short : Int32} {b_nets : Ar} {b_xs : Ar} {b_ys : Ar} {p2 : Int32} {p3 : Int32} {rr : Int32} (h : m_X4_seenSet t_total t_oft t_left t_right b_nets p2 p3 = some rr) : Ci E yX4_seenSet (wU yX4_seenSet cX4_seenSet 6 (some .int)) (RM 3 72) [.ref at0, .ref ab0, .int p2, .int p3] (V_TB E.2.2 at0 at1 at2 at3 at4 ab0 ab1 ab2 ab3 t_total t_oft t_left t_right t_group t_paired b_points b_near b_loose b_short b_nets b_xs b_ys) (V_TB E.2.2 at0 at1 at2 at3 at4 ab0 ab1 ab2 ab3 t_total t_oft t_left t_right t_group t_paired b_points b_near b_loose b_short b_nets b_xs b_ys) rr := by
  refine Ci.of (by decide) (Nat.le_of_ble_eq_true rfl) ?_
  intro x hE C
  subst hE
  have C : CX RX4 cX4_seenSet 6 (some .int) x := C
  refine p_locals [0, 1, 2, 3] (lv' := [(0, .ref at0), (1, .ref ab0), (2, .int p2), (3, .int p3)]) rfl ?_
  unfold m_X4_seenSet at h
  refine p_iconst (v := (0 : Int32)) C dX4_seenSet_0 rfl (by decide) ?_
  refine p_istore (lv' := [(4, .int ((0 : Int32))), (0, .ref at0), (1, .ref ab0), (2, .int p2), (3, .int p3)]) C dX4_seenSet_1 rfl (by decide) rfl ?_
  refine p_iconst (v := (0 : Int32)) C dX4_seenSet_3 rfl (by decide) ?_
  refine p_istore (lv' := [(5, .int ((0 : Int32))), (4, .int ((0 : Int32))), (0, .ref at0), (1, .ref ab0), (2, .int p2), (3, .int p3)]) C dX4_seenSet_4 rfl (by decide) rfl ?_
  refine p_locals [2, 3, 4, 5, 1, 0] (lv' := [(0, .ref at0), (1, .ref ab0), (2, .int p2), (3, .int p3), (4, .int ((0 : Int32))), (5, .int ((0 : Int32)))]) rfl ?_
  exact tl_X4_seenSet_6 C  FU _ _ h
def m_X5_asNumber  (p0 : Int32) : Option (Int32) := if p0 = 0 then (some ((0 : Int32))) else (some ((1 : Int32)))
theorem ds_X5_asNumber : (yX5_asNumber).cls ≠ "java/lang/invoke/MethodHandle" ∧ (yX5_asNumber).cls ≠ "java/lang/invoke/VarHandle" ∧ (parseMethodDescriptor (yX5_asNumber).desc).map (fun d => d.parameters.length) = some 1 := by decide +kernel
set_option maxHeartbeats 4000000 in
set_option maxRecDepth 100000 in
theorem c_X5_asNumber (E : En)  {p0 : Int32} {rr : Int32} (h : m_X5_asNumber p0 = some rr) : Ci E yX5_asNumber (wU yX5_asNumber cX5_asNumber 1 (some .int)) (RM 0 0) [.int p0] ([] : va_W) ([] : va_W) rr := by
  refine Ci.of (by decide) (Nat.le_of_ble_eq_true rfl) ?_
  intro x hE C
  subst hE
  have C : CX RX5 cX5_asNumber 1 (some .int) x := C
  refine p_locals [0] (lv' := [(0, .int p0)]) rfl ?_
  unfold m_X5_asNumber at h
  refine p_iload_n C dX5_asNumber_0 rfl 0 rfl ?_
  refine p_if_eq C dX5_asNumber_1 (tgt := 8) (by decide) rfl (fun c1 => ?_) (fun c1 => ?_)
  · have h := if_t c1 h
    refine p_iconst (v := (0 : Int32)) C dX5_asNumber_8 rfl (by decide) ?_
    cases h
    exact p_iret C dX5_asNumber_9
  · have h := if_f c1 h
    refine p_iconst (v := (1 : Int32)) C dX5_asNumber_4 rfl (by decide) ?_
    refine p_goto C dX5_asNumber_5 (pc' := 9) (by decide) ?_
    cases h
    exact p_iret C dX5_asNumber_9
def m_X5_seenNow (b_loose : Int32) (b_short : Int32) (b_nets : Ar) (t_total : Int32) (t_oft : Int32) (t_left : Ar) (t_right : Ar)  : Option (Int32) := bd1 (m_X4_seenSet t_total t_oft t_left t_right b_nets b_loose b_short) (fun r1 => some r1)
theorem ds_X5_seenNow : (yX5_seenNow).cls ≠ "java/lang/invoke/MethodHandle" ∧ (yX5_seenNow).cls ≠ "java/lang/invoke/VarHandle" ∧ (parseMethodDescriptor (yX5_seenNow).desc).map (fun d => d.parameters.length) = some 0 := by decide +kernel
set_option maxHeartbeats 4000000 in
set_option maxRecDepth 100000 in
theorem c_X5_seenNow (E : En) {as0 ab0 ab1 ab2 ab3 at0 at1 at2 at3 at4 an0 an1 an2 anb0 anb1 ann0 ann1 ap0 ap1 as1 ai0 ai1 ai2 ai3 aj0 aj1 aj2 aj3 : Nat} {s_kept : Int32} {b_points : Int32} {b_near : Int32} {b_loose : Int32} {b_short : Int32} {b_nets : Ar} {b_xs : Ar} {b_ys : Ar} {t_total : Int32} {t_oft : Int32} {t_left : Ar} {t_right : Ar} {t_group : Ar} {t_paired : Ar} {n_total : Int32} {n_planned : Int32} {n_leaps : Ar} {n_onward : Ar} {nb_len : Int32} {nb_sum : Int32} {nb_tries : Ar} {nn_len : Int32} {nn_sum : Int32} {nn_tries : Ar} {p_len : Int32} {p_signs : Ar} {i_points : Int32} {i_near : Int32} {i_loose : Int32} {i_short : Int32} {i_nets : Ar} {i_xs : Ar} {i_ys : Ar} {j_points : Int32} {j_near : Int32} {j_loose : Int32} {j_short : Int32} {j_nets : Ar} {j_xs : Ar} {j_ys : Ar}  {rr : Int32} (h : m_X5_seenNow b_loose b_short b_nets t_total t_oft t_left t_right = some rr) : Ci E yX5_seenNow (wU yX5_seenNow cX5_seenNow 1 (some .int)) (RM 4 97) [.ref as0] (V_S E.2.2 as0 ab0 ab1 ab2 ab3 at0 at1 at2 at3 at4 an0 an1 an2 anb0 anb1 ann0 ann1 ap0 ap1 as1 ai0 ai1 ai2 ai3 aj0 aj1 aj2 aj3 s_kept b_points b_near b_loose b_short b_nets b_xs b_ys t_total t_oft t_left t_right t_group t_paired n_total n_planned n_leaps n_onward nb_len nb_sum nb_tries nn_len nn_sum nn_tries p_len p_signs i_points i_near i_loose i_short i_nets i_xs i_ys j_points j_near j_loose j_short j_nets j_xs j_ys) (V_S E.2.2 as0 ab0 ab1 ab2 ab3 at0 at1 at2 at3 at4 an0 an1 an2 anb0 anb1 ann0 ann1 ap0 ap1 as1 ai0 ai1 ai2 ai3 aj0 aj1 aj2 aj3 s_kept b_points b_near b_loose b_short b_nets b_xs b_ys t_total t_oft t_left t_right t_group t_paired n_total n_planned n_leaps n_onward nb_len nb_sum nb_tries nn_len nn_sum nn_tries p_len p_signs i_points i_near i_loose i_short i_nets i_xs i_ys j_points j_near j_loose j_short j_nets j_xs j_ys) rr := by
  refine Ci.of (by decide) (Nat.le_of_ble_eq_true rfl) ?_
  intro x hE C
  subst hE
  have C : CX RX5 cX5_seenNow 1 (some .int) x := C
  refine p_locals [0] (lv' := [(0, .ref as0)]) rfl ?_
  unfold m_X5_seenNow at h
  refine p_aload_n C dX5_seenNow_0 rfl 0 rfl ?_
  refine p_get C dX5_seenNow_1 rfl 0 1 inlX5 fl_X5_19 rfl rfl (by decide) rfl rfl ?_
  refine p_aload_n C dX5_seenNow_4 rfl 0 rfl ?_
  refine p_get C dX5_seenNow_5 rfl 0 0 inlX5 fl_X5_12 rfl rfl (by decide) rfl rfl ?_
  refine p_aload_n C dX5_seenNow_8 rfl 0 rfl ?_
  refine p_get C dX5_seenNow_9 rfl 0 0 inlX5 fl_X5_12 rfl rfl (by decide) rfl rfl ?_
  refine p_getN C dX5_seenNow_12 rfl 1 5 inlX0 nf_X5_82 rfl rfl (by decide) rfl rfl ?_
  refine p_aload_n C dX5_seenNow_15 rfl 0 rfl ?_
  refine p_get C dX5_seenNow_16 rfl 0 0 inlX5 fl_X5_12 rfl rfl (by decide) rfl rfl ?_
  refine p_getN C dX5_seenNow_19 rfl 1 6 inlX0 nf_X5_108 rfl rfl (by decide) rfl rfl ?_
  obtain ⟨r1, hc2, h⟩ := bd1_of h
  refine p_callVNi (As := [.ref ab0, .int b_loose, .int b_short]) (st' := []) (Wd' := (V_S x.1.2.2 as0 ab0 ab1 ab2 ab3 at0 at1 at2 at3 at4 an0 an1 an2 anb0 anb1 ann0 ann1 ap0 ap1 as1 ai0 ai1 ai2 ai3 aj0 aj1 aj2 aj3 s_kept b_points b_near b_loose b_short b_nets b_xs b_ys t_total t_oft t_left t_right t_group t_paired n_total n_planned n_leaps n_onward nb_len nb_sum nb_tries nn_len nn_sum nn_tries p_len p_signs i_points i_near i_loose i_short i_nets i_xs i_ys j_points j_near j_loose j_short j_nets j_xs j_ys)) C (c_X4_seenSet x.1 (at0 := at0) (at1 := at1) (at2 := at2) (at3 := at3) (at4 := at4) (ab0 := ab0) (ab1 := ab1) (ab2 := ab2) (ab3 := ab3) (t_group := t_group) (t_paired := t_paired) (b_points := b_points) (b_near := b_near) (b_loose := b_loose) (b_short := b_short) (b_xs := b_xs) (b_ys := b_ys) hc2) dX5_seenNow_22 rfl nm_X5_203 kv_X4_seenSet ds_X4_seenSet ⟨rfl, rfl, by decide, by decide⟩ 0 rfl rfl [5, 6, 7, 8, 9, 1, 2, 3, 4] rfl rfl rfl rfl (by decide) ⟨by decide, by decide⟩ rfl ?_
  cases h
  exact p_iret C dX5_seenNow_25
def m_X5_attempt (b_loose : Int32) (b_short : Int32) (b_nets : Ar) (t_total : Int32) (t_oft : Int32) (t_left : Ar) (t_right : Ar) (p1 : Int32) (p2 : Int32) : Option (Int32) := bd1 (m_X4_hasTry t_total p1) (fun r1 => if r1 = 0 then (some ((-1 : Int32))) else (if p2 = 0 then (grd (gI p1 10) (some (t_left p1.toNatClampNeg))) else (if p2 = 1 then (grd (gI p1 10) (some (t_right p1.toNatClampNeg))) else (if p2 = 2 then (bd1 (m_X4_isOfNeighbours t_oft p1) (fun r9 => bd1 (m_X5_asNumber r9) (fun r11 => some r11))) else (if p2 = 3 then (bd1 (m_X4_conducts t_left t_right b_nets p1 b_loose b_short) (fun r14 => bd1 (m_X5_asNumber r14) (fun r16 => some r16))) else (if p2 = 4 then (bd1 (m_X5_seenNow b_loose b_short b_nets t_total t_oft t_left t_right) (fun r19 => bd1 (m_X5_isIn r19 p1) (fun r21 => bd1 (m_X5_asNumber r21) (fun r23 => some r23)))) else (some ((-2 : Int32)))))))))
theorem ds_X5_attempt : (yX5_attempt).cls ≠ "java/lang/invoke/MethodHandle" ∧ (yX5_attempt).cls ≠ "java/lang/invoke/VarHandle" ∧ (parseMethodDescriptor (yX5_attempt).desc).map (fun d => d.parameters.length) = some 2 := by decide +kernel
set_option maxHeartbeats 4000000 in
set_option maxRecDepth 100000 in
theorem c_X5_attempt (E : En) {as0 ab0 ab1 ab2 ab3 at0 at1 at2 at3 at4 an0 an1 an2 anb0 anb1 ann0 ann1 ap0 ap1 as1 ai0 ai1 ai2 ai3 aj0 aj1 aj2 aj3 : Nat} {s_kept : Int32} {b_points : Int32} {b_near : Int32} {b_loose : Int32} {b_short : Int32} {b_nets : Ar} {b_xs : Ar} {b_ys : Ar} {t_total : Int32} {t_oft : Int32} {t_left : Ar} {t_right : Ar} {t_group : Ar} {t_paired : Ar} {n_total : Int32} {n_planned : Int32} {n_leaps : Ar} {n_onward : Ar} {nb_len : Int32} {nb_sum : Int32} {nb_tries : Ar} {nn_len : Int32} {nn_sum : Int32} {nn_tries : Ar} {p_len : Int32} {p_signs : Ar} {i_points : Int32} {i_near : Int32} {i_loose : Int32} {i_short : Int32} {i_nets : Ar} {i_xs : Ar} {i_ys : Ar} {j_points : Int32} {j_near : Int32} {j_loose : Int32} {j_short : Int32} {j_nets : Ar} {j_xs : Ar} {j_ys : Ar} {p1 : Int32} {p2 : Int32} {rr : Int32} (h : m_X5_attempt b_loose b_short b_nets t_total t_oft t_left t_right p1 p2 = some rr) : Ci E yX5_attempt (wU yX5_attempt cX5_attempt 3 (some .int)) (RM 5 117) [.ref as0, .int p1, .int p2] (V_S E.2.2 as0 ab0 ab1 ab2 ab3 at0 at1 at2 at3 at4 an0 an1 an2 anb0 anb1 ann0 ann1 ap0 ap1 as1 ai0 ai1 ai2 ai3 aj0 aj1 aj2 aj3 s_kept b_points b_near b_loose b_short b_nets b_xs b_ys t_total t_oft t_left t_right t_group t_paired n_total n_planned n_leaps n_onward nb_len nb_sum nb_tries nn_len nn_sum nn_tries p_len p_signs i_points i_near i_loose i_short i_nets i_xs i_ys j_points j_near j_loose j_short j_nets j_xs j_ys) (V_S E.2.2 as0 ab0 ab1 ab2 ab3 at0 at1 at2 at3 at4 an0 an1 an2 anb0 anb1 ann0 ann1 ap0 ap1 as1 ai0 ai1 ai2 ai3 aj0 aj1 aj2 aj3 s_kept b_points b_near b_loose b_short b_nets b_xs b_ys t_total t_oft t_left t_right t_group t_paired n_total n_planned n_leaps n_onward nb_len nb_sum nb_tries nn_len nn_sum nn_tries p_len p_signs i_points i_near i_loose i_short i_nets i_xs i_ys j_points j_near j_loose j_short j_nets j_xs j_ys) rr := by
  refine Ci.of (by decide) (Nat.le_of_ble_eq_true rfl) ?_
  intro x hE C
  subst hE
  have C : CX RX5 cX5_attempt 3 (some .int) x := C
  refine p_locals [0, 1, 2] (lv' := [(0, .ref as0), (1, .int p1), (2, .int p2)]) rfl ?_
  unfold m_X5_attempt at h
  refine p_aload_n C dX5_attempt_0 rfl 0 rfl ?_
  refine p_get C dX5_attempt_1 rfl 0 1 inlX5 fl_X5_19 rfl rfl (by decide) rfl rfl ?_
  refine p_iload_n C dX5_attempt_4 rfl 1 rfl ?_
  obtain ⟨r1, hc2, h⟩ := bd1_of h
  refine p_callVNi (As := [.int p1]) (st' := []) (Wd' := (V_S x.1.2.2 as0 ab0 ab1 ab2 ab3 at0 at1 at2 at3 at4 an0 an1 an2 anb0 anb1 ann0 ann1 ap0 ap1 as1 ai0 ai1 ai2 ai3 aj0 aj1 aj2 aj3 s_kept b_points b_near b_loose b_short b_nets b_xs b_ys t_total t_oft t_left t_right t_group t_paired n_total n_planned n_leaps n_onward nb_len nb_sum nb_tries nn_len nn_sum nn_tries p_len p_signs i_points i_near i_loose i_short i_nets i_xs i_ys j_points j_near j_loose j_short j_nets j_xs j_ys)) C (c_X4_hasTry x.1 (at0 := at0) (at1 := at1) (at2 := at2) (at3 := at3) (at4 := at4) (t_oft := t_oft) (t_left := t_left) (t_right := t_right) (t_group := t_group) (t_paired := t_paired) hc2) dX5_attempt_5 rfl nm_X5_96 kv_X4_hasTry ds_X4_hasTry ⟨rfl, rfl, by decide, by decide⟩ 0 rfl rfl [5, 6, 7, 8, 9] rfl rfl rfl rfl (by decide) ⟨by decide, by decide⟩ rfl ?_
  refine p_if_ne C dX5_attempt_8 (tgt := 13) (by decide) rfl (fun c3 => ?_) (fun c3 => ?_)
  · have h := if_f c3 h
    refine p_iload_n C dX5_attempt_13 rfl 2 rfl ?_
    by_cases c4 : p2 = 0
    · have h := if_t c4 h
      refine p_tabIn C dX5_attempt_14 (pc' := 48) c4 (by decide) (by decide) rfl (by decide) ?_
      refine p_aload_n C dX5_attempt_48 rfl 0 rfl ?_
      refine p_get C dX5_attempt_49 rfl 0 1 inlX5 fl_X5_19 rfl rfl (by decide) rfl rfl ?_
      refine p_getN C dX5_attempt_52 rfl 5 0 inlX4 nf_X5_99 rfl rfl (by decide) rfl rfl ?_
      refine p_iload_n C dX5_attempt_55 rfl 1 rfl ?_
      obtain ⟨g5, h⟩ := grd_of h
      refine p_iald C dX5_attempt_56 rfl 6 rfl g5 ?_
      cases h
      exact p_iret C dX5_attempt_57
    · have h := if_f c4 h
      by_cases c6 : p2 = 1
      · have h := if_t c6 h
        refine p_tabIn C dX5_attempt_14 (pc' := 58) c6 (by decide) (by decide) rfl (by decide) ?_
        refine p_aload_n C dX5_attempt_58 rfl 0 rfl ?_
        refine p_get C dX5_attempt_59 rfl 0 1 inlX5 fl_X5_19 rfl rfl (by decide) rfl rfl ?_
        refine p_getN C dX5_attempt_62 rfl 5 1 inlX4 nf_X5_102 rfl rfl (by decide) rfl rfl ?_
        refine p_iload_n C dX5_attempt_65 rfl 1 rfl ?_
        obtain ⟨g7, h⟩ := grd_of h
        refine p_iald C dX5_attempt_66 rfl 7 rfl g7 ?_
        cases h
        exact p_iret C dX5_attempt_67
      · have h := if_f c6 h
        by_cases c8 : p2 = 2
        · have h := if_t c8 h
          refine p_tabIn C dX5_attempt_14 (pc' := 68) c8 (by decide) (by decide) rfl (by decide) ?_
          refine p_aload_n C dX5_attempt_68 rfl 0 rfl ?_
          refine p_get C dX5_attempt_69 rfl 0 1 inlX5 fl_X5_19 rfl rfl (by decide) rfl rfl ?_
          refine p_iload_n C dX5_attempt_72 rfl 1 rfl ?_
          obtain ⟨r9, hc10, h⟩ := bd1_of h
          refine p_callVNi (As := [.int p1]) (st' := []) (Wd' := (V_S x.1.2.2 as0 ab0 ab1 ab2 ab3 at0 at1 at2 at3 at4 an0 an1 an2 anb0 anb1 ann0 ann1 ap0 ap1 as1 ai0 ai1 ai2 ai3 aj0 aj1 aj2 aj3 s_kept b_points b_near b_loose b_short b_nets b_xs b_ys t_total t_oft t_left t_right t_group t_paired n_total n_planned n_leaps n_onward nb_len nb_sum nb_tries nn_len nn_sum nn_tries p_len p_signs i_points i_near i_loose i_short i_nets i_xs i_ys j_points j_near j_loose j_short j_nets j_xs j_ys)) C (c_X4_isOfNeighbours x.1 (at0 := at0) (at1 := at1) (at2 := at2) (at3 := at3) (at4 := at4) (t_total := t_total) (t_left := t_left) (t_right := t_right) (t_group := t_group) (t_paired := t_paired) hc10) dX5_attempt_73 rfl nm_X5_105 kv_X4_isOfNeighbours ds_X4_isOfNeighbours ⟨rfl, rfl, by decide, by decide⟩ 0 rfl rfl [5, 6, 7, 8, 9] rfl rfl rfl rfl (by decide) ⟨by decide, by decide⟩ rfl ?_
          obtain ⟨r11, hc12, h⟩ := bd1_of h
          refine p_callSi (As := [.int r9]) (st' := []) (Wd' := (V_S x.1.2.2 as0 ab0 ab1 ab2 ab3 at0 at1 at2 at3 at4 an0 an1 an2 anb0 anb1 ann0 ann1 ap0 ap1 as1 ai0 ai1 ai2 ai3 aj0 aj1 aj2 aj3 s_kept b_points b_near b_loose b_short b_nets b_xs b_ys t_total t_oft t_left t_right t_group t_paired n_total n_planned n_leaps n_onward nb_len nb_sum nb_tries nn_len nn_sum nn_tries p_len p_signs i_points i_near i_loose i_short i_nets i_xs i_ys j_points j_near j_loose j_short j_nets j_xs j_ys)) C (c_X5_asNumber x.1 hc12) dX5_attempt_76 rfl ml_X5_88 ks_X5_asNumber ds_X5_asNumber ⟨rfl, rfl, by decide, by decide⟩ [] rfl rfl rfl rfl (by decide) ⟨by decide, by decide⟩ rfl ?_
          cases h
          exact p_iret C dX5_attempt_79
        · have h := if_f c8 h
          by_cases c13 : p2 = 3
          · have h := if_t c13 h
            refine p_tabIn C dX5_attempt_14 (pc' := 80) c13 (by decide) (by decide) rfl (by decide) ?_
            refine p_aload_n C dX5_attempt_80 rfl 0 rfl ?_
            refine p_get C dX5_attempt_81 rfl 0 1 inlX5 fl_X5_19 rfl rfl (by decide) rfl rfl ?_
            refine p_aload_n C dX5_attempt_84 rfl 0 rfl ?_
            refine p_get C dX5_attempt_85 rfl 0 0 inlX5 fl_X5_12 rfl rfl (by decide) rfl rfl ?_
            refine p_iload_n C dX5_attempt_88 rfl 1 rfl ?_
            refine p_aload_n C dX5_attempt_89 rfl 0 rfl ?_
            refine p_get C dX5_attempt_90 rfl 0 0 inlX5 fl_X5_12 rfl rfl (by decide) rfl rfl ?_
            refine p_getN C dX5_attempt_93 rfl 1 5 inlX0 nf_X5_82 rfl rfl (by decide) rfl rfl ?_
            refine p_aload_n C dX5_attempt_96 rfl 0 rfl ?_
            refine p_get C dX5_attempt_97 rfl 0 0 inlX5 fl_X5_12 rfl rfl (by decide) rfl rfl ?_
            refine p_getN C dX5_attempt_100 rfl 1 6 inlX0 nf_X5_108 rfl rfl (by decide) rfl rfl ?_
            obtain ⟨r14, hc15, h⟩ := bd1_of h
            refine p_callVNi (As := [.ref ab0, .int p1, .int b_loose, .int b_short]) (st' := []) (Wd' := (V_S x.1.2.2 as0 ab0 ab1 ab2 ab3 at0 at1 at2 at3 at4 an0 an1 an2 anb0 anb1 ann0 ann1 ap0 ap1 as1 ai0 ai1 ai2 ai3 aj0 aj1 aj2 aj3 s_kept b_points b_near b_loose b_short b_nets b_xs b_ys t_total t_oft t_left t_right t_group t_paired n_total n_planned n_leaps n_onward nb_len nb_sum nb_tries nn_len nn_sum nn_tries p_len p_signs i_points i_near i_loose i_short i_nets i_xs i_ys j_points j_near j_loose j_short j_nets j_xs j_ys)) C (c_X4_conducts x.1 (at0 := at0) (at1 := at1) (at2 := at2) (at3 := at3) (at4 := at4) (ab0 := ab0) (ab1 := ab1) (ab2 := ab2) (ab3 := ab3) (t_total := t_total) (t_oft := t_oft) (t_group := t_group) (t_paired := t_paired) (b_points := b_points) (b_near := b_near) (b_loose := b_loose) (b_short := b_short) (b_xs := b_xs) (b_ys := b_ys) hc15) dX5_attempt_103 rfl nm_X5_111 kv_X4_conducts ds_X4_conducts ⟨rfl, rfl, by decide, by decide⟩ 0 rfl rfl [5, 6, 7, 8, 9, 1, 2, 3, 4] rfl rfl rfl rfl (by decide) ⟨by decide, by decide⟩ rfl ?_
            obtain ⟨r16, hc17, h⟩ := bd1_of h
            refine p_callSi (As := [.int r14]) (st' := []) (Wd' := (V_S x.1.2.2 as0 ab0 ab1 ab2 ab3 at0 at1 at2 at3 at4 an0 an1 an2 anb0 anb1 ann0 ann1 ap0 ap1 as1 ai0 ai1 ai2 ai3 aj0 aj1 aj2 aj3 s_kept b_points b_near b_loose b_short b_nets b_xs b_ys t_total t_oft t_left t_right t_group t_paired n_total n_planned n_leaps n_onward nb_len nb_sum nb_tries nn_len nn_sum nn_tries p_len p_signs i_points i_near i_loose i_short i_nets i_xs i_ys j_points j_near j_loose j_short j_nets j_xs j_ys)) C (c_X5_asNumber x.1 hc17) dX5_attempt_106 rfl ml_X5_88 ks_X5_asNumber ds_X5_asNumber ⟨rfl, rfl, by decide, by decide⟩ [] rfl rfl rfl rfl (by decide) ⟨by decide, by decide⟩ rfl ?_
            cases h
            exact p_iret C dX5_attempt_109
          · have h := if_f c13 h
            by_cases c18 : p2 = 4
            · have h := if_t c18 h
              refine p_tabIn C dX5_attempt_14 (pc' := 110) c18 (by decide) (by decide) rfl (by decide) ?_
              refine p_aload_n C dX5_attempt_110 rfl 0 rfl ?_
              obtain ⟨r19, hc20, h⟩ := bd1_of h
              refine p_callVi (As := []) (st' := []) (Wd' := (V_S x.1.2.2 as0 ab0 ab1 ab2 ab3 at0 at1 at2 at3 at4 an0 an1 an2 anb0 anb1 ann0 ann1 ap0 ap1 as1 ai0 ai1 ai2 ai3 aj0 aj1 aj2 aj3 s_kept b_points b_near b_loose b_short b_nets b_xs b_ys t_total t_oft t_left t_right t_group t_paired n_total n_planned n_leaps n_onward nb_len nb_sum nb_tries nn_len nn_sum nn_tries p_len p_signs i_points i_near i_loose i_short i_nets i_xs i_ys j_points j_near j_loose j_short j_nets j_xs j_ys)) C (c_X5_seenNow x.1 (as0 := as0) (ab0 := ab0) (ab1 := ab1) (ab2 := ab2) (ab3 := ab3) (at0 := at0) (at1 := at1) (at2 := at2) (at3 := at3) (at4 := at4) (an0 := an0) (an1 := an1) (an2 := an2) (anb0 := anb0) (anb1 := anb1) (ann0 := ann0) (ann1 := ann1) (ap0 := ap0) (ap1 := ap1) (as1 := as1) (ai0 := ai0) (ai1 := ai1) (ai2 := ai2) (ai3 := ai3) (aj0 := aj0) (aj1 := aj1) (aj2 := aj2) (aj3 := aj3) (s_kept := s_kept) (b_points := b_points) (b_near := b_near) (b_xs := b_xs) (b_ys := b_ys) (t_group := t_group) (t_paired := t_paired) (n_total := n_total) (n_planned := n_planned) (n_leaps := n_leaps) (n_onward := n_onward) (nb_len := nb_len) (nb_sum := nb_sum) (nb_tries := nb_tries) (nn_len := nn_len) (nn_sum := nn_sum) (nn_tries := nn_tries) (p_len := p_len) (p_signs := p_signs) (i_points := i_points) (i_near := i_near) (i_loose := i_loose) (i_short := i_short) (i_nets := i_nets) (i_xs := i_xs) (i_ys := i_ys) (j_points := j_points) (j_near := j_near) (j_loose := j_loose) (j_short := j_short) (j_nets := j_nets) (j_xs := j_xs) (j_ys := j_ys) hc20) dX5_attempt_111 rfl ml_X5_115 kv_X5_seenNow ds_X5_seenNow ⟨rfl, rfl, by decide, by decide⟩ 0 rfl rfl [0, 1, 2, 3, 4, 5, 6, 7, 8, 9, 10, 11, 12, 13, 14, 15, 16, 17, 18, 19, 20, 21, 22, 23, 24, 25, 26, 27] rfl rfl rfl rfl (by decide) ⟨by decide, by decide⟩ rfl ?_
              refine p_iload_n C dX5_attempt_114 rfl 1 rfl ?_
              obtain ⟨r21, hc22, h⟩ := bd1_of h
              refine p_callSi (As := [.int r19, .int p1]) (st' := []) (Wd' := (V_S x.1.2.2 as0 ab0 ab1 ab2 ab3 at0 at1 at2 at3 at4 an0 an1 an2 anb0 anb1 ann0 ann1 ap0 ap1 as1 ai0 ai1 ai2 ai3 aj0 aj1 aj2 aj3 s_kept b_points b_near b_loose b_short b_nets b_xs b_ys t_total t_oft t_left t_right t_group t_paired n_total n_planned n_leaps n_onward nb_len nb_sum nb_tries nn_len nn_sum nn_tries p_len p_signs i_points i_near i_loose i_short i_nets i_xs i_ys j_points j_near j_loose j_short j_nets j_xs j_ys)) C (c_X5_isIn x.1 hc22) dX5_attempt_115 rfl ml_X5_85 ks_X5_isIn ds_X5_isIn ⟨rfl, rfl, by decide, by decide⟩ [] rfl rfl rfl rfl (by decide) ⟨by decide, by decide⟩ rfl ?_
              obtain ⟨r23, hc24, h⟩ := bd1_of h
              refine p_callSi (As := [.int r21]) (st' := []) (Wd' := (V_S x.1.2.2 as0 ab0 ab1 ab2 ab3 at0 at1 at2 at3 at4 an0 an1 an2 anb0 anb1 ann0 ann1 ap0 ap1 as1 ai0 ai1 ai2 ai3 aj0 aj1 aj2 aj3 s_kept b_points b_near b_loose b_short b_nets b_xs b_ys t_total t_oft t_left t_right t_group t_paired n_total n_planned n_leaps n_onward nb_len nb_sum nb_tries nn_len nn_sum nn_tries p_len p_signs i_points i_near i_loose i_short i_nets i_xs i_ys j_points j_near j_loose j_short j_nets j_xs j_ys)) C (c_X5_asNumber x.1 hc24) dX5_attempt_118 rfl ml_X5_88 ks_X5_asNumber ds_X5_asNumber ⟨rfl, rfl, by decide, by decide⟩ [] rfl rfl rfl rfl (by decide) ⟨by decide, by decide⟩ rfl ?_
              cases h
              exact p_iret C dX5_attempt_121
            · have h := if_f c18 h
              refine p_tabOut C dX5_attempt_14 (pc' := 122) (n := 5) (by decide) (by decide) (by intro k hk; match k, hk with | 0, _ => exact c4 | 1, _ => exact c6 | 2, _ => exact c8 | 3, _ => exact c13 | 4, _ => exact c18 | _ + 5, hk => exact absurd hk (by omega)) (by decide) ?_
              refine p_bipush (v := (-2 : Int32)) C dX5_attempt_122 rfl (by decide) ?_
              cases h
              exact p_iret C dX5_attempt_124
  · have h := if_t c3 h
    refine p_iconst (v := (-1 : Int32)) C dX5_attempt_11 rfl (by decide) ?_
    cases h
    exact p_iret C dX5_attempt_12
def m_X5_best (n_total : Int32) (n_planned : Int32) (n_leaps : Ar) (n_onward : Ar) (nb_len : Int32) (nb_sum : Int32) (nb_tries : Ar) (p1 : Int32) : Option (Int32 × Int32 × Ar × Int32 × Int32 × Ar) := if ((-1 : Int32)) ≤ p1 then (bd5 (m_X1_planBest n_total n_planned n_leaps n_onward nb_len nb_sum nb_tries) (fun z_planned2 z_onward3 z_len4 z_sum5 z_tries6 => bd1 (m_X2_tell z_len4 z_sum5 z_tries6 p1) (fun r8 => some (r8, z_planned2, z_onward3, z_len4, z_sum5, z_tries6)))) else (some ((-2 : Int32), n_planned, n_onward, nb_len, nb_sum, nb_tries))
theorem ds_X5_best : (yX5_best).cls ≠ "java/lang/invoke/MethodHandle" ∧ (yX5_best).cls ≠ "java/lang/invoke/VarHandle" ∧ (parseMethodDescriptor (yX5_best).desc).map (fun d => d.parameters.length) = some 1 := by decide +kernel
set_option maxHeartbeats 4000000 in
set_option maxRecDepth 100000 in
theorem c_X5_best (E : En) {as0 ab0 ab1 ab2 ab3 at0 at1 at2 at3 at4 an0 an1 an2 anb0 anb1 ann0 ann1 ap0 ap1 as1 ai0 ai1 ai2 ai3 aj0 aj1 aj2 aj3 : Nat} {s_kept : Int32} {b_points : Int32} {b_near : Int32} {b_loose : Int32} {b_short : Int32} {b_nets : Ar} {b_xs : Ar} {b_ys : Ar} {t_total : Int32} {t_oft : Int32} {t_left : Ar} {t_right : Ar} {t_group : Ar} {t_paired : Ar} {n_total : Int32} {n_planned : Int32} {n_leaps : Ar} {n_onward : Ar} {nb_len : Int32} {nb_sum : Int32} {nb_tries : Ar} {nn_len : Int32} {nn_sum : Int32} {nn_tries : Ar} {p_len : Int32} {p_signs : Ar} {i_points : Int32} {i_near : Int32} {i_loose : Int32} {i_short : Int32} {i_nets : Ar} {i_xs : Ar} {i_ys : Ar} {j_points : Int32} {j_near : Int32} {j_loose : Int32} {j_short : Int32} {j_nets : Ar} {j_xs : Ar} {j_ys : Ar} {p1 : Int32} {rr : Int32} {q_n_planned : Int32} {q_n_onward : Ar} {q_nb_len : Int32} {q_nb_sum : Int32} {q_nb_tries : Ar} (h : m_X5_best n_total n_planned n_leaps n_onward nb_len nb_sum nb_tries p1 = some (rr, q_n_planned, q_n_onward, q_nb_len, q_nb_sum, q_nb_tries)) : Ci E yX5_best (wU yX5_best cX5_best 2 (some .int)) (RM 4 98) [.ref as0, .int p1] (V_S E.2.2 as0 ab0 ab1 ab2 ab3 at0 at1 at2 at3 at4 an0 an1 an2 anb0 anb1 ann0 ann1 ap0 ap1 as1 ai0 ai1 ai2 ai3 aj0 aj1 aj2 aj3 s_kept b_points b_near b_loose b_short b_nets b_xs b_ys t_total t_oft t_left t_right t_group t_paired n_total n_planned n_leaps n_onward nb_len nb_sum nb_tries nn_len nn_sum nn_tries p_len p_signs i_points i_near i_loose i_short i_nets i_xs i_ys j_points j_near j_loose j_short j_nets j_xs j_ys) (V_S E.2.2 as0 ab0 ab1 ab2 ab3 at0 at1 at2 at3 at4 an0 an1 an2 anb0 anb1 ann0 ann1 ap0 ap1 as1 ai0 ai1 ai2 ai3 aj0 aj1 aj2 aj3 s_kept b_points b_near b_loose b_short b_nets b_xs b_ys t_total t_oft t_left t_right t_group t_paired n_total q_n_planned n_leaps q_n_onward q_nb_len q_nb_sum q_nb_tries nn_len nn_sum nn_tries p_len p_signs i_points i_near i_loose i_short i_nets i_xs i_ys j_points j_near j_loose j_short j_nets j_xs j_ys) rr := by
  refine Ci.of (by decide) (Nat.le_of_ble_eq_true rfl) ?_
  intro x hE C
  subst hE
  have C : CX RX5 cX5_best 2 (some .int) x := C
  refine p_locals [0, 1] (lv' := [(0, .ref as0), (1, .int p1)]) rfl ?_
  unfold m_X5_best at h
  refine p_iload_n C dX5_best_0 rfl 1 rfl ?_
  refine p_iconst (v := (-1 : Int32)) C dX5_best_1 rfl (by decide) ?_
  refine p_icmp_ge C dX5_best_2 (tgt := 8) (by decide) rfl (fun c1 => ?_) (fun c1 => ?_)
  · have h := if_t c1 h
    refine p_aload_n C dX5_best_8 rfl 0 rfl ?_
    refine p_get C dX5_best_9 rfl 0 2 inlX5 fl_X5_26 rfl rfl (by decide) rfl rfl ?_
    obtain ⟨z_planned2, z_onward3, z_len4, z_sum5, z_tries6, hc7, h⟩ := bd5_of h
    refine p_callVNv (As := []) (st' := []) (Wd' := (V_S x.1.2.2 as0 ab0 ab1 ab2 ab3 at0 at1 at2 at3 at4 an0 an1 an2 anb0 anb1 ann0 ann1 ap0 ap1 as1 ai0 ai1 ai2 ai3 aj0 aj1 aj2 aj3 s_kept b_points b_near b_loose b_short b_nets b_xs b_ys t_total t_oft t_left t_right t_group t_paired n_total z_planned2 n_leaps z_onward3 z_len4 z_sum5 z_tries6 nn_len nn_sum nn_tries p_len p_signs i_points i_near i_loose i_short i_nets i_xs i_ys j_points j_near j_loose j_short j_nets j_xs j_ys)) C (c_X1_planBest x.1 (an0 := an0) (an1 := an1) (an2 := an2) (anb0 := anb0) (anb1 := anb1) (ann0 := ann0) (ann1 := ann1) (nn_len := nn_len) (nn_sum := nn_sum) (nn_tries := nn_tries) hc7) dX5_best_12 rfl nm_X5_139 kv_X1_planBest ds_X1_planBest ⟨rfl, rfl, by decide, by decide⟩ 0 rfl rfl [10, 11, 12, 13, 14, 15, 16] rfl rfl rfl rfl (by decide) ⟨by decide, by decide⟩ rfl ?_
    refine p_aload_n C dX5_best_15 rfl 0 rfl ?_
    refine p_get C dX5_best_16 rfl 0 2 inlX5 fl_X5_26 rfl rfl (by decide) rfl rfl ?_
    refine p_getN C dX5_best_19 rfl 10 3 inlX1 nf_X5_142 rfl rfl (by decide) rfl rfl ?_
    refine p_iload_n C dX5_best_22 rfl 1 rfl ?_
    obtain ⟨r8, hc9, h⟩ := bd1_of h
    refine p_callVNi (As := [.int p1]) (st' := []) (Wd' := (V_S x.1.2.2 as0 ab0 ab1 ab2 ab3 at0 at1 at2 at3 at4 an0 an1 an2 anb0 anb1 ann0 ann1 ap0 ap1 as1 ai0 ai1 ai2 ai3 aj0 aj1 aj2 aj3 s_kept b_points b_near b_loose b_short b_nets b_xs b_ys t_total t_oft t_left t_right t_group t_paired n_total z_planned2 n_leaps z_onward3 z_len4 z_sum5 z_tries6 nn_len nn_sum nn_tries p_len p_signs i_points i_near i_loose i_short i_nets i_xs i_ys j_points j_near j_loose j_short j_nets j_xs j_ys)) C (c_X2_tell x.1 (ao0 := anb0) (ao1 := anb1) hc9) dX5_best_23 rfl nm_X5_146 kv_X2_tell ds_X2_tell ⟨rfl, rfl, by decide, by decide⟩ 0 rfl rfl [13, 14] rfl rfl rfl rfl (by decide) ⟨by decide, by decide⟩ rfl ?_
    cases h
    exact p_iret C dX5_best_26
  · have h := if_f c1 h
    refine p_bipush (v := (-2 : Int32)) C dX5_best_5 rfl (by decide) ?_
    cases h
    exact p_iret C dX5_best_7
def m_X5_count (s_kept : Int32) (b_points : Int32) (b_near : Int32) (b_loose : Int32) (b_short : Int32) (b_nets : Ar) (t_total : Int32) (t_oft : Int32) (p_len : Int32) (p1 : Int32) : Option (Int32) := if p1 = 0 then (some b_points) else (if p1 = 1 then (some t_total) else (if p1 = 2 then (some (t_total - t_oft)) else (if p1 = 3 then (bd1 (m_X0_countNetsWithPoints b_points b_nets) (fun r5 => some r5)) else (if p1 = 4 then (bd1 (m_J6_bitCount_0f7a4 b_loose) (fun r8 => some r8)) else (if p1 = 5 then (bd1 (m_J6_bitCount_0f7a4 b_short) (fun r11 => some r11)) else (if p1 = 6 then (some b_near) else (if p1 = 7 then (some p_len) else (if p1 = 8 then (some s_kept) else (some ((-2 : Int32)))))))))))
theorem ds_X5_count : (yX5_count).cls ≠ "java/lang/invoke/MethodHandle" ∧ (yX5_count).cls ≠ "java/lang/invoke/VarHandle" ∧ (parseMethodDescriptor (yX5_count).desc).map (fun d => d.parameters.length) = some 1 := by decide +kernel
set_option maxHeartbeats 4000000 in
set_option maxRecDepth 100000 in
theorem c_X5_count (E : En) {as0 ab0 ab1 ab2 ab3 at0 at1 at2 at3 at4 an0 an1 an2 anb0 anb1 ann0 ann1 ap0 ap1 as1 ai0 ai1 ai2 ai3 aj0 aj1 aj2 aj3 : Nat} {s_kept : Int32} {b_points : Int32} {b_near : Int32} {b_loose : Int32} {b_short : Int32} {b_nets : Ar} {b_xs : Ar} {b_ys : Ar} {t_total : Int32} {t_oft : Int32} {t_left : Ar} {t_right : Ar} {t_group : Ar} {t_paired : Ar} {n_total : Int32} {n_planned : Int32} {n_leaps : Ar} {n_onward : Ar} {nb_len : Int32} {nb_sum : Int32} {nb_tries : Ar} {nn_len : Int32} {nn_sum : Int32} {nn_tries : Ar} {p_len : Int32} {p_signs : Ar} {i_points : Int32} {i_near : Int32} {i_loose : Int32} {i_short : Int32} {i_nets : Ar} {i_xs : Ar} {i_ys : Ar} {j_points : Int32} {j_near : Int32} {j_loose : Int32} {j_short : Int32} {j_nets : Ar} {j_xs : Ar} {j_ys : Ar} {p1 : Int32} {rr : Int32} (h : m_X5_count s_kept b_points b_near b_loose b_short b_nets t_total t_oft p_len p1 = some rr) : Ci E yX5_count (wU yX5_count cX5_count 2 (some .int)) (RM 2 42) [.ref as0, .int p1] (V_S E.2.2 as0 ab0 ab1 ab2 ab3 at0 at1 at2 at3 at4 an0 an1 an2 anb0 anb1 ann0 ann1 ap0 ap1 as1 ai0 ai1 ai2 ai3 aj0 aj1 aj2 aj3 s_kept b_points b_near b_loose b_short b_nets b_xs b_ys t_total t_oft t_left t_right t_group t_paired n_total n_planned n_leaps n_onward nb_len nb_sum nb_tries nn_len nn_sum nn_tries p_len p_signs i_points i_near i_loose i_short i_nets i_xs i_ys j_points j_near j_loose j_short j_nets j_xs j_ys) (V_S E.2.2 as0 ab0 ab1 ab2 ab3 at0 at1 at2 at3 at4 an0 an1 an2 anb0 anb1 ann0 ann1 ap0 ap1 as1 ai0 ai1 ai2 ai3 aj0 aj1 aj2 aj3 s_kept b_points b_near b_loose b_short b_nets b_xs b_ys t_total t_oft t_left t_right t_group t_paired n_total n_planned n_leaps n_onward nb_len nb_sum nb_tries nn_len nn_sum nn_tries p_len p_signs i_points i_near i_loose i_short i_nets i_xs i_ys j_points j_near j_loose j_short j_nets j_xs j_ys) rr := by
  refine Ci.of (by decide) (Nat.le_of_ble_eq_true rfl) ?_
  intro x hE C
  subst hE
  have C : CX RX5 cX5_count 2 (some .int) x := C
  refine p_locals [0, 1] (lv' := [(0, .ref as0), (1, .int p1)]) rfl ?_
  unfold m_X5_count at h
  refine p_iload_n C dX5_count_0 rfl 1 rfl ?_
  by_cases c1 : p1 = 0
  · have h := if_t c1 h
    refine p_tabIn C dX5_count_1 (pc' := 52) c1 (by decide) (by decide) rfl (by decide) ?_
    refine p_aload_n C dX5_count_52 rfl 0 rfl ?_
    refine p_get C dX5_count_53 rfl 0 0 inlX5 fl_X5_12 rfl rfl (by decide) rfl rfl ?_
    refine p_getN C dX5_count_56 rfl 1 3 inlX0 nf_X5_53 rfl rfl (by decide) rfl rfl ?_
    cases h
    exact p_iret C dX5_count_59
  · have h := if_f c1 h
    by_cases c2 : p1 = 1
    · have h := if_t c2 h
      refine p_tabIn C dX5_count_1 (pc' := 60) c2 (by decide) (by decide) rfl (by decide) ?_
      refine p_aload_n C dX5_count_60 rfl 0 rfl ?_
      refine p_get C dX5_count_61 rfl 0 1 inlX5 fl_X5_19 rfl rfl (by decide) rfl rfl ?_
      refine p_getN C dX5_count_64 rfl 5 2 inlX4 nf_X5_129 rfl rfl (by decide) rfl rfl ?_
      cases h
      exact p_iret C dX5_count_67
    · have h := if_f c2 h
      by_cases c3 : p1 = 2
      · have h := if_t c3 h
        refine p_tabIn C dX5_count_1 (pc' := 68) c3 (by decide) (by decide) rfl (by decide) ?_
        refine p_aload_n C dX5_count_68 rfl 0 rfl ?_
        refine p_get C dX5_count_69 rfl 0 1 inlX5 fl_X5_19 rfl rfl (by decide) rfl rfl ?_
        refine p_getN C dX5_count_72 rfl 5 2 inlX4 nf_X5_129 rfl rfl (by decide) rfl rfl ?_
        refine p_aload_n C dX5_count_75 rfl 0 rfl ?_
        refine p_get C dX5_count_76 rfl 0 1 inlX5 fl_X5_19 rfl rfl (by decide) rfl rfl ?_
        refine p_getN C dX5_count_79 rfl 5 3 inlX4 nf_X5_190 rfl rfl (by decide) rfl rfl ?_
        refine p_isub C dX5_count_82 rfl ?_
        cases h
        exact p_iret C dX5_count_83
      · have h := if_f c3 h
        by_cases c4 : p1 = 3
        · have h := if_t c4 h
          refine p_tabIn C dX5_count_1 (pc' := 84) c4 (by decide) (by decide) rfl (by decide) ?_
          refine p_aload_n C dX5_count_84 rfl 0 rfl ?_
          refine p_get C dX5_count_85 rfl 0 0 inlX5 fl_X5_12 rfl rfl (by decide) rfl rfl ?_
          obtain ⟨r5, hc6, h⟩ := bd1_of h
          refine p_callVNi (As := []) (st' := []) (Wd' := (V_S x.1.2.2 as0 ab0 ab1 ab2 ab3 at0 at1 at2 at3 at4 an0 an1 an2 anb0 anb1 ann0 ann1 ap0 ap1 as1 ai0 ai1 ai2 ai3 aj0 aj1 aj2 aj3 s_kept b_points b_near b_loose b_short b_nets b_xs b_ys t_total t_oft t_left t_right t_group t_paired n_total n_planned n_leaps n_onward nb_len nb_sum nb_tries nn_len nn_sum nn_tries p_len p_signs i_points i_near i_loose i_short i_nets i_xs i_ys j_points j_near j_loose j_short j_nets j_xs j_ys)) C (c_X0_countNetsWithPoints x.1 (ab0 := ab0) (ab1 := ab1) (ab2 := ab2) (ab3 := ab3) (b_near := b_near) (b_loose := b_loose) (b_short := b_short) (b_xs := b_xs) (b_ys := b_ys) hc6) dX5_count_88 rfl nm_X5_193 kv_X0_countNetsWithPoints ds_X0_countNetsWithPoints ⟨rfl, rfl, by decide, by decide⟩ 0 rfl rfl [1, 2, 3, 4] rfl rfl rfl rfl (by decide) ⟨by decide, by decide⟩ rfl ?_
          cases h
          exact p_iret C dX5_count_91
        · have h := if_f c4 h
          by_cases c7 : p1 = 4
          · have h := if_t c7 h
            refine p_tabIn C dX5_count_1 (pc' := 92) c7 (by decide) (by decide) rfl (by decide) ?_
            refine p_aload_n C dX5_count_92 rfl 0 rfl ?_
            refine p_get C dX5_count_93 rfl 0 0 inlX5 fl_X5_12 rfl rfl (by decide) rfl rfl ?_
            refine p_getN C dX5_count_96 rfl 1 5 inlX0 nf_X5_82 rfl rfl (by decide) rfl rfl ?_
            obtain ⟨r8, hc9, h⟩ := bd1_of h
            refine p_callSi (As := [.int b_loose]) (st' := []) (Wd' := (V_S x.1.2.2 as0 ab0 ab1 ab2 ab3 at0 at1 at2 at3 at4 an0 an1 an2 anb0 anb1 ann0 ann1 ap0 ap1 as1 ai0 ai1 ai2 ai3 aj0 aj1 aj2 aj3 s_kept b_points b_near b_loose b_short b_nets b_xs b_ys t_total t_oft t_left t_right t_group t_paired n_total n_planned n_leaps n_onward nb_len nb_sum nb_tries nn_len nn_sum nn_tries p_len p_signs i_points i_near i_loose i_short i_nets i_xs i_ys j_points j_near j_loose j_short j_nets j_xs j_ys)) C (c_J6_bitCount_0f7a4 x.1 hc9) dX5_count_99 rfl ml_X5_163 ks_J6_bitCount_0f7a4 ds_J6_bitCount_0f7a4 ⟨rfl, rfl, by decide, by decide⟩ [] rfl rfl rfl rfl (by decide) ⟨by decide, by decide⟩ rfl ?_
            cases h
            exact p_iret C dX5_count_102
          · have h := if_f c7 h
            by_cases c10 : p1 = 5
            · have h := if_t c10 h
              refine p_tabIn C dX5_count_1 (pc' := 103) c10 (by decide) (by decide) rfl (by decide) ?_
              refine p_aload_n C dX5_count_103 rfl 0 rfl ?_
              refine p_get C dX5_count_104 rfl 0 0 inlX5 fl_X5_12 rfl rfl (by decide) rfl rfl ?_
              refine p_getN C dX5_count_107 rfl 1 6 inlX0 nf_X5_108 rfl rfl (by decide) rfl rfl ?_
              obtain ⟨r11, hc12, h⟩ := bd1_of h
              refine p_callSi (As := [.int b_short]) (st' := []) (Wd' := (V_S x.1.2.2 as0 ab0 ab1 ab2 ab3 at0 at1 at2 at3 at4 an0 an1 an2 anb0 anb1 ann0 ann1 ap0 ap1 as1 ai0 ai1 ai2 ai3 aj0 aj1 aj2 aj3 s_kept b_points b_near b_loose b_short b_nets b_xs b_ys t_total t_oft t_left t_right t_group t_paired n_total n_planned n_leaps n_onward nb_len nb_sum nb_tries nn_len nn_sum nn_tries p_len p_signs i_points i_near i_loose i_short i_nets i_xs i_ys j_points j_near j_loose j_short j_nets j_xs j_ys)) C (c_J6_bitCount_0f7a4 x.1 hc12) dX5_count_110 rfl ml_X5_163 ks_J6_bitCount_0f7a4 ds_J6_bitCount_0f7a4 ⟨rfl, rfl, by decide, by decide⟩ [] rfl rfl rfl rfl (by decide) ⟨by decide, by decide⟩ rfl ?_
              cases h
              exact p_iret C dX5_count_113
            · have h := if_f c10 h
              by_cases c13 : p1 = 6
              · have h := if_t c13 h
                refine p_tabIn C dX5_count_1 (pc' := 114) c13 (by decide) (by decide) rfl (by decide) ?_
                refine p_aload_n C dX5_count_114 rfl 0 rfl ?_
                refine p_get C dX5_count_115 rfl 0 0 inlX5 fl_X5_12 rfl rfl (by decide) rfl rfl ?_
                refine p_getN C dX5_count_118 rfl 1 4 inlX0 nf_X5_76 rfl rfl (by decide) rfl rfl ?_
                cases h
                exact p_iret C dX5_count_121
              · have h := if_f c13 h
                by_cases c14 : p1 = 7
                · have h := if_t c14 h
                  refine p_tabIn C dX5_count_1 (pc' := 122) c14 (by decide) (by decide) rfl (by decide) ?_
                  refine p_aload_n C dX5_count_122 rfl 0 rfl ?_
                  refine p_get C dX5_count_123 rfl 0 3 inlX5 fl_X5_33 rfl rfl (by decide) rfl rfl ?_
                  refine p_getN C dX5_count_126 rfl 17 1 inlX3 nf_X5_122 rfl rfl (by decide) rfl rfl ?_
                  cases h
                  exact p_iret C dX5_count_129
                · have h := if_f c14 h
                  by_cases c15 : p1 = 8
                  · have h := if_t c15 h
                    refine p_tabIn C dX5_count_1 (pc' := 130) c15 (by decide) (by decide) rfl (by decide) ?_
                    refine p_aload_n C dX5_count_130 rfl 0 rfl ?_
                    refine p_get C dX5_count_131 rfl 0 5 inlX5 fl_X5_41 rfl rfl (by decide) rfl rfl ?_
                    cases h
                    exact p_iret C dX5_count_134
                  · have h := if_f c15 h
                    refine p_tabOut C dX5_count_1 (pc' := 135) (n := 9) (by decide) (by decide) (by intro k hk; match k, hk with | 0, _ => exact c1 | 1, _ => exact c2 | 2, _ => exact c3 | 3, _ => exact c4 | 4, _ => exact c7 | 5, _ => exact c10 | 6, _ => exact c13 | 7, _ => exact c14 | 8, _ => exact c15 | _ + 9, hk => exact absurd hk (by omega)) (by decide) ?_
                    refine p_bipush (v := (-2 : Int32)) C dX5_count_135 rfl (by decide) ?_
                    cases h
                    exact p_iret C dX5_count_137
def m_X5_far (b_points : Int32) (b_xs : Ar) (b_ys : Ar) (p1 : Int32) (p2 : Int32) : Option (Int32) := bd1 (m_X0_hasPoint b_points p1) (fun r1 => if r1 = 0 then (some ((-1 : Int32))) else (bd1 (m_X0_hasPoint b_points p2) (fun r4 => if r4 = 0 then (some ((-1 : Int32))) else (bd1 (m_X0_distance b_xs b_ys p1 p2) (fun r7 => some r7)))))
theorem ds_X5_far : (yX5_far).cls ≠ "java/lang/invoke/MethodHandle" ∧ (yX5_far).cls ≠ "java/lang/invoke/VarHandle" ∧ (parseMethodDescriptor (yX5_far).desc).map (fun d => d.parameters.length) = some 2 := by decide +kernel
set_option maxHeartbeats 4000000 in
set_option maxRecDepth 100000 in
theorem c_X5_far (E : En) {as0 ab0 ab1 ab2 ab3 at0 at1 at2 at3 at4 an0 an1 an2 anb0 anb1 ann0 ann1 ap0 ap1 as1 ai0 ai1 ai2 ai3 aj0 aj1 aj2 aj3 : Nat} {s_kept : Int32} {b_points : Int32} {b_near : Int32} {b_loose : Int32} {b_short : Int32} {b_nets : Ar} {b_xs : Ar} {b_ys : Ar} {t_total : Int32} {t_oft : Int32} {t_left : Ar} {t_right : Ar} {t_group : Ar} {t_paired : Ar} {n_total : Int32} {n_planned : Int32} {n_leaps : Ar} {n_onward : Ar} {nb_len : Int32} {nb_sum : Int32} {nb_tries : Ar} {nn_len : Int32} {nn_sum : Int32} {nn_tries : Ar} {p_len : Int32} {p_signs : Ar} {i_points : Int32} {i_near : Int32} {i_loose : Int32} {i_short : Int32} {i_nets : Ar} {i_xs : Ar} {i_ys : Ar} {j_points : Int32} {j_near : Int32} {j_loose : Int32} {j_short : Int32} {j_nets : Ar} {j_xs : Ar} {j_ys : Ar} {p1 : Int32} {p2 : Int32} {rr : Int32} (h : m_X5_far b_points b_xs b_ys p1 p2 = some rr) : Ci E yX5_far (wU yX5_far cX5_far 3 (some .int)) (RM 1 24) [.ref as0, .int p1, .int p2] (V_S E.2.2 as0 ab0 ab1 ab2 ab3 at0 at1 at2 at3 at4 an0 an1 an2 anb0 anb1 ann0 ann1 ap0 ap1 as1 ai0 ai1 ai2 ai3 aj0 aj1 aj2 aj3 s_kept b_points b_near b_loose b_short b_nets b_xs b_ys t_total t_oft t_left t_right t_group t_paired n_total n_planned n_leaps n_onward nb_len nb_sum nb_tries nn_len nn_sum nn_tries p_len p_signs i_points i_near i_loose i_short i_nets i_xs i_ys j_points j_near j_loose j_short j_nets j_xs j_ys) (V_S E.2.2 as0 ab0 ab1 ab2 ab3 at0 at1 at2 at3 at4 an0 an1 an2 anb0 anb1 ann0 ann1 ap0 ap1 as1 ai0 ai1 ai2 ai3 aj0 aj1 aj2 aj3 s_kept b_points b_near b_loose b_short b_nets b_xs b_ys t_total t_oft t_left t_right t_group t_paired n_total n_planned n_leaps n_onward nb_len nb_sum nb_tries nn_len nn_sum nn_tries p_len p_signs i_points i_near i_loose i_short i_nets i_xs i_ys j_points j_near j_loose j_short j_nets j_xs j_ys) rr := by
  refine Ci.of (by decide) (Nat.le_of_ble_eq_true rfl) ?_
  intro x hE C
  subst hE
  have C : CX RX5 cX5_far 3 (some .int) x := C
  refine p_locals [0, 1, 2] (lv' := [(0, .ref as0), (1, .int p1), (2, .int p2)]) rfl ?_
  unfold m_X5_far at h
  refine p_aload_n C dX5_far_0 rfl 0 rfl ?_
  refine p_get C dX5_far_1 rfl 0 0 inlX5 fl_X5_12 rfl rfl (by decide) rfl rfl ?_
  refine p_iload_n C dX5_far_4 rfl 1 rfl ?_
  obtain ⟨r1, hc2, h⟩ := bd1_of h
  refine p_callVNi (As := [.int p1]) (st' := []) (Wd' := (V_S x.1.2.2 as0 ab0 ab1 ab2 ab3 at0 at1 at2 at3 at4 an0 an1 an2 anb0 anb1 ann0 ann1 ap0 ap1 as1 ai0 ai1 ai2 ai3 aj0 aj1 aj2 aj3 s_kept b_points b_near b_loose b_short b_nets b_xs b_ys t_total t_oft t_left t_right t_group t_paired n_total n_planned n_leaps n_onward nb_len nb_sum nb_tries nn_len nn_sum nn_tries p_len p_signs i_points i_near i_loose i_short i_nets i_xs i_ys j_points j_near j_loose j_short j_nets j_xs j_ys)) C (c_X0_hasPoint x.1 (ab0 := ab0) (ab1 := ab1) (ab2 := ab2) (ab3 := ab3) (b_near := b_near) (b_loose := b_loose) (b_short := b_short) (b_nets := b_nets) (b_xs := b_xs) (b_ys := b_ys) hc2) dX5_far_5 rfl nm_X5_66 kv_X0_hasPoint ds_X0_hasPoint ⟨rfl, rfl, by decide, by decide⟩ 0 rfl rfl [1, 2, 3, 4] rfl rfl rfl rfl (by decide) ⟨by decide, by decide⟩ rfl ?_
  refine p_if_eq C dX5_far_8 (tgt := 22) (by decide) rfl (fun c3 => ?_) (fun c3 => ?_)
  · have h := if_t c3 h
    refine p_iconst (v := (-1 : Int32)) C dX5_far_22 rfl (by decide) ?_
    cases h
    exact p_iret C dX5_far_23
  · have h := if_f c3 h
    refine p_aload_n C dX5_far_11 rfl 0 rfl ?_
    refine p_get C dX5_far_12 rfl 0 0 inlX5 fl_X5_12 rfl rfl (by decide) rfl rfl ?_
    refine p_iload_n C dX5_far_15 rfl 2 rfl ?_
    obtain ⟨r4, hc5, h⟩ := bd1_of h
    refine p_callVNi (As := [.int p2]) (st' := []) (Wd' := (V_S x.1.2.2 as0 ab0 ab1 ab2 ab3 at0 at1 at2 at3 at4 an0 an1 an2 anb0 anb1 ann0 ann1 ap0 ap1 as1 ai0 ai1 ai2 ai3 aj0 aj1 aj2 aj3 s_kept b_points b_near b_loose b_short b_nets b_xs b_ys t_total t_oft t_left t_right t_group t_paired n_total n_planned n_leaps n_onward nb_len nb_sum nb_tries nn_len nn_sum nn_tries p_len p_signs i_points i_near i_loose i_short i_nets i_xs i_ys j_points j_near j_loose j_short j_nets j_xs j_ys)) C (c_X0_hasPoint x.1 (ab0 := ab0) (ab1 := ab1) (ab2 := ab2) (ab3 := ab3) (b_near := b_near) (b_loose := b_loose) (b_short := b_short) (b_nets := b_nets) (b_xs := b_xs) (b_ys := b_ys) hc5) dX5_far_16 rfl nm_X5_66 kv_X0_hasPoint ds_X0_hasPoint ⟨rfl, rfl, by decide, by decide⟩ 0 rfl rfl [1, 2, 3, 4] rfl rfl rfl rfl (by decide) ⟨by decide, by decide⟩ rfl ?_
    refine p_if_ne C dX5_far_19 (tgt := 24) (by decide) rfl (fun c6 => ?_) (fun c6 => ?_)
    · have h := if_f c6 h
      refine p_aload_n C dX5_far_24 rfl 0 rfl ?_
      refine p_get C dX5_far_25 rfl 0 0 inlX5 fl_X5_12 rfl rfl (by decide) rfl rfl ?_
      refine p_iload_n C dX5_far_28 rfl 1 rfl ?_
      refine p_iload_n C dX5_far_29 rfl 2 rfl ?_
      obtain ⟨r7, hc8, h⟩ := bd1_of h
      refine p_callVNi (As := [.int p1, .int p2]) (st' := []) (Wd' := (V_S x.1.2.2 as0 ab0 ab1 ab2 ab3 at0 at1 at2 at3 at4 an0 an1 an2 anb0 anb1 ann0 ann1 ap0 ap1 as1 ai0 ai1 ai2 ai3 aj0 aj1 aj2 aj3 s_kept b_points b_near b_loose b_short b_nets b_xs b_ys t_total t_oft t_left t_right t_group t_paired n_total n_planned n_leaps n_onward nb_len nb_sum nb_tries nn_len nn_sum nn_tries p_len p_signs i_points i_near i_loose i_short i_nets i_xs i_ys j_points j_near j_loose j_short j_nets j_xs j_ys)) C (c_X0_distance x.1 (ab0 := ab0) (ab1 := ab1) (ab2 := ab2) (ab3 := ab3) (b_points := b_points) (b_near := b_near) (b_loose := b_loose) (b_short := b_short) (b_nets := b_nets) hc8) dX5_far_30 rfl nm_X5_92 kv_X0_distance ds_X0_distance ⟨rfl, rfl, by decide, by decide⟩ 0 rfl rfl [1, 2, 3, 4] rfl rfl rfl rfl (by decide) ⟨by decide, by decide⟩ rfl ?_
      cases h
      exact p_iret C dX5_far_33
    · have h := if_t c6 h
      refine p_iconst (v := (-1 : Int32)) C dX5_far_22 rfl (by decide) ?_
      cases h
      exact p_iret C dX5_far_23
def J_X5_isFlaw_17 (b_points : Int32)    : Option (Int32) := some ((1 : Int32))
set_option maxHeartbeats 4000000 in
set_option maxRecDepth 100000 in
theorem tj_X5_isFlaw_17 {x : Cxt} {as0 ab0 ab1 ab2 ab3 at0 at1 at2 at3 at4 an0 an1 an2 anb0 anb1 ann0 ann1 ap0 ap1 as1 ai0 ai1 ai2 ai3 aj0 aj1 aj2 aj3 : Nat} {s_kept : Int32} {b_points : Int32} {b_near : Int32} {b_loose : Int32} {b_short : Int32} {b_nets : Ar} {b_xs : Ar} {b_ys : Ar} {t_total : Int32} {t_oft : Int32} {t_left : Ar} {t_right : Ar} {t_group : Ar} {t_paired : Ar} {n_total : Int32} {n_planned : Int32} {n_leaps : Ar} {n_onward : Ar} {nb_len : Int32} {nb_sum : Int32} {nb_tries : Ar} {nn_len : Int32} {nn_sum : Int32} {nn_tries : Ar} {p_len : Int32} {p_signs : Ar} {i_points : Int32} {i_near : Int32} {i_loose : Int32} {i_short : Int32} {i_nets : Ar} {i_xs : Ar} {i_ys : Ar} {j_points : Int32} {j_near : Int32} {j_loose : Int32} {j_short : Int32} {j_nets : Ar} {j_xs : Ar} {j_ys : Ar}    {rr : Int32} (C : CX RX5 cX5_isFlaw 2 (some .boolean) x)  (h : J_X5_isFlaw_17 b_points = some rr) : PT (RM 1 21) 2 x 17 [(0, .ref as0)] [] (V_S x.1.2.2 as0 ab0 ab1 ab2 ab3 at0 at1 at2 at3 at4 an0 an1 an2 anb0 anb1 ann0 ann1 ap0 ap1 as1 ai0 ai1 ai2 ai3 aj0 aj1 aj2 aj3 s_kept b_points b_near b_loose b_short b_nets b_xs b_ys t_total t_oft t_left t_right t_group t_paired n_total n_planned n_leaps n_onward nb_len nb_sum nb_tries nn_len nn_sum nn_tries p_len p_signs i_points i_near i_loose i_short i_nets i_xs i_ys j_points j_near j_loose j_short j_nets j_xs j_ys) 0 0 (QI x rr (V_S x.1.2.2 as0 ab0 ab1 ab2 ab3 at0 at1 at2 at3 at4 an0 an1 an2 anb0 anb1 ann0 ann1 ap0 ap1 as1 ai0 ai1 ai2 ai3 aj0 aj1 aj2 aj3 s_kept b_points b_near b_loose b_short b_nets b_xs b_ys t_total t_oft t_left t_right t_group t_paired n_total n_planned n_leaps n_onward nb_len nb_sum nb_tries nn_len nn_sum nn_tries p_len p_signs i_points i_near i_loose i_short i_nets i_xs i_ys j_points j_near j_loose j_short j_nets j_xs j_ys)) := by
  unfold J_X5_isFlaw_17 at h
  refine p_iconst (v := (1 : Int32)) C dX5_isFlaw_17 rfl (by decide) ?_
  refine p_goto C dX5_isFlaw_18 (pc' := 22) (by decide) ?_
  cases h
  exact p_zret C dX5_isFlaw_22 rfl
def m_X5_isFlaw (b_points : Int32) (p1 : Int32) : Option (Int32) := bd1 (m_X0_hasPoint b_points p1) (fun r1 => if r1 = 0 then (if p1 < ((20 : Int32)) then (some ((0 : Int32))) else (J_X5_isFlaw_17 b_points)) else (J_X5_isFlaw_17 b_points))
theorem ds_X5_isFlaw : (yX5_isFlaw).cls ≠ "java/lang/invoke/MethodHandle" ∧ (yX5_isFlaw).cls ≠ "java/lang/invoke/VarHandle" ∧ (parseMethodDescriptor (yX5_isFlaw).desc).map (fun d => d.parameters.length) = some 1 := by decide +kernel
set_option maxHeartbeats 4000000 in
set_option maxRecDepth 100000 in
theorem c_X5_isFlaw (E : En) {as0 ab0 ab1 ab2 ab3 at0 at1 at2 at3 at4 an0 an1 an2 anb0 anb1 ann0 ann1 ap0 ap1 as1 ai0 ai1 ai2 ai3 aj0 aj1 aj2 aj3 : Nat} {s_kept : Int32} {b_points : Int32} {b_near : Int32} {b_loose : Int32} {b_short : Int32} {b_nets : Ar} {b_xs : Ar} {b_ys : Ar} {t_total : Int32} {t_oft : Int32} {t_left : Ar} {t_right : Ar} {t_group : Ar} {t_paired : Ar} {n_total : Int32} {n_planned : Int32} {n_leaps : Ar} {n_onward : Ar} {nb_len : Int32} {nb_sum : Int32} {nb_tries : Ar} {nn_len : Int32} {nn_sum : Int32} {nn_tries : Ar} {p_len : Int32} {p_signs : Ar} {i_points : Int32} {i_near : Int32} {i_loose : Int32} {i_short : Int32} {i_nets : Ar} {i_xs : Ar} {i_ys : Ar} {j_points : Int32} {j_near : Int32} {j_loose : Int32} {j_short : Int32} {j_nets : Ar} {j_xs : Ar} {j_ys : Ar} {p1 : Int32} {rr : Int32} (h : m_X5_isFlaw b_points p1 = some rr) : Ci E yX5_isFlaw (wU yX5_isFlaw cX5_isFlaw 2 (some .boolean)) (RM 1 21) [.ref as0, .int p1] (V_S E.2.2 as0 ab0 ab1 ab2 ab3 at0 at1 at2 at3 at4 an0 an1 an2 anb0 anb1 ann0 ann1 ap0 ap1 as1 ai0 ai1 ai2 ai3 aj0 aj1 aj2 aj3 s_kept b_points b_near b_loose b_short b_nets b_xs b_ys t_total t_oft t_left t_right t_group t_paired n_total n_planned n_leaps n_onward nb_len nb_sum nb_tries nn_len nn_sum nn_tries p_len p_signs i_points i_near i_loose i_short i_nets i_xs i_ys j_points j_near j_loose j_short j_nets j_xs j_ys) (V_S E.2.2 as0 ab0 ab1 ab2 ab3 at0 at1 at2 at3 at4 an0 an1 an2 anb0 anb1 ann0 ann1 ap0 ap1 as1 ai0 ai1 ai2 ai3 aj0 aj1 aj2 aj3 s_kept b_points b_near b_loose b_short b_nets b_xs b_ys t_total t_oft t_left t_right t_group t_paired n_total n_planned n_leaps n_onward nb_len nb_sum nb_tries nn_len nn_sum nn_tries p_len p_signs i_points i_near i_loose i_short i_nets i_xs i_ys j_points j_near j_loose j_short j_nets j_xs j_ys) rr := by
  refine Ci.of (by decide) (Nat.le_of_ble_eq_true rfl) ?_
  intro x hE C
  subst hE
  have C : CX RX5 cX5_isFlaw 2 (some .boolean) x := C
  refine p_locals [0, 1] (lv' := [(0, .ref as0), (1, .int p1)]) rfl ?_
  unfold m_X5_isFlaw at h
  refine p_aload_n C dX5_isFlaw_0 rfl 0 rfl ?_
  refine p_get C dX5_isFlaw_1 rfl 0 0 inlX5 fl_X5_12 rfl rfl (by decide) rfl rfl ?_
  refine p_iload_n C dX5_isFlaw_4 rfl 1 rfl ?_
  obtain ⟨r1, hc2, h⟩ := bd1_of h
  refine p_callVNi (As := [.int p1]) (st' := []) (Wd' := (V_S x.1.2.2 as0 ab0 ab1 ab2 ab3 at0 at1 at2 at3 at4 an0 an1 an2 anb0 anb1 ann0 ann1 ap0 ap1 as1 ai0 ai1 ai2 ai3 aj0 aj1 aj2 aj3 s_kept b_points b_near b_loose b_short b_nets b_xs b_ys t_total t_oft t_left t_right t_group t_paired n_total n_planned n_leaps n_onward nb_len nb_sum nb_tries nn_len nn_sum nn_tries p_len p_signs i_points i_near i_loose i_short i_nets i_xs i_ys j_points j_near j_loose j_short j_nets j_xs j_ys)) C (c_X0_hasPoint x.1 (ab0 := ab0) (ab1 := ab1) (ab2 := ab2) (ab3 := ab3) (b_near := b_near) (b_loose := b_loose) (b_short := b_short) (b_nets := b_nets) (b_xs := b_xs) (b_ys := b_ys) hc2) dX5_isFlaw_5 rfl nm_X5_66 kv_X0_hasPoint ds_X0_hasPoint ⟨rfl, rfl, by decide, by decide⟩ 0 rfl rfl [1, 2, 3, 4] rfl rfl rfl rfl (by decide) ⟨by decide, by decide⟩ rfl ?_
  refine p_if_ne C dX5_isFlaw_8 (tgt := 17) (by decide) rfl (fun c3 => ?_) (fun c3 => ?_)
  · have h := if_f c3 h
    refine p_locals [0] (lv' := [(0, .ref as0)]) rfl ?_
    exact tj_X5_isFlaw_17 C  h
  · have h := if_t c3 h
    refine p_iload_n C dX5_isFlaw_11 rfl 1 rfl ?_
    refine p_bipush (v := (20 : Int32)) C dX5_isFlaw_12 rfl (by decide) ?_
    refine p_icmp_lt C dX5_isFlaw_14 (tgt := 21) (by decide) rfl (fun c4 => ?_) (fun c4 => ?_)
    · have h := if_t c4 h
      refine p_iconst (v := (0 : Int32)) C dX5_isFlaw_21 rfl (by decide) ?_
      cases h
      exact p_zret C dX5_isFlaw_22 rfl
    · have h := if_f c4 h
      refine p_locals [0] (lv' := [(0, .ref as0)]) rfl ?_
      exact tj_X5_isFlaw_17 C  h
def m_X5_seenOfFlaw (b_nets : Ar) (t_total : Int32) (t_oft : Int32) (t_left : Ar) (t_right : Ar) (p1 : Int32) : Option (Int32) := if p1 < ((20 : Int32)) then (bd1 (m_X4_seenSet t_total t_oft t_left t_right b_nets (((1 : Int32)) <<< (p1 &&& 31)) ((0 : Int32))) (fun r2 => some r2)) else (bd1 (m_X4_seenSet t_total t_oft t_left t_right b_nets ((0 : Int32)) (((1 : Int32)) <<< ((p1 - ((20 : Int32))) &&& 31))) (fun r4 => some r4))
theorem ds_X5_seenOfFlaw : (yX5_seenOfFlaw).cls ≠ "java/lang/invoke/MethodHandle" ∧ (yX5_seenOfFlaw).cls ≠ "java/lang/invoke/VarHandle" ∧ (parseMethodDescriptor (yX5_seenOfFlaw).desc).map (fun d => d.parameters.length) = some 1 := by decide +kernel
set_option maxHeartbeats 4000000 in
set_option maxRecDepth 100000 in
theorem c_X5_seenOfFlaw (E : En) {as0 ab0 ab1 ab2 ab3 at0 at1 at2 at3 at4 an0 an1 an2 anb0 anb1 ann0 ann1 ap0 ap1 as1 ai0 ai1 ai2 ai3 aj0 aj1 aj2 aj3 : Nat} {s_kept : Int32} {b_points : Int32} {b_near : Int32} {b_loose : Int32} {b_short : Int32} {b_nets : Ar} {b_xs : Ar} {b_ys : Ar} {t_total : Int32} {t_oft : Int32} {t_left : Ar} {t_right : Ar} {t_group : Ar} {t_paired : Ar} {n_total : Int32} {n_planned : Int32} {n_leaps : Ar} {n_onward : Ar} {nb_len : Int32} {nb_sum : Int32} {nb_tries : Ar} {nn_len : Int32} {nn_sum : Int32} {nn_tries : Ar} {p_len : Int32} {p_signs : Ar} {i_points : Int32} {i_near : Int32} {i_loose : Int32} {i_short : Int32} {i_nets : Ar} {i_xs : Ar} {i_ys : Ar} {j_points : Int32} {j_near : Int32} {j_loose : Int32} {j_short : Int32} {j_nets : Ar} {j_xs : Ar} {j_ys : Ar} {p1 : Int32} {rr : Int32} (h : m_X5_seenOfFlaw b_nets t_total t_oft t_left t_right p1 = some rr) : Ci E yX5_seenOfFlaw (wU yX5_seenOfFlaw cX5_seenOfFlaw 2 (some .int)) (RM 4 97) [.ref as0, .int p1] (V_S E.2.2 as0 ab0 ab1 ab2 ab3 at0 at1 at2 at3 at4 an0 an1 an2 anb0 anb1 ann0 ann1 ap0 ap1 as1 ai0 ai1 ai2 ai3 aj0 aj1 aj2 aj3 s_kept b_points b_near b_loose b_short b_nets b_xs b_ys t_total t_oft t_left t_right t_group t_paired n_total n_planned n_leaps n_onward nb_len nb_sum nb_tries nn_len nn_sum nn_tries p_len p_signs i_points i_near i_loose i_short i_nets i_xs i_ys j_points j_near j_loose j_short j_nets j_xs j_ys) (V_S E.2.2 as0 ab0 ab1 ab2 ab3 at0 at1 at2 at3 at4 an0 an1 an2 anb0 anb1 ann0 ann1 ap0 ap1 as1 ai0 ai1 ai2 ai3 aj0 aj1 aj2 aj3 s_kept b_points b_near b_loose b_short b_nets b_xs b_ys t_total t_oft t_left t_right t_group t_paired n_total n_planned n_leaps n_onward nb_len nb_sum nb_tries nn_len nn_sum nn_tries p_len p_signs i_points i_near i_loose i_short i_nets i_xs i_ys j_points j_near j_loose j_short j_nets j_xs j_ys) rr := by
  refine Ci.of (by decide) (Nat.le_of_ble_eq_true rfl) ?_
  intro x hE C
  subst hE
  have C : CX RX5 cX5_seenOfFlaw 2 (some .int) x := C
  refine p_locals [0, 1] (lv' := [(0, .ref as0), (1, .int p1)]) rfl ?_
  unfold m_X5_seenOfFlaw at h
  refine p_iload_n C dX5_seenOfFlaw_0 rfl 1 rfl ?_
  refine p_bipush (v := (20 : Int32)) C dX5_seenOfFlaw_1 rfl (by decide) ?_
  refine p_icmp_lt C dX5_seenOfFlaw_3 (tgt := 25) (by decide) rfl (fun c1 => ?_) (fun c1 => ?_)
  · have h := if_t c1 h
    refine p_aload_n C dX5_seenOfFlaw_25 rfl 0 rfl ?_
    refine p_get C dX5_seenOfFlaw_26 rfl 0 1 inlX5 fl_X5_19 rfl rfl (by decide) rfl rfl ?_
    refine p_aload_n C dX5_seenOfFlaw_29 rfl 0 rfl ?_
    refine p_get C dX5_seenOfFlaw_30 rfl 0 0 inlX5 fl_X5_12 rfl rfl (by decide) rfl rfl ?_
    refine p_iconst (v := (1 : Int32)) C dX5_seenOfFlaw_33 rfl (by decide) ?_
    refine p_iload_n C dX5_seenOfFlaw_34 rfl 1 rfl ?_
    refine p_ishl C dX5_seenOfFlaw_35 rfl ?_
    refine p_iconst (v := (0 : Int32)) C dX5_seenOfFlaw_36 rfl (by decide) ?_
    obtain ⟨r2, hc3, h⟩ := bd1_of h
    refine p_callVNi (As := [.ref ab0, .int (((1 : Int32)) <<< (p1 &&& 31)), .int ((0 : Int32))]) (st' := []) (Wd' := (V_S x.1.2.2 as0 ab0 ab1 ab2 ab3 at0 at1 at2 at3 at4 an0 an1 an2 anb0 anb1 ann0 ann1 ap0 ap1 as1 ai0 ai1 ai2 ai3 aj0 aj1 aj2 aj3 s_kept b_points b_near b_loose b_short b_nets b_xs b_ys t_total t_oft t_left t_right t_group t_paired n_total n_planned n_leaps n_onward nb_len nb_sum nb_tries nn_len nn_sum nn_tries p_len p_signs i_points i_near i_loose i_short i_nets i_xs i_ys j_points j_near j_loose j_short j_nets j_xs j_ys)) C (c_X4_seenSet x.1 (at0 := at0) (at1 := at1) (at2 := at2) (at3 := at3) (at4 := at4) (ab0 := ab0) (ab1 := ab1) (ab2 := ab2) (ab3 := ab3) (t_group := t_group) (t_paired := t_paired) (b_points := b_points) (b_near := b_near) (b_loose := b_loose) (b_short := b_short) (b_xs := b_xs) (b_ys := b_ys) hc3) dX5_seenOfFlaw_37 rfl nm_X5_203 kv_X4_seenSet ds_X4_seenSet ⟨rfl, rfl, by decide, by decide⟩ 0 rfl rfl [5, 6, 7, 8, 9, 1, 2, 3, 4] rfl rfl rfl rfl (by decide) ⟨by decide, by decide⟩ rfl ?_
    cases h
    exact p_iret C dX5_seenOfFlaw_40
  · have h := if_f c1 h
    refine p_aload_n C dX5_seenOfFlaw_6 rfl 0 rfl ?_
    refine p_get C dX5_seenOfFlaw_7 rfl 0 1 inlX5 fl_X5_19 rfl rfl (by decide) rfl rfl ?_
    refine p_aload_n C dX5_seenOfFlaw_10 rfl 0 rfl ?_
    refine p_get C dX5_seenOfFlaw_11 rfl 0 0 inlX5 fl_X5_12 rfl rfl (by decide) rfl rfl ?_
    refine p_iconst (v := (0 : Int32)) C dX5_seenOfFlaw_14 rfl (by decide) ?_
    refine p_iconst (v := (1 : Int32)) C dX5_seenOfFlaw_15 rfl (by decide) ?_
    refine p_iload_n C dX5_seenOfFlaw_16 rfl 1 rfl ?_
    refine p_bipush (v := (20 : Int32)) C dX5_seenOfFlaw_17 rfl (by decide) ?_
    refine p_isub C dX5_seenOfFlaw_19 rfl ?_
    refine p_ishl C dX5_seenOfFlaw_20 rfl ?_
    obtain ⟨r4, hc5, h⟩ := bd1_of h
    refine p_callVNi (As := [.ref ab0, .int ((0 : Int32)), .int (((1 : Int32)) <<< ((p1 - ((20 : Int32))) &&& 31))]) (st' := []) (Wd' := (V_S x.1.2.2 as0 ab0 ab1 ab2 ab3 at0 at1 at2 at3 at4 an0 an1 an2 anb0 anb1 ann0 ann1 ap0 ap1 as1 ai0 ai1 ai2 ai3 aj0 aj1 aj2 aj3 s_kept b_points b_near b_loose b_short b_nets b_xs b_ys t_total t_oft t_left t_right t_group t_paired n_total n_planned n_leaps n_onward nb_len nb_sum nb_tries nn_len nn_sum nn_tries p_len p_signs i_points i_near i_loose i_short i_nets i_xs i_ys j_points j_near j_loose j_short j_nets j_xs j_ys)) C (c_X4_seenSet x.1 (at0 := at0) (at1 := at1) (at2 := at2) (at3 := at3) (at4 := at4) (ab0 := ab0) (ab1 := ab1) (ab2 := ab2) (ab3 := ab3) (t_group := t_group) (t_paired := t_paired) (b_points := b_points) (b_near := b_near) (b_loose := b_loose) (b_short := b_short) (b_xs := b_xs) (b_ys := b_ys) hc5) dX5_seenOfFlaw_21 rfl nm_X5_203 kv_X4_seenSet ds_X4_seenSet ⟨rfl, rfl, by decide, by decide⟩ 0 rfl rfl [5, 6, 7, 8, 9, 1, 2, 3, 4] rfl rfl rfl rfl (by decide) ⟨by decide, by decide⟩ rfl ?_
    cases h
    exact p_iret C dX5_seenOfFlaw_24
def J_X5_flawSeenAs_42 (b_points : Int32) (b_nets : Ar) (t_total : Int32) (t_oft : Int32) (t_left : Ar) (t_right : Ar) (k5 : Int32 → Int32 → Option (Int32))  (v1 : Int32) (v2 : Int32) (v3 : Int32) (v4 : Int32) : Option (Int32) := k5 v3 (v4 + 1)
set_option maxHeartbeats 4000000 in
set_option maxRecDepth 100000 in
theorem tj_X5_flawSeenAs_42 {x : Cxt} {as0 ab0 ab1 ab2 ab3 at0 at1 at2 at3 at4 an0 an1 an2 anb0 anb1 ann0 ann1 ap0 ap1 as1 ai0 ai1 ai2 ai3 aj0 aj1 aj2 aj3 : Nat} {s_kept : Int32} {b_points : Int32} {b_near : Int32} {b_loose : Int32} {b_short : Int32} {b_nets : Ar} {b_xs : Ar} {b_ys : Ar} {t_total : Int32} {t_oft : Int32} {t_left : Ar} {t_right : Ar} {t_group : Ar} {t_paired : Ar} {n_total : Int32} {n_planned : Int32} {n_leaps : Ar} {n_onward : Ar} {nb_len : Int32} {nb_sum : Int32} {nb_tries : Ar} {nn_len : Int32} {nn_sum : Int32} {nn_tries : Ar} {p_len : Int32} {p_signs : Ar} {i_points : Int32} {i_near : Int32} {i_loose : Int32} {i_short : Int32} {i_nets : Ar} {i_xs : Ar} {i_ys : Ar} {j_points : Int32} {j_near : Int32} {j_loose : Int32} {j_short : Int32} {j_nets : Ar} {j_xs : Ar} {j_ys : Ar} {k5 : Int32 → Int32 → Option (Int32)}  {v1 : Int32} {v2 : Int32} {v3 : Int32} {v4 : Int32} {rr : Int32} (C : CX RX5 cX5_flawSeenAs 5 (some .int) x) (hk5 : ∀ (w3 : Int32) (w4 : Int32) , k5 w3 w4 = some rr → PT (RM 5 118) 5 x 5 [(0, .ref as0), (1, .int v1), (2, .int v2), (3, .int w3), (4, .int w4)] [] (V_S x.1.2.2 as0 ab0 ab1 ab2 ab3 at0 at1 at2 at3 at4 an0 an1 an2 anb0 anb1 ann0 ann1 ap0 ap1 as1 ai0 ai1 ai2 ai3 aj0 aj1 aj2 aj3 s_kept b_points b_near b_loose b_short b_nets b_xs b_ys t_total t_oft t_left t_right t_group t_paired n_total n_planned n_leaps n_onward nb_len nb_sum nb_tries nn_len nn_sum nn_tries p_len p_signs i_points i_near i_loose i_short i_nets i_xs i_ys j_points j_near j_loose j_short j_nets j_xs j_ys) 0 0 (QI x rr (V_S x.1.2.2 as0 ab0 ab1 ab2 ab3 at0 at1 at2 at3 at4 an0 an1 an2 anb0 anb1 ann0 ann1 ap0 ap1 as1 ai0 ai1 ai2 ai3 aj0 aj1 aj2 aj3 s_kept b_points b_near b_loose b_short b_nets b_xs b_ys t_total t_oft t_left t_right t_group t_paired n_total n_planned n_leaps n_onward nb_len nb_sum nb_tries nn_len nn_sum nn_tries p_len p_signs i_points i_near i_loose i_short i_nets i_xs i_ys j_points j_near j_loose j_short j_nets j_xs j_ys))) (h : J_X5_flawSeenAs_42 b_points b_nets t_total t_oft t_left t_right k5 v1 v2 v3 v4 = some rr) : PT (RM 5 118) 5 x 42 [(0, .ref as0), (1, .int v1), (2, .int v2), (3, .int v3), (4, .int v4)] [] (V_S x.1.2.2 as0 ab0 ab1 ab2 ab3 at0 at1 at2 at3 at4 an0 an1 an2 anb0 anb1 ann0 ann1 ap0 ap1 as1 ai0 ai1 ai2 ai3 aj0 aj1 aj2 aj3 s_kept b_points b_near b_loose b_short b_nets b_xs b_ys t_total t_oft t_left t_right t_group t_paired n_total n_planned n_leaps n_onward nb_len nb_sum nb_tries nn_len nn_sum nn_tries p_len p_signs i_points i_near i_loose i_short i_nets i_xs i_ys j_points j_near j_loose j_short j_nets j_xs j_ys) 0 0 (QI x rr (V_S x.1.2.2 as0 ab0 ab1 ab2 ab3 at0 at1 at2 at3 at4 an0 an1 an2 anb0 anb1 ann0 ann1 ap0 ap1 as1 ai0 ai1 ai2 ai3 aj0 aj1 aj2 aj3 s_kept b_points b_near b_loose b_short b_nets b_xs b_ys t_total t_oft t_left t_right t_group t_paired n_total n_planned n_leaps n_onward nb_len nb_sum nb_tries nn_len nn_sum nn_tries p_len p_signs i_points i_near i_loose i_short i_nets i_xs i_ys j_points j_near j_loose j_short j_nets j_xs j_ys)) := by
  unfold J_X5_flawSeenAs_42 at h
  refine p_iinc (w := v4 + 1) (lv' := [(4, .int (v4 + 1)), (0, .ref as0), (1, .int v1), (2, .int v2), (3, .int v3)]) C dX5_flawSeenAs_42 rfl 4 rfl rfl (by decide) rfl ?_
  refine p_goto C dX5_flawSeenAs_45 (pc' := 5) (by decide) ?_
  refine p_locals [1, 2, 3, 4, 0] (lv' := [(0, .ref as0), (1, .int v1), (2, .int v2), (3, .int v3), (4, .int (v4 + 1))]) rfl ?_
  exact hk5 _ _ h
def B_X5_flawSeenAs_5 (b_points : Int32) (b_nets : Ar) (t_total : Int32) (t_oft : Int32) (t_left : Ar) (t_right : Ar)  (v1 : Int32) (v2 : Int32) (kk : Int32 → Int32 → Option (Int32)) (v3 : Int32) (v4 : Int32)  : Option (Int32) := if ((26 : Int32)) ≤ v4 then (if v2 = ((-1 : Int32)) then (some v3) else (some ((-6 : Int32)))) else (bd1 (m_X5_isFlaw b_points v4) (fun r3 => if r3 = 0 then (J_X5_flawSeenAs_42 b_points b_nets t_total t_oft t_left t_right (kk) v1 v2 v3 v4) else (bd1 (m_X5_seenOfFlaw b_nets t_total t_oft t_left t_right v4) (fun r6 => if r6 = v1 then (if v3 = v2 then (some v4) else (J_X5_flawSeenAs_42 b_points b_nets t_total t_oft t_left t_right (kk) v1 v2 (v3 + 1) v4)) else (J_X5_flawSeenAs_42 b_points b_nets t_total t_oft t_left t_right (kk) v1 v2 v3 v4)))))
def L_X5_flawSeenAs_5 (b_points : Int32) (b_nets : Ar) (t_total : Int32) (t_oft : Int32) (t_left : Ar) (t_right : Ar)  (v1 : Int32) (v2 : Int32) : Nat → Int32 → Int32 → Option (Int32) := lpG (fun _ _ => none) (B_X5_flawSeenAs_5 b_points b_nets t_total t_oft t_left t_right v1 v2)
set_option maxHeartbeats 4000000 in
set_option maxRecDepth 100000 in
theorem tl_X5_flawSeenAs_5 {x : Cxt} {as0 ab0 ab1 ab2 ab3 at0 at1 at2 at3 at4 an0 an1 an2 anb0 anb1 ann0 ann1 ap0 ap1 as1 ai0 ai1 ai2 ai3 aj0 aj1 aj2 aj3 : Nat} {s_kept : Int32} {b_points : Int32} {b_near : Int32} {b_loose : Int32} {b_short : Int32} {b_nets : Ar} {b_xs : Ar} {b_ys : Ar} {t_total : Int32} {t_oft : Int32} {t_left : Ar} {t_right : Ar} {t_group : Ar} {t_paired : Ar} {n_total : Int32} {n_planned : Int32} {n_leaps : Ar} {n_onward : Ar} {nb_len : Int32} {nb_sum : Int32} {nb_tries : Ar} {nn_len : Int32} {nn_sum : Int32} {nn_tries : Ar} {p_len : Int32} {p_signs : Ar} {i_points : Int32} {i_near : Int32} {i_loose : Int32} {i_short : Int32} {i_nets : Ar} {i_xs : Ar} {i_ys : Ar} {j_points : Int32} {j_near : Int32} {j_loose : Int32} {j_short : Int32} {j_nets : Ar} {j_xs : Ar} {j_ys : Ar}  {v1 : Int32} {v2 : Int32} {rr : Int32} (C : CX RX5 cX5_flawSeenAs 5 (some .int) x)  : ∀ (n : Nat) (v3 : Int32) (v4 : Int32) , L_X5_flawSeenAs_5 b_points b_nets t_total t_oft t_left t_right v1 v2 n v3 v4 = some rr → PT (RM 5 118) 5 x 5 [(0, .ref as0), (1, .int v1), (2, .int v2), (3, .int v3), (4, .int v4)] [] (V_S x.1.2.2 as0 ab0 ab1 ab2 ab3 at0 at1 at2 at3 at4 an0 an1 an2 anb0 anb1 ann0 ann1 ap0 ap1 as1 ai0 ai1 ai2 ai3 aj0 aj1 aj2 aj3 s_kept b_points b_near b_loose b_short b_nets b_xs b_ys t_total t_oft t_left t_right t_group t_paired n_total n_planned n_leaps n_onward nb_len nb_sum nb_tries nn_len nn_sum nn_tries p_len p_signs i_points i_near i_loose i_short i_nets i_xs i_ys j_points j_near j_loose j_short j_nets j_xs j_ys) 0 0 (QI x rr (V_S x.1.2.2 as0 ab0 ab1 ab2 ab3 at0 at1 at2 at3 at4 an0 an1 an2 anb0 anb1 ann0 ann1 ap0 ap1 as1 ai0 ai1 ai2 ai3 aj0 aj1 aj2 aj3 s_kept b_points b_near b_loose b_short b_nets b_xs b_ys t_total t_oft t_left t_right t_group t_paired n_total n_planned n_leaps n_onward nb_len nb_sum nb_tries nn_len nn_sum nn_tries p_len p_signs i_points i_near i_loose i_short i_nets i_xs i_ys j_points j_near j_loose j_short j_nets j_xs j_ys)) := by
  intro n
  induction n with
  | zero =>
    intro v3 v4 h
    cases h
  | succ n ih =>
    intro v3 v4 h
    have h : B_X5_flawSeenAs_5 b_points b_nets t_total t_oft t_left t_right v1 v2 (L_X5_flawSeenAs_5 b_points b_nets t_total t_oft t_left t_right v1 v2 n) v3 v4 = some rr := h
    unfold B_X5_flawSeenAs_5 at h
    refine p_iload C dX5_flawSeenAs_5 rfl 4 rfl ?_
    refine p_bipush (v := (26 : Int32)) C dX5_flawSeenAs_7 rfl (by decide) ?_
    refine p_icmp_ge C dX5_flawSeenAs_9 (tgt := 48) (by decide) rfl (fun c1 => ?_) (fun c1 => ?_)
    · have h := if_t c1 h
      refine p_iload_n C dX5_flawSeenAs_48 rfl 2 rfl ?_
      refine p_iconst (v := (-1 : Int32)) C dX5_flawSeenAs_49 rfl (by decide) ?_
      refine p_icmp_ne C dX5_flawSeenAs_50 (tgt := 57) (by decide) rfl (fun c2 => ?_) (fun c2 => ?_)
      · have h := if_f c2 h
        refine p_bipush (v := (-6 : Int32)) C dX5_flawSeenAs_57 rfl (by decide) ?_
        cases h
        exact p_iret C dX5_flawSeenAs_59
      · have h := if_t c2 h
        refine p_iload_n C dX5_flawSeenAs_53 rfl 3 rfl ?_
        refine p_goto C dX5_flawSeenAs_54 (pc' := 59) (by decide) ?_
        cases h
        exact p_iret C dX5_flawSeenAs_59
    · have h := if_f c1 h
      refine p_aload_n C dX5_flawSeenAs_12 rfl 0 rfl ?_
      refine p_iload C dX5_flawSeenAs_13 rfl 4 rfl ?_
      obtain ⟨r3, hc4, h⟩ := bd1_of h
      refine p_callVi (As := [.int v4]) (st' := []) (Wd' := (V_S x.1.2.2 as0 ab0 ab1 ab2 ab3 at0 at1 at2 at3 at4 an0 an1 an2 anb0 anb1 ann0 ann1 ap0 ap1 as1 ai0 ai1 ai2 ai3 aj0 aj1 aj2 aj3 s_kept b_points b_near b_loose b_short b_nets b_xs b_ys t_total t_oft t_left t_right t_group t_paired n_total n_planned n_leaps n_onward nb_len nb_sum nb_tries nn_len nn_sum nn_tries p_len p_signs i_points i_near i_loose i_short i_nets i_xs i_ys j_points j_near j_loose j_short j_nets j_xs j_ys)) C (c_X5_isFlaw x.1 (as0 := as0) (ab0 := ab0) (ab1 := ab1) (ab2 := ab2) (ab3 := ab3) (at0 := at0) (at1 := at1) (at2 := at2) (at3 := at3) (at4 := at4) (an0 := an0) (an1 := an1) (an2 := an2) (anb0 := anb0) (anb1 := anb1) (ann0 := ann0) (ann1 := ann1) (ap0 := ap0) (ap1 := ap1) (as1 := as1) (ai0 := ai0) (ai1 := ai1) (ai2 := ai2) (ai3 := ai3) (aj0 := aj0) (aj1 := aj1) (aj2 := aj2) (aj3 := aj3) (s_kept := s_kept) (b_near := b_near) (b_loose := b_loose) (b_short := b_short) (b_nets := b_nets) (b_xs := b_xs) (b_ys := b_ys) (t_total := t_total) (t_oft := t_oft) (t_left := t_left) (t_right := t_right) (t_group := t_group) (t_paired := t_paired) (n_total := n_total) (n_planned := n_planned) (n_leaps := n_leaps) (n_onward := n_onward) (nb_len := nb_len) (nb_sum := nb_sum) (nb_tries := nb_tries) (nn_len := nn_len) (nn_sum := nn_sum) (nn_tries := nn_tries) (p_len := p_len) (p_signs := p_signs) (i_points := i_points) (i_near := i_near) (i_loose := i_loose) (i_short := i_short) (i_nets := i_nets) (i_xs := i_xs) (i_ys := i_ys) (j_points := j_points) (j_near := j_near) (j_loose := j_loose) (j_short := j_short) (j_nets := j_nets) (j_xs := j_xs) (j_ys := j_ys) hc4) dX5_flawSeenAs_15 rfl ml_X5_207 kv_X5_isFlaw ds_X5_isFlaw ⟨rfl, rfl, by decide, by decide⟩ 0 rfl rfl [0, 1, 2, 3, 4, 5, 6, 7, 8, 9, 10, 11, 12, 13, 14, 15, 16, 17, 18, 19, 20, 21, 22, 23, 24, 25, 26, 27] rfl rfl rfl rfl (by decide) ⟨by decide, by decide⟩ rfl ?_
      refine p_if_eq C dX5_flawSeenAs_18 (tgt := 42) (by decide) rfl (fun c5 => ?_) (fun c5 => ?_)
      · have h := if_t c5 h
        refine p_locals [0, 1, 2, 3, 4] (lv' := [(0, .ref as0), (1, .int v1), (2, .int v2), (3, .int v3), (4, .int v4)]) rfl ?_
        exact tj_X5_flawSeenAs_42 C (fun u0 u1 h => ih u0 u1 h) h
      · have h := if_f c5 h
        refine p_aload_n C dX5_flawSeenAs_21 rfl 0 rfl ?_
        refine p_iload C dX5_flawSeenAs_22 rfl 4 rfl ?_
        obtain ⟨r6, hc7, h⟩ := bd1_of h
        refine p_callVi (As := [.int v4]) (st' := []) (Wd' := (V_S x.1.2.2 as0 ab0 ab1 ab2 ab3 at0 at1 at2 at3 at4 an0 an1 an2 anb0 anb1 ann0 ann1 ap0 ap1 as1 ai0 ai1 ai2 ai3 aj0 aj1 aj2 aj3 s_kept b_points b_near b_loose b_short b_nets b_xs b_ys t_total t_oft t_left t_right t_group t_paired n_total n_planned n_leaps n_onward nb_len nb_sum nb_tries nn_len nn_sum nn_tries p_len p_signs i_points i_near i_loose i_short i_nets i_xs i_ys j_points j_near j_loose j_short j_nets j_xs j_ys)) C (c_X5_seenOfFlaw x.1 (as0 := as0) (ab0 := ab0) (ab1 := ab1) (ab2 := ab2) (ab3 := ab3) (at0 := at0) (at1 := at1) (at2 := at2) (at3 := at3) (at4 := at4) (an0 := an0) (an1 := an1) (an2 := an2) (anb0 := anb0) (anb1 := anb1) (ann0 := ann0) (ann1 := ann1) (ap0 := ap0) (ap1 := ap1) (as1 := as1) (ai0 := ai0) (ai1 := ai1) (ai2 := ai2) (ai3 := ai3) (aj0 := aj0) (aj1 := aj1) (aj2 := aj2) (aj3 := aj3) (s_kept := s_kept) (b_points := b_points) (b_near := b_near) (b_loose := b_loose) (b_short := b_short) (b_xs := b_xs) (b_ys := b_ys) (t_group := t_group) (t_paired := t_paired) (n_total := n_total) (n_planned := n_planned) (n_leaps := n_leaps) (n_onward := n_onward) (nb_len := nb_len) (nb_sum := nb_sum) (nb_tries := nb_tries) (nn_len := nn_len) (nn_sum := nn_sum) (nn_tries := nn_tries) (p_len := p_len) (p_signs := p_signs) (i_points := i_points) (i_near := i_near) (i_loose := i_loose) (i_short := i_short) (i_nets := i_nets) (i_xs := i_xs) (i_ys := i_ys) (j_points := j_points) (j_near := j_near) (j_loose := j_loose) (j_short := j_short) (j_nets := j_nets) (j_xs := j_xs) (j_ys := j_ys) hc7) dX5_flawSeenAs_24 rfl ml_X5_210 kv_X5_seenOfFlaw ds_X5_seenOfFlaw ⟨rfl, rfl, by decide, by decide⟩ 0 rfl rfl [0, 1, 2, 3, 4, 5, 6, 7, 8, 9, 10, 11, 12, 13, 14, 15, 16, 17, 18, 19, 20, 21, 22, 23, 24, 25, 26, 27] rfl rfl rfl rfl (by decide) ⟨by decide, by decide⟩ rfl ?_
        refine p_iload_n C dX5_flawSeenAs_27 rfl 1 rfl ?_
        refine p_icmp_ne C dX5_flawSeenAs_28 (tgt := 42) (by decide) rfl (fun c8 => ?_) (fun c8 => ?_)
        · have h := if_f c8 h
          refine p_locals [0, 1, 2, 3, 4] (lv' := [(0, .ref as0), (1, .int v1), (2, .int v2), (3, .int v3), (4, .int v4)]) rfl ?_
          exact tj_X5_flawSeenAs_42 C (fun u0 u1 h => ih u0 u1 h) h
        · have h := if_t c8 h
          refine p_iload_n C dX5_flawSeenAs_31 rfl 3 rfl ?_
          refine p_iload_n C dX5_flawSeenAs_32 rfl 2 rfl ?_
          refine p_icmp_ne C dX5_flawSeenAs_33 (tgt := 39) (by decide) rfl (fun c9 => ?_) (fun c9 => ?_)
          · have h := if_f c9 h
            refine p_iinc (w := v3 + 1) (lv' := [(3, .int (v3 + 1)), (0, .ref as0), (1, .int v1), (2, .int v2), (4, .int v4)]) C dX5_flawSeenAs_39 rfl 3 rfl rfl (by decide) rfl ?_
            refine p_locals [1, 2, 3, 0, 4] (lv' := [(0, .ref as0), (1, .int v1), (2, .int v2), (3, .int (v3 + 1)), (4, .int v4)]) rfl ?_
            exact tj_X5_flawSeenAs_42 C (fun u0 u1 h => ih u0 u1 h) h
          · have h := if_t c9 h
            refine p_iload C dX5_flawSeenAs_36 rfl 4 rfl ?_
            cases h
            exact p_iret C dX5_flawSeenAs_38
def m_X5_flawSeenAs (b_points : Int32) (b_nets : Ar) (t_total : Int32) (t_oft : Int32) (t_left : Ar) (t_right : Ar) (p1 : Int32) (p2 : Int32) : Option (Int32) := L_X5_flawSeenAs_5 b_points b_nets t_total t_oft t_left t_right p1 p2 FU ((0 : Int32)) ((0 : Int32))
theorem ds_X5_flawSeenAs : (yX5_flawSeenAs).cls ≠ "java/lang/invoke/MethodHandle" ∧ (yX5_flawSeenAs).cls ≠ "java/lang/invoke/VarHandle" ∧ (parseMethodDescriptor (yX5_flawSeenAs).desc).map (fun d => d.parameters.length) = some 2 := by decide +kernel
set_option maxHeartbeats 4000000 in
set_option maxRecDepth 100000 in
theorem c_X5_flawSeenAs (E : En) {as0 ab0 ab1 ab2 ab3 at0 at1 at2 at3 at4 an0 an1 an2 anb0 anb1 ann0 ann1 ap0 ap1 as1 ai0 ai1 ai2 ai3 aj0 aj1 aj2 aj3 : Nat} {s_kept : Int32} {b_points : Int32} {b_near : Int32} {b_loose : Int32} {b_short : Int32} {b_nets : Ar} {b_xs : Ar} {b_ys : Ar} {t_total : Int32} {t_oft : Int32} {t_left : Ar} {t_right : Ar} {t_group : Ar} {t_paired : Ar} {n_total : Int32} {n_planned : Int32} {n_leaps : Ar} {n_onward : Ar} {nb_len : Int32} {nb_sum : Int32} {nb_tries : Ar} {nn_len : Int32} {nn_sum : Int32} {nn_tries : Ar} {p_len : Int32} {p_signs : Ar} {i_points : Int32} {i_near : Int32} {i_loose : Int32} {i_short : Int32} {i_nets : Ar} {i_xs : Ar} {i_ys : Ar} {j_points : Int32} {j_near : Int32} {j_loose : Int32} {j_short : Int32} {j_nets : Ar} {j_xs : Ar} {j_ys : Ar} {p1 : Int32} {p2 : Int32} {rr : Int32} (h : m_X5_flawSeenAs b_points b_nets t_total t_oft t_left t_right p1 p2 = some rr) : Ci E yX5_flawSeenAs (wU yX5_flawSeenAs cX5_flawSeenAs 5 (some .int)) (RM 5 118) [.ref as0, .int p1, .int p2] (V_S E.2.2 as0 ab0 ab1 ab2 ab3 at0 at1 at2 at3 at4 an0 an1 an2 anb0 anb1 ann0 ann1 ap0 ap1 as1 ai0 ai1 ai2 ai3 aj0 aj1 aj2 aj3 s_kept b_points b_near b_loose b_short b_nets b_xs b_ys t_total t_oft t_left t_right t_group t_paired n_total n_planned n_leaps n_onward nb_len nb_sum nb_tries nn_len nn_sum nn_tries p_len p_signs i_points i_near i_loose i_short i_nets i_xs i_ys j_points j_near j_loose j_short j_nets j_xs j_ys) (V_S E.2.2 as0 ab0 ab1 ab2 ab3 at0 at1 at2 at3 at4 an0 an1 an2 anb0 anb1 ann0 ann1 ap0 ap1 as1 ai0 ai1 ai2 ai3 aj0 aj1 aj2 aj3 s_kept b_points b_near b_loose b_short b_nets b_xs b_ys t_total t_oft t_left t_right t_group t_paired n_total n_planned n_leaps n_onward nb_len nb_sum nb_tries nn_len nn_sum nn_tries p_len p_signs i_points i_near i_loose i_short i_nets i_xs i_ys j_points j_near j_loose j_short j_nets j_xs j_ys) rr := by
  refine Ci.of (by decide) (Nat.le_of_ble_eq_true rfl) ?_
  intro x hE C
  subst hE
  have C : CX RX5 cX5_flawSeenAs 5 (some .int) x := C
  refine p_locals [0, 1, 2] (lv' := [(0, .ref as0), (1, .int p1), (2, .int p2)]) rfl ?_
  unfold m_X5_flawSeenAs at h
  refine p_iconst (v := (0 : Int32)) C dX5_flawSeenAs_0 rfl (by decide) ?_
  refine p_istore_n (lv' := [(3, .int ((0 : Int32))), (0, .ref as0), (1, .int p1), (2, .int p2)]) C dX5_flawSeenAs_1 rfl (by decide) rfl ?_
  refine p_iconst (v := (0 : Int32)) C dX5_flawSeenAs_2 rfl (by decide) ?_
  refine p_istore (lv' := [(4, .int ((0 : Int32))), (3, .int ((0 : Int32))), (0, .ref as0), (1, .int p1), (2, .int p2)]) C dX5_flawSeenAs_3 rfl (by decide) rfl ?_
  refine p_locals [2, 3, 4, 1, 0] (lv' := [(0, .ref as0), (1, .int p1), (2, .int p2), (3, .int ((0 : Int32))), (4, .int ((0 : Int32)))]) rfl ?_
  exact tl_X5_flawSeenAs_5 C  FU _ _ h
def m_X5_fits (b_points : Int32) (b_loose : Int32) (b_short : Int32) (b_nets : Ar) (t_total : Int32) (t_oft : Int32) (t_left : Ar) (t_right : Ar) (p1 : Int32) : Option (Int32) := bd1 (m_X5_seenNow b_loose b_short b_nets t_total t_oft t_left t_right) (fun r1 => bd1 (m_X5_flawSeenAs b_points b_nets t_total t_oft t_left t_right r1 p1) (fun r3 => some r3))
theorem ds_X5_fits : (yX5_fits).cls ≠ "java/lang/invoke/MethodHandle" ∧ (yX5_fits).cls ≠ "java/lang/invoke/VarHandle" ∧ (parseMethodDescriptor (yX5_fits).desc).map (fun d => d.parameters.length) = some 1 := by decide +kernel
set_option maxHeartbeats 4000000 in
set_option maxRecDepth 100000 in
theorem c_X5_fits (E : En) {as0 ab0 ab1 ab2 ab3 at0 at1 at2 at3 at4 an0 an1 an2 anb0 anb1 ann0 ann1 ap0 ap1 as1 ai0 ai1 ai2 ai3 aj0 aj1 aj2 aj3 : Nat} {s_kept : Int32} {b_points : Int32} {b_near : Int32} {b_loose : Int32} {b_short : Int32} {b_nets : Ar} {b_xs : Ar} {b_ys : Ar} {t_total : Int32} {t_oft : Int32} {t_left : Ar} {t_right : Ar} {t_group : Ar} {t_paired : Ar} {n_total : Int32} {n_planned : Int32} {n_leaps : Ar} {n_onward : Ar} {nb_len : Int32} {nb_sum : Int32} {nb_tries : Ar} {nn_len : Int32} {nn_sum : Int32} {nn_tries : Ar} {p_len : Int32} {p_signs : Ar} {i_points : Int32} {i_near : Int32} {i_loose : Int32} {i_short : Int32} {i_nets : Ar} {i_xs : Ar} {i_ys : Ar} {j_points : Int32} {j_near : Int32} {j_loose : Int32} {j_short : Int32} {j_nets : Ar} {j_xs : Ar} {j_ys : Ar} {p1 : Int32} {rr : Int32} (h : m_X5_fits b_points b_loose b_short b_nets t_total t_oft t_left t_right p1 = some rr) : Ci E yX5_fits (wU yX5_fits cX5_fits 2 (some .int)) (RM 6 142) [.ref as0, .int p1] (V_S E.2.2 as0 ab0 ab1 ab2 ab3 at0 at1 at2 at3 at4 an0 an1 an2 anb0 anb1 ann0 ann1 ap0 ap1 as1 ai0 ai1 ai2 ai3 aj0 aj1 aj2 aj3 s_kept b_points b_near b_loose b_short b_nets b_xs b_ys t_total t_oft t_left t_right t_group t_paired n_total n_planned n_leaps n_onward nb_len nb_sum nb_tries nn_len nn_sum nn_tries p_len p_signs i_points i_near i_loose i_short i_nets i_xs i_ys j_points j_near j_loose j_short j_nets j_xs j_ys) (V_S E.2.2 as0 ab0 ab1 ab2 ab3 at0 at1 at2 at3 at4 an0 an1 an2 anb0 anb1 ann0 ann1 ap0 ap1 as1 ai0 ai1 ai2 ai3 aj0 aj1 aj2 aj3 s_kept b_points b_near b_loose b_short b_nets b_xs b_ys t_total t_oft t_left t_right t_group t_paired n_total n_planned n_leaps n_onward nb_len nb_sum nb_tries nn_len nn_sum nn_tries p_len p_signs i_points i_near i_loose i_short i_nets i_xs i_ys j_points j_near j_loose j_short j_nets j_xs j_ys) rr := by
  refine Ci.of (by decide) (Nat.le_of_ble_eq_true rfl) ?_
  intro x hE C
  subst hE
  have C : CX RX5 cX5_fits 2 (some .int) x := C
  refine p_locals [0, 1] (lv' := [(0, .ref as0), (1, .int p1)]) rfl ?_
  unfold m_X5_fits at h
  refine p_aload_n C dX5_fits_0 rfl 0 rfl ?_
  refine p_aload_n C dX5_fits_1 rfl 0 rfl ?_
  obtain ⟨r1, hc2, h⟩ := bd1_of h
  refine p_callVi (As := []) (st' := [.ref as0]) (Wd' := (V_S x.1.2.2 as0 ab0 ab1 ab2 ab3 at0 at1 at2 at3 at4 an0 an1 an2 anb0 anb1 ann0 ann1 ap0 ap1 as1 ai0 ai1 ai2 ai3 aj0 aj1 aj2 aj3 s_kept b_points b_near b_loose b_short b_nets b_xs b_ys t_total t_oft t_left t_right t_group t_paired n_total n_planned n_leaps n_onward nb_len nb_sum nb_tries nn_len nn_sum nn_tries p_len p_signs i_points i_near i_loose i_short i_nets i_xs i_ys j_points j_near j_loose j_short j_nets j_xs j_ys)) C (c_X5_seenNow x.1 (as0 := as0) (ab0 := ab0) (ab1 := ab1) (ab2 := ab2) (ab3 := ab3) (at0 := at0) (at1 := at1) (at2 := at2) (at3 := at3) (at4 := at4) (an0 := an0) (an1 := an1) (an2 := an2) (anb0 := anb0) (anb1 := anb1) (ann0 := ann0) (ann1 := ann1) (ap0 := ap0) (ap1 := ap1) (as1 := as1) (ai0 := ai0) (ai1 := ai1) (ai2 := ai2) (ai3 := ai3) (aj0 := aj0) (aj1 := aj1) (aj2 := aj2) (aj3 := aj3) (s_kept := s_kept) (b_points := b_points) (b_near := b_near) (b_xs := b_xs) (b_ys := b_ys) (t_group := t_group) (t_paired := t_paired) (n_total := n_total) (n_planned := n_planned) (n_leaps := n_leaps) (n_onward := n_onward) (nb_len := nb_len) (nb_sum := nb_sum) (nb_tries := nb_tries) (nn_len := nn_len) (nn_sum := nn_sum) (nn_tries := nn_tries) (p_len := p_len) (p_signs := p_signs) (i_points := i_points) (i_near := i_near) (i_loose := i_loose) (i_short := i_short) (i_nets := i_nets) (i_xs := i_xs) (i_ys := i_ys) (j_points := j_points) (j_near := j_near) (j_loose := j_loose) (j_short := j_short) (j_nets := j_nets) (j_xs := j_xs) (j_ys := j_ys) hc2) dX5_fits_2 rfl ml_X5_115 kv_X5_seenNow ds_X5_seenNow ⟨rfl, rfl, by decide, by decide⟩ 0 rfl rfl [0, 1, 2, 3, 4, 5, 6, 7, 8, 9, 10, 11, 12, 13, 14, 15, 16, 17, 18, 19, 20, 21, 22, 23, 24, 25, 26, 27] rfl rfl rfl rfl (Nat.le_of_ble_eq_true rfl) ⟨by decide, by decide⟩ rfl ?_
  refine p_iload_n C dX5_fits_5 rfl 1 rfl ?_
  obtain ⟨r3, hc4, h⟩ := bd1_of h
  refine p_callVi (As := [.int r1, .int p1]) (st' := []) (Wd' := (V_S x.1.2.2 as0 ab0 ab1 ab2 ab3 at0 at1 at2 at3 at4 an0 an1 an2 anb0 anb1 ann0 ann1 ap0 ap1 as1 ai0 ai1 ai2 ai3 aj0 aj1 aj2 aj3 s_kept b_points b_near b_loose b_short b_nets b_xs b_ys t_total t_oft t_left t_right t_group t_paired n_total n_planned n_leaps n_onward nb_len nb_sum nb_tries nn_len nn_sum nn_tries p_len p_signs i_points i_near i_loose i_short i_nets i_xs i_ys j_points j_near j_loose j_short j_nets j_xs j_ys)) C (c_X5_flawSeenAs x.1 (as0 := as0) (ab0 := ab0) (ab1 := ab1) (ab2 := ab2) (ab3 := ab3) (at0 := at0) (at1 := at1) (at2 := at2) (at3 := at3) (at4 := at4) (an0 := an0) (an1 := an1) (an2 := an2) (anb0 := anb0) (anb1 := anb1) (ann0 := ann0) (ann1 := ann1) (ap0 := ap0) (ap1 := ap1) (as1 := as1) (ai0 := ai0) (ai1 := ai1) (ai2 := ai2) (ai3 := ai3) (aj0 := aj0) (aj1 := aj1) (aj2 := aj2) (aj3 := aj3) (s_kept := s_kept) (b_near := b_near) (b_loose := b_loose) (b_short := b_short) (b_xs := b_xs) (b_ys := b_ys) (t_group := t_group) (t_paired := t_paired) (n_total := n_total) (n_planned := n_planned) (n_leaps := n_leaps) (n_onward := n_onward) (nb_len := nb_len) (nb_sum := nb_sum) (nb_tries := nb_tries) (nn_len := nn_len) (nn_sum := nn_sum) (nn_tries := nn_tries) (p_len := p_len) (p_signs := p_signs) (i_points := i_points) (i_near := i_near) (i_loose := i_loose) (i_short := i_short) (i_nets := i_nets) (i_xs := i_xs) (i_ys := i_ys) (j_points := j_points) (j_near := j_near) (j_loose := j_loose) (j_short := j_short) (j_nets := j_nets) (j_xs := j_xs) (j_ys := j_ys) hc4) dX5_fits_6 rfl ml_X5_171 kv_X5_flawSeenAs ds_X5_flawSeenAs ⟨rfl, rfl, by decide, by decide⟩ 0 rfl rfl [0, 1, 2, 3, 4, 5, 6, 7, 8, 9, 10, 11, 12, 13, 14, 15, 16, 17, 18, 19, 20, 21, 22, 23, 24, 25, 26, 27] rfl rfl rfl rfl (by decide) ⟨by decide, by decide⟩ rfl ?_
  cases h
  exact p_iret C dX5_fits_9
def m_X5_isNet  (p0 : Int32) : Option (Int32) := if p0 < 0 then (some ((0 : Int32))) else (if ((4 : Int32)) ≤ p0 then (some ((0 : Int32))) else (some ((1 : Int32))))
theorem ds_X5_isNet : (yX5_isNet).cls ≠ "java/lang/invoke/MethodHandle" ∧ (yX5_isNet).cls ≠ "java/lang/invoke/VarHandle" ∧ (parseMethodDescriptor (yX5_isNet).desc).map (fun d => d.parameters.length) = some 1 := by decide +kernel
set_option maxHeartbeats 4000000 in
set_option maxRecDepth 100000 in
theorem c_X5_isNet (E : En)  {p0 : Int32} {rr : Int32} (h : m_X5_isNet p0 = some rr) : Ci E yX5_isNet (wU yX5_isNet cX5_isNet 1 (some .boolean)) (RM 0 0) [.int p0] ([] : va_W) ([] : va_W) rr := by
  refine Ci.of (by decide) (Nat.le_of_ble_eq_true rfl) ?_
  intro x hE C
  subst hE
  have C : CX RX5 cX5_isNet 1 (some .boolean) x := C
  refine p_locals [0] (lv' := [(0, .int p0)]) rfl ?_
  unfold m_X5_isNet at h
  refine p_iload_n C dX5_isNet_0 rfl 0 rfl ?_
  refine p_if_lt C dX5_isNet_1 (tgt := 13) (by decide) rfl (fun c1 => ?_) (fun c1 => ?_)
  · have h := if_t c1 h
    refine p_iconst (v := (0 : Int32)) C dX5_isNet_13 rfl (by decide) ?_
    cases h
    exact p_zret C dX5_isNet_14 rfl
  · have h := if_f c1 h
    refine p_iload_n C dX5_isNet_4 rfl 0 rfl ?_
    refine p_iconst (v := (4 : Int32)) C dX5_isNet_5 rfl (by decide) ?_
    refine p_icmp_ge C dX5_isNet_6 (tgt := 13) (by decide) rfl (fun c2 => ?_) (fun c2 => ?_)
    · have h := if_t c2 h
      refine p_iconst (v := (0 : Int32)) C dX5_isNet_13 rfl (by decide) ?_
      cases h
      exact p_zret C dX5_isNet_14 rfl
    · have h := if_f c2 h
      refine p_iconst (v := (1 : Int32)) C dX5_isNet_9 rfl (by decide) ?_
      refine p_goto C dX5_isNet_10 (pc' := 14) (by decide) ?_
      cases h
      exact p_zret C dX5_isNet_14 rfl
def J_X5_isSwitch_9     : Option (Int32) := some ((1 : Int32))
set_option maxHeartbeats 4000000 in
set_option maxRecDepth 100000 in
theorem tj_X5_isSwitch_9 {x : Cxt}     {rr : Int32} (C : CX RX5 cX5_isSwitch 1 (some .boolean) x)  (h : J_X5_isSwitch_9  = some rr) : PT (RM 0 0) 1 x 9 [] [] ([] : va_W) 0 0 (QI x rr ([] : va_W)) := by
  unfold J_X5_isSwitch_9 at h
  refine p_iconst (v := (1 : Int32)) C dX5_isSwitch_9 rfl (by decide) ?_
  refine p_goto C dX5_isSwitch_10 (pc' := 14) (by decide) ?_
  cases h
  exact p_zret C dX5_isSwitch_14 rfl
def m_X5_isSwitch  (p0 : Int32) : Option (Int32) := if p0 = 0 then (J_X5_isSwitch_9 ) else (if p0 = ((1 : Int32)) then (J_X5_isSwitch_9 ) else (some ((0 : Int32))))
theorem ds_X5_isSwitch : (yX5_isSwitch).cls ≠ "java/lang/invoke/MethodHandle" ∧ (yX5_isSwitch).cls ≠ "java/lang/invoke/VarHandle" ∧ (parseMethodDescriptor (yX5_isSwitch).desc).map (fun d => d.parameters.length) = some 1 := by decide +kernel
set_option maxHeartbeats 4000000 in
set_option maxRecDepth 100000 in
theorem c_X5_isSwitch (E : En)  {p0 : Int32} {rr : Int32} (h : m_X5_isSwitch p0 = some rr) : Ci E yX5_isSwitch (wU yX5_isSwitch cX5_isSwitch 1 (some .boolean)) (RM 0 0) [.int p0] ([] : va_W) ([] : va_W) rr := by
  refine Ci.of (by decide) (Nat.le_of_ble_eq_true rfl) ?_
  intro x hE C
  subst hE
  have C : CX RX5 cX5_isSwitch 1 (some .boolean) x := C
  refine p_locals [0] (lv' := [(0, .int p0)]) rfl ?_
  unfold m_X5_isSwitch at h
  refine p_iload_n C dX5_isSwitch_0 rfl 0 rfl ?_
  refine p_if_eq C dX5_isSwitch_1 (tgt := 9) (by decide) rfl (fun c1 => ?_) (fun c1 => ?_)
  · have h := if_t c1 h
    refine p_locals [] (lv' := []) rfl ?_
    exact tj_X5_isSwitch_9 C  h
  · have h := if_f c1 h
    refine p_iload_n C dX5_isSwitch_4 rfl 0 rfl ?_
    refine p_iconst (v := (1 : Int32)) C dX5_isSwitch_5 rfl (by decide) ?_
    refine p_icmp_ne C dX5_isSwitch_6 (tgt := 13) (by decide) rfl (fun c2 => ?_) (fun c2 => ?_)
    · have h := if_f c2 h
      refine p_iconst (v := (0 : Int32)) C dX5_isSwitch_13 rfl (by decide) ?_
      cases h
      exact p_zret C dX5_isSwitch_14 rfl
    · have h := if_t c2 h
      refine p_locals [] (lv' := []) rfl ?_
      exact tj_X5_isSwitch_9 C  h
def J_X5_leastMembers_31  (k4 : Int32 → Int32 → Option (Int32))  (v0 : Int32) (v1 : Int32) (v2 : Int32) (v3 : Int32) : Option (Int32) := k4 v2 (v3 + 1)
set_option maxHeartbeats 4000000 in
set_option maxRecDepth 100000 in
theorem tj_X5_leastMembers_31 {x : Cxt}  {k4 : Int32 → Int32 → Option (Int32)}  {v0 : Int32} {v1 : Int32} {v2 : Int32} {v3 : Int32} {rr : Int32} (C : CX RX5 cX5_leastMembers 4 (some .int) x) (hk4 : ∀ (w2 : Int32) (w3 : Int32) , k4 w2 w3 = some rr → PT (RM 1 21) 4 x 4 [(0, .int v0), (1, .int v1), (2, .int w2), (3, .int w3)] [] ([] : va_W) 0 0 (QI x rr ([] : va_W))) (h : J_X5_leastMembers_31 k4 v0 v1 v2 v3 = some rr) : PT (RM 1 21) 4 x 31 [(0, .int v0), (1, .int v1), (2, .int v2), (3, .int v3)] [] ([] : va_W) 0 0 (QI x rr ([] : va_W)) := by
  unfold J_X5_leastMembers_31 at h
  refine p_iinc (w := v3 + 1) (lv' := [(3, .int (v3 + 1)), (0, .int v0), (1, .int v1), (2, .int v2)]) C dX5_leastMembers_31 rfl 3 rfl rfl (by decide) rfl ?_
  refine p_goto C dX5_leastMembers_34 (pc' := 4) (by decide) ?_
  refine p_locals [1, 2, 3, 0] (lv' := [(0, .int v0), (1, .int v1), (2, .int v2), (3, .int (v3 + 1))]) rfl ?_
  exact hk4 _ _ h
def B_X5_leastMembers_4   (v0 : Int32) (v1 : Int32) (kk : Int32 → Int32 → Option (Int32)) (v2 : Int32) (v3 : Int32)  : Option (Int32) := if ((4 : Int32)) ≤ v3 then (some v2) else (bd1 (m_X5_isIn v0 v3) (fun r2 => if r2 = 0 then (J_X5_leastMembers_31 (kk) v0 v1 v2 v3) else (bd1 (m_J6_bitCount_0f7a4 v2) (fun r5 => if v1 ≤ r5 then (J_X5_leastMembers_31 (kk) v0 v1 v2 v3) else (J_X5_leastMembers_31 (kk) v0 v1 (v2 ||| (((1 : Int32)) <<< (v3 &&& 31))) v3)))))
def L_X5_leastMembers_4   (v0 : Int32) (v1 : Int32) : Nat → Int32 → Int32 → Option (Int32) := lpG (fun _ _ => none) (B_X5_leastMembers_4 v0 v1)
set_option maxHeartbeats 4000000 in
set_option maxRecDepth 100000 in
theorem tl_X5_leastMembers_4 {x : Cxt}   {v0 : Int32} {v1 : Int32} {rr : Int32} (C : CX RX5 cX5_leastMembers 4 (some .int) x)  : ∀ (n : Nat) (v2 : Int32) (v3 : Int32) , L_X5_leastMembers_4 v0 v1 n v2 v3 = some rr → PT (RM 1 21) 4 x 4 [(0, .int v0), (1, .int v1), (2, .int v2), (3, .int v3)] [] ([] : va_W) 0 0 (QI x rr ([] : va_W)) := by
  intro n
  induction n with
  | zero =>
    intro v2 v3 h
    cases h
  | succ n ih =>
    intro v2 v3 h
    have h : B_X5_leastMembers_4 v0 v1 (L_X5_leastMembers_4 v0 v1 n) v2 v3 = some rr := h
    unfold B_X5_leastMembers_4 at h
    refine p_iload_n C dX5_leastMembers_4 rfl 3 rfl ?_
    refine p_iconst (v := (4 : Int32)) C dX5_leastMembers_5 rfl (by decide) ?_
    refine p_icmp_ge C dX5_leastMembers_6 (tgt := 37) (by decide) rfl (fun c1 => ?_) (fun c1 => ?_)
    · have h := if_t c1 h
      refine p_iload_n C dX5_leastMembers_37 rfl 2 rfl ?_
      cases h
      exact p_iret C dX5_leastMembers_38
    · have h := if_f c1 h
      refine p_iload_n C dX5_leastMembers_9 rfl 0 rfl ?_
      refine p_iload_n C dX5_leastMembers_10 rfl 3 rfl ?_
      obtain ⟨r2, hc3, h⟩ := bd1_of h
      refine p_callSi (As := [.int v0, .int v3]) (st' := []) (Wd' := ([] : va_W)) C (c_X5_isIn x.1 hc3) dX5_leastMembers_11 rfl ml_X5_85 ks_X5_isIn ds_X5_isIn ⟨rfl, rfl, by decide, by decide⟩ [] rfl rfl rfl rfl (by decide) ⟨by decide, by decide⟩ rfl ?_
      refine p_if_eq C dX5_leastMembers_14 (tgt := 31) (by decide) rfl (fun c4 => ?_) (fun c4 => ?_)
      · have h := if_t c4 h
        refine p_locals [0, 1, 2, 3] (lv' := [(0, .int v0), (1, .int v1), (2, .int v2), (3, .int v3)]) rfl ?_
        exact tj_X5_leastMembers_31 C (fun u0 u1 h => ih u0 u1 h) h
      · have h := if_f c4 h
        refine p_iload_n C dX5_leastMembers_17 rfl 2 rfl ?_
        obtain ⟨r5, hc6, h⟩ := bd1_of h
        refine p_callSi (As := [.int v2]) (st' := []) (Wd' := ([] : va_W)) C (c_J6_bitCount_0f7a4 x.1 hc6) dX5_leastMembers_18 rfl ml_X5_163 ks_J6_bitCount_0f7a4 ds_J6_bitCount_0f7a4 ⟨rfl, rfl, by decide, by decide⟩ [] rfl rfl rfl rfl (by decide) ⟨by decide, by decide⟩ rfl ?_
        refine p_iload_n C dX5_leastMembers_21 rfl 1 rfl ?_
        refine p_icmp_ge C dX5_leastMembers_22 (tgt := 31) (by decide) rfl (fun c7 => ?_) (fun c7 => ?_)
        · have h := if_t c7 h
          refine p_locals [0, 1, 2, 3] (lv' := [(0, .int v0), (1, .int v1), (2, .int v2), (3, .int v3)]) rfl ?_
          exact tj_X5_leastMembers_31 C (fun u0 u1 h => ih u0 u1 h) h
        · have h := if_f c7 h
          refine p_iload_n C dX5_leastMembers_25 rfl 2 rfl ?_
          refine p_iconst (v := (1 : Int32)) C dX5_leastMembers_26 rfl (by decide) ?_
          refine p_iload_n C dX5_leastMembers_27 rfl 3 rfl ?_
          refine p_ishl C dX5_leastMembers_28 rfl ?_
          refine p_ior C dX5_leastMembers_29 rfl ?_
          refine p_istore_n (lv' := [(2, .int (v2 ||| (((1 : Int32)) <<< (v3 &&& 31)))), (0, .int v0), (1, .int v1), (3, .int v3)]) C dX5_leastMembers_30 rfl (by decide) rfl ?_
          refine p_locals [1, 2, 0, 3] (lv' := [(0, .int v0), (1, .int v1), (2, .int (v2 ||| (((1 : Int32)) <<< (v3 &&& 31)))), (3, .int v3)]) rfl ?_
          exact tj_X5_leastMembers_31 C (fun u0 u1 h => ih u0 u1 h) h
def m_X5_leastMembers  (p0 : Int32) (p1 : Int32) : Option (Int32) := L_X5_leastMembers_4 p0 p1 FU ((0 : Int32)) ((0 : Int32))
theorem ds_X5_leastMembers : (yX5_leastMembers).cls ≠ "java/lang/invoke/MethodHandle" ∧ (yX5_leastMembers).cls ≠ "java/lang/invoke/VarHandle" ∧ (parseMethodDescriptor (yX5_leastMembers).desc).map (fun d => d.parameters.length) = some 2 := by decide +kernel
set_option maxHeartbeats 4000000 in
set_option maxRecDepth 100000 in
theorem c_X5_leastMembers (E : En)  {p0 : Int32} {p1 : Int32} {rr : Int32} (h : m_X5_leastMembers p0 p1 = some rr) : Ci E yX5_leastMembers (wU yX5_leastMembers cX5_leastMembers 4 (some .int)) (RM 1 21) [.int p0, .int p1] ([] : va_W) ([] : va_W) rr := by
  refine Ci.of (by decide) (Nat.le_of_ble_eq_true rfl) ?_
  intro x hE C
  subst hE
  have C : CX RX5 cX5_leastMembers 4 (some .int) x := C
  refine p_locals [0, 1] (lv' := [(0, .int p0), (1, .int p1)]) rfl ?_
  unfold m_X5_leastMembers at h
  refine p_iconst (v := (0 : Int32)) C dX5_leastMembers_0 rfl (by decide) ?_
  refine p_istore_n (lv' := [(2, .int ((0 : Int32))), (0, .int p0), (1, .int p1)]) C dX5_leastMembers_1 rfl (by decide) rfl ?_
  refine p_iconst (v := (0 : Int32)) C dX5_leastMembers_2 rfl (by decide) ?_
  refine p_istore_n (lv' := [(3, .int ((0 : Int32))), (2, .int ((0 : Int32))), (0, .int p0), (1, .int p1)]) C dX5_leastMembers_3 rfl (by decide) rfl ?_
  refine p_locals [2, 3, 1, 0] (lv' := [(0, .int p0), (1, .int p1), (2, .int ((0 : Int32))), (3, .int ((0 : Int32)))]) rfl ?_
  exact tl_X5_leastMembers_4 C  FU _ _ h
