def J_X4_addTrees_63 (t_total : Int32) (t_left : Ar) (t_right : Ar) (t_paired : Ar) (b_points : Int32) (b_nets : Ar) (b_xs : Ar) (k22 : Int32 → Int32 → Ar → Ar → Option (Int32 × Ar × Ar)) (k9 : Int32 → Int32 → Ar → Ar → Option (Int32 × Ar × Ar)) (k2 : Int32 → Int32 → Ar → Ar → Option (Int32 × Ar × Ar))  (v2 : Int32) (v3 : Int32) (v4 : Int32) : Option (Int32 × Ar × Ar) := k22 (v4 + 1) t_total t_left t_right
set_option maxHeartbeats 4000000 in
set_option maxRecDepth 100000 in
theorem tj_X4_addTrees_63 {x : Cxt} {at0 at1 at2 at3 at4 ab0 ab1 ab2 ab3 : Nat} {t_total : Int32} {t_oft : Int32} {t_left : Ar} {t_right : Ar} {t_group : Ar} {t_paired : Ar} {b_points : Int32} {b_near : Int32} {b_loose : Int32} {b_short : Int32} {b_nets : Ar} {b_xs : Ar} {b_ys : Ar} {k22 : Int32 → Int32 → Ar → Ar → Option (Int32 × Ar × Ar)} {k9 : Int32 → Int32 → Ar → Ar → Option (Int32 × Ar × Ar)} {k2 : Int32 → Int32 → Ar → Ar → Option (Int32 × Ar × Ar)}  {v2 : Int32} {v3 : Int32} {v4 : Int32} {q_t_total : Int32} {q_t_left : Ar} {q_t_right : Ar} (C : CX RX4 cX4_addTrees 5 none x) (hk22 : ∀ (w4 : Int32) (w_t_total : Int32) (w_t_left : Ar) (w_t_right : Ar), k22 w4 w_t_total w_t_left w_t_right = some (q_t_total, q_t_left, q_t_right) → PT (RM 2 46) 5 x 22 [(0, .ref at0), (1, .ref ab0), (2, .int v2), (3, .int v3), (4, .int w4)] [] (V_TB x.1.2.2 at0 at1 at2 at3 at4 ab0 ab1 ab2 ab3 w_t_total t_oft w_t_left w_t_right t_group t_paired b_points b_near b_loose b_short b_nets b_xs b_ys) 0 0 (QV x (V_TB x.1.2.2 at0 at1 at2 at3 at4 ab0 ab1 ab2 ab3 q_t_total t_oft q_t_left q_t_right t_group t_paired b_points b_near b_loose b_short b_nets b_xs b_ys))) (hk9 : ∀ (w3 : Int32) (w_t_total : Int32) (w_t_left : Ar) (w_t_right : Ar), k9 w3 w_t_total w_t_left w_t_right = some (q_t_total, q_t_left, q_t_right) → PT (RM 2 46) 5 x 9 [(0, .ref at0), (1, .ref ab0), (2, .int v2), (3, .int w3)] [] (V_TB x.1.2.2 at0 at1 at2 at3 at4 ab0 ab1 ab2 ab3 w_t_total t_oft w_t_left w_t_right t_group t_paired b_points b_near b_loose b_short b_nets b_xs b_ys) 0 0 (QV x (V_TB x.1.2.2 at0 at1 at2 at3 at4 ab0 ab1 ab2 ab3 q_t_total t_oft q_t_left q_t_right t_group t_paired b_points b_near b_loose b_short b_nets b_xs b_ys))) (hk2 : ∀ (w2 : Int32) (w_t_total : Int32) (w_t_left : Ar) (w_t_right : Ar), k2 w2 w_t_total w_t_left w_t_right = some (q_t_total, q_t_left, q_t_right) → PT (RM 2 46) 5 x 2 [(0, .ref at0), (1, .ref ab0), (2, .int w2)] [] (V_TB x.1.2.2 at0 at1 at2 at3 at4 ab0 ab1 ab2 ab3 w_t_total t_oft w_t_left w_t_right t_group t_paired b_points b_near b_loose b_short b_nets b_xs b_ys) 0 0 (QV x (V_TB x.1.2.2 at0 at1 at2 at3 at4 ab0 ab1 ab2 ab3 q_t_total t_oft q_t_left q_t_right t_group t_paired b_points b_near b_loose b_short b_nets b_xs b_ys))) (h : J_X4_addTrees_63 t_total t_left t_right t_paired b_points b_nets b_xs k22 k9 k2 v2 v3 v4 = some (q_t_total, q_t_left, q_t_right)) : PT (RM 2 46) 5 x 63 [(0, .ref at0), (1, .ref ab0), (2, .int v2), (3, .int v3), (4, .int v4)] [] (V_TB x.1.2.2 at0 at1 at2 at3 at4 ab0 ab1 ab2 ab3 t_total t_oft t_left t_right t_group t_paired b_points b_near b_loose b_short b_nets b_xs b_ys) 0 0 (QV x (V_TB x.1.2.2 at0 at1 at2 at3 at4 ab0 ab1 ab2 ab3 q_t_total t_oft q_t_left q_t_right t_group t_paired b_points b_near b_loose b_short b_nets b_xs b_ys)) := by
  unfold J_X4_addTrees_63 at h
  refine p_iinc (w := v4 + 1) (lv' := [(4, .int (v4 + 1)), (0, .ref at0), (1, .ref ab0), (2, .int v2), (3, .int v3)]) C dX4_addTrees_63 rfl 4 rfl rfl (by decide) rfl ?_
  refine p_goto C dX4_addTrees_66 (pc' := 22) (by decide) ?_
  refine p_locals [1, 2, 3, 4, 0] (lv' := [(0, .ref at0), (1, .ref ab0), (2, .int v2), (3, .int v3), (4, .int (v4 + 1))]) rfl ?_
  exact hk22 _ _ _ _ h
def B_X4_addTrees_22 (t_paired : Ar) (b_points : Int32) (b_nets : Ar) (b_xs : Ar) (k9 : Int32 → Int32 → Ar → Ar → Option (Int32 × Ar × Ar)) (k2 : Int32 → Int32 → Ar → Ar → Option (Int32 × Ar × Ar)) (v2 : Int32) (v3 : Int32) (kk : Int32 → Int32 → Ar → Ar → Option (Int32 × Ar × Ar)) (v4 : Int32) (t_total : Int32) (t_left : Ar) (t_right : Ar) : Option (Int32 × Ar × Ar) := if b_points ≤ v4 then (k9 (v3 + 1) t_total t_left t_right) else (grd (gI v3 8) (if (b_nets v3.toNatClampNeg) = v2 then (grd (gI v3 8) (bd1 (m_X5_isIn (t_paired v3.toNatClampNeg) v4) (fun r5 => if r5 = 0 then (J_X4_addTrees_63 t_total t_left t_right t_paired b_points b_nets b_xs (kk) (k9) (k2) v2 v3 v4) else (bd3 (m_X4_addTry t_total t_left t_right b_xs v3 v4) (fun z_total8 z_left9 z_right10 => J_X4_addTrees_63 z_total8 z_left9 z_right10 t_paired b_points b_nets b_xs (kk) (k9) (k2) v2 v3 v4))))) else (J_X4_addTrees_63 t_total t_left t_right t_paired b_points b_nets b_xs (kk) (k9) (k2) v2 v3 v4)))
def L_X4_addTrees_22 (t_paired : Ar) (b_points : Int32) (b_nets : Ar) (b_xs : Ar) (k9 : Int32 → Int32 → Ar → Ar → Option (Int32 × Ar × Ar)) (k2 : Int32 → Int32 → Ar → Ar → Option (Int32 × Ar × Ar)) (v2 : Int32) (v3 : Int32) : Nat → Int32 → Int32 → Ar → Ar → Option (Int32 × Ar × Ar) := lpG (fun _ _ _ _ => none) (B_X4_addTrees_22 t_paired b_points b_nets b_xs k9 k2 v2 v3)
set_option maxHeartbeats 4000000 in
set_option maxRecDepth 100000 in
theorem tl_X4_addTrees_22 {x : Cxt} {at0 at1 at2 at3 at4 ab0 ab1 ab2 ab3 : Nat} {t_oft : Int32} {t_group : Ar} {t_paired : Ar} {b_points : Int32} {b_near : Int32} {b_loose : Int32} {b_short : Int32} {b_nets : Ar} {b_xs : Ar} {b_ys : Ar} {k9 : Int32 → Int32 → Ar → Ar → Option (Int32 × Ar × Ar)} {k2 : Int32 → Int32 → Ar → Ar → Option (Int32 × Ar × Ar)} {v2 : Int32} {v3 : Int32} {q_t_total : Int32} {q_t_left : Ar} {q_t_right : Ar} (C : CX RX4 cX4_addTrees 5 none x) (hk9 : ∀ (w3 : Int32) (w_t_total : Int32) (w_t_left : Ar) (w_t_right : Ar), k9 w3 w_t_total w_t_left w_t_right = some (q_t_total, q_t_left, q_t_right) → PT (RM 2 46) 5 x 9 [(0, .ref at0), (1, .ref ab0), (2, .int v2), (3, .int w3)] [] (V_TB x.1.2.2 at0 at1 at2 at3 at4 ab0 ab1 ab2 ab3 w_t_total t_oft w_t_left w_t_right t_group t_paired b_points b_near b_loose b_short b_nets b_xs b_ys) 0 0 (QV x (V_TB x.1.2.2 at0 at1 at2 at3 at4 ab0 ab1 ab2 ab3 q_t_total t_oft q_t_left q_t_right t_group t_paired b_points b_near b_loose b_short b_nets b_xs b_ys))) (hk2 : ∀ (w2 : Int32) (w_t_total : Int32) (w_t_left : Ar) (w_t_right : Ar), k2 w2 w_t_total w_t_left w_t_right = some (q_t_total, q_t_left, q_t_right) → PT (RM 2 46) 5 x 2 [(0, .ref at0), (1, .ref ab0), (2, .int w2)] [] (V_TB x.1.2.2 at0 at1 at2 at3 at4 ab0 ab1 ab2 ab3 w_t_total t_oft w_t_left w_t_right t_group t_paired b_points b_near b_loose b_short b_nets b_xs b_ys) 0 0 (QV x (V_TB x.1.2.2 at0 at1 at2 at3 at4 ab0 ab1 ab2 ab3 q_t_total t_oft q_t_left q_t_right t_group t_paired b_points b_near b_loose b_short b_nets b_xs b_ys))) : ∀ (n : Nat) (v4 : Int32) (t_total : Int32) (t_left : Ar) (t_right : Ar), L_X4_addTrees_22 t_paired b_points b_nets b_xs k9 k2 v2 v3 n v4 t_total t_left t_right = some (q_t_total, q_t_left, q_t_right) → PT (RM 2 46) 5 x 22 [(0, .ref at0), (1, .ref ab0), (2, .int v2), (3, .int v3), (4, .int v4)] [] (V_TB x.1.2.2 at0 at1 at2 at3 at4 ab0 ab1 ab2 ab3 t_total t_oft t_left t_right t_group t_paired b_points b_near b_loose b_short b_nets b_xs b_ys) 0 0 (QV x (V_TB x.1.2.2 at0 at1 at2 at3 at4 ab0 ab1 ab2 ab3 q_t_total t_oft q_t_left q_t_right t_group t_paired b_points b_near b_loose b_short b_nets b_xs b_ys)) := by
  intro n
  induction n with
  | zero =>
    intro v4 t_total t_left t_right h
    cases h
  | succ n ih =>
    intro v4 t_total t_left t_right h
    have h : B_X4_addTrees_22 t_paired b_points b_nets b_xs k9 k2 v2 v3 (L_X4_addTrees_22 t_paired b_points b_nets b_xs k9 k2 v2 v3 n) v4 t_total t_left t_right = some (q_t_total, q_t_left, q_t_right) := h
    unfold B_X4_addTrees_22 at h
    refine p_iload C dX4_addTrees_22 rfl 4 rfl ?_
    refine p_aload_n C dX4_addTrees_24 rfl 1 rfl ?_
    refine p_getN C dX4_addTrees_25 rfl 5 3 inlX0 nf_X4_41 rfl rfl (by decide) rfl rfl ?_
    refine p_icmp_ge C dX4_addTrees_28 (tgt := 69) (by decide) rfl (fun c1 => ?_) (fun c1 => ?_)
    · have h := if_t c1 h
      refine p_iinc (w := v3 + 1) (lv' := [(3, .int (v3 + 1)), (0, .ref at0), (1, .ref ab0), (2, .int v2), (4, .int v4)]) C dX4_addTrees_69 rfl 3 rfl rfl (by decide) rfl ?_
      refine p_goto C dX4_addTrees_72 (pc' := 9) (by decide) ?_
      refine p_locals [1, 2, 3, 0] (lv' := [(0, .ref at0), (1, .ref ab0), (2, .int v2), (3, .int (v3 + 1))]) rfl ?_
      exact hk9 _ _ _ _ h
    · have h := if_f c1 h
      refine p_aload_n C dX4_addTrees_31 rfl 1 rfl ?_
      refine p_getN C dX4_addTrees_32 rfl 5 0 inlX0 nf_X4_50 rfl rfl (by decide) rfl rfl ?_
      refine p_iload_n C dX4_addTrees_35 rfl 3 rfl ?_
      obtain ⟨g2, h⟩ := grd_of h
      refine p_iald C dX4_addTrees_36 rfl 6 rfl g2 ?_
      refine p_iload_n C dX4_addTrees_37 rfl 2 rfl ?_
      refine p_icmp_ne C dX4_addTrees_38 (tgt := 63) (by decide) rfl (fun c3 => ?_) (fun c3 => ?_)
      · have h := if_f c3 h
        refine p_locals [0, 1, 2, 3, 4] (lv' := [(0, .ref at0), (1, .ref ab0), (2, .int v2), (3, .int v3), (4, .int v4)]) rfl ?_
        exact tj_X4_addTrees_63 C (fun u0 u1 u2 u3 h => ih u0 u1 u2 u3 h) (fun u0 u1 u2 u3 h => hk9 u0 u1 u2 u3 h) (fun u0 u1 u2 u3 h => hk2 u0 u1 u2 u3 h) h
      · have h := if_t c3 h
        refine p_aload_n C dX4_addTrees_41 rfl 0 rfl ?_
        refine p_get C dX4_addTrees_42 rfl 0 5 inlX4 fl_X4_28 rfl rfl (by decide) rfl rfl ?_
        refine p_iload_n C dX4_addTrees_45 rfl 3 rfl ?_
        obtain ⟨g4, h⟩ := grd_of h
        refine p_iald C dX4_addTrees_46 rfl 4 rfl g4 ?_
        refine p_iload C dX4_addTrees_47 rfl 4 rfl ?_
        obtain ⟨r5, hc6, h⟩ := bd1_of h
        refine p_callSNi (As := [.int (t_paired v3.toNatClampNeg), .int v4]) (st' := []) (Wd' := (V_TB x.1.2.2 at0 at1 at2 at3 at4 ab0 ab1 ab2 ab3 t_total t_oft t_left t_right t_group t_paired b_points b_near b_loose b_short b_nets b_xs b_ys)) C (c_X5_isIn x.1 hc6) dX4_addTrees_49 rfl nm_X4_61 ks_X5_isIn ds_X5_isIn ⟨rfl, rfl, by decide, by decide⟩ [] rfl rfl rfl rfl (by decide) ⟨by decide, by decide⟩ rfl ?_
        refine p_if_eq C dX4_addTrees_52 (tgt := 63) (by decide) rfl (fun c7 => ?_) (fun c7 => ?_)
        · have h := if_t c7 h
          refine p_locals [0, 1, 2, 3, 4] (lv' := [(0, .ref at0), (1, .ref ab0), (2, .int v2), (3, .int v3), (4, .int v4)]) rfl ?_
          exact tj_X4_addTrees_63 C (fun u0 u1 u2 u3 h => ih u0 u1 u2 u3 h) (fun u0 u1 u2 u3 h => hk9 u0 u1 u2 u3 h) (fun u0 u1 u2 u3 h => hk2 u0 u1 u2 u3 h) h
        · have h := if_f c7 h
          refine p_aload_n C dX4_addTrees_55 rfl 0 rfl ?_
          refine p_aload_n C dX4_addTrees_56 rfl 1 rfl ?_
          refine p_iload_n C dX4_addTrees_57 rfl 3 rfl ?_
          refine p_iload C dX4_addTrees_58 rfl 4 rfl ?_
          obtain ⟨z_total8, z_left9, z_right10, hc11, h⟩ := bd3_of h
          refine p_callVv_s (As := [.ref ab0, .int v3, .int v4]) (st' := []) (Wc' := (V_TB x.1.2.2 at0 at1 at2 at3 at4 ab0 ab1 ab2 ab3 z_total8 t_oft z_left9 z_right10 t_group t_paired b_points b_near b_loose b_short b_nets b_xs b_ys)) C (c_X4_addTry x.1 (at0 := at0) (at1 := at1) (at2 := at2) (at3 := at3) (at4 := at4) (ab0 := ab0) (ab1 := ab1) (ab2 := ab2) (ab3 := ab3) (t_oft := t_oft) (t_group := t_group) (t_paired := t_paired) (b_points := b_points) (b_near := b_near) (b_loose := b_loose) (b_short := b_short) (b_nets := b_nets) (b_ys := b_ys) hc11) dX4_addTrees_60 rfl ml_X4_65 kv_X4_addTry ds_X4_addTry ⟨rfl, rfl, by decide, by decide⟩ 0 rfl rfl rfl rfl (by decide) ⟨by decide, by decide⟩ ?_
          refine p_locals [0, 1, 2, 3, 4] (lv' := [(0, .ref at0), (1, .ref ab0), (2, .int v2), (3, .int v3), (4, .int v4)]) rfl ?_
          exact tj_X4_addTrees_63 C (fun u0 u1 u2 u3 h => ih u0 u1 u2 u3 h) (fun u0 u1 u2 u3 h => hk9 u0 u1 u2 u3 h) (fun u0 u1 u2 u3 h => hk2 u0 u1 u2 u3 h) h
def B_X4_addTrees_9 (t_paired : Ar) (b_points : Int32) (b_nets : Ar) (b_xs : Ar) (k2 : Int32 → Int32 → Ar → Ar → Option (Int32 × Ar × Ar)) (v2 : Int32) (kk : Int32 → Int32 → Ar → Ar → Option (Int32 × Ar × Ar)) (v3 : Int32) (t_total : Int32) (t_left : Ar) (t_right : Ar) : Option (Int32 × Ar × Ar) := if b_points ≤ v3 then (k2 (v2 + 1) t_total t_left t_right) else (L_X4_addTrees_22 t_paired b_points b_nets b_xs kk k2 v2 v3 FU (v3 + ((1 : Int32))) t_total t_left t_right)
def L_X4_addTrees_9 (t_paired : Ar) (b_points : Int32) (b_nets : Ar) (b_xs : Ar) (k2 : Int32 → Int32 → Ar → Ar → Option (Int32 × Ar × Ar)) (v2 : Int32) : Nat → Int32 → Int32 → Ar → Ar → Option (Int32 × Ar × Ar) := lpG (fun _ _ _ _ => none) (B_X4_addTrees_9 t_paired b_points b_nets b_xs k2 v2)
set_option maxHeartbeats 4000000 in
set_option maxRecDepth 100000 in
theorem tl_X4_addTrees_9 {x : Cxt} {at0 at1 at2 at3 at4 ab0 ab1 ab2 ab3 : Nat} {t_oft : Int32} {t_group : Ar} {t_paired : Ar} {b_points : Int32} {b_near : Int32} {b_loose : Int32} {b_short : Int32} {b_nets : Ar} {b_xs : Ar} {b_ys : Ar} {k2 : Int32 → Int32 → Ar → Ar → Option (Int32 × Ar × Ar)} {v2 : Int32} {q_t_total : Int32} {q_t_left : Ar} {q_t_right : Ar} (C : CX RX4 cX4_addTrees 5 none x) (hk2 : ∀ (w2 : Int32) (w_t_total : Int32) (w_t_left : Ar) (w_t_right : Ar), k2 w2 w_t_total w_t_left w_t_right = some (q_t_total, q_t_left, q_t_right) → PT (RM 2 46) 5 x 2 [(0, .ref at0), (1, .ref ab0), (2, .int w2)] [] (V_TB x.1.2.2 at0 at1 at2 at3 at4 ab0 ab1 ab2 ab3 w_t_total t_oft w_t_left w_t_right t_group t_paired b_points b_near b_loose b_short b_nets b_xs b_ys) 0 0 (QV x (V_TB x.1.2.2 at0 at1 at2 at3 at4 ab0 ab1 ab2 ab3 q_t_total t_oft q_t_left q_t_right t_group t_paired b_points b_near b_loose b_short b_nets b_xs b_ys))) : ∀ (n : Nat) (v3 : Int32) (t_total : Int32) (t_left : Ar) (t_right : Ar), L_X4_addTrees_9 t_paired b_points b_nets b_xs k2 v2 n v3 t_total t_left t_right = some (q_t_total, q_t_left, q_t_right) → PT (RM 2 46) 5 x 9 [(0, .ref at0), (1, .ref ab0), (2, .int v2), (3, .int v3)] [] (V_TB x.1.2.2 at0 at1 at2 at3 at4 ab0 ab1 ab2 ab3 t_total t_oft t_left t_right t_group t_paired b_points b_near b_loose b_short b_nets b_xs b_ys) 0 0 (QV x (V_TB x.1.2.2 at0 at1 at2 at3 at4 ab0 ab1 ab2 ab3 q_t_total t_oft q_t_left q_t_right t_group t_paired b_points b_near b_loose b_short b_nets b_xs b_ys)) := by
  intro n
  induction n with
  | zero =>
    intro v3 t_total t_left t_right h
    cases h
  | succ n ih =>
    intro v3 t_total t_left t_right h
    have h : B_X4_addTrees_9 t_paired b_points b_nets b_xs k2 v2 (L_X4_addTrees_9 t_paired b_points b_nets b_xs k2 v2 n) v3 t_total t_left t_right = some (q_t_total, q_t_left, q_t_right) := h
    unfold B_X4_addTrees_9 at h
    refine p_iload_n C dX4_addTrees_9 rfl 3 rfl ?_
    refine p_aload_n C dX4_addTrees_10 rfl 1 rfl ?_
    refine p_getN C dX4_addTrees_11 rfl 5 3 inlX0 nf_X4_41 rfl rfl (by decide) rfl rfl ?_
    refine p_icmp_ge C dX4_addTrees_14 (tgt := 75) (by decide) rfl (fun c1 => ?_) (fun c1 => ?_)
    · have h := if_t c1 h
      refine p_iinc (w := v2 + 1) (lv' := [(2, .int (v2 + 1)), (0, .ref at0), (1, .ref ab0), (3, .int v3)]) C dX4_addTrees_75 rfl 2 rfl rfl (by decide) rfl ?_
      refine p_goto C dX4_addTrees_78 (pc' := 2) (by decide) ?_
      refine p_locals [1, 2, 0] (lv' := [(0, .ref at0), (1, .ref ab0), (2, .int (v2 + 1))]) rfl ?_
      exact hk2 _ _ _ _ h
    · have h := if_f c1 h
      refine p_iload_n C dX4_addTrees_17 rfl 3 rfl ?_
      refine p_iconst (v := (1 : Int32)) C dX4_addTrees_18 rfl (by decide) ?_
      refine p_iadd C dX4_addTrees_19 rfl ?_
      refine p_istore (lv' := [(4, .int (v3 + ((1 : Int32)))), (0, .ref at0), (1, .ref ab0), (2, .int v2), (3, .int v3)]) C dX4_addTrees_20 rfl (by decide) rfl ?_
      refine p_locals [1, 2, 3, 4, 0] (lv' := [(0, .ref at0), (1, .ref ab0), (2, .int v2), (3, .int v3), (4, .int (v3 + ((1 : Int32))))]) rfl ?_
      exact tl_X4_addTrees_22 C (fun u0 u1 u2 u3 h => ih u0 u1 u2 u3 h) (fun u0 u1 u2 u3 h => hk2 u0 u1 u2 u3 h) FU _ _ _ _ h
def B_X4_addTrees_2 (t_paired : Ar) (b_points : Int32) (b_nets : Ar) (b_xs : Ar)   (kk : Int32 → Int32 → Ar → Ar → Option (Int32 × Ar × Ar)) (v2 : Int32) (t_total : Int32) (t_left : Ar) (t_right : Ar) : Option (Int32 × Ar × Ar) := if ((4 : Int32)) ≤ v2 then (some (t_total, t_left, t_right)) else (L_X4_addTrees_9 t_paired b_points b_nets b_xs kk v2 FU ((0 : Int32)) t_total t_left t_right)
def L_X4_addTrees_2 (t_paired : Ar) (b_points : Int32) (b_nets : Ar) (b_xs : Ar)   : Nat → Int32 → Int32 → Ar → Ar → Option (Int32 × Ar × Ar) := lpG (fun _ _ _ _ => none) (B_X4_addTrees_2 t_paired b_points b_nets b_xs)
set_option maxHeartbeats 4000000 in
set_option maxRecDepth 100000 in
theorem tl_X4_addTrees_2 {x : Cxt} {at0 at1 at2 at3 at4 ab0 ab1 ab2 ab3 : Nat} {t_oft : Int32} {t_group : Ar} {t_paired : Ar} {b_points : Int32} {b_near : Int32} {b_loose : Int32} {b_short : Int32} {b_nets : Ar} {b_xs : Ar} {b_ys : Ar}   {q_t_total : Int32} {q_t_left : Ar} {q_t_right : Ar} (C : CX RX4 cX4_addTrees 5 none x)  : ∀ (n : Nat) (v2 : Int32) (t_total : Int32) (t_left : Ar) (t_right : Ar), L_X4_addTrees_2 t_paired b_points b_nets b_xs n v2 t_total t_left t_right = some (q_t_total, q_t_left, q_t_right) → PT (RM 2 46) 5 x 2 [(0, .ref at0), (1, .ref ab0), (2, .int v2)] [] (V_TB x.1.2.2 at0 at1 at2 at3 at4 ab0 ab1 ab2 ab3 t_total t_oft t_left t_right t_group t_paired b_points b_near b_loose b_short b_nets b_xs b_ys) 0 0 (QV x (V_TB x.1.2.2 at0 at1 at2 at3 at4 ab0 ab1 ab2 ab3 q_t_total t_oft q_t_left q_t_right t_group t_paired b_points b_near b_loose b_short b_nets b_xs b_ys)) := by
  intro n
  induction n with
  | zero =>
    intro v2 t_total t_left t_right h
    cases h
  | succ n ih =>
    intro v2 t_total t_left t_right h
    have h : B_X4_addTrees_2 t_paired b_points b_nets b_xs (L_X4_addTrees_2 t_paired b_points b_nets b_xs n) v2 t_total t_left t_right = some (q_t_total, q_t_left, q_t_right) := h
    unfold B_X4_addTrees_2 at h
    refine p_iload_n C dX4_addTrees_2 rfl 2 rfl ?_
    refine p_iconst (v := (4 : Int32)) C dX4_addTrees_3 rfl (by decide) ?_
    refine p_icmp_ge C dX4_addTrees_4 (tgt := 81) (by decide) rfl (fun c1 => ?_) (fun c1 => ?_)
    · have h := if_t c1 h
      cases h
      exact p_vret C dX4_addTrees_81
    · have h := if_f c1 h
      refine p_iconst (v := (0 : Int32)) C dX4_addTrees_7 rfl (by decide) ?_
      refine p_istore_n (lv' := [(3, .int ((0 : Int32))), (0, .ref at0), (1, .ref ab0), (2, .int v2)]) C dX4_addTrees_8 rfl (by decide) rfl ?_
      refine p_locals [1, 2, 3, 0] (lv' := [(0, .ref at0), (1, .ref ab0), (2, .int v2), (3, .int ((0 : Int32)))]) rfl ?_
      exact tl_X4_addTrees_9 C (fun u0 u1 u2 u3 h => ih u0 u1 u2 u3 h) FU _ _ _ _ h
def m_X4_addTrees (t_total : Int32) (t_left : Ar) (t_right : Ar) (t_paired : Ar) (b_points : Int32) (b_nets : Ar) (b_xs : Ar)  : Option (Int32 × Ar × Ar) := L_X4_addTrees_2 t_paired b_points b_nets b_xs FU ((0 : Int32)) t_total t_left t_right
theorem ds_X4_addTrees : (yX4_addTrees).cls ≠ "java/lang/invoke/MethodHandle" ∧ (yX4_addTrees).cls ≠ "java/lang/invoke/VarHandle" ∧ (parseMethodDescriptor (yX4_addTrees).desc).map (fun d => d.parameters.length) = some 1 := by decide +kernel
set_option maxHeartbeats 4000000 in
set_option maxRecDepth 100000 in
theorem c_X4_addTrees (E : En) {at0 at1 at2 at3 at4 ab0 ab1 ab2 ab3 : Nat} {t_total : Int32} {t_oft : Int32} {t_left : Ar} {t_right : Ar} {t_group : Ar} {t_paired : Ar} {b_points : Int32} {b_near : Int32} {b_loose : Int32} {b_short : Int32} {b_nets : Ar} {b_xs : Ar} {b_ys : Ar}  {q_t_total : Int32} {q_t_left : Ar} {q_t_right : Ar} (h : m_X4_addTrees t_total t_left t_right t_paired b_points b_nets b_xs = some (q_t_total, q_t_left, q_t_right)) : Cv E yX4_addTrees (wU yX4_addTrees cX4_addTrees 5 none) (RM 2 46) [.ref at0, .ref ab0] (V_TB E.2.2 at0 at1 at2 at3 at4 ab0 ab1 ab2 ab3 t_total t_oft t_left t_right t_group t_paired b_points b_near b_loose b_short b_nets b_xs b_ys) (V_TB E.2.2 at0 at1 at2 at3 at4 ab0 ab1 ab2 ab3 q_t_total t_oft q_t_left q_t_right t_group t_paired b_points b_near b_loose b_short b_nets b_xs b_ys) := by
  refine Cv.of (by decide) (Nat.le_of_ble_eq_true rfl) ?_
  intro x hE C
  subst hE
  have C : CX RX4 cX4_addTrees 5 none x := C
  refine p_locals [0, 1] (lv' := [(0, .ref at0), (1, .ref ab0)]) rfl ?_
  unfold m_X4_addTrees at h
  refine p_iconst (v := (0 : Int32)) C dX4_addTrees_0 rfl (by decide) ?_
  refine p_istore_n (lv' := [(2, .int ((0 : Int32))), (0, .ref at0), (1, .ref ab0)]) C dX4_addTrees_1 rfl (by decide) rfl ?_
  refine p_locals [1, 2, 0] (lv' := [(0, .ref at0), (1, .ref ab0), (2, .int ((0 : Int32)))]) rfl ?_
  exact tl_X4_addTrees_2 C  FU _ _ _ _ h
def J_X5_netsOneWith_61  (k14 : Int32 → Int32 → Option (Int32)) (k6 : Int32 → Int32 → Option (Int32))  (v1 : Int32) (v2 : Int32) (v3 : Int32) (v4 : Int32) : Option (Int32) := k14 v2 (v4 + 1)
set_option maxHeartbeats 4000000 in
set_option maxRecDepth 100000 in
theorem tj_X5_netsOneWith_61 {x : Cxt}  {k14 : Int32 → Int32 → Option (Int32)} {k6 : Int32 → Int32 → Option (Int32)}  {v1 : Int32} {v2 : Int32} {v3 : Int32} {v4 : Int32} {rr : Int32} (C : CX RX5 cX5_netsOneWith 6 (some .int) x) (hk14 : ∀ (w2 : Int32) (w4 : Int32) , k14 w2 w4 = some rr → PT (RM 1 21) 6 x 14 [(1, .int v1), (2, .int w2), (3, .int v3), (4, .int w4)] [] ([] : va_W) 0 0 (QI x rr ([] : va_W))) (hk6 : ∀ (w2 : Int32) (w3 : Int32) , k6 w2 w3 = some rr → PT (RM 1 21) 6 x 6 [(1, .int v1), (2, .int w2), (3, .int w3)] [] ([] : va_W) 0 0 (QI x rr ([] : va_W))) (h : J_X5_netsOneWith_61 k14 k6 v1 v2 v3 v4 = some rr) : PT (RM 1 21) 6 x 61 [(1, .int v1), (2, .int v2), (3, .int v3), (4, .int v4)] [] ([] : va_W) 0 0 (QI x rr ([] : va_W)) := by
  unfold J_X5_netsOneWith_61 at h
  refine p_iinc (w := v4 + 1) (lv' := [(4, .int (v4 + 1)), (1, .int v1), (2, .int v2), (3, .int v3)]) C dX5_netsOneWith_61 rfl 3 rfl rfl (by decide) rfl ?_
  refine p_goto C dX5_netsOneWith_64 (pc' := 14) (by decide) ?_
  refine p_locals [1, 2, 3, 0] (lv' := [(1, .int v1), (2, .int v2), (3, .int v3), (4, .int (v4 + 1))]) rfl ?_
  exact hk14 _ _ h
def B_X5_netsOneWith_14  (k6 : Int32 → Int32 → Option (Int32)) (v1 : Int32) (v3 : Int32) (kk : Int32 → Int32 → Option (Int32)) (v2 : Int32) (v4 : Int32)  : Option (Int32) := if ((6 : Int32)) ≤ v4 then (k6 v2 (v3 + 1)) else (grd (gI v4 6) (grd (gI v4 6) (bd1 (some ((((1 : Int32)) <<< ((LNf v4.toNatClampNeg) &&& 31)) ||| (((1 : Int32)) <<< ((GNf v4.toNatClampNeg) &&& 31)))) (fun x8 => bd1 (m_X5_isIn v1 v4) (fun r10 => if r10 = 0 then (J_X5_netsOneWith_61 (kk) (k6) v1 v2 v3 v4) else (if (v2 &&& x8) = 0 then (J_X5_netsOneWith_61 (kk) (k6) v1 v2 v3 v4) else (J_X5_netsOneWith_61 (kk) (k6) v1 (v2 ||| x8) v3 v4)))))))
def L_X5_netsOneWith_14  (k6 : Int32 → Int32 → Option (Int32)) (v1 : Int32) (v3 : Int32) : Nat → Int32 → Int32 → Option (Int32) := lpG (fun _ _ => none) (B_X5_netsOneWith_14 k6 v1 v3)
set_option maxHeartbeats 4000000 in
set_option maxRecDepth 100000 in
theorem tl_X5_netsOneWith_14 {x : Cxt}  {k6 : Int32 → Int32 → Option (Int32)} {v1 : Int32} {v3 : Int32} {rr : Int32} (C : CX RX5 cX5_netsOneWith 6 (some .int) x) (hk6 : ∀ (w2 : Int32) (w3 : Int32) , k6 w2 w3 = some rr → PT (RM 1 21) 6 x 6 [(1, .int v1), (2, .int w2), (3, .int w3)] [] ([] : va_W) 0 0 (QI x rr ([] : va_W))) : ∀ (n : Nat) (v2 : Int32) (v4 : Int32) , L_X5_netsOneWith_14 k6 v1 v3 n v2 v4 = some rr → PT (RM 1 21) 6 x 14 [(1, .int v1), (2, .int v2), (3, .int v3), (4, .int v4)] [] ([] : va_W) 0 0 (QI x rr ([] : va_W)) := by
  intro n
  induction n with
  | zero =>
    intro v2 v4 h
    cases h
  | succ n ih =>
    intro v2 v4 h
    have h : B_X5_netsOneWith_14 k6 v1 v3 (L_X5_netsOneWith_14 k6 v1 v3 n) v2 v4 = some rr := h
    unfold B_X5_netsOneWith_14 at h
    refine p_iload C dX5_netsOneWith_14 rfl 3 rfl ?_
    refine p_bipush (v := (6 : Int32)) C dX5_netsOneWith_16 rfl (by decide) ?_
    refine p_icmp_ge C dX5_netsOneWith_18 (tgt := 67) (by decide) rfl (fun c1 => ?_) (fun c1 => ?_)
    · have h := if_t c1 h
      refine p_iinc (w := v3 + 1) (lv' := [(3, .int (v3 + 1)), (1, .int v1), (2, .int v2), (4, .int v4)]) C dX5_netsOneWith_67 rfl 2 rfl rfl (by decide) rfl ?_
      refine p_goto C dX5_netsOneWith_70 (pc' := 6) (by decide) ?_
      refine p_locals [1, 2, 0] (lv' := [(1, .int v1), (2, .int v2), (3, .int (v3 + 1))]) rfl ?_
      exact hk6 _ _ h
    · have h := if_f c1 h
      refine p_iconst (v := (1 : Int32)) C dX5_netsOneWith_21 rfl (by decide) ?_
      refine p_getsL C dX5_netsOneWith_22 rfl fl_X5_221 (fun tt2 hT3 => ?_)
      refine p_iload C dX5_netsOneWith_25 rfl 3 rfl ?_
      obtain ⟨g4, h⟩ := grd_of h
      refine p_tald C hT3 dX5_netsOneWith_27 rfl g4 ?_
      refine p_ishl C dX5_netsOneWith_28 rfl ?_
      refine p_iconst (v := (1 : Int32)) C dX5_netsOneWith_29 rfl (by decide) ?_
      refine p_getsG C dX5_netsOneWith_30 rfl fl_X5_224 (fun tt5 hT6 => ?_)
      refine p_iload C dX5_netsOneWith_33 rfl 3 rfl ?_
      obtain ⟨g7, h⟩ := grd_of h
      refine p_tald C hT6 dX5_netsOneWith_35 rfl g7 ?_
      refine p_ishl C dX5_netsOneWith_36 rfl ?_
      refine p_ior C dX5_netsOneWith_37 rfl ?_
      obtain ⟨x8, hx9, h⟩ := bd1_of h
      have hx9 := Option.some.inj hx9
      rw [hx9]
      refine p_istore (lv' := [(5, .int x8), (1, .int v1), (2, .int v2), (3, .int v3), (4, .int v4)]) C dX5_netsOneWith_38 rfl (by decide) rfl ?_
      refine p_iload_n C dX5_netsOneWith_40 rfl 1 rfl ?_
      refine p_iload C dX5_netsOneWith_41 rfl 4 rfl ?_
      obtain ⟨r10, hc11, h⟩ := bd1_of h
      refine p_callSi_s (As := [.int v1, .int v4]) (st' := []) (Wc' := ([] : va_W)) C (c_X5_isIn x.1 hc11) dX5_netsOneWith_43 rfl ml_X5_85 ks_X5_isIn ds_X5_isIn ⟨rfl, rfl, by decide, by decide⟩ rfl rfl (by decide) ⟨by decide, by decide⟩ ?_
      refine p_if_eq C dX5_netsOneWith_46 (tgt := 61) (by decide) rfl (fun c12 => ?_) (fun c12 => ?_)
      · have h := if_t c12 h
        refine p_locals [1, 2, 3, 4] (lv' := [(1, .int v1), (2, .int v2), (3, .int v3), (4, .int v4)]) rfl ?_
        exact tj_X5_netsOneWith_61 C (fun u0 u1 h => ih u0 u1 h) (fun u0 u1 h => hk6 u0 u1 h) h
      · have h := if_f c12 h
        refine p_iload_n C dX5_netsOneWith_49 rfl 2 rfl ?_
        refine p_iload C dX5_netsOneWith_50 rfl 0 rfl ?_
        refine p_iand C dX5_netsOneWith_52 rfl ?_
        refine p_if_eq C dX5_netsOneWith_53 (tgt := 61) (by decide) rfl (fun c13 => ?_) (fun c13 => ?_)
        · have h := if_t c13 h
          refine p_locals [1, 2, 3, 4] (lv' := [(1, .int v1), (2, .int v2), (3, .int v3), (4, .int v4)]) rfl ?_
          exact tj_X5_netsOneWith_61 C (fun u0 u1 h => ih u0 u1 h) (fun u0 u1 h => hk6 u0 u1 h) h
        · have h := if_f c13 h
          refine p_iload_n C dX5_netsOneWith_56 rfl 2 rfl ?_
          refine p_iload C dX5_netsOneWith_57 rfl 0 rfl ?_
          refine p_ior C dX5_netsOneWith_59 rfl ?_
          refine p_istore_n (lv' := [(2, .int (v2 ||| x8)), (5, .int x8), (1, .int v1), (3, .int v3), (4, .int v4)]) C dX5_netsOneWith_60 rfl (by decide) rfl ?_
          refine p_locals [2, 0, 3, 4] (lv' := [(1, .int v1), (2, .int (v2 ||| x8)), (3, .int v3), (4, .int v4)]) rfl ?_
          exact tj_X5_netsOneWith_61 C (fun u0 u1 h => ih u0 u1 h) (fun u0 u1 h => hk6 u0 u1 h) h
def B_X5_netsOneWith_6   (v1 : Int32) (kk : Int32 → Int32 → Option (Int32)) (v2 : Int32) (v3 : Int32)  : Option (Int32) := if ((4 : Int32)) ≤ v3 then (some v2) else (L_X5_netsOneWith_14 kk v1 v3 FU v2 ((0 : Int32)))
def L_X5_netsOneWith_6   (v1 : Int32) : Nat → Int32 → Int32 → Option (Int32) := lpG (fun _ _ => none) (B_X5_netsOneWith_6 v1)
set_option maxHeartbeats 4000000 in
set_option maxRecDepth 100000 in
theorem tl_X5_netsOneWith_6 {x : Cxt}   {v1 : Int32} {rr : Int32} (C : CX RX5 cX5_netsOneWith 6 (some .int) x)  : ∀ (n : Nat) (v2 : Int32) (v3 : Int32) , L_X5_netsOneWith_6 v1 n v2 v3 = some rr → PT (RM 1 21) 6 x 6 [(1, .int v1), (2, .int v2), (3, .int v3)] [] ([] : va_W) 0 0 (QI x rr ([] : va_W)) := by
  intro n
  induction n with
  | zero =>
    intro v2 v3 h
    cases h
  | succ n ih =>
    intro v2 v3 h
    have h : B_X5_netsOneWith_6 v1 (L_X5_netsOneWith_6 v1 n) v2 v3 = some rr := h
    unfold B_X5_netsOneWith_6 at h
    refine p_iload_n C dX5_netsOneWith_6 rfl 2 rfl ?_
    refine p_iconst (v := (4 : Int32)) C dX5_netsOneWith_7 rfl (by decide) ?_
    refine p_icmp_ge C dX5_netsOneWith_8 (tgt := 73) (by decide) rfl (fun c1 => ?_) (fun c1 => ?_)
    · have h := if_t c1 h
      refine p_iload_n C dX5_netsOneWith_73 rfl 1 rfl ?_
      cases h
      exact p_iret C dX5_netsOneWith_74
    · have h := if_f c1 h
      refine p_iconst (v := (0 : Int32)) C dX5_netsOneWith_11 rfl (by decide) ?_
      refine p_istore (lv' := [(4, .int ((0 : Int32))), (1, .int v1), (2, .int v2), (3, .int v3)]) C dX5_netsOneWith_12 rfl (by decide) rfl ?_
      refine p_locals [1, 2, 3, 0] (lv' := [(1, .int v1), (2, .int v2), (3, .int v3), (4, .int ((0 : Int32)))]) rfl ?_
      exact tl_X5_netsOneWith_14 C (fun u0 u1 h => ih u0 u1 h) FU _ _ h
def m_X5_netsOneWith  (p0 : Int32) (p1 : Int32) : Option (Int32) := L_X5_netsOneWith_6 p1 FU (((1 : Int32)) <<< (p0 &&& 31)) ((1 : Int32))
theorem ds_X5_netsOneWith : (yX5_netsOneWith).cls ≠ "java/lang/invoke/MethodHandle" ∧ (yX5_netsOneWith).cls ≠ "java/lang/invoke/VarHandle" ∧ (parseMethodDescriptor (yX5_netsOneWith).desc).map (fun d => d.parameters.length) = some 2 := by decide +kernel
set_option maxHeartbeats 4000000 in
set_option maxRecDepth 100000 in
theorem c_X5_netsOneWith (E : En)  {p0 : Int32} {p1 : Int32} {rr : Int32} (h : m_X5_netsOneWith p0 p1 = some rr) : Ci E yX5_netsOneWith (wU yX5_netsOneWith cX5_netsOneWith 6 (some .int)) (RM 1 21) [.int p0, .int p1] ([] : va_W) ([] : va_W) rr := by
  refine Ci.of (by decide) (Nat.le_of_ble_eq_true rfl) ?_
  intro x hE C
  subst hE
  have C : CX RX5 cX5_netsOneWith 6 (some .int) x := C
  refine p_locals [0, 1] (lv' := [(0, .int p0), (1, .int p1)]) rfl ?_
  unfold m_X5_netsOneWith at h
  refine p_iconst (v := (1 : Int32)) C dX5_netsOneWith_0 rfl (by decide) ?_
  refine p_iload_n C dX5_netsOneWith_1 rfl 0 rfl ?_
  refine p_ishl C dX5_netsOneWith_2 rfl ?_
  refine p_istore_n (lv' := [(2, .int (((1 : Int32)) <<< (p0 &&& 31))), (0, .int p0), (1, .int p1)]) C dX5_netsOneWith_3 rfl (by decide) rfl ?_
  refine p_iconst (v := (1 : Int32)) C dX5_netsOneWith_4 rfl (by decide) ?_
  refine p_istore_n (lv' := [(3, .int ((1 : Int32))), (2, .int (((1 : Int32)) <<< (p0 &&& 31))), (0, .int p0), (1, .int p1)]) C dX5_netsOneWith_5 rfl (by decide) rfl ?_
  refine p_locals [3, 1, 0] (lv' := [(1, .int p1), (2, .int (((1 : Int32)) <<< (p0 &&& 31))), (3, .int ((1 : Int32)))]) rfl ?_
  exact tl_X5_netsOneWith_6 C  FU _ _ h
def m_X4_conducts (t_left : Ar) (t_right : Ar) (b_nets : Ar) (p2 : Int32) (p3 : Int32) (p4 : Int32) : Option (Int32) := grd (gI p2 10) (grd (gI p2 10) (bd1 (m_X5_isIn p3 (t_left p2.toNatClampNeg)) (fun r3 => if r3 = 0 then (bd1 (m_X5_isIn p3 (t_right p2.toNatClampNeg)) (fun r6 => if r6 = 0 then (grd (gI (t_left p2.toNatClampNeg) 8) (bd1 (m_X5_netsOneWith (b_nets (t_left p2.toNatClampNeg).toNatClampNeg) p4) (fun r10 => grd (gI (t_right p2.toNatClampNeg) 8) (bd1 (m_X5_isIn r10 (b_nets (t_right p2.toNatClampNeg).toNatClampNeg)) (fun r13 => grd (zb r13) (some r13)))))) else (some ((0 : Int32))))) else (some ((0 : Int32))))))
theorem ds_X4_conducts : (yX4_conducts).cls ≠ "java/lang/invoke/MethodHandle" ∧ (yX4_conducts).cls ≠ "java/lang/invoke/VarHandle" ∧ (parseMethodDescriptor (yX4_conducts).desc).map (fun d => d.parameters.length) = some 4 := by decide +kernel
set_option maxHeartbeats 4000000 in
set_option maxRecDepth 100000 in
theorem c_X4_conducts (E : En) {at0 at1 at2 at3 at4 ab0 ab1 ab2 ab3 : Nat} {t_total : Int32} {t_oft : Int32} {t_left : Ar} {t_right : Ar} {t_group : Ar} {t_paired : Ar} {b_points : Int32} {b_near : Int32} {b_loose : Int32} {b_short : Int32} {b_nets : Ar} {b_xs : Ar} {b_ys : Ar} {p2 : Int32} {p3 : Int32} {p4 : Int32} {rr : Int32} (h : m_X4_conducts t_left t_right b_nets p2 p3 p4 = some rr) : Ci E yX4_conducts (wU yX4_conducts cX4_conducts 7 (some .boolean)) (RM 2 46) [.ref at0, .ref ab0, .int p2, .int p3, .int p4] (V_TB E.2.2 at0 at1 at2 at3 at4 ab0 ab1 ab2 ab3 t_total t_oft t_left t_right t_group t_paired b_points b_near b_loose b_short b_nets b_xs b_ys) (V_TB E.2.2 at0 at1 at2 at3 at4 ab0 ab1 ab2 ab3 t_total t_oft t_left t_right t_group t_paired b_points b_near b_loose b_short b_nets b_xs b_ys) rr := by
  refine Ci.of (by decide) (Nat.le_of_ble_eq_true rfl) ?_
  intro x hE C
  subst hE
  have C : CX RX4 cX4_conducts 7 (some .boolean) x := C
  refine p_locals [0, 1, 2, 3, 4] (lv' := [(0, .ref at0), (1, .ref ab0), (2, .int p2), (3, .int p3), (4, .int p4)]) rfl ?_
  unfold m_X4_conducts at h
  refine p_aload_n C dX4_conducts_0 rfl 0 rfl ?_
  refine p_get C dX4_conducts_1 rfl 0 0 inlX4 fl_X4_9 rfl rfl (by decide) rfl rfl ?_
  refine p_iload_n C dX4_conducts_4 rfl 2 rfl ?_
  obtain ⟨g1, h⟩ := grd_of h
  refine p_iald C dX4_conducts_5 rfl 1 rfl g1 ?_
  refine p_istore (lv' := [(5, .int (t_left p2.toNatClampNeg)), (0, .ref at0), (1, .ref ab0), (2, .int p2), (3, .int p3), (4, .int p4)]) C dX4_conducts_6 rfl (by decide) rfl ?_
  refine p_aload_n C dX4_conducts_8 rfl 1 rfl ?_
  refine p_get C dX4_conducts_9 rfl 0 1 inlX4 fl_X4_15 rfl rfl (by decide) rfl rfl ?_
  refine p_iload_n C dX4_conducts_12 rfl 3 rfl ?_
  obtain ⟨g2, h⟩ := grd_of h
  refine p_iald C dX4_conducts_13 rfl 2 rfl g2 ?_
  refine p_istore (lv' := [(6, .int (t_right p2.toNatClampNeg)), (5, .int (t_left p2.toNatClampNeg)), (0, .ref at0), (1, .ref ab0), (2, .int p2), (3, .int p3), (4, .int p4)]) C dX4_conducts_14 rfl (by decide) rfl ?_
  refine p_iload_n C dX4_conducts_16 rfl 5 rfl ?_
  refine p_iload C dX4_conducts_17 rfl 1 rfl ?_
  obtain ⟨r3, hc4, h⟩ := bd1_of h
  refine p_callSNi (As := [.int p3, .int (t_left p2.toNatClampNeg)]) (st' := []) (Wd' := (V_TB x.1.2.2 at0 at1 at2 at3 at4 ab0 ab1 ab2 ab3 t_total t_oft t_left t_right t_group t_paired b_points b_near b_loose b_short b_nets b_xs b_ys)) C (c_X5_isIn x.1 hc4) dX4_conducts_19 rfl nm_X4_61 ks_X5_isIn ds_X5_isIn ⟨rfl, rfl, by decide, by decide⟩ [] rfl rfl rfl rfl (by decide) ⟨by decide, by decide⟩ rfl ?_
  refine p_if_ne C dX4_conducts_22 (tgt := 34) (by decide) rfl (fun c5 => ?_) (fun c5 => ?_)
  · have h := if_f c5 h
    refine p_iconst (v := (0 : Int32)) C dX4_conducts_34 rfl (by decide) ?_
    cases h
    exact p_zret C dX4_conducts_35 rfl
  · have h := if_t c5 h
    refine p_iload_n C dX4_conducts_25 rfl 5 rfl ?_
    refine p_iload C dX4_conducts_26 rfl 0 rfl ?_
    obtain ⟨r6, hc7, h⟩ := bd1_of h
    refine p_callSNi (As := [.int p3, .int (t_right p2.toNatClampNeg)]) (st' := []) (Wd' := (V_TB x.1.2.2 at0 at1 at2 at3 at4 ab0 ab1 ab2 ab3 t_total t_oft t_left t_right t_group t_paired b_points b_near b_loose b_short b_nets b_xs b_ys)) C (c_X5_isIn x.1 hc7) dX4_conducts_28 rfl nm_X4_61 ks_X5_isIn ds_X5_isIn ⟨rfl, rfl, by decide, by decide⟩ [] rfl rfl rfl rfl (by decide) ⟨by decide, by decide⟩ rfl ?_
    refine p_if_eq C dX4_conducts_31 (tgt := 36) (by decide) rfl (fun c8 => ?_) (fun c8 => ?_)
    · have h := if_t c8 h
      refine p_aload_n C dX4_conducts_36 rfl 3 rfl ?_
      refine p_getN C dX4_conducts_37 rfl 5 0 inlX0 nf_X4_50 rfl rfl (by decide) rfl rfl ?_
      refine p_iload C dX4_conducts_40 rfl 1 rfl ?_
      obtain ⟨g9, h⟩ := grd_of h
      refine p_iald C dX4_conducts_42 rfl 6 rfl g9 ?_
      refine p_iload C dX4_conducts_43 rfl 6 rfl ?_
      obtain ⟨r10, hc11, h⟩ := bd1_of h
      refine p_callSNi (As := [.int (b_nets (t_left p2.toNatClampNeg).toNatClampNeg), .int p4]) (st' := []) (Wd' := (V_TB x.1.2.2 at0 at1 at2 at3 at4 ab0 ab1 ab2 ab3 t_total t_oft t_left t_right t_group t_paired b_points b_near b_loose b_short b_nets b_xs b_ys)) C (c_X5_netsOneWith x.1 hc11) dX4_conducts_45 rfl nm_X4_84 ks_X5_netsOneWith ds_X5_netsOneWith ⟨rfl, rfl, by decide, by decide⟩ [] rfl rfl rfl rfl (by decide) ⟨by decide, by decide⟩ rfl ?_
      refine p_aload_n C dX4_conducts_48 rfl 3 rfl ?_
      refine p_getN C dX4_conducts_49 rfl 5 0 inlX0 nf_X4_50 rfl rfl (by decide) rfl rfl ?_
      refine p_iload C dX4_conducts_52 rfl 0 rfl ?_
      obtain ⟨g12, h⟩ := grd_of h
      refine p_iald C dX4_conducts_54 rfl 6 rfl g12 ?_
      obtain ⟨r13, hc14, h⟩ := bd1_of h
      refine p_callSNi (As := [.int r10, .int (b_nets (t_right p2.toNatClampNeg).toNatClampNeg)]) (st' := []) (Wd' := (V_TB x.1.2.2 at0 at1 at2 at3 at4 ab0 ab1 ab2 ab3 t_total t_oft t_left t_right t_group t_paired b_points b_near b_loose b_short b_nets b_xs b_ys)) C (c_X5_isIn x.1 hc14) dX4_conducts_55 rfl nm_X4_61 ks_X5_isIn ds_X5_isIn ⟨rfl, rfl, by decide, by decide⟩ [] rfl rfl rfl rfl (by decide) ⟨by decide, by decide⟩ rfl ?_
      obtain ⟨g15, h⟩ := grd_of h
      cases h
      exact p_zret C dX4_conducts_58 (zb_ok g15)
    · have h := if_f c8 h
      refine p_iconst (v := (0 : Int32)) C dX4_conducts_34 rfl (by decide) ?_
      cases h
      exact p_zret C dX4_conducts_35 rfl
def J_X4_mergeGroups_25 (t_group : Ar) (k2 : Int32 → Ar → Option (Ar))  (v1 : Int32) (v2 : Int32) (v3 : Int32) : Option (Ar) := k2 (v3 + 1) t_group
set_option maxHeartbeats 4000000 in
set_option maxRecDepth 100000 in
theorem tj_X4_mergeGroups_25 {x : Cxt} {at0 at1 at2 at3 at4 : Nat} {t_total : Int32} {t_oft : Int32} {t_left : Ar} {t_right : Ar} {t_group : Ar} {t_paired : Ar} {k2 : Int32 → Ar → Option (Ar)}  {v1 : Int32} {v2 : Int32} {v3 : Int32} {q_t_group : Ar} (C : CX RX4 cX4_mergeGroups 4 none x) (hk2 : ∀ (w3 : Int32) (w_t_group : Ar), k2 w3 w_t_group = some q_t_group → PT (RM 0 0) 4 x 2 [(0, .ref at0), (1, .int v1), (2, .int v2), (3, .int w3)] [] (V_T x.1.2.2 at0 at1 at2 at3 at4 t_total t_oft t_left t_right w_t_group t_paired) 0 0 (QV x (V_T x.1.2.2 at0 at1 at2 at3 at4 t_total t_oft t_left t_right q_t_group t_paired))) (h : J_X4_mergeGroups_25 t_group k2 v1 v2 v3 = some q_t_group) : PT (RM 0 0) 4 x 25 [(0, .ref at0), (1, .int v1), (2, .int v2), (3, .int v3)] [] (V_T x.1.2.2 at0 at1 at2 at3 at4 t_total t_oft t_left t_right t_group t_paired) 0 0 (QV x (V_T x.1.2.2 at0 at1 at2 at3 at4 t_total t_oft t_left t_right q_t_group t_paired)) := by
  unfold J_X4_mergeGroups_25 at h
  refine p_iinc (w := v3 + 1) (lv' := [(3, .int (v3 + 1)), (0, .ref at0), (1, .int v1), (2, .int v2)]) C dX4_mergeGroups_25 rfl 3 rfl rfl (by decide) rfl ?_
  refine p_goto C dX4_mergeGroups_28 (pc' := 2) (by decide) ?_
  refine p_locals [1, 2, 3, 0] (lv' := [(0, .ref at0), (1, .int v1), (2, .int v2), (3, .int (v3 + 1))]) rfl ?_
  exact hk2 _ _ h
def B_X4_mergeGroups_2   (v1 : Int32) (v2 : Int32) (kk : Int32 → Ar → Option (Ar)) (v3 : Int32) (t_group : Ar) : Option (Ar) := if ((8 : Int32)) ≤ v3 then (some t_group) else (grd (gI v3 8) (if (t_group v3.toNatClampNeg) = v2 then (grd (gI v3 8) (J_X4_mergeGroups_25 (upd t_group v3.toNatClampNeg v1) (kk) v1 v2 v3)) else (J_X4_mergeGroups_25 t_group (kk) v1 v2 v3)))
def L_X4_mergeGroups_2   (v1 : Int32) (v2 : Int32) : Nat → Int32 → Ar → Option (Ar) := lpG (fun _ _ => none) (B_X4_mergeGroups_2 v1 v2)
set_option maxHeartbeats 4000000 in
set_option maxRecDepth 100000 in
theorem tl_X4_mergeGroups_2 {x : Cxt} {at0 at1 at2 at3 at4 : Nat} {t_total : Int32} {t_oft : Int32} {t_left : Ar} {t_right : Ar} {t_paired : Ar}  {v1 : Int32} {v2 : Int32} {q_t_group : Ar} (C : CX RX4 cX4_mergeGroups 4 none x)  : ∀ (n : Nat) (v3 : Int32) (t_group : Ar), L_X4_mergeGroups_2 v1 v2 n v3 t_group = some q_t_group → PT (RM 0 0) 4 x 2 [(0, .ref at0), (1, .int v1), (2, .int v2), (3, .int v3)] [] (V_T x.1.2.2 at0 at1 at2 at3 at4 t_total t_oft t_left t_right t_group t_paired) 0 0 (QV x (V_T x.1.2.2 at0 at1 at2 at3 at4 t_total t_oft t_left t_right q_t_group t_paired)) := by
  intro n
  induction n with
  | zero =>
    intro v3 t_group h
    cases h
  | succ n ih =>
    intro v3 t_group h
    have h : B_X4_mergeGroups_2 v1 v2 (L_X4_mergeGroups_2 v1 v2 n) v3 t_group = some q_t_group := h
    unfold B_X4_mergeGroups_2 at h
    refine p_iload_n C dX4_mergeGroups_2 rfl 3 rfl ?_
    refine p_bipush (v := (8 : Int32)) C dX4_mergeGroups_3 rfl (by decide) ?_
    refine p_icmp_ge C dX4_mergeGroups_5 (tgt := 31) (by decide) rfl (fun c1 => ?_) (fun c1 => ?_)
    · have h := if_t c1 h
      cases h
      exact p_vret C dX4_mergeGroups_31
    · have h := if_f c1 h
      refine p_aload_n C dX4_mergeGroups_8 rfl 0 rfl ?_
      refine p_get C dX4_mergeGroups_9 rfl 0 4 inlX4 fl_X4_25 rfl rfl (by decide) rfl rfl ?_
      refine p_iload_n C dX4_mergeGroups_12 rfl 3 rfl ?_
      obtain ⟨g2, h⟩ := grd_of h
      refine p_iald C dX4_mergeGroups_13 rfl 3 rfl g2 ?_
      refine p_iload_n C dX4_mergeGroups_14 rfl 2 rfl ?_
      refine p_icmp_ne C dX4_mergeGroups_15 (tgt := 25) (by decide) rfl (fun c3 => ?_) (fun c3 => ?_)
      · have h := if_f c3 h
        refine p_locals [0, 1, 2, 3] (lv' := [(0, .ref at0), (1, .int v1), (2, .int v2), (3, .int v3)]) rfl ?_
        exact tj_X4_mergeGroups_25 C (fun u0 u1 h => ih u0 u1 h) h
      · have h := if_t c3 h
        refine p_aload_n C dX4_mergeGroups_18 rfl 0 rfl ?_
        refine p_get C dX4_mergeGroups_19 rfl 0 4 inlX4 fl_X4_25 rfl rfl (by decide) rfl rfl ?_
        refine p_iload_n C dX4_mergeGroups_22 rfl 3 rfl ?_
        refine p_iload_n C dX4_mergeGroups_23 rfl 1 rfl ?_
        obtain ⟨g4, h⟩ := grd_of h
        refine p_iast (Wd' := (V_T x.1.2.2 at0 at1 at2 at3 at4 t_total t_oft t_left t_right (upd t_group v3.toNatClampNeg v1) t_paired)) C dX4_mergeGroups_24 rfl 3 rfl g4 rfl ?_
        refine p_locals [0, 1, 2, 3] (lv' := [(0, .ref at0), (1, .int v1), (2, .int v2), (3, .int v3)]) rfl ?_
        exact tj_X4_mergeGroups_25 C (fun u0 u1 h => ih u0 u1 h) h
def m_X4_mergeGroups (t_group : Ar) (p1 : Int32) (p2 : Int32) : Option (Ar) := L_X4_mergeGroups_2 p1 p2 FU ((0 : Int32)) t_group
theorem ds_X4_mergeGroups : (yX4_mergeGroups).cls ≠ "java/lang/invoke/MethodHandle" ∧ (yX4_mergeGroups).cls ≠ "java/lang/invoke/VarHandle" ∧ (parseMethodDescriptor (yX4_mergeGroups).desc).map (fun d => d.parameters.length) = some 2 := by decide +kernel
set_option maxHeartbeats 4000000 in
set_option maxRecDepth 100000 in
theorem c_X4_mergeGroups (E : En) {at0 at1 at2 at3 at4 : Nat} {t_total : Int32} {t_oft : Int32} {t_left : Ar} {t_right : Ar} {t_group : Ar} {t_paired : Ar} {p1 : Int32} {p2 : Int32} {q_t_group : Ar} (h : m_X4_mergeGroups t_group p1 p2 = some q_t_group) : Cv E yX4_mergeGroups (wU yX4_mergeGroups cX4_mergeGroups 4 none) (RM 0 0) [.ref at0, .int p1, .int p2] (V_T E.2.2 at0 at1 at2 at3 at4 t_total t_oft t_left t_right t_group t_paired) (V_T E.2.2 at0 at1 at2 at3 at4 t_total t_oft t_left t_right q_t_group t_paired) := by
  refine Cv.of (by decide) (Nat.le_of_ble_eq_true rfl) ?_
  intro x hE C
  subst hE
  have C : CX RX4 cX4_mergeGroups 4 none x := C
  refine p_locals [0, 1, 2] (lv' := [(0, .ref at0), (1, .int p1), (2, .int p2)]) rfl ?_
  unfold m_X4_mergeGroups at h
  refine p_iconst (v := (0 : Int32)) C dX4_mergeGroups_0 rfl (by decide) ?_
  refine p_istore_n (lv' := [(3, .int ((0 : Int32))), (0, .ref at0), (1, .int p1), (2, .int p2)]) C dX4_mergeGroups_1 rfl (by decide) rfl ?_
  refine p_locals [1, 2, 3, 0] (lv' := [(0, .ref at0), (1, .int p1), (2, .int p2), (3, .int ((0 : Int32)))]) rfl ?_
  exact tl_X4_mergeGroups_2 C  FU _ _ h
