def J_X4_joinNextPair_99 (t_group : Ar) (t_paired : Ar) (b_points : Int32) (b_nets : Ar) (b_xs : Ar) (b_ys : Ar) (k25 : Int32 → Int32 → Int32 → Int32 → Option (Int32 × Ar × Ar)) (k10 : Int32 → Int32 → Int32 → Int32 → Option (Int32 × Ar × Ar))  (v2 : Int32) (v3 : Int32) (v4 : Int32) (v5 : Int32) (v6 : Int32) : Option (Int32 × Ar × Ar) := k25 v2 v3 v4 (v6 + 1)
set_option maxHeartbeats 4000000 in
set_option maxRecDepth 100000 in
theorem tj_X4_joinNextPair_99 {x : Cxt} {at0 at1 at2 at3 at4 ab0 ab1 ab2 ab3 : Nat} {t_total : Int32} {t_oft : Int32} {t_left : Ar} {t_right : Ar} {t_group : Ar} {t_paired : Ar} {b_points : Int32} {b_near : Int32} {b_loose : Int32} {b_short : Int32} {b_nets : Ar} {b_xs : Ar} {b_ys : Ar} {k25 : Int32 → Int32 → Int32 → Int32 → Option (Int32 × Ar × Ar)} {k10 : Int32 → Int32 → Int32 → Int32 → Option (Int32 × Ar × Ar)}  {v2 : Int32} {v3 : Int32} {v4 : Int32} {v5 : Int32} {v6 : Int32} {rr : Int32} {q_t_group : Ar} {q_t_paired : Ar} (C : CX RX4 cX4_joinNextPair 8 (some .boolean) x) (hk25 : ∀ (w2 : Int32) (w3 : Int32) (w4 : Int32) (w6 : Int32) , k25 w2 w3 w4 w6 = some (rr, q_t_group, q_t_paired) → PT (RM 1 24) 8 x 25 [(0, .ref at0), (1, .ref ab0), (2, .int w2), (3, .int w3), (4, .int w4), (5, .int v5), (6, .int w6)] [] (V_TB x.1.2.2 at0 at1 at2 at3 at4 ab0 ab1 ab2 ab3 t_total t_oft t_left t_right t_group t_paired b_points b_near b_loose b_short b_nets b_xs b_ys) 0 0 (QI x rr (V_TB x.1.2.2 at0 at1 at2 at3 at4 ab0 ab1 ab2 ab3 t_total t_oft t_left t_right q_t_group q_t_paired b_points b_near b_loose b_short b_nets b_xs b_ys))) (hk10 : ∀ (w2 : Int32) (w3 : Int32) (w4 : Int32) (w5 : Int32) , k10 w2 w3 w4 w5 = some (rr, q_t_group, q_t_paired) → PT (RM 1 24) 8 x 10 [(0, .ref at0), (1, .ref ab0), (2, .int w2), (3, .int w3), (4, .int w4), (5, .int w5)] [] (V_TB x.1.2.2 at0 at1 at2 at3 at4 ab0 ab1 ab2 ab3 t_total t_oft t_left t_right t_group t_paired b_points b_near b_loose b_short b_nets b_xs b_ys) 0 0 (QI x rr (V_TB x.1.2.2 at0 at1 at2 at3 at4 ab0 ab1 ab2 ab3 t_total t_oft t_left t_right q_t_group q_t_paired b_points b_near b_loose b_short b_nets b_xs b_ys))) (h : J_X4_joinNextPair_99 t_group t_paired b_points b_nets b_xs b_ys k25 k10 v2 v3 v4 v5 v6 = some (rr, q_t_group, q_t_paired)) : PT (RM 1 24) 8 x 99 [(0, .ref at0), (1, .ref ab0), (2, .int v2), (3, .int v3), (4, .int v4), (5, .int v5), (6, .int v6)] [] (V_TB x.1.2.2 at0 at1 at2 at3 at4 ab0 ab1 ab2 ab3 t_total t_oft t_left t_right t_group t_paired b_points b_near b_loose b_short b_nets b_xs b_ys) 0 0 (QI x rr (V_TB x.1.2.2 at0 at1 at2 at3 at4 ab0 ab1 ab2 ab3 t_total t_oft t_left t_right q_t_group q_t_paired b_points b_near b_loose b_short b_nets b_xs b_ys)) := by
  unfold J_X4_joinNextPair_99 at h
  refine p_iinc (w := v6 + 1) (lv' := [(6, .int (v6 + 1)), (0, .ref at0), (1, .ref ab0), (2, .int v2), (3, .int v3), (4, .int v4), (5, .int v5)]) C dX4_joinNextPair_99 rfl 6 rfl rfl (by decide) rfl ?_
  refine p_goto C dX4_joinNextPair_102 (pc' := 25) (by decide) ?_
  refine p_locals [1, 2, 3, 4, 5, 6, 0] (lv' := [(0, .ref at0), (1, .ref ab0), (2, .int v2), (3, .int v3), (4, .int v4), (5, .int v5), (6, .int (v6 + 1))]) rfl ?_
  exact hk25 _ _ _ _ h
def J_X4_joinNextPair_89 (t_group : Ar) (t_paired : Ar) (b_points : Int32) (b_nets : Ar) (b_xs : Ar) (b_ys : Ar) (k25 : Int32 → Int32 → Int32 → Int32 → Option (Int32 × Ar × Ar)) (k10 : Int32 → Int32 → Int32 → Int32 → Option (Int32 × Ar × Ar))  (v5 : Int32) (v6 : Int32) (v7 : Int32) : Option (Int32 × Ar × Ar) := J_X4_joinNextPair_99 t_group t_paired b_points b_nets b_xs b_ys (k25) (k10) v5 v6 v7 v5 v6
set_option maxHeartbeats 4000000 in
set_option maxRecDepth 100000 in
theorem tj_X4_joinNextPair_89 {x : Cxt} {at0 at1 at2 at3 at4 ab0 ab1 ab2 ab3 : Nat} {t_total : Int32} {t_oft : Int32} {t_left : Ar} {t_right : Ar} {t_group : Ar} {t_paired : Ar} {b_points : Int32} {b_near : Int32} {b_loose : Int32} {b_short : Int32} {b_nets : Ar} {b_xs : Ar} {b_ys : Ar} {k25 : Int32 → Int32 → Int32 → Int32 → Option (Int32 × Ar × Ar)} {k10 : Int32 → Int32 → Int32 → Int32 → Option (Int32 × Ar × Ar)}  {v5 : Int32} {v6 : Int32} {v7 : Int32} {rr : Int32} {q_t_group : Ar} {q_t_paired : Ar} (C : CX RX4 cX4_joinNextPair 8 (some .boolean) x) (hk25 : ∀ (w2 : Int32) (w3 : Int32) (w4 : Int32) (w6 : Int32) , k25 w2 w3 w4 w6 = some (rr, q_t_group, q_t_paired) → PT (RM 1 24) 8 x 25 [(0, .ref at0), (1, .ref ab0), (2, .int w2), (3, .int w3), (4, .int w4), (5, .int v5), (6, .int w6)] [] (V_TB x.1.2.2 at0 at1 at2 at3 at4 ab0 ab1 ab2 ab3 t_total t_oft t_left t_right t_group t_paired b_points b_near b_loose b_short b_nets b_xs b_ys) 0 0 (QI x rr (V_TB x.1.2.2 at0 at1 at2 at3 at4 ab0 ab1 ab2 ab3 t_total t_oft t_left t_right q_t_group q_t_paired b_points b_near b_loose b_short b_nets b_xs b_ys))) (hk10 : ∀ (w2 : Int32) (w3 : Int32) (w4 : Int32) (w5 : Int32) , k10 w2 w3 w4 w5 = some (rr, q_t_group, q_t_paired) → PT (RM 1 24) 8 x 10 [(0, .ref at0), (1, .ref ab0), (2, .int w2), (3, .int w3), (4, .int w4), (5, .int w5)] [] (V_TB x.1.2.2 at0 at1 at2 at3 at4 ab0 ab1 ab2 ab3 t_total t_oft t_left t_right t_group t_paired b_points b_near b_loose b_short b_nets b_xs b_ys) 0 0 (QI x rr (V_TB x.1.2.2 at0 at1 at2 at3 at4 ab0 ab1 ab2 ab3 t_total t_oft t_left t_right q_t_group q_t_paired b_points b_near b_loose b_short b_nets b_xs b_ys))) (h : J_X4_joinNextPair_89 t_group t_paired b_points b_nets b_xs b_ys k25 k10 v5 v6 v7 = some (rr, q_t_group, q_t_paired)) : PT (RM 1 24) 8 x 89 [(0, .ref at0), (1, .ref ab0), (5, .int v5), (6, .int v6), (7, .int v7)] [] (V_TB x.1.2.2 at0 at1 at2 at3 at4 ab0 ab1 ab2 ab3 t_total t_oft t_left t_right t_group t_paired b_points b_near b_loose b_short b_nets b_xs b_ys) 0 0 (QI x rr (V_TB x.1.2.2 at0 at1 at2 at3 at4 ab0 ab1 ab2 ab3 t_total t_oft t_left t_right q_t_group q_t_paired b_points b_near b_loose b_short b_nets b_xs b_ys)) := by
  unfold J_X4_joinNextPair_89 at h
  refine p_iload C dX4_joinNextPair_89 rfl 2 rfl ?_
  refine p_istore_n (lv' := [(2, .int v5), (0, .ref at0), (1, .ref ab0), (5, .int v5), (6, .int v6), (7, .int v7)]) C dX4_joinNextPair_91 rfl (by decide) rfl ?_
  refine p_iload C dX4_joinNextPair_92 rfl 4 rfl ?_
  refine p_istore_n (lv' := [(3, .int v6), (2, .int v5), (0, .ref at0), (1, .ref ab0), (5, .int v5), (6, .int v6), (7, .int v7)]) C dX4_joinNextPair_94 rfl (by decide) rfl ?_
  refine p_iload C dX4_joinNextPair_95 rfl 6 rfl ?_
  refine p_istore (lv' := [(4, .int v7), (3, .int v6), (2, .int v5), (0, .ref at0), (1, .ref ab0), (5, .int v5), (6, .int v6), (7, .int v7)]) C dX4_joinNextPair_97 rfl (by decide) rfl ?_
  refine p_locals [3, 4, 2, 1, 0, 5, 6] (lv' := [(0, .ref at0), (1, .ref ab0), (2, .int v5), (3, .int v6), (4, .int v7), (5, .int v5), (6, .int v6)]) rfl ?_
  exact tj_X4_joinNextPair_99 C (fun u0 u1 u2 u3 h => hk25 u0 u1 u2 u3 h) (fun u0 u1 u2 u3 h => hk10 u0 u1 u2 u3 h) h
def B_X4_joinNextPair_25 (t_group : Ar) (t_paired : Ar) (b_points : Int32) (b_nets : Ar) (b_xs : Ar) (b_ys : Ar) (k10 : Int32 → Int32 → Int32 → Int32 → Option (Int32 × Ar × Ar)) (v5 : Int32) (kk : Int32 → Int32 → Int32 → Int32 → Option (Int32 × Ar × Ar)) (v2 : Int32) (v3 : Int32) (v4 : Int32) (v6 : Int32)  : Option (Int32 × Ar × Ar) := if b_points ≤ v6 then (k10 v2 v3 v4 (v5 + 1)) else (grd (gI v5 8) (grd (gI v6 8) (if (b_nets v5.toNatClampNeg) = (b_nets v6.toNatClampNeg) then (grd (gI v5 8) (grd (gI v6 8) (if (t_group v5.toNatClampNeg) = (t_group v6.toNatClampNeg) then (J_X4_joinNextPair_99 t_group t_paired b_points b_nets b_xs b_ys (kk) (k10) v2 v3 v4 v5 v6) else (bd1 (m_X0_distance b_xs b_ys v5 v6) (fun r8 => if v2 < 0 then (J_X4_joinNextPair_89 t_group t_paired b_points b_nets b_xs b_ys (kk) (k10) v5 v6 r8) else (if v4 ≤ r8 then (J_X4_joinNextPair_99 t_group t_paired b_points b_nets b_xs b_ys (kk) (k10) v2 v3 v4 v5 v6) else (J_X4_joinNextPair_89 t_group t_paired b_points b_nets b_xs b_ys (kk) (k10) v5 v6 r8))))))) else (J_X4_joinNextPair_99 t_group t_paired b_points b_nets b_xs b_ys (kk) (k10) v2 v3 v4 v5 v6))))
def L_X4_joinNextPair_25 (t_group : Ar) (t_paired : Ar) (b_points : Int32) (b_nets : Ar) (b_xs : Ar) (b_ys : Ar) (k10 : Int32 → Int32 → Int32 → Int32 → Option (Int32 × Ar × Ar)) (v5 : Int32) : Nat → Int32 → Int32 → Int32 → Int32 → Option (Int32 × Ar × Ar) := lpG (fun _ _ _ _ => none) (B_X4_joinNextPair_25 t_group t_paired b_points b_nets b_xs b_ys k10 v5)
set_option maxHeartbeats 4000000 in
set_option maxRecDepth 100000 in
theorem tl_X4_joinNextPair_25 {x : Cxt} {at0 at1 at2 at3 at4 ab0 ab1 ab2 ab3 : Nat} {t_total : Int32} {t_oft : Int32} {t_left : Ar} {t_right : Ar} {t_group : Ar} {t_paired : Ar} {b_points : Int32} {b_near : Int32} {b_loose : Int32} {b_short : Int32} {b_nets : Ar} {b_xs : Ar} {b_ys : Ar} {k10 : Int32 → Int32 → Int32 → Int32 → Option (Int32 × Ar × Ar)} {v5 : Int32} {rr : Int32} {q_t_group : Ar} {q_t_paired : Ar} (C : CX RX4 cX4_joinNextPair 8 (some .boolean) x) (hk10 : ∀ (w2 : Int32) (w3 : Int32) (w4 : Int32) (w5 : Int32) , k10 w2 w3 w4 w5 = some (rr, q_t_group, q_t_paired) → PT (RM 1 24) 8 x 10 [(0, .ref at0), (1, .ref ab0), (2, .int w2), (3, .int w3), (4, .int w4), (5, .int w5)] [] (V_TB x.1.2.2 at0 at1 at2 at3 at4 ab0 ab1 ab2 ab3 t_total t_oft t_left t_right t_group t_paired b_points b_near b_loose b_short b_nets b_xs b_ys) 0 0 (QI x rr (V_TB x.1.2.2 at0 at1 at2 at3 at4 ab0 ab1 ab2 ab3 t_total t_oft t_left t_right q_t_group q_t_paired b_points b_near b_loose b_short b_nets b_xs b_ys))) : ∀ (n : Nat) (v2 : Int32) (v3 : Int32) (v4 : Int32) (v6 : Int32) , L_X4_joinNextPair_25 t_group t_paired b_points b_nets b_xs b_ys k10 v5 n v2 v3 v4 v6 = some (rr, q_t_group, q_t_paired) → PT (RM 1 24) 8 x 25 [(0, .ref at0), (1, .ref ab0), (2, .int v2), (3, .int v3), (4, .int v4), (5, .int v5), (6, .int v6)] [] (V_TB x.1.2.2 at0 at1 at2 at3 at4 ab0 ab1 ab2 ab3 t_total t_oft t_left t_right t_group t_paired b_points b_near b_loose b_short b_nets b_xs b_ys) 0 0 (QI x rr (V_TB x.1.2.2 at0 at1 at2 at3 at4 ab0 ab1 ab2 ab3 t_total t_oft t_left t_right q_t_group q_t_paired b_points b_near b_loose b_short b_nets b_xs b_ys)) := by
  intro n
  induction n with
  | zero =>
    intro v2 v3 v4 v6 h
    cases h
  | succ n ih =>
    intro v2 v3 v4 v6 h
    have h : B_X4_joinNextPair_25 t_group t_paired b_points b_nets b_xs b_ys k10 v5 (L_X4_joinNextPair_25 t_group t_paired b_points b_nets b_xs b_ys k10 v5 n) v2 v3 v4 v6 = some (rr, q_t_group, q_t_paired) := h
    unfold B_X4_joinNextPair_25 at h
    refine p_iload C dX4_joinNextPair_25 rfl 6 rfl ?_
    refine p_aload_n C dX4_joinNextPair_27 rfl 1 rfl ?_
    refine p_getN C dX4_joinNextPair_28 rfl 5 3 inlX0 nf_X4_41 rfl rfl (by decide) rfl rfl ?_
    refine p_icmp_ge C dX4_joinNextPair_31 (tgt := 105) (by decide) rfl (fun c1 => ?_) (fun c1 => ?_)
    · have h := if_t c1 h
      refine p_iinc (w := v5 + 1) (lv' := [(5, .int (v5 + 1)), (0, .ref at0), (1, .ref ab0), (2, .int v2), (3, .int v3), (4, .int v4), (6, .int v6)]) C dX4_joinNextPair_105 rfl 5 rfl rfl (by decide) rfl ?_
      refine p_goto C dX4_joinNextPair_108 (pc' := 10) (by decide) ?_
      refine p_locals [1, 2, 3, 4, 5, 0] (lv' := [(0, .ref at0), (1, .ref ab0), (2, .int v2), (3, .int v3), (4, .int v4), (5, .int (v5 + 1))]) rfl ?_
      exact hk10 _ _ _ _ h
    · have h := if_f c1 h
      refine p_aload_n C dX4_joinNextPair_34 rfl 1 rfl ?_
      refine p_getN C dX4_joinNextPair_35 rfl 5 0 inlX0 nf_X4_50 rfl rfl (by decide) rfl rfl ?_
      refine p_iload C dX4_joinNextPair_38 rfl 5 rfl ?_
      obtain ⟨g2, h⟩ := grd_of h
      refine p_iald C dX4_joinNextPair_40 rfl 6 rfl g2 ?_
      refine p_aload_n C dX4_joinNextPair_41 rfl 1 rfl ?_
      refine p_getN C dX4_joinNextPair_42 rfl 5 0 inlX0 nf_X4_50 rfl rfl (by decide) rfl rfl ?_
      refine p_iload C dX4_joinNextPair_45 rfl 6 rfl ?_
      obtain ⟨g3, h⟩ := grd_of h
      refine p_iald C dX4_joinNextPair_47 rfl 6 rfl g3 ?_
      refine p_icmp_ne C dX4_joinNextPair_48 (tgt := 99) (by decide) rfl (fun c4 => ?_) (fun c4 => ?_)
      · have h := if_f c4 h
        refine p_locals [0, 1, 2, 3, 4, 5, 6] (lv' := [(0, .ref at0), (1, .ref ab0), (2, .int v2), (3, .int v3), (4, .int v4), (5, .int v5), (6, .int v6)]) rfl ?_
        exact tj_X4_joinNextPair_99 C (fun u0 u1 u2 u3 h => ih u0 u1 u2 u3 h) (fun u0 u1 u2 u3 h => hk10 u0 u1 u2 u3 h) h
      · have h := if_t c4 h
        refine p_aload_n C dX4_joinNextPair_51 rfl 0 rfl ?_
        refine p_get C dX4_joinNextPair_52 rfl 0 4 inlX4 fl_X4_25 rfl rfl (by decide) rfl rfl ?_
        refine p_iload C dX4_joinNextPair_55 rfl 5 rfl ?_
        obtain ⟨g5, h⟩ := grd_of h
        refine p_iald C dX4_joinNextPair_57 rfl 3 rfl g5 ?_
        refine p_aload_n C dX4_joinNextPair_58 rfl 0 rfl ?_
        refine p_get C dX4_joinNextPair_59 rfl 0 4 inlX4 fl_X4_25 rfl rfl (by decide) rfl rfl ?_
        refine p_iload C dX4_joinNextPair_62 rfl 6 rfl ?_
        obtain ⟨g6, h⟩ := grd_of h
        refine p_iald C dX4_joinNextPair_64 rfl 3 rfl g6 ?_
        refine p_icmp_eq C dX4_joinNextPair_65 (tgt := 99) (by decide) rfl (fun c7 => ?_) (fun c7 => ?_)
        · have h := if_t c7 h
          refine p_locals [0, 1, 2, 3, 4, 5, 6] (lv' := [(0, .ref at0), (1, .ref ab0), (2, .int v2), (3, .int v3), (4, .int v4), (5, .int v5), (6, .int v6)]) rfl ?_
          exact tj_X4_joinNextPair_99 C (fun u0 u1 u2 u3 h => ih u0 u1 u2 u3 h) (fun u0 u1 u2 u3 h => hk10 u0 u1 u2 u3 h) h
        · have h := if_f c7 h
          refine p_aload_n C dX4_joinNextPair_68 rfl 1 rfl ?_
          refine p_iload C dX4_joinNextPair_69 rfl 5 rfl ?_
          refine p_iload C dX4_joinNextPair_71 rfl 6 rfl ?_
          obtain ⟨r8, hc9, h⟩ := bd1_of h
          refine p_callVNi (As := [.int v5, .int v6]) (st' := []) (Wd' := (V_TB x.1.2.2 at0 at1 at2 at3 at4 ab0 ab1 ab2 ab3 t_total t_oft t_left t_right t_group t_paired b_points b_near b_loose b_short b_nets b_xs b_ys)) C (c_X0_distance x.1 (ab0 := ab0) (ab1 := ab1) (ab2 := ab2) (ab3 := ab3) (b_points := b_points) (b_near := b_near) (b_loose := b_loose) (b_short := b_short) (b_nets := b_nets) hc9) dX4_joinNextPair_73 rfl nm_X4_53 kv_X0_distance ds_X0_distance ⟨rfl, rfl, by decide, by decide⟩ 0 rfl rfl [5, 6, 7, 8] rfl rfl rfl rfl (by decide) ⟨by decide, by decide⟩ rfl ?_
          refine p_istore (lv' := [(7, .int r8), (0, .ref at0), (1, .ref ab0), (2, .int v2), (3, .int v3), (4, .int v4), (5, .int v5), (6, .int v6)]) C dX4_joinNextPair_76 rfl (by decide) rfl ?_
          refine p_iload_n C dX4_joinNextPair_78 rfl 3 rfl ?_
          refine p_if_lt C dX4_joinNextPair_79 (tgt := 89) (by decide) rfl (fun c10 => ?_) (fun c10 => ?_)
          · have h := if_t c10 h
            refine p_locals [1, 2, 6, 7, 0] (lv' := [(0, .ref at0), (1, .ref ab0), (5, .int v5), (6, .int v6), (7, .int r8)]) rfl ?_
            exact tj_X4_joinNextPair_89 C (fun u0 u1 u2 u3 h => ih u0 u1 u2 u3 h) (fun u0 u1 u2 u3 h => hk10 u0 u1 u2 u3 h) h
          · have h := if_f c10 h
            refine p_iload C dX4_joinNextPair_82 rfl 0 rfl ?_
            refine p_iload C dX4_joinNextPair_84 rfl 5 rfl ?_
            refine p_icmp_ge C dX4_joinNextPair_86 (tgt := 99) (by decide) rfl (fun c11 => ?_) (fun c11 => ?_)
            · have h := if_t c11 h
              refine p_locals [1, 2, 3, 4, 5, 6, 7] (lv' := [(0, .ref at0), (1, .ref ab0), (2, .int v2), (3, .int v3), (4, .int v4), (5, .int v5), (6, .int v6)]) rfl ?_
              exact tj_X4_joinNextPair_99 C (fun u0 u1 u2 u3 h => ih u0 u1 u2 u3 h) (fun u0 u1 u2 u3 h => hk10 u0 u1 u2 u3 h) h
            · have h := if_f c11 h
              refine p_locals [1, 2, 6, 7, 0] (lv' := [(0, .ref at0), (1, .ref ab0), (5, .int v5), (6, .int v6), (7, .int r8)]) rfl ?_
              exact tj_X4_joinNextPair_89 C (fun u0 u1 u2 u3 h => ih u0 u1 u2 u3 h) (fun u0 u1 u2 u3 h => hk10 u0 u1 u2 u3 h) h
def B_X4_joinNextPair_10 (t_group : Ar) (t_paired : Ar) (b_points : Int32) (b_nets : Ar) (b_xs : Ar) (b_ys : Ar)   (kk : Int32 → Int32 → Int32 → Int32 → Option (Int32 × Ar × Ar)) (v2 : Int32) (v3 : Int32) (v4 : Int32) (v5 : Int32)  : Option (Int32 × Ar × Ar) := if b_points ≤ v5 then (if 0 ≤ v2 then (grd (gI v2 8) (grd (gI v2 8) (grd (gI v2 8) (grd (gI v3 8) (bd1 (m_X4_mergeGroups t_group (t_group v2.toNatClampNeg) (t_group v3.toNatClampNeg)) (fun z_group7 => some ((1 : Int32), z_group7, upd t_paired v2.toNatClampNeg ((t_paired v2.toNatClampNeg) ||| (((1 : Int32)) <<< (v3 &&& 31)))))))))) else (some ((0 : Int32), t_group, t_paired))) else (L_X4_joinNextPair_25 t_group t_paired b_points b_nets b_xs b_ys kk v5 FU v2 v3 v4 (v5 + ((1 : Int32))))
def L_X4_joinNextPair_10 (t_group : Ar) (t_paired : Ar) (b_points : Int32) (b_nets : Ar) (b_xs : Ar) (b_ys : Ar)   : Nat → Int32 → Int32 → Int32 → Int32 → Option (Int32 × Ar × Ar) := lpG (fun _ _ _ _ => none) (B_X4_joinNextPair_10 t_group t_paired b_points b_nets b_xs b_ys)
set_option maxHeartbeats 4000000 in
set_option maxRecDepth 100000 in
theorem tl_X4_joinNextPair_10 {x : Cxt} {at0 at1 at2 at3 at4 ab0 ab1 ab2 ab3 : Nat} {t_total : Int32} {t_oft : Int32} {t_left : Ar} {t_right : Ar} {t_group : Ar} {t_paired : Ar} {b_points : Int32} {b_near : Int32} {b_loose : Int32} {b_short : Int32} {b_nets : Ar} {b_xs : Ar} {b_ys : Ar}   {rr : Int32} {q_t_group : Ar} {q_t_paired : Ar} (C : CX RX4 cX4_joinNextPair 8 (some .boolean) x)  : ∀ (n : Nat) (v2 : Int32) (v3 : Int32) (v4 : Int32) (v5 : Int32) , L_X4_joinNextPair_10 t_group t_paired b_points b_nets b_xs b_ys n v2 v3 v4 v5 = some (rr, q_t_group, q_t_paired) → PT (RM 1 24) 8 x 10 [(0, .ref at0), (1, .ref ab0), (2, .int v2), (3, .int v3), (4, .int v4), (5, .int v5)] [] (V_TB x.1.2.2 at0 at1 at2 at3 at4 ab0 ab1 ab2 ab3 t_total t_oft t_left t_right t_group t_paired b_points b_near b_loose b_short b_nets b_xs b_ys) 0 0 (QI x rr (V_TB x.1.2.2 at0 at1 at2 at3 at4 ab0 ab1 ab2 ab3 t_total t_oft t_left t_right q_t_group q_t_paired b_points b_near b_loose b_short b_nets b_xs b_ys)) := by
  intro n
  induction n with
  | zero =>
    intro v2 v3 v4 v5 h
    cases h
  | succ n ih =>
    intro v2 v3 v4 v5 h
    have h : B_X4_joinNextPair_10 t_group t_paired b_points b_nets b_xs b_ys (L_X4_joinNextPair_10 t_group t_paired b_points b_nets b_xs b_ys n) v2 v3 v4 v5 = some (rr, q_t_group, q_t_paired) := h
    unfold B_X4_joinNextPair_10 at h
    refine p_iload C dX4_joinNextPair_10 rfl 5 rfl ?_
    refine p_aload_n C dX4_joinNextPair_12 rfl 1 rfl ?_
    refine p_getN C dX4_joinNextPair_13 rfl 5 3 inlX0 nf_X4_41 rfl rfl (by decide) rfl rfl ?_
    refine p_icmp_ge C dX4_joinNextPair_16 (tgt := 111) (by decide) rfl (fun c1 => ?_) (fun c1 => ?_)
    · have h := if_t c1 h
      refine p_iload_n C dX4_joinNextPair_111 rfl 2 rfl ?_
      refine p_if_ge C dX4_joinNextPair_112 (tgt := 117) (by decide) rfl (fun c2 => ?_) (fun c2 => ?_)
      · have h := if_t c2 h
        refine p_aload_n C dX4_joinNextPair_117 rfl 0 rfl ?_
        refine p_get C dX4_joinNextPair_118 rfl 0 5 inlX4 fl_X4_28 rfl rfl (by decide) rfl rfl ?_
        refine p_iload_n C dX4_joinNextPair_121 rfl 2 rfl ?_
        refine p_dup2 C dX4_joinNextPair_122 rfl rfl rfl ?_
        obtain ⟨g3, h⟩ := grd_of h
        refine p_iald C dX4_joinNextPair_123 rfl 4 rfl g3 ?_
        refine p_iconst (v := (1 : Int32)) C dX4_joinNextPair_124 rfl (by decide) ?_
        refine p_iload_n C dX4_joinNextPair_125 rfl 3 rfl ?_
        refine p_ishl C dX4_joinNextPair_126 rfl ?_
        refine p_ior C dX4_joinNextPair_127 rfl ?_
        obtain ⟨g4, h⟩ := grd_of h
        refine p_iast (Wd' := (V_TB x.1.2.2 at0 at1 at2 at3 at4 ab0 ab1 ab2 ab3 t_total t_oft t_left t_right t_group (upd t_paired v2.toNatClampNeg ((t_paired v2.toNatClampNeg) ||| (((1 : Int32)) <<< (v3 &&& 31)))) b_points b_near b_loose b_short b_nets b_xs b_ys)) C dX4_joinNextPair_128 rfl 4 rfl g4 rfl ?_
        refine p_aload_n C dX4_joinNextPair_129 rfl 0 rfl ?_
        refine p_aload_n C dX4_joinNextPair_130 rfl 0 rfl ?_
        refine p_get C dX4_joinNextPair_131 rfl 0 4 inlX4 fl_X4_25 rfl rfl (by decide) rfl rfl ?_
        refine p_iload_n C dX4_joinNextPair_134 rfl 2 rfl ?_
        obtain ⟨g5, h⟩ := grd_of h
        refine p_iald C dX4_joinNextPair_135 rfl 3 rfl g5 ?_
        refine p_aload_n C dX4_joinNextPair_136 rfl 0 rfl ?_
        refine p_get C dX4_joinNextPair_137 rfl 0 4 inlX4 fl_X4_25 rfl rfl (by decide) rfl rfl ?_
        refine p_iload_n C dX4_joinNextPair_140 rfl 3 rfl ?_
        obtain ⟨g6, h⟩ := grd_of h
        refine p_iald C dX4_joinNextPair_141 rfl 3 rfl g6 ?_
        obtain ⟨z_group7, hc8, h⟩ := bd1_of h
        refine p_callVv (As := [.int (t_group v2.toNatClampNeg), .int (t_group v3.toNatClampNeg)]) (st' := []) (Wd' := (V_TB x.1.2.2 at0 at1 at2 at3 at4 ab0 ab1 ab2 ab3 t_total t_oft t_left t_right z_group7 (upd t_paired v2.toNatClampNeg ((t_paired v2.toNatClampNeg) ||| (((1 : Int32)) <<< (v3 &&& 31)))) b_points b_near b_loose b_short b_nets b_xs b_ys)) C (c_X4_mergeGroups x.1 (at0 := at0) (at1 := at1) (at2 := at2) (at3 := at3) (at4 := at4) (t_total := t_total) (t_oft := t_oft) (t_left := t_left) (t_right := t_right) (t_paired := upd t_paired v2.toNatClampNeg ((t_paired v2.toNatClampNeg) ||| (((1 : Int32)) <<< (v3 &&& 31)))) hc8) dX4_joinNextPair_142 rfl ml_X4_57 kv_X4_mergeGroups ds_X4_mergeGroups ⟨rfl, rfl, by decide, by decide⟩ 0 rfl rfl [0, 1, 2, 3, 4] rfl rfl rfl rfl (by decide) ⟨by decide, by decide⟩ rfl ?_
        refine p_iconst (v := (1 : Int32)) C dX4_joinNextPair_145 rfl (by decide) ?_
        cases h
        exact p_zret C dX4_joinNextPair_146 rfl
      · have h := if_f c2 h
        refine p_iconst (v := (0 : Int32)) C dX4_joinNextPair_115 rfl (by decide) ?_
        cases h
        exact p_zret C dX4_joinNextPair_116 rfl
    · have h := if_f c1 h
      refine p_iload C dX4_joinNextPair_19 rfl 5 rfl ?_
      refine p_iconst (v := (1 : Int32)) C dX4_joinNextPair_21 rfl (by decide) ?_
      refine p_iadd C dX4_joinNextPair_22 rfl ?_
      refine p_istore (lv' := [(6, .int (v5 + ((1 : Int32)))), (0, .ref at0), (1, .ref ab0), (2, .int v2), (3, .int v3), (4, .int v4), (5, .int v5)]) C dX4_joinNextPair_23 rfl (by decide) rfl ?_
      refine p_locals [1, 2, 3, 4, 5, 6, 0] (lv' := [(0, .ref at0), (1, .ref ab0), (2, .int v2), (3, .int v3), (4, .int v4), (5, .int v5), (6, .int (v5 + ((1 : Int32))))]) rfl ?_
      exact tl_X4_joinNextPair_25 C (fun u0 u1 u2 u3 h => ih u0 u1 u2 u3 h) FU _ _ _ _ h
def m_X4_joinNextPair (t_group : Ar) (t_paired : Ar) (b_points : Int32) (b_nets : Ar) (b_xs : Ar) (b_ys : Ar)  : Option (Int32 × Ar × Ar) := L_X4_joinNextPair_10 t_group t_paired b_points b_nets b_xs b_ys FU ((-1 : Int32)) ((-1 : Int32)) ((0 : Int32)) ((0 : Int32))
theorem ds_X4_joinNextPair : (yX4_joinNextPair).cls ≠ "java/lang/invoke/MethodHandle" ∧ (yX4_joinNextPair).cls ≠ "java/lang/invoke/VarHandle" ∧ (parseMethodDescriptor (yX4_joinNextPair).desc).map (fun d => d.parameters.length) = some 1 := by decide +kernel
set_option maxHeartbeats 4000000 in
set_option maxRecDepth 100000 in
theorem c_X4_joinNextPair (E : En) {at0 at1 at2 at3 at4 ab0 ab1 ab2 ab3 : Nat} {t_total : Int32} {t_oft : Int32} {t_left : Ar} {t_right : Ar} {t_group : Ar} {t_paired : Ar} {b_points : Int32} {b_near : Int32} {b_loose : Int32} {b_short : Int32} {b_nets : Ar} {b_xs : Ar} {b_ys : Ar}  {rr : Int32} {q_t_group : Ar} {q_t_paired : Ar} (h : m_X4_joinNextPair t_group t_paired b_points b_nets b_xs b_ys = some (rr, q_t_group, q_t_paired)) : Ci E yX4_joinNextPair (wU yX4_joinNextPair cX4_joinNextPair 8 (some .boolean)) (RM 1 24) [.ref at0, .ref ab0] (V_TB E.2.2 at0 at1 at2 at3 at4 ab0 ab1 ab2 ab3 t_total t_oft t_left t_right t_group t_paired b_points b_near b_loose b_short b_nets b_xs b_ys) (V_TB E.2.2 at0 at1 at2 at3 at4 ab0 ab1 ab2 ab3 t_total t_oft t_left t_right q_t_group q_t_paired b_points b_near b_loose b_short b_nets b_xs b_ys) rr := by
  refine Ci.of (by decide) (Nat.le_of_ble_eq_true rfl) ?_
  intro x hE C
  subst hE
  have C : CX RX4 cX4_joinNextPair 8 (some .boolean) x := C
  refine p_locals [0, 1] (lv' := [(0, .ref at0), (1, .ref ab0)]) rfl ?_
  unfold m_X4_joinNextPair at h
  refine p_iconst (v := (-1 : Int32)) C dX4_joinNextPair_0 rfl (by decide) ?_
  refine p_istore_n (lv' := [(2, .int ((-1 : Int32))), (0, .ref at0), (1, .ref ab0)]) C dX4_joinNextPair_1 rfl (by decide) rfl ?_
  refine p_iconst (v := (-1 : Int32)) C dX4_joinNextPair_2 rfl (by decide) ?_
  refine p_istore_n (lv' := [(3, .int ((-1 : Int32))), (2, .int ((-1 : Int32))), (0, .ref at0), (1, .ref ab0)]) C dX4_joinNextPair_3 rfl (by decide) rfl ?_
  refine p_iconst (v := (0 : Int32)) C dX4_joinNextPair_4 rfl (by decide) ?_
  refine p_istore (lv' := [(4, .int ((0 : Int32))), (3, .int ((-1 : Int32))), (2, .int ((-1 : Int32))), (0, .ref at0), (1, .ref ab0)]) C dX4_joinNextPair_5 rfl (by decide) rfl ?_
  refine p_iconst (v := (0 : Int32)) C dX4_joinNextPair_7 rfl (by decide) ?_
  refine p_istore (lv' := [(5, .int ((0 : Int32))), (4, .int ((0 : Int32))), (3, .int ((-1 : Int32))), (2, .int ((-1 : Int32))), (0, .ref at0), (1, .ref ab0)]) C dX4_joinNextPair_8 rfl (by decide) rfl ?_
  refine p_locals [4, 5, 3, 2, 1, 0] (lv' := [(0, .ref at0), (1, .ref ab0), (2, .int ((-1 : Int32))), (3, .int ((-1 : Int32))), (4, .int ((0 : Int32))), (5, .int ((0 : Int32)))]) rfl ?_
  exact tl_X4_joinNextPair_10 C  FU _ _ _ _ h
def B_X4_growTrees_32 (b_points : Int32) (b_nets : Ar) (b_xs : Ar) (b_ys : Ar)   (kk : Int32 → Int32 → Ar → Ar → Option (Ar × Ar)) (v2 : Int32) (v3 : Int32) (t_group : Ar) (t_paired : Ar) : Option (Ar × Ar) := if b_points ≤ v3 then (some (t_group, t_paired)) else (if v2 = 0 then (some (t_group, t_paired)) else (bd3 (m_X4_joinNextPair t_group t_paired b_points b_nets b_xs b_ys) (fun r3 z_group4 z_paired5 => kk r3 (v3 + 1) z_group4 z_paired5)))
def L_X4_growTrees_32 (b_points : Int32) (b_nets : Ar) (b_xs : Ar) (b_ys : Ar)   : Nat → Int32 → Int32 → Ar → Ar → Option (Ar × Ar) := lpG (fun _ _ _ _ => none) (B_X4_growTrees_32 b_points b_nets b_xs b_ys)
set_option maxHeartbeats 4000000 in
set_option maxRecDepth 100000 in
theorem tl_X4_growTrees_32 {x : Cxt} {at0 at1 at2 at3 at4 ab0 ab1 ab2 ab3 : Nat} {t_total : Int32} {t_oft : Int32} {t_left : Ar} {t_right : Ar} {b_points : Int32} {b_near : Int32} {b_loose : Int32} {b_short : Int32} {b_nets : Ar} {b_xs : Ar} {b_ys : Ar}   {q_t_group : Ar} {q_t_paired : Ar} (C : CX RX4 cX4_growTrees 4 none x)  : ∀ (n : Nat) (v2 : Int32) (v3 : Int32) (t_group : Ar) (t_paired : Ar), L_X4_growTrees_32 b_points b_nets b_xs b_ys n v2 v3 t_group t_paired = some (q_t_group, q_t_paired) → PT (RM 2 51) 4 x 32 [(0, .ref at0), (1, .ref ab0), (2, .int v2), (3, .int v3)] [] (V_TB x.1.2.2 at0 at1 at2 at3 at4 ab0 ab1 ab2 ab3 t_total t_oft t_left t_right t_group t_paired b_points b_near b_loose b_short b_nets b_xs b_ys) 0 0 (QV x (V_TB x.1.2.2 at0 at1 at2 at3 at4 ab0 ab1 ab2 ab3 t_total t_oft t_left t_right q_t_group q_t_paired b_points b_near b_loose b_short b_nets b_xs b_ys)) := by
  intro n
  induction n with
  | zero =>
    intro v2 v3 t_group t_paired h
    cases h
  | succ n ih =>
    intro v2 v3 t_group t_paired h
    have h : B_X4_growTrees_32 b_points b_nets b_xs b_ys (L_X4_growTrees_32 b_points b_nets b_xs b_ys n) v2 v3 t_group t_paired = some (q_t_group, q_t_paired) := h
    unfold B_X4_growTrees_32 at h
    refine p_iload_n C dX4_growTrees_32 rfl 3 rfl ?_
    refine p_aload_n C dX4_growTrees_33 rfl 1 rfl ?_
    refine p_getN C dX4_growTrees_34 rfl 5 3 inlX0 nf_X4_41 rfl rfl (by decide) rfl rfl ?_
    refine p_icmp_ge C dX4_growTrees_37 (tgt := 56) (by decide) rfl (fun c1 => ?_) (fun c1 => ?_)
    · have h := if_t c1 h
      cases h
      exact p_vret C dX4_growTrees_56
    · have h := if_f c1 h
      refine p_iload_n C dX4_growTrees_40 rfl 2 rfl ?_
      refine p_if_eq C dX4_growTrees_41 (tgt := 56) (by decide) rfl (fun c2 => ?_) (fun c2 => ?_)
      · have h := if_t c2 h
        cases h
        exact p_vret C dX4_growTrees_56
      · have h := if_f c2 h
        refine p_aload_n C dX4_growTrees_44 rfl 0 rfl ?_
        refine p_aload_n C dX4_growTrees_45 rfl 1 rfl ?_
        obtain ⟨r3, z_group4, z_paired5, hc6, h⟩ := bd3_of h
        refine p_callVi_s (As := [.ref ab0]) (st' := []) (Wc' := (V_TB x.1.2.2 at0 at1 at2 at3 at4 ab0 ab1 ab2 ab3 t_total t_oft t_left t_right z_group4 z_paired5 b_points b_near b_loose b_short b_nets b_xs b_ys)) C (c_X4_joinNextPair x.1 (at0 := at0) (at1 := at1) (at2 := at2) (at3 := at3) (at4 := at4) (ab0 := ab0) (ab1 := ab1) (ab2 := ab2) (ab3 := ab3) (t_total := t_total) (t_oft := t_oft) (t_left := t_left) (t_right := t_right) (b_near := b_near) (b_loose := b_loose) (b_short := b_short) hc6) dX4_growTrees_46 rfl ml_X4_46 kv_X4_joinNextPair ds_X4_joinNextPair ⟨rfl, rfl, by decide, by decide⟩ 0 rfl rfl rfl rfl (by decide) ⟨by decide, by decide⟩ ?_
        refine p_istore_n (lv' := [(2, .int r3), (0, .ref at0), (1, .ref ab0), (3, .int v3)]) C dX4_growTrees_49 rfl (by decide) rfl ?_
        refine p_iinc (w := v3 + 1) (lv' := [(3, .int (v3 + 1)), (2, .int r3), (0, .ref at0), (1, .ref ab0)]) C dX4_growTrees_50 rfl 3 rfl rfl (by decide) rfl ?_
        refine p_goto C dX4_growTrees_53 (pc' := 32) (by decide) ?_
        refine p_locals [2, 3, 1, 0] (lv' := [(0, .ref at0), (1, .ref ab0), (2, .int r3), (3, .int (v3 + 1))]) rfl ?_
        exact ih _ _ _ _ h
def B_X4_growTrees_2 (b_points : Int32) (b_nets : Ar) (b_xs : Ar) (b_ys : Ar)   (kk : Int32 → Ar → Ar → Option (Ar × Ar)) (v2 : Int32) (t_group : Ar) (t_paired : Ar) : Option (Ar × Ar) := if ((8 : Int32)) ≤ v2 then (L_X4_growTrees_32 b_points b_nets b_xs b_ys FU ((1 : Int32)) ((1 : Int32)) t_group t_paired) else (grd (gI v2 8) (grd (gI v2 8) (kk (v2 + 1) (upd t_group v2.toNatClampNeg v2) (upd t_paired v2.toNatClampNeg ((0 : Int32))))))
def L_X4_growTrees_2 (b_points : Int32) (b_nets : Ar) (b_xs : Ar) (b_ys : Ar)   : Nat → Int32 → Ar → Ar → Option (Ar × Ar) := lpG (fun _ _ _ => none) (B_X4_growTrees_2 b_points b_nets b_xs b_ys)
set_option maxHeartbeats 4000000 in
set_option maxRecDepth 100000 in
theorem tl_X4_growTrees_2 {x : Cxt} {at0 at1 at2 at3 at4 ab0 ab1 ab2 ab3 : Nat} {t_total : Int32} {t_oft : Int32} {t_left : Ar} {t_right : Ar} {b_points : Int32} {b_near : Int32} {b_loose : Int32} {b_short : Int32} {b_nets : Ar} {b_xs : Ar} {b_ys : Ar}   {q_t_group : Ar} {q_t_paired : Ar} (C : CX RX4 cX4_growTrees 4 none x)  : ∀ (n : Nat) (v2 : Int32) (t_group : Ar) (t_paired : Ar), L_X4_growTrees_2 b_points b_nets b_xs b_ys n v2 t_group t_paired = some (q_t_group, q_t_paired) → PT (RM 2 51) 4 x 2 [(0, .ref at0), (1, .ref ab0), (2, .int v2)] [] (V_TB x.1.2.2 at0 at1 at2 at3 at4 ab0 ab1 ab2 ab3 t_total t_oft t_left t_right t_group t_paired b_points b_near b_loose b_short b_nets b_xs b_ys) 0 0 (QV x (V_TB x.1.2.2 at0 at1 at2 at3 at4 ab0 ab1 ab2 ab3 t_total t_oft t_left t_right q_t_group q_t_paired b_points b_near b_loose b_short b_nets b_xs b_ys)) := by
  intro n
  induction n with
  | zero =>
    intro v2 t_group t_paired h
    cases h
  | succ n ih =>
    intro v2 t_group t_paired h
    have h : B_X4_growTrees_2 b_points b_nets b_xs b_ys (L_X4_growTrees_2 b_points b_nets b_xs b_ys n) v2 t_group t_paired = some (q_t_group, q_t_paired) := h
    unfold B_X4_growTrees_2 at h
    refine p_iload_n C dX4_growTrees_2 rfl 2 rfl ?_
    refine p_bipush (v := (8 : Int32)) C dX4_growTrees_3 rfl (by decide) ?_
    refine p_icmp_ge C dX4_growTrees_5 (tgt := 28) (by decide) rfl (fun c1 => ?_) (fun c1 => ?_)
    · have h := if_t c1 h
      refine p_iconst (v := (1 : Int32)) C dX4_growTrees_28 rfl (by decide) ?_
      refine p_istore_n (lv' := [(2, .int ((1 : Int32))), (0, .ref at0), (1, .ref ab0)]) C dX4_growTrees_29 rfl (by decide) rfl ?_
      refine p_iconst (v := (1 : Int32)) C dX4_growTrees_30 rfl (by decide) ?_
      refine p_istore_n (lv' := [(3, .int ((1 : Int32))), (2, .int ((1 : Int32))), (0, .ref at0), (1, .ref ab0)]) C dX4_growTrees_31 rfl (by decide) rfl ?_
      refine p_locals [2, 3, 1, 0] (lv' := [(0, .ref at0), (1, .ref ab0), (2, .int ((1 : Int32))), (3, .int ((1 : Int32)))]) rfl ?_
      exact tl_X4_growTrees_32 C  FU _ _ _ _ h
    · have h := if_f c1 h
      refine p_aload_n C dX4_growTrees_8 rfl 0 rfl ?_
      refine p_get C dX4_growTrees_9 rfl 0 4 inlX4 fl_X4_25 rfl rfl (by decide) rfl rfl ?_
      refine p_iload_n C dX4_growTrees_12 rfl 2 rfl ?_
      refine p_iload_n C dX4_growTrees_13 rfl 2 rfl ?_
      obtain ⟨g2, h⟩ := grd_of h
      refine p_iast (Wd' := (V_TB x.1.2.2 at0 at1 at2 at3 at4 ab0 ab1 ab2 ab3 t_total t_oft t_left t_right (upd t_group v2.toNatClampNeg v2) t_paired b_points b_near b_loose b_short b_nets b_xs b_ys)) C dX4_growTrees_14 rfl 3 rfl g2 rfl ?_
      refine p_aload_n C dX4_growTrees_15 rfl 0 rfl ?_
      refine p_get C dX4_growTrees_16 rfl 0 5 inlX4 fl_X4_28 rfl rfl (by decide) rfl rfl ?_
      refine p_iload_n C dX4_growTrees_19 rfl 2 rfl ?_
      refine p_iconst (v := (0 : Int32)) C dX4_growTrees_20 rfl (by decide) ?_
      obtain ⟨g3, h⟩ := grd_of h
      refine p_iast (Wd' := (V_TB x.1.2.2 at0 at1 at2 at3 at4 ab0 ab1 ab2 ab3 t_total t_oft t_left t_right (upd t_group v2.toNatClampNeg v2) (upd t_paired v2.toNatClampNeg ((0 : Int32))) b_points b_near b_loose b_short b_nets b_xs b_ys)) C dX4_growTrees_21 rfl 4 rfl g3 rfl ?_
      refine p_iinc (w := v2 + 1) (lv' := [(2, .int (v2 + 1)), (0, .ref at0), (1, .ref ab0)]) C dX4_growTrees_22 rfl 2 rfl rfl (by decide) rfl ?_
      refine p_goto C dX4_growTrees_25 (pc' := 2) (by decide) ?_
      refine p_locals [1, 2, 0] (lv' := [(0, .ref at0), (1, .ref ab0), (2, .int (v2 + 1))]) rfl ?_
      exact ih _ _ _ h
def m_X4_growTrees (t_group : Ar) (t_paired : Ar) (b_points : Int32) (b_nets : Ar) (b_xs : Ar) (b_ys : Ar)  : Option (Ar × Ar) := L_X4_growTrees_2 b_points b_nets b_xs b_ys FU ((0 : Int32)) t_group t_paired
theorem ds_X4_growTrees : (yX4_growTrees).cls ≠ "java/lang/invoke/MethodHandle" ∧ (yX4_growTrees).cls ≠ "java/lang/invoke/VarHandle" ∧ (parseMethodDescriptor (yX4_growTrees).desc).map (fun d => d.parameters.length) = some 1 := by decide +kernel
set_option maxHeartbeats 4000000 in
set_option maxRecDepth 100000 in
theorem c_X4_growTrees (E : En) {at0 at1 at2 at3 at4 ab0 ab1 ab2 ab3 : Nat} {t_total : Int32} {t_oft : Int32} {t_left : Ar} {t_right : Ar} {t_group : Ar} {t_paired : Ar} {b_points : Int32} {b_near : Int32} {b_loose : Int32} {b_short : Int32} {b_nets : Ar} {b_xs : Ar} {b_ys : Ar}  {q_t_group : Ar} {q_t_paired : Ar} (h : m_X4_growTrees t_group t_paired b_points b_nets b_xs b_ys = some (q_t_group, q_t_paired)) : Cv E yX4_growTrees (wU yX4_growTrees cX4_growTrees 4 none) (RM 2 51) [.ref at0, .ref ab0] (V_TB E.2.2 at0 at1 at2 at3 at4 ab0 ab1 ab2 ab3 t_total t_oft t_left t_right t_group t_paired b_points b_near b_loose b_short b_nets b_xs b_ys) (V_TB E.2.2 at0 at1 at2 at3 at4 ab0 ab1 ab2 ab3 t_total t_oft t_left t_right q_t_group q_t_paired b_points b_near b_loose b_short b_nets b_xs b_ys) := by
  refine Cv.of (by decide) (Nat.le_of_ble_eq_true rfl) ?_
  intro x hE C
  subst hE
  have C : CX RX4 cX4_growTrees 4 none x := C
  refine p_locals [0, 1] (lv' := [(0, .ref at0), (1, .ref ab0)]) rfl ?_
  unfold m_X4_growTrees at h
  refine p_iconst (v := (0 : Int32)) C dX4_growTrees_0 rfl (by decide) ?_
  refine p_istore_n (lv' := [(2, .int ((0 : Int32))), (0, .ref at0), (1, .ref ab0)]) C dX4_growTrees_1 rfl (by decide) rfl ?_
  refine p_locals [1, 2, 0] (lv' := [(0, .ref at0), (1, .ref ab0), (2, .int ((0 : Int32)))]) rfl ?_
  exact tl_X4_growTrees_2 C  FU _ _ _ h
def m_X4_hasTry (t_total : Int32) (p1 : Int32) : Option (Int32) := if p1 < 0 then (some ((0 : Int32))) else (if t_total ≤ p1 then (some ((0 : Int32))) else (some ((1 : Int32))))
theorem ds_X4_hasTry : (yX4_hasTry).cls ≠ "java/lang/invoke/MethodHandle" ∧ (yX4_hasTry).cls ≠ "java/lang/invoke/VarHandle" ∧ (parseMethodDescriptor (yX4_hasTry).desc).map (fun d => d.parameters.length) = some 1 := by decide +kernel
set_option maxHeartbeats 4000000 in
set_option maxRecDepth 100000 in
theorem c_X4_hasTry (E : En) {at0 at1 at2 at3 at4 : Nat} {t_total : Int32} {t_oft : Int32} {t_left : Ar} {t_right : Ar} {t_group : Ar} {t_paired : Ar} {p1 : Int32} {rr : Int32} (h : m_X4_hasTry t_total p1 = some rr) : Ci E yX4_hasTry (wU yX4_hasTry cX4_hasTry 2 (some .boolean)) (RM 0 0) [.ref at0, .int p1] (V_T E.2.2 at0 at1 at2 at3 at4 t_total t_oft t_left t_right t_group t_paired) (V_T E.2.2 at0 at1 at2 at3 at4 t_total t_oft t_left t_right t_group t_paired) rr := by
  refine Ci.of (by decide) (Nat.le_of_ble_eq_true rfl) ?_
  intro x hE C
  subst hE
  have C : CX RX4 cX4_hasTry 2 (some .boolean) x := C
  refine p_locals [0, 1] (lv' := [(0, .ref at0), (1, .int p1)]) rfl ?_
  unfold m_X4_hasTry at h
  refine p_iload_n C dX4_hasTry_0 rfl 1 rfl ?_
  refine p_if_lt C dX4_hasTry_1 (tgt := 16) (by decide) rfl (fun c1 => ?_) (fun c1 => ?_)
  · have h := if_t c1 h
    refine p_iconst (v := (0 : Int32)) C dX4_hasTry_16 rfl (by decide) ?_
    cases h
    exact p_zret C dX4_hasTry_17 rfl
  · have h := if_f c1 h
    refine p_iload_n C dX4_hasTry_4 rfl 1 rfl ?_
    refine p_aload_n C dX4_hasTry_5 rfl 0 rfl ?_
    refine p_get C dX4_hasTry_6 rfl 0 2 inlX4 fl_X4_18 rfl rfl (by decide) rfl rfl ?_
    refine p_icmp_ge C dX4_hasTry_9 (tgt := 16) (by decide) rfl (fun c2 => ?_) (fun c2 => ?_)
    · have h := if_t c2 h
      refine p_iconst (v := (0 : Int32)) C dX4_hasTry_16 rfl (by decide) ?_
      cases h
      exact p_zret C dX4_hasTry_17 rfl
    · have h := if_f c2 h
      refine p_iconst (v := (1 : Int32)) C dX4_hasTry_12 rfl (by decide) ?_
      refine p_goto C dX4_hasTry_13 (pc' := 17) (by decide) ?_
      cases h
      exact p_zret C dX4_hasTry_17 rfl
