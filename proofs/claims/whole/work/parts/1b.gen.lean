def B_X1_measure_88 (n_total : Int32) (n_planned : Int32) (b_xs : Ar) (b_ys : Ar) (t_total : Int32) (t_left : Ar) (t_right : Ar) (k15 : Int32 → Ar → Option (Int32 × Int32 × Ar)) (v3 : Int32) (v4 : Int32) (v5 : Int32) (kk : Int32 → Ar → Option (Int32 × Int32 × Ar)) (v6 : Int32) (n_leaps : Ar) : Option (Int32 × Int32 × Ar) := if n_total ≤ v6 then (k15 (v3 + 1) n_leaps) else (grd (gI v6 10) (bd1 (m_X1_way b_xs b_ys (t_left v6.toNatClampNeg) v4) (fun r3 => grd (gI v6 10) (bd1 (m_X1_way b_xs b_ys (t_right v6.toNatClampNeg) v5) (fun r6 => grd (gI (((v6 + ((1 : Int32))) * ((10 : Int32))) + v3) 110) (kk (v6 + 1) (upd n_leaps (((v6 + ((1 : Int32))) * ((10 : Int32))) + v3).toNatClampNeg (if r3 < r6 then r6 else r3))))))))
def L_X1_measure_88 (n_total : Int32) (n_planned : Int32) (b_xs : Ar) (b_ys : Ar) (t_total : Int32) (t_left : Ar) (t_right : Ar) (k15 : Int32 → Ar → Option (Int32 × Int32 × Ar)) (v3 : Int32) (v4 : Int32) (v5 : Int32) : Nat → Int32 → Ar → Option (Int32 × Int32 × Ar) := lpG (fun _ _ => none) (B_X1_measure_88 n_total n_planned b_xs b_ys t_total t_left t_right k15 v3 v4 v5)
set_option maxHeartbeats 4000000 in
set_option maxRecDepth 100000 in
theorem tl_X1_measure_88 {x : Cxt} {an0 an1 an2 anb0 anb1 ann0 ann1 ab0 ab1 ab2 ab3 at0 at1 at2 at3 at4 : Nat} {n_total : Int32} {n_planned : Int32} {n_onward : Ar} {nb_len : Int32} {nb_sum : Int32} {nb_tries : Ar} {nn_len : Int32} {nn_sum : Int32} {nn_tries : Ar} {b_points : Int32} {b_near : Int32} {b_loose : Int32} {b_short : Int32} {b_nets : Ar} {b_xs : Ar} {b_ys : Ar} {t_total : Int32} {t_oft : Int32} {t_left : Ar} {t_right : Ar} {t_group : Ar} {t_paired : Ar} {k15 : Int32 → Ar → Option (Int32 × Int32 × Ar)} {v3 : Int32} {v4 : Int32} {v5 : Int32} {q_n_total : Int32} {q_n_planned : Int32} {q_n_leaps : Ar} (C : CX RX1 cX1_measure 7 none x) (hk15 : ∀ (w3 : Int32) (w_n_leaps : Ar), k15 w3 w_n_leaps = some (q_n_total, q_n_planned, q_n_leaps) → PT (RM 3 64) 7 x 15 [(0, .ref an0), (1, .ref ab0), (2, .ref at0), (3, .int w3)] [] (V_NBT x.1.2.2 an0 an1 an2 anb0 anb1 ann0 ann1 ab0 ab1 ab2 ab3 at0 at1 at2 at3 at4 n_total n_planned w_n_leaps n_onward nb_len nb_sum nb_tries nn_len nn_sum nn_tries b_points b_near b_loose b_short b_nets b_xs b_ys t_total t_oft t_left t_right t_group t_paired) 0 0 (QV x (V_NBT x.1.2.2 an0 an1 an2 anb0 anb1 ann0 ann1 ab0 ab1 ab2 ab3 at0 at1 at2 at3 at4 q_n_total q_n_planned q_n_leaps n_onward nb_len nb_sum nb_tries nn_len nn_sum nn_tries b_points b_near b_loose b_short b_nets b_xs b_ys t_total t_oft t_left t_right t_group t_paired))) : ∀ (n : Nat) (v6 : Int32) (n_leaps : Ar), L_X1_measure_88 n_total n_planned b_xs b_ys t_total t_left t_right k15 v3 v4 v5 n v6 n_leaps = some (q_n_total, q_n_planned, q_n_leaps) → PT (RM 3 64) 7 x 88 [(0, .ref an0), (1, .ref ab0), (2, .ref at0), (3, .int v3), (4, .int v4), (5, .int v5), (6, .int v6)] [] (V_NBT x.1.2.2 an0 an1 an2 anb0 anb1 ann0 ann1 ab0 ab1 ab2 ab3 at0 at1 at2 at3 at4 n_total n_planned n_leaps n_onward nb_len nb_sum nb_tries nn_len nn_sum nn_tries b_points b_near b_loose b_short b_nets b_xs b_ys t_total t_oft t_left t_right t_group t_paired) 0 0 (QV x (V_NBT x.1.2.2 an0 an1 an2 anb0 anb1 ann0 ann1 ab0 ab1 ab2 ab3 at0 at1 at2 at3 at4 q_n_total q_n_planned q_n_leaps n_onward nb_len nb_sum nb_tries nn_len nn_sum nn_tries b_points b_near b_loose b_short b_nets b_xs b_ys t_total t_oft t_left t_right t_group t_paired)) := by
  intro n
  induction n with
  | zero =>
    intro v6 n_leaps h
    cases h
  | succ n ih =>
    intro v6 n_leaps h
    have h : B_X1_measure_88 n_total n_planned b_xs b_ys t_total t_left t_right k15 v3 v4 v5 (L_X1_measure_88 n_total n_planned b_xs b_ys t_total t_left t_right k15 v3 v4 v5 n) v6 n_leaps = some (q_n_total, q_n_planned, q_n_leaps) := h
    unfold B_X1_measure_88 at h
    refine p_iload C dX1_measure_88 rfl 6 rfl ?_
    refine p_aload_n C dX1_measure_90 rfl 0 rfl ?_
    refine p_get C dX1_measure_91 rfl 0 0 inlX1 fl_X1_9 rfl rfl (by decide) rfl rfl ?_
    refine p_icmp_ge C dX1_measure_94 (tgt := 146) (by decide) rfl (fun c1 => ?_) (fun c1 => ?_)
    · have h := if_t c1 h
      refine p_iinc (w := v3 + 1) (lv' := [(3, .int (v3 + 1)), (0, .ref an0), (1, .ref ab0), (2, .ref at0), (4, .int v4), (5, .int v5), (6, .int v6)]) C dX1_measure_146 rfl 3 rfl rfl (by decide) rfl ?_
      refine p_goto C dX1_measure_149 (pc' := 15) (by decide) ?_
      refine p_locals [1, 2, 3, 0] (lv' := [(0, .ref an0), (1, .ref ab0), (2, .ref at0), (3, .int (v3 + 1))]) rfl ?_
      exact hk15 _ _ h
    · have h := if_f c1 h
      refine p_aload_n C dX1_measure_97 rfl 0 rfl ?_
      refine p_get C dX1_measure_98 rfl 0 1 inlX1 fl_X1_15 rfl rfl (by decide) rfl rfl ?_
      refine p_iload C dX1_measure_101 rfl 6 rfl ?_
      refine p_iconst (v := (1 : Int32)) C dX1_measure_103 rfl (by decide) ?_
      refine p_iadd C dX1_measure_104 rfl ?_
      refine p_bipush (v := (10 : Int32)) C dX1_measure_105 rfl (by decide) ?_
      refine p_imul C dX1_measure_107 rfl ?_
      refine p_iload_n C dX1_measure_108 rfl 3 rfl ?_
      refine p_iadd C dX1_measure_109 rfl ?_
      refine p_aload_n C dX1_measure_110 rfl 1 rfl ?_
      refine p_aload_n C dX1_measure_111 rfl 2 rfl ?_
      refine p_getN C dX1_measure_112 rfl 11 0 inlX4 nf_X1_39 rfl rfl (by decide) rfl rfl ?_
      refine p_iload C dX1_measure_115 rfl 6 rfl ?_
      obtain ⟨g2, h⟩ := grd_of h
      refine p_iald C dX1_measure_117 rfl 12 rfl g2 ?_
      refine p_iload C dX1_measure_118 rfl 4 rfl ?_
      obtain ⟨r3, hc4, h⟩ := bd1_of h
      refine p_callSi (As := [.ref ab0, .int (t_left v6.toNatClampNeg), .int v4]) (st' := [.int (((v6 + ((1 : Int32))) * ((10 : Int32))) + v3), .ref an1]) (Wd' := (V_NBT x.1.2.2 an0 an1 an2 anb0 anb1 ann0 ann1 ab0 ab1 ab2 ab3 at0 at1 at2 at3 at4 n_total n_planned n_leaps n_onward nb_len nb_sum nb_tries nn_len nn_sum nn_tries b_points b_near b_loose b_short b_nets b_xs b_ys t_total t_oft t_left t_right t_group t_paired)) C (c_X1_way x.1 (ab0 := ab0) (ab1 := ab1) (ab2 := ab2) (ab3 := ab3) (b_points := b_points) (b_near := b_near) (b_loose := b_loose) (b_short := b_short) (b_nets := b_nets) hc4) dX1_measure_120 rfl ml_X1_62 ks_X1_way ds_X1_way ⟨rfl, rfl, by decide, by decide⟩ [7, 8, 9, 10] rfl rfl rfl rfl (Nat.le_of_ble_eq_true rfl) ⟨by decide, by decide⟩ rfl ?_
      refine p_aload_n C dX1_measure_123 rfl 1 rfl ?_
      refine p_aload_n C dX1_measure_124 rfl 2 rfl ?_
      refine p_getN C dX1_measure_125 rfl 11 1 inlX4 nf_X1_42 rfl rfl (by decide) rfl rfl ?_
      refine p_iload C dX1_measure_128 rfl 6 rfl ?_
      obtain ⟨g5, h⟩ := grd_of h
      refine p_iald C dX1_measure_130 rfl 13 rfl g5 ?_
      refine p_iload C dX1_measure_131 rfl 5 rfl ?_
      obtain ⟨r6, hc7, h⟩ := bd1_of h
      refine p_callSi (As := [.ref ab0, .int (t_right v6.toNatClampNeg), .int v5]) (st' := [.int r3, .int (((v6 + ((1 : Int32))) * ((10 : Int32))) + v3), .ref an1]) (Wd' := (V_NBT x.1.2.2 an0 an1 an2 anb0 anb1 ann0 ann1 ab0 ab1 ab2 ab3 at0 at1 at2 at3 at4 n_total n_planned n_leaps n_onward nb_len nb_sum nb_tries nn_len nn_sum nn_tries b_points b_near b_loose b_short b_nets b_xs b_ys t_total t_oft t_left t_right t_group t_paired)) C (c_X1_way x.1 (ab0 := ab0) (ab1 := ab1) (ab2 := ab2) (ab3 := ab3) (b_points := b_points) (b_near := b_near) (b_loose := b_loose) (b_short := b_short) (b_nets := b_nets) hc7) dX1_measure_133 rfl ml_X1_62 ks_X1_way ds_X1_way ⟨rfl, rfl, by decide, by decide⟩ [7, 8, 9, 10] rfl rfl rfl rfl (Nat.le_of_ble_eq_true rfl) ⟨by decide, by decide⟩ rfl ?_
      refine p_mmax C dX1_measure_136 rfl ml_X1_57 ks_Math_max ⟨by decide, Nat.le_of_ble_eq_true rfl⟩ ⟨by decide, by decide⟩ ?_
      obtain ⟨g8, h⟩ := grd_of h
      refine p_iast (Wd' := (V_NBT x.1.2.2 an0 an1 an2 anb0 anb1 ann0 ann1 ab0 ab1 ab2 ab3 at0 at1 at2 at3 at4 n_total n_planned (upd n_leaps (((v6 + ((1 : Int32))) * ((10 : Int32))) + v3).toNatClampNeg (if r3 < r6 then r6 else r3)) n_onward nb_len nb_sum nb_tries nn_len nn_sum nn_tries b_points b_near b_loose b_short b_nets b_xs b_ys t_total t_oft t_left t_right t_group t_paired)) C dX1_measure_139 rfl 1 rfl g8 rfl ?_
      refine p_iinc (w := v6 + 1) (lv' := [(6, .int (v6 + 1)), (0, .ref an0), (1, .ref ab0), (2, .ref at0), (3, .int v3), (4, .int v4), (5, .int v5)]) C dX1_measure_140 rfl 6 rfl rfl (by decide) rfl ?_
      refine p_goto C dX1_measure_143 (pc' := 88) (by decide) ?_
      refine p_locals [1, 2, 3, 4, 5, 6, 0] (lv' := [(0, .ref an0), (1, .ref ab0), (2, .ref at0), (3, .int v3), (4, .int v4), (5, .int v5), (6, .int (v6 + 1))]) rfl ?_
      exact ih _ _ h
def B_X1_measure_15 (n_total : Int32) (n_planned : Int32) (b_xs : Ar) (b_ys : Ar) (t_total : Int32) (t_left : Ar) (t_right : Ar)   (kk : Int32 → Ar → Option (Int32 × Int32 × Ar)) (v3 : Int32) (n_leaps : Ar) : Option (Int32 × Int32 × Ar) := if n_total ≤ v3 then (some (n_total, n_planned, n_leaps)) else (grd (gI v3 10) (grd (gI v3 10) (grd (gI (t_left v3.toNatClampNeg) 8) (grd (gI (t_left v3.toNatClampNeg) 8) (bd1 (m_X1_longer (b_xs (t_left v3.toNatClampNeg).toNatClampNeg) (b_ys (t_left v3.toNatClampNeg).toNatClampNeg)) (fun r6 => grd (gI (t_right v3.toNatClampNeg) 8) (grd (gI (t_right v3.toNatClampNeg) 8) (bd1 (m_X1_longer ((b_xs (t_right v3.toNatClampNeg).toNatClampNeg) - ((20 : Int32))) (b_ys (t_right v3.toNatClampNeg).toNatClampNeg)) (fun r10 => grd (gI v3 110) (L_X1_measure_88 n_total n_planned b_xs b_ys t_total t_left t_right kk v3 (t_left v3.toNatClampNeg) (t_right v3.toNatClampNeg) FU ((0 : Int32)) (upd n_leaps v3.toNatClampNeg (if r6 < r10 then r10 else r6))))))))))))
def L_X1_measure_15 (n_total : Int32) (n_planned : Int32) (b_xs : Ar) (b_ys : Ar) (t_total : Int32) (t_left : Ar) (t_right : Ar)   : Nat → Int32 → Ar → Option (Int32 × Int32 × Ar) := lpG (fun _ _ => none) (B_X1_measure_15 n_total n_planned b_xs b_ys t_total t_left t_right)
set_option maxHeartbeats 4000000 in
set_option maxRecDepth 100000 in
theorem tl_X1_measure_15 {x : Cxt} {an0 an1 an2 anb0 anb1 ann0 ann1 ab0 ab1 ab2 ab3 at0 at1 at2 at3 at4 : Nat} {n_total : Int32} {n_planned : Int32} {n_onward : Ar} {nb_len : Int32} {nb_sum : Int32} {nb_tries : Ar} {nn_len : Int32} {nn_sum : Int32} {nn_tries : Ar} {b_points : Int32} {b_near : Int32} {b_loose : Int32} {b_short : Int32} {b_nets : Ar} {b_xs : Ar} {b_ys : Ar} {t_total : Int32} {t_oft : Int32} {t_left : Ar} {t_right : Ar} {t_group : Ar} {t_paired : Ar}   {q_n_total : Int32} {q_n_planned : Int32} {q_n_leaps : Ar} (C : CX RX1 cX1_measure 7 none x)  : ∀ (n : Nat) (v3 : Int32) (n_leaps : Ar), L_X1_measure_15 n_total n_planned b_xs b_ys t_total t_left t_right n v3 n_leaps = some (q_n_total, q_n_planned, q_n_leaps) → PT (RM 3 64) 7 x 15 [(0, .ref an0), (1, .ref ab0), (2, .ref at0), (3, .int v3)] [] (V_NBT x.1.2.2 an0 an1 an2 anb0 anb1 ann0 ann1 ab0 ab1 ab2 ab3 at0 at1 at2 at3 at4 n_total n_planned n_leaps n_onward nb_len nb_sum nb_tries nn_len nn_sum nn_tries b_points b_near b_loose b_short b_nets b_xs b_ys t_total t_oft t_left t_right t_group t_paired) 0 0 (QV x (V_NBT x.1.2.2 an0 an1 an2 anb0 anb1 ann0 ann1 ab0 ab1 ab2 ab3 at0 at1 at2 at3 at4 q_n_total q_n_planned q_n_leaps n_onward nb_len nb_sum nb_tries nn_len nn_sum nn_tries b_points b_near b_loose b_short b_nets b_xs b_ys t_total t_oft t_left t_right t_group t_paired)) := by
  intro n
  induction n with
  | zero =>
    intro v3 n_leaps h
    cases h
  | succ n ih =>
    intro v3 n_leaps h
    have h : B_X1_measure_15 n_total n_planned b_xs b_ys t_total t_left t_right (L_X1_measure_15 n_total n_planned b_xs b_ys t_total t_left t_right n) v3 n_leaps = some (q_n_total, q_n_planned, q_n_leaps) := h
    unfold B_X1_measure_15 at h
    refine p_iload_n C dX1_measure_15 rfl 3 rfl ?_
    refine p_aload_n C dX1_measure_16 rfl 0 rfl ?_
    refine p_get C dX1_measure_17 rfl 0 0 inlX1 fl_X1_9 rfl rfl (by decide) rfl rfl ?_
    refine p_icmp_ge C dX1_measure_20 (tgt := 152) (by decide) rfl (fun c1 => ?_) (fun c1 => ?_)
    · have h := if_t c1 h
      cases h
      exact p_vret C dX1_measure_152
    · have h := if_f c1 h
      refine p_aload_n C dX1_measure_23 rfl 2 rfl ?_
      refine p_getN C dX1_measure_24 rfl 11 0 inlX4 nf_X1_39 rfl rfl (by decide) rfl rfl ?_
      refine p_iload_n C dX1_measure_27 rfl 3 rfl ?_
      obtain ⟨g2, h⟩ := grd_of h
      refine p_iald C dX1_measure_28 rfl 12 rfl g2 ?_
      refine p_istore (lv' := [(4, .int (t_left v3.toNatClampNeg)), (0, .ref an0), (1, .ref ab0), (2, .ref at0), (3, .int v3)]) C dX1_measure_29 rfl (by decide) rfl ?_
      refine p_aload_n C dX1_measure_31 rfl 3 rfl ?_
      refine p_getN C dX1_measure_32 rfl 11 1 inlX4 nf_X1_42 rfl rfl (by decide) rfl rfl ?_
      refine p_iload_n C dX1_measure_35 rfl 4 rfl ?_
      obtain ⟨g3, h⟩ := grd_of h
      refine p_iald C dX1_measure_36 rfl 13 rfl g3 ?_
      refine p_istore (lv' := [(5, .int (t_right v3.toNatClampNeg)), (4, .int (t_left v3.toNatClampNeg)), (0, .ref an0), (1, .ref ab0), (2, .ref at0), (3, .int v3)]) C dX1_measure_37 rfl (by decide) rfl ?_
      refine p_aload_n C dX1_measure_39 rfl 2 rfl ?_
      refine p_get C dX1_measure_40 rfl 0 1 inlX1 fl_X1_15 rfl rfl (by decide) rfl rfl ?_
      refine p_iload_n C dX1_measure_43 rfl 5 rfl ?_
      refine p_aload_n C dX1_measure_44 rfl 3 rfl ?_
      refine p_getN C dX1_measure_45 rfl 7 1 inlX0 nf_X1_45 rfl rfl (by decide) rfl rfl ?_
      refine p_iload C dX1_measure_48 rfl 1 rfl ?_
      obtain ⟨g4, h⟩ := grd_of h
      refine p_iald C dX1_measure_50 rfl 9 rfl g4 ?_
      refine p_aload_n C dX1_measure_51 rfl 3 rfl ?_
      refine p_getN C dX1_measure_52 rfl 7 2 inlX0 nf_X1_50 rfl rfl (by decide) rfl rfl ?_
      refine p_iload C dX1_measure_55 rfl 1 rfl ?_
      obtain ⟨g5, h⟩ := grd_of h
      refine p_iald C dX1_measure_57 rfl 10 rfl g5 ?_
      obtain ⟨r6, hc7, h⟩ := bd1_of h
      refine p_callSi (As := [.int (b_xs (t_left v3.toNatClampNeg).toNatClampNeg), .int (b_ys (t_left v3.toNatClampNeg).toNatClampNeg)]) (st' := [.int v3, .ref an1]) (Wd' := (V_NBT x.1.2.2 an0 an1 an2 anb0 anb1 ann0 ann1 ab0 ab1 ab2 ab3 at0 at1 at2 at3 at4 n_total n_planned n_leaps n_onward nb_len nb_sum nb_tries nn_len nn_sum nn_tries b_points b_near b_loose b_short b_nets b_xs b_ys t_total t_oft t_left t_right t_group t_paired)) C (c_X1_longer x.1 hc7) dX1_measure_58 rfl ml_X1_53 ks_X1_longer ds_X1_longer ⟨rfl, rfl, by decide, by decide⟩ [] rfl rfl rfl rfl (Nat.le_of_ble_eq_true rfl) ⟨by decide, by decide⟩ rfl ?_
      refine p_aload_n C dX1_measure_61 rfl 3 rfl ?_
      refine p_getN C dX1_measure_62 rfl 7 1 inlX0 nf_X1_45 rfl rfl (by decide) rfl rfl ?_
      refine p_iload C dX1_measure_65 rfl 0 rfl ?_
      obtain ⟨g8, h⟩ := grd_of h
      refine p_iald C dX1_measure_67 rfl 9 rfl g8 ?_
      refine p_bipush (v := (20 : Int32)) C dX1_measure_68 rfl (by decide) ?_
      refine p_isub C dX1_measure_70 rfl ?_
      refine p_aload_n C dX1_measure_71 rfl 3 rfl ?_
      refine p_getN C dX1_measure_72 rfl 7 2 inlX0 nf_X1_50 rfl rfl (by decide) rfl rfl ?_
      refine p_iload C dX1_measure_75 rfl 0 rfl ?_
      obtain ⟨g9, h⟩ := grd_of h
      refine p_iald C dX1_measure_77 rfl 10 rfl g9 ?_
      obtain ⟨r10, hc11, h⟩ := bd1_of h
      refine p_callSi (As := [.int ((b_xs (t_right v3.toNatClampNeg).toNatClampNeg) - ((20 : Int32))), .int (b_ys (t_right v3.toNatClampNeg).toNatClampNeg)]) (st' := [.int r6, .int v3, .ref an1]) (Wd' := (V_NBT x.1.2.2 an0 an1 an2 anb0 anb1 ann0 ann1 ab0 ab1 ab2 ab3 at0 at1 at2 at3 at4 n_total n_planned n_leaps n_onward nb_len nb_sum nb_tries nn_len nn_sum nn_tries b_points b_near b_loose b_short b_nets b_xs b_ys t_total t_oft t_left t_right t_group t_paired)) C (c_X1_longer x.1 hc11) dX1_measure_78 rfl ml_X1_53 ks_X1_longer ds_X1_longer ⟨rfl, rfl, by decide, by decide⟩ [] rfl rfl rfl rfl (Nat.le_of_ble_eq_true rfl) ⟨by decide, by decide⟩ rfl ?_
      refine p_mmax C dX1_measure_81 rfl ml_X1_57 ks_Math_max ⟨by decide, Nat.le_of_ble_eq_true rfl⟩ ⟨by decide, by decide⟩ ?_
      obtain ⟨g12, h⟩ := grd_of h
      refine p_iast (Wd' := (V_NBT x.1.2.2 an0 an1 an2 anb0 anb1 ann0 ann1 ab0 ab1 ab2 ab3 at0 at1 at2 at3 at4 n_total n_planned (upd n_leaps v3.toNatClampNeg (if r6 < r10 then r10 else r6)) n_onward nb_len nb_sum nb_tries nn_len nn_sum nn_tries b_points b_near b_loose b_short b_nets b_xs b_ys t_total t_oft t_left t_right t_group t_paired)) C dX1_measure_84 rfl 1 rfl g12 rfl ?_
      refine p_iconst (v := (0 : Int32)) C dX1_measure_85 rfl (by decide) ?_
      refine p_istore (lv' := [(6, .int ((0 : Int32))), (5, .int (t_right v3.toNatClampNeg)), (4, .int (t_left v3.toNatClampNeg)), (0, .ref an0), (1, .ref ab0), (2, .ref at0), (3, .int v3)]) C dX1_measure_86 rfl (by decide) rfl ?_
      refine p_locals [3, 4, 5, 6, 2, 1, 0] (lv' := [(0, .ref an0), (1, .ref ab0), (2, .ref at0), (3, .int v3), (4, .int (t_left v3.toNatClampNeg)), (5, .int (t_right v3.toNatClampNeg)), (6, .int ((0 : Int32)))]) rfl ?_
      exact tl_X1_measure_88 C (fun u0 u1 h => ih u0 u1 h) FU _ _ h
def m_X1_measure (n_total : Int32) (n_planned : Int32) (n_leaps : Ar) (b_xs : Ar) (b_ys : Ar) (t_total : Int32) (t_left : Ar) (t_right : Ar)  : Option (Int32 × Int32 × Ar) := L_X1_measure_15 t_total ((0 : Int32)) b_xs b_ys t_total t_left t_right FU ((0 : Int32)) n_leaps
theorem ds_X1_measure : (yX1_measure).cls ≠ "java/lang/invoke/MethodHandle" ∧ (yX1_measure).cls ≠ "java/lang/invoke/VarHandle" ∧ (parseMethodDescriptor (yX1_measure).desc).map (fun d => d.parameters.length) = some 2 := by decide +kernel
set_option maxHeartbeats 4000000 in
set_option maxRecDepth 100000 in
theorem c_X1_measure (E : En) {an0 an1 an2 anb0 anb1 ann0 ann1 ab0 ab1 ab2 ab3 at0 at1 at2 at3 at4 : Nat} {n_total : Int32} {n_planned : Int32} {n_leaps : Ar} {n_onward : Ar} {nb_len : Int32} {nb_sum : Int32} {nb_tries : Ar} {nn_len : Int32} {nn_sum : Int32} {nn_tries : Ar} {b_points : Int32} {b_near : Int32} {b_loose : Int32} {b_short : Int32} {b_nets : Ar} {b_xs : Ar} {b_ys : Ar} {t_total : Int32} {t_oft : Int32} {t_left : Ar} {t_right : Ar} {t_group : Ar} {t_paired : Ar}  {q_n_total : Int32} {q_n_planned : Int32} {q_n_leaps : Ar} (h : m_X1_measure n_total n_planned n_leaps b_xs b_ys t_total t_left t_right = some (q_n_total, q_n_planned, q_n_leaps)) : Cv E yX1_measure (wU yX1_measure cX1_measure 7 none) (RM 3 64) [.ref an0, .ref ab0, .ref at0] (V_NBT E.2.2 an0 an1 an2 anb0 anb1 ann0 ann1 ab0 ab1 ab2 ab3 at0 at1 at2 at3 at4 n_total n_planned n_leaps n_onward nb_len nb_sum nb_tries nn_len nn_sum nn_tries b_points b_near b_loose b_short b_nets b_xs b_ys t_total t_oft t_left t_right t_group t_paired) (V_NBT E.2.2 an0 an1 an2 anb0 anb1 ann0 ann1 ab0 ab1 ab2 ab3 at0 at1 at2 at3 at4 q_n_total q_n_planned q_n_leaps n_onward nb_len nb_sum nb_tries nn_len nn_sum nn_tries b_points b_near b_loose b_short b_nets b_xs b_ys t_total t_oft t_left t_right t_group t_paired) := by
  refine Cv.of (by decide) (Nat.le_of_ble_eq_true rfl) ?_
  intro x hE C
  subst hE
  have C : CX RX1 cX1_measure 7 none x := C
  refine p_locals [0, 1, 2] (lv' := [(0, .ref an0), (1, .ref ab0), (2, .ref at0)]) rfl ?_
  unfold m_X1_measure at h
  refine p_aload_n C dX1_measure_0 rfl 0 rfl ?_
  refine p_aload_n C dX1_measure_1 rfl 2 rfl ?_
  refine p_getN C dX1_measure_2 rfl 11 2 inlX4 nf_X1_36 rfl rfl (by decide) rfl rfl ?_
  refine p_put (Wd' := (V_NBT x.1.2.2 an0 an1 an2 anb0 anb1 ann0 ann1 ab0 ab1 ab2 ab3 at0 at1 at2 at3 at4 t_total n_planned n_leaps n_onward nb_len nb_sum nb_tries nn_len nn_sum nn_tries b_points b_near b_loose b_short b_nets b_xs b_ys t_total t_oft t_left t_right t_group t_paired)) (ty := .int) C dX1_measure_5 rfl 0 0 inlX1 tyX1 tyX1_ok nmX1 fl_X1_9 rfl rfl (by decide) rfl rfl (by decide +kernel) rfl rfl (Nat.le_of_ble_eq_true rfl) rfl ?_
  refine p_aload_n C dX1_measure_8 rfl 0 rfl ?_
  refine p_iconst (v := (0 : Int32)) C dX1_measure_9 rfl (by decide) ?_
  refine p_put (Wd' := (V_NBT x.1.2.2 an0 an1 an2 anb0 anb1 ann0 ann1 ab0 ab1 ab2 ab3 at0 at1 at2 at3 at4 t_total ((0 : Int32)) n_leaps n_onward nb_len nb_sum nb_tries nn_len nn_sum nn_tries b_points b_near b_loose b_short b_nets b_xs b_ys t_total t_oft t_left t_right t_group t_paired)) (ty := .boolean) C dX1_measure_10 rfl 0 5 inlX1 tyX1 tyX1_ok nmX1 fl_X1_32 rfl rfl (by decide) rfl rfl (by decide +kernel) rfl rfl (Nat.le_of_ble_eq_true rfl) rfl ?_
  refine p_iconst (v := (0 : Int32)) C dX1_measure_13 rfl (by decide) ?_
  refine p_istore_n (lv' := [(3, .int ((0 : Int32))), (0, .ref an0), (1, .ref ab0), (2, .ref at0)]) C dX1_measure_14 rfl (by decide) rfl ?_
  refine p_locals [1, 2, 3, 0] (lv' := [(0, .ref an0), (1, .ref ab0), (2, .ref at0), (3, .int ((0 : Int32)))]) rfl ?_
  exact tl_X1_measure_15 C  FU _ _ h
def m_X5_isIn  (p0 : Int32) (p1 : Int32) : Option (Int32) := if ((p0 >>> (p1 &&& 31)) &&& ((1 : Int32))) = ((1 : Int32)) then (some ((1 : Int32))) else (some ((0 : Int32)))
theorem ds_X5_isIn : (yX5_isIn).cls ≠ "java/lang/invoke/MethodHandle" ∧ (yX5_isIn).cls ≠ "java/lang/invoke/VarHandle" ∧ (parseMethodDescriptor (yX5_isIn).desc).map (fun d => d.parameters.length) = some 2 := by decide +kernel
set_option maxHeartbeats 4000000 in
set_option maxRecDepth 100000 in
theorem c_X5_isIn (E : En)  {p0 : Int32} {p1 : Int32} {rr : Int32} (h : m_X5_isIn p0 p1 = some rr) : Ci E yX5_isIn (wU yX5_isIn cX5_isIn 2 (some .boolean)) (RM 0 0) [.int p0, .int p1] ([] : va_W) ([] : va_W) rr := by
  refine Ci.of (by decide) (Nat.le_of_ble_eq_true rfl) ?_
  intro x hE C
  subst hE
  have C : CX RX5 cX5_isIn 2 (some .boolean) x := C
  refine p_locals [0, 1] (lv' := [(0, .int p0), (1, .int p1)]) rfl ?_
  unfold m_X5_isIn at h
  refine p_iload_n C dX5_isIn_0 rfl 0 rfl ?_
  refine p_iload_n C dX5_isIn_1 rfl 1 rfl ?_
  refine p_ishr C dX5_isIn_2 rfl ?_
  refine p_iconst (v := (1 : Int32)) C dX5_isIn_3 rfl (by decide) ?_
  refine p_iand C dX5_isIn_4 rfl ?_
  refine p_iconst (v := (1 : Int32)) C dX5_isIn_5 rfl (by decide) ?_
  refine p_icmp_ne C dX5_isIn_6 (tgt := 13) (by decide) rfl (fun c1 => ?_) (fun c1 => ?_)
  · have h := if_f c1 h
    refine p_iconst (v := (0 : Int32)) C dX5_isIn_13 rfl (by decide) ?_
    cases h
    exact p_zret C dX5_isIn_14 rfl
  · have h := if_t c1 h
    refine p_iconst (v := (1 : Int32)) C dX5_isIn_9 rfl (by decide) ?_
    refine p_goto C dX5_isIn_10 (pc' := 14) (by decide) ?_
    cases h
    exact p_zret C dX5_isIn_14 rfl
def J_X1_nearestOf_51 (n_total : Int32) (n_leaps : Ar) (k9 : Int32 → Int32 → Int32 → Option (Int32))  (v1 : Int32) (v2 : Int32) (v3 : Int32) (v4 : Int32) (v5 : Int32) : Option (Int32) := k9 v3 v4 (v5 + 1)
set_option maxHeartbeats 4000000 in
set_option maxRecDepth 100000 in
theorem tj_X1_nearestOf_51 {x : Cxt} {an0 an1 an2 anb0 anb1 ann0 ann1 : Nat} {n_total : Int32} {n_planned : Int32} {n_leaps : Ar} {n_onward : Ar} {nb_len : Int32} {nb_sum : Int32} {nb_tries : Ar} {nn_len : Int32} {nn_sum : Int32} {nn_tries : Ar} {k9 : Int32 → Int32 → Int32 → Option (Int32)}  {v1 : Int32} {v2 : Int32} {v3 : Int32} {v4 : Int32} {v5 : Int32} {rr : Int32} (C : CX RX1 cX1_nearestOf 6 (some .int) x) (hk9 : ∀ (w3 : Int32) (w4 : Int32) (w5 : Int32) , k9 w3 w4 w5 = some rr → PT (RM 1 22) 6 x 9 [(0, .ref an0), (1, .int v1), (2, .int v2), (3, .int w3), (4, .int w4), (5, .int w5)] [] (V_N x.1.2.2 an0 an1 an2 anb0 anb1 ann0 ann1 n_total n_planned n_leaps n_onward nb_len nb_sum nb_tries nn_len nn_sum nn_tries) 0 0 (QI x rr (V_N x.1.2.2 an0 an1 an2 anb0 anb1 ann0 ann1 n_total n_planned n_leaps n_onward nb_len nb_sum nb_tries nn_len nn_sum nn_tries))) (h : J_X1_nearestOf_51 n_total n_leaps k9 v1 v2 v3 v4 v5 = some rr) : PT (RM 1 22) 6 x 51 [(0, .ref an0), (1, .int v1), (2, .int v2), (3, .int v3), (4, .int v4), (5, .int v5)] [] (V_N x.1.2.2 an0 an1 an2 anb0 anb1 ann0 ann1 n_total n_planned n_leaps n_onward nb_len nb_sum nb_tries nn_len nn_sum nn_tries) 0 0 (QI x rr (V_N x.1.2.2 an0 an1 an2 anb0 anb1 ann0 ann1 n_total n_planned n_leaps n_onward nb_len nb_sum nb_tries nn_len nn_sum nn_tries)) := by
  unfold J_X1_nearestOf_51 at h
  refine p_iinc (w := v5 + 1) (lv' := [(5, .int (v5 + 1)), (0, .ref an0), (1, .int v1), (2, .int v2), (3, .int v3), (4, .int v4)]) C dX1_nearestOf_51 rfl 5 rfl rfl (by decide) rfl ?_
  refine p_goto C dX1_nearestOf_54 (pc' := 9) (by decide) ?_
  refine p_locals [1, 2, 3, 4, 5, 0] (lv' := [(0, .ref an0), (1, .int v1), (2, .int v2), (3, .int v3), (4, .int v4), (5, .int (v5 + 1))]) rfl ?_
  exact hk9 _ _ _ h
def B_X1_nearestOf_9 (n_total : Int32) (n_leaps : Ar)  (v1 : Int32) (v2 : Int32) (kk : Int32 → Int32 → Int32 → Option (Int32)) (v3 : Int32) (v4 : Int32) (v5 : Int32)  : Option (Int32) := if n_total ≤ v5 then (some v3) else (bd1 (m_X5_isIn v2 v5) (fun r2 => if r2 = 0 then (J_X1_nearestOf_51 n_total n_leaps (kk) v1 v2 v3 v4 v5) else (bd1 (m_X1_leap n_leaps v1 v5) (fun r5 => if v4 ≤ r5 then (J_X1_nearestOf_51 n_total n_leaps (kk) v1 v2 v3 v4 v5) else (bd1 (m_X1_leap n_leaps v1 v5) (fun r8 => J_X1_nearestOf_51 n_total n_leaps (kk) v1 v2 v5 r8 v5))))))
def L_X1_nearestOf_9 (n_total : Int32) (n_leaps : Ar)  (v1 : Int32) (v2 : Int32) : Nat → Int32 → Int32 → Int32 → Option (Int32) := lpG (fun _ _ _ => none) (B_X1_nearestOf_9 n_total n_leaps v1 v2)
set_option maxHeartbeats 4000000 in
set_option maxRecDepth 100000 in
theorem tl_X1_nearestOf_9 {x : Cxt} {an0 an1 an2 anb0 anb1 ann0 ann1 : Nat} {n_total : Int32} {n_planned : Int32} {n_leaps : Ar} {n_onward : Ar} {nb_len : Int32} {nb_sum : Int32} {nb_tries : Ar} {nn_len : Int32} {nn_sum : Int32} {nn_tries : Ar}  {v1 : Int32} {v2 : Int32} {rr : Int32} (C : CX RX1 cX1_nearestOf 6 (some .int) x)  : ∀ (n : Nat) (v3 : Int32) (v4 : Int32) (v5 : Int32) , L_X1_nearestOf_9 n_total n_leaps v1 v2 n v3 v4 v5 = some rr → PT (RM 1 22) 6 x 9 [(0, .ref an0), (1, .int v1), (2, .int v2), (3, .int v3), (4, .int v4), (5, .int v5)] [] (V_N x.1.2.2 an0 an1 an2 anb0 anb1 ann0 ann1 n_total n_planned n_leaps n_onward nb_len nb_sum nb_tries nn_len nn_sum nn_tries) 0 0 (QI x rr (V_N x.1.2.2 an0 an1 an2 anb0 anb1 ann0 ann1 n_total n_planned n_leaps n_onward nb_len nb_sum nb_tries nn_len nn_sum nn_tries)) := by
  intro n
  induction n with
  | zero =>
    intro v3 v4 v5 h
    cases h
  | succ n ih =>
    intro v3 v4 v5 h
    have h : B_X1_nearestOf_9 n_total n_leaps v1 v2 (L_X1_nearestOf_9 n_total n_leaps v1 v2 n) v3 v4 v5 = some rr := h
    unfold B_X1_nearestOf_9 at h
    refine p_iload C dX1_nearestOf_9 rfl 5 rfl ?_
    refine p_aload_n C dX1_nearestOf_11 rfl 0 rfl ?_
    refine p_get C dX1_nearestOf_12 rfl 0 0 inlX1 fl_X1_9 rfl rfl (by decide) rfl rfl ?_
    refine p_icmp_ge C dX1_nearestOf_15 (tgt := 57) (by decide) rfl (fun c1 => ?_) (fun c1 => ?_)
    · have h := if_t c1 h
      refine p_iload_n C dX1_nearestOf_57 rfl 3 rfl ?_
      cases h
      exact p_iret C dX1_nearestOf_58
    · have h := if_f c1 h
      refine p_iload_n C dX1_nearestOf_18 rfl 2 rfl ?_
      refine p_iload C dX1_nearestOf_19 rfl 5 rfl ?_
      obtain ⟨r2, hc3, h⟩ := bd1_of h
      refine p_callSNi (As := [.int v2, .int v5]) (st' := []) (Wd' := (V_N x.1.2.2 an0 an1 an2 anb0 anb1 ann0 ann1 n_total n_planned n_leaps n_onward nb_len nb_sum nb_tries nn_len nn_sum nn_tries)) C (c_X5_isIn x.1 hc3) dX1_nearestOf_21 rfl nm_X1_100 ks_X5_isIn ds_X5_isIn ⟨rfl, rfl, by decide, by decide⟩ [] rfl rfl rfl rfl (by decide) ⟨by decide, by decide⟩ rfl ?_
      refine p_if_eq C dX1_nearestOf_24 (tgt := 51) (by decide) rfl (fun c4 => ?_) (fun c4 => ?_)
      · have h := if_t c4 h
        refine p_locals [0, 1, 2, 3, 4, 5] (lv' := [(0, .ref an0), (1, .int v1), (2, .int v2), (3, .int v3), (4, .int v4), (5, .int v5)]) rfl ?_
        exact tj_X1_nearestOf_51 C (fun u0 u1 u2 h => ih u0 u1 u2 h) h
      · have h := if_f c4 h
        refine p_aload_n C dX1_nearestOf_27 rfl 0 rfl ?_
        refine p_iload_n C dX1_nearestOf_28 rfl 1 rfl ?_
        refine p_iload C dX1_nearestOf_29 rfl 5 rfl ?_
        obtain ⟨r5, hc6, h⟩ := bd1_of h
        refine p_callVi (As := [.int v1, .int v5]) (st' := []) (Wd' := (V_N x.1.2.2 an0 an1 an2 anb0 anb1 ann0 ann1 n_total n_planned n_leaps n_onward nb_len nb_sum nb_tries nn_len nn_sum nn_tries)) C (c_X1_leap x.1 (an0 := an0) (an1 := an1) (an2 := an2) (anb0 := anb0) (anb1 := anb1) (ann0 := ann0) (ann1 := ann1) (n_total := n_total) (n_planned := n_planned) (n_onward := n_onward) (nb_len := nb_len) (nb_sum := nb_sum) (nb_tries := nb_tries) (nn_len := nn_len) (nn_sum := nn_sum) (nn_tries := nn_tries) hc6) dX1_nearestOf_31 rfl ml_X1_90 kv_X1_leap ds_X1_leap ⟨rfl, rfl, by decide, by decide⟩ 0 rfl rfl [0, 1, 2, 3, 4, 5, 6] rfl rfl rfl rfl (by decide) ⟨by decide, by decide⟩ rfl ?_
        refine p_iload C dX1_nearestOf_34 rfl 4 rfl ?_
        refine p_icmp_ge C dX1_nearestOf_36 (tgt := 51) (by decide) rfl (fun c7 => ?_) (fun c7 => ?_)
        · have h := if_t c7 h
          refine p_locals [0, 1, 2, 3, 4, 5] (lv' := [(0, .ref an0), (1, .int v1), (2, .int v2), (3, .int v3), (4, .int v4), (5, .int v5)]) rfl ?_
          exact tj_X1_nearestOf_51 C (fun u0 u1 u2 h => ih u0 u1 u2 h) h
        · have h := if_f c7 h
          refine p_iload C dX1_nearestOf_39 rfl 5 rfl ?_
          refine p_istore_n (lv' := [(3, .int v5), (0, .ref an0), (1, .int v1), (2, .int v2), (4, .int v4), (5, .int v5)]) C dX1_nearestOf_41 rfl (by decide) rfl ?_
          refine p_aload_n C dX1_nearestOf_42 rfl 1 rfl ?_
          refine p_iload_n C dX1_nearestOf_43 rfl 2 rfl ?_
          refine p_iload C dX1_nearestOf_44 rfl 5 rfl ?_
          obtain ⟨r8, hc9, h⟩ := bd1_of h
          refine p_callVi (As := [.int v1, .int v5]) (st' := []) (Wd' := (V_N x.1.2.2 an0 an1 an2 anb0 anb1 ann0 ann1 n_total n_planned n_leaps n_onward nb_len nb_sum nb_tries nn_len nn_sum nn_tries)) C (c_X1_leap x.1 (an0 := an0) (an1 := an1) (an2 := an2) (anb0 := anb0) (anb1 := anb1) (ann0 := ann0) (ann1 := ann1) (n_total := n_total) (n_planned := n_planned) (n_onward := n_onward) (nb_len := nb_len) (nb_sum := nb_sum) (nb_tries := nb_tries) (nn_len := nn_len) (nn_sum := nn_sum) (nn_tries := nn_tries) hc9) dX1_nearestOf_46 rfl ml_X1_90 kv_X1_leap ds_X1_leap ⟨rfl, rfl, by decide, by decide⟩ 0 rfl rfl [0, 1, 2, 3, 4, 5, 6] rfl rfl rfl rfl (by decide) ⟨by decide, by decide⟩ rfl ?_
          refine p_istore (lv' := [(4, .int r8), (3, .int v5), (0, .ref an0), (1, .int v1), (2, .int v2), (5, .int v5)]) C dX1_nearestOf_49 rfl (by decide) rfl ?_
          refine p_locals [2, 3, 4, 1, 0, 5] (lv' := [(0, .ref an0), (1, .int v1), (2, .int v2), (3, .int v5), (4, .int r8), (5, .int v5)]) rfl ?_
          exact tj_X1_nearestOf_51 C (fun u0 u1 u2 h => ih u0 u1 u2 h) h
def m_X1_nearestOf (n_total : Int32) (n_leaps : Ar) (p1 : Int32) (p2 : Int32) : Option (Int32) := L_X1_nearestOf_9 n_total n_leaps p1 p2 FU ((0 : Int32)) ((2147483647 : Int32)) ((0 : Int32))
theorem ds_X1_nearestOf : (yX1_nearestOf).cls ≠ "java/lang/invoke/MethodHandle" ∧ (yX1_nearestOf).cls ≠ "java/lang/invoke/VarHandle" ∧ (parseMethodDescriptor (yX1_nearestOf).desc).map (fun d => d.parameters.length) = some 2 := by decide +kernel
set_option maxHeartbeats 4000000 in
set_option maxRecDepth 100000 in
theorem c_X1_nearestOf (E : En) {an0 an1 an2 anb0 anb1 ann0 ann1 : Nat} {n_total : Int32} {n_planned : Int32} {n_leaps : Ar} {n_onward : Ar} {nb_len : Int32} {nb_sum : Int32} {nb_tries : Ar} {nn_len : Int32} {nn_sum : Int32} {nn_tries : Ar} {p1 : Int32} {p2 : Int32} {rr : Int32} (h : m_X1_nearestOf n_total n_leaps p1 p2 = some rr) : Ci E yX1_nearestOf (wU yX1_nearestOf cX1_nearestOf 6 (some .int)) (RM 1 22) [.ref an0, .int p1, .int p2] (V_N E.2.2 an0 an1 an2 anb0 anb1 ann0 ann1 n_total n_planned n_leaps n_onward nb_len nb_sum nb_tries nn_len nn_sum nn_tries) (V_N E.2.2 an0 an1 an2 anb0 anb1 ann0 ann1 n_total n_planned n_leaps n_onward nb_len nb_sum nb_tries nn_len nn_sum nn_tries) rr := by
  refine Ci.of (by decide) (Nat.le_of_ble_eq_true rfl) ?_
  intro x hE C
  subst hE
  have C : CX RX1 cX1_nearestOf 6 (some .int) x := C
  refine p_locals [0, 1, 2] (lv' := [(0, .ref an0), (1, .int p1), (2, .int p2)]) rfl ?_
  unfold m_X1_nearestOf at h
  refine p_iconst (v := (0 : Int32)) C dX1_nearestOf_0 rfl (by decide) ?_
  refine p_istore_n (lv' := [(3, .int ((0 : Int32))), (0, .ref an0), (1, .int p1), (2, .int p2)]) C dX1_nearestOf_1 rfl (by decide) rfl ?_
  refine p_ldc C dX1_nearestOf_2 rfl cst_X1_99 ?_
  refine p_istore (lv' := [(4, .int ((2147483647 : Int32))), (3, .int ((0 : Int32))), (0, .ref an0), (1, .int p1), (2, .int p2)]) C dX1_nearestOf_4 rfl (by decide) rfl ?_
  refine p_iconst (v := (0 : Int32)) C dX1_nearestOf_6 rfl (by decide) ?_
  refine p_istore (lv' := [(5, .int ((0 : Int32))), (4, .int ((2147483647 : Int32))), (3, .int ((0 : Int32))), (0, .ref an0), (1, .int p1), (2, .int p2)]) C dX1_nearestOf_7 rfl (by decide) rfl ?_
  refine p_locals [3, 4, 5, 2, 1, 0] (lv' := [(0, .ref an0), (1, .int p1), (2, .int p2), (3, .int ((0 : Int32))), (4, .int ((2147483647 : Int32))), (5, .int ((0 : Int32)))]) rfl ?_
  exact tl_X1_nearestOf_9 C  FU _ _ _ h
def m_X2_append (o_len : Int32) (o_sum : Int32) (o_tries : Ar) (p1 : Int32) (p2 : Int32) : Option (Int32 × Int32 × Ar) := if o_len < ((10 : Int32)) then (grd (gI o_len 10) (some (o_len + ((1 : Int32)), o_sum + p2, upd o_tries o_len.toNatClampNeg p1))) else (some (o_len, o_sum, o_tries))
theorem ds_X2_append : (yX2_append).cls ≠ "java/lang/invoke/MethodHandle" ∧ (yX2_append).cls ≠ "java/lang/invoke/VarHandle" ∧ (parseMethodDescriptor (yX2_append).desc).map (fun d => d.parameters.length) = some 2 := by decide +kernel
set_option maxHeartbeats 4000000 in
set_option maxRecDepth 100000 in
theorem c_X2_append (E : En) {ao0 ao1 : Nat} {o_len : Int32} {o_sum : Int32} {o_tries : Ar} {p1 : Int32} {p2 : Int32} {q_o_len : Int32} {q_o_sum : Int32} {q_o_tries : Ar} (h : m_X2_append o_len o_sum o_tries p1 p2 = some (q_o_len, q_o_sum, q_o_tries)) : Cv E yX2_append (wU yX2_append cX2_append 3 none) (RM 0 0) [.ref ao0, .int p1, .int p2] (V_O E.2.2 ao0 ao1 o_len o_sum o_tries) (V_O E.2.2 ao0 ao1 q_o_len q_o_sum q_o_tries) := by
  refine Cv.of (by decide) (Nat.le_of_ble_eq_true rfl) ?_
  intro x hE C
  subst hE
  have C : CX RX2 cX2_append 3 none x := C
  refine p_locals [0, 1, 2] (lv' := [(0, .ref ao0), (1, .int p1), (2, .int p2)]) rfl ?_
  unfold m_X2_append at h
  refine p_aload_n C dX2_append_0 rfl 0 rfl ?_
  refine p_get C dX2_append_1 rfl 0 1 inlX2 fl_X2_15 rfl rfl (by decide) rfl rfl ?_
  refine p_bipush (v := (10 : Int32)) C dX2_append_4 rfl (by decide) ?_
  refine p_icmp_lt C dX2_append_6 (tgt := 10) (by decide) rfl (fun c1 => ?_) (fun c1 => ?_)
  · have h := if_t c1 h
    refine p_aload_n C dX2_append_10 rfl 0 rfl ?_
    refine p_get C dX2_append_11 rfl 0 0 inlX2 fl_X2_9 rfl rfl (by decide) rfl rfl ?_
    refine p_aload_n C dX2_append_14 rfl 0 rfl ?_
    refine p_get C dX2_append_15 rfl 0 1 inlX2 fl_X2_15 rfl rfl (by decide) rfl rfl ?_
    refine p_iload_n C dX2_append_18 rfl 1 rfl ?_
    obtain ⟨g2, h⟩ := grd_of h
    refine p_iast (Wd' := (V_O x.1.2.2 ao0 ao1 o_len o_sum (upd o_tries o_len.toNatClampNeg p1))) C dX2_append_19 rfl 1 rfl g2 rfl ?_
    refine p_aload_n C dX2_append_20 rfl 0 rfl ?_
    refine p_dup C dX2_append_21 rfl rfl ?_
    refine p_get C dX2_append_22 rfl 0 1 inlX2 fl_X2_15 rfl rfl (by decide) rfl rfl ?_
    refine p_iconst (v := (1 : Int32)) C dX2_append_25 rfl (by decide) ?_
    refine p_iadd C dX2_append_26 rfl ?_
    refine p_put (Wd' := (V_O x.1.2.2 ao0 ao1 (o_len + ((1 : Int32))) o_sum (upd o_tries o_len.toNatClampNeg p1))) (ty := .int) C dX2_append_27 rfl 0 1 inlX2 tyX2 tyX2_ok nmX2 fl_X2_15 rfl rfl (by decide) rfl rfl (by decide +kernel) rfl rfl (Nat.le_of_ble_eq_true rfl) rfl ?_
    refine p_aload_n C dX2_append_30 rfl 0 rfl ?_
    refine p_dup C dX2_append_31 rfl rfl ?_
    refine p_get C dX2_append_32 rfl 0 2 inlX2 fl_X2_19 rfl rfl (by decide) rfl rfl ?_
    refine p_iload_n C dX2_append_35 rfl 2 rfl ?_
    refine p_iadd C dX2_append_36 rfl ?_
    refine p_put (Wd' := (V_O x.1.2.2 ao0 ao1 (o_len + ((1 : Int32))) (o_sum + p2) (upd o_tries o_len.toNatClampNeg p1))) (ty := .int) C dX2_append_37 rfl 0 2 inlX2 tyX2 tyX2_ok nmX2 fl_X2_19 rfl rfl (by decide) rfl rfl (by decide +kernel) rfl rfl (Nat.le_of_ble_eq_true rfl) rfl ?_
    cases h
    exact p_vret C dX2_append_40
  · have h := if_f c1 h
    cases h
    exact p_vret C dX2_append_9
def m_X2_clear (o_len : Int32) (o_sum : Int32)  : Option (Int32 × Int32) := some ((0 : Int32), (0 : Int32))
theorem ds_X2_clear : (yX2_clear).cls ≠ "java/lang/invoke/MethodHandle" ∧ (yX2_clear).cls ≠ "java/lang/invoke/VarHandle" ∧ (parseMethodDescriptor (yX2_clear).desc).map (fun d => d.parameters.length) = some 0 := by decide +kernel
set_option maxHeartbeats 4000000 in
set_option maxRecDepth 100000 in
theorem c_X2_clear (E : En) {ao0 ao1 : Nat} {o_len : Int32} {o_sum : Int32} {o_tries : Ar}  {q_o_len : Int32} {q_o_sum : Int32} (h : m_X2_clear o_len o_sum = some (q_o_len, q_o_sum)) : Cv E yX2_clear (wU yX2_clear cX2_clear 1 none) (RM 0 0) [.ref ao0] (V_O E.2.2 ao0 ao1 o_len o_sum o_tries) (V_O E.2.2 ao0 ao1 q_o_len q_o_sum o_tries) := by
  refine Cv.of (by decide) (Nat.le_of_ble_eq_true rfl) ?_
  intro x hE C
  subst hE
  have C : CX RX2 cX2_clear 1 none x := C
  refine p_locals [0] (lv' := [(0, .ref ao0)]) rfl ?_
  unfold m_X2_clear at h
  refine p_aload_n C dX2_clear_0 rfl 0 rfl ?_
  refine p_iconst (v := (0 : Int32)) C dX2_clear_1 rfl (by decide) ?_
  refine p_put (Wd' := (V_O x.1.2.2 ao0 ao1 ((0 : Int32)) o_sum o_tries)) (ty := .int) C dX2_clear_2 rfl 0 1 inlX2 tyX2 tyX2_ok nmX2 fl_X2_15 rfl rfl (by decide) rfl rfl (by decide +kernel) rfl rfl (Nat.le_of_ble_eq_true rfl) rfl ?_
  refine p_aload_n C dX2_clear_5 rfl 0 rfl ?_
  refine p_iconst (v := (0 : Int32)) C dX2_clear_6 rfl (by decide) ?_
  refine p_put (Wd' := (V_O x.1.2.2 ao0 ao1 ((0 : Int32)) ((0 : Int32)) o_tries)) (ty := .int) C dX2_clear_7 rfl 0 2 inlX2 tyX2 tyX2_ok nmX2 fl_X2_19 rfl rfl (by decide) rfl rfl (by decide +kernel) rfl rfl (Nat.le_of_ble_eq_true rfl) rfl ?_
  cases h
  exact p_vret C dX2_clear_10
def J_X1_plan_nb_45 (n_total : Int32) (n_leaps : Ar) (n_onward : Ar) (nb_len : Int32) (nb_sum : Int32) (nb_tries : Ar) (k15 : Int32 → Int32 → Int32 → Int32 → Int32 → Ar → Option (Int32 × Int32 × Ar)) (e0 : Int32) (v2 : Int32) (v3 : Int32) (v4 : Int32) (v5 : Int32) : Option (Int32 × Int32 × Ar) := bd1 (m_X1_leap n_leaps v3 e0) (fun r1 => bd3 (m_X2_append nb_len nb_sum nb_tries e0 r1) (fun z_len3 z_sum4 z_tries5 => k15 (e0 + ((1 : Int32))) (v4 &&& ((((1 : Int32)) <<< (e0 &&& 31)) ^^^ ((-1 : Int32)))) (v5 + 1) z_len3 z_sum4 z_tries5))
set_option maxHeartbeats 4000000 in
set_option maxRecDepth 100000 in
theorem tj_X1_plan_nb_45 {x : Cxt} {an0 an1 an2 anb0 anb1 ann0 ann1 : Nat} {n_total : Int32} {n_planned : Int32} {n_leaps : Ar} {n_onward : Ar} {nb_len : Int32} {nb_sum : Int32} {nb_tries : Ar} {nn_len : Int32} {nn_sum : Int32} {nn_tries : Ar} {k15 : Int32 → Int32 → Int32 → Int32 → Int32 → Ar → Option (Int32 × Int32 × Ar)} {e0 : Int32} {v2 : Int32} {v3 : Int32} {v4 : Int32} {v5 : Int32} {q_nb_len : Int32} {q_nb_sum : Int32} {q_nb_tries : Ar} (C : CX RX1 cX1_plan 7 none x) (hk15 : ∀ (w3 : Int32) (w4 : Int32) (w5 : Int32) (w_nb_len : Int32) (w_nb_sum : Int32) (w_nb_tries : Ar), k15 w3 w4 w5 w_nb_len w_nb_sum w_nb_tries = some (q_nb_len, q_nb_sum, q_nb_tries) → PT (RM 2 52) 7 x 15 [(0, .ref an0), (1, .ref anb0), (2, .int v2), (3, .int w3), (4, .int w4), (5, .int w5)] [] (V_N x.1.2.2 an0 an1 an2 anb0 anb1 ann0 ann1 n_total n_planned n_leaps n_onward w_nb_len w_nb_sum w_nb_tries nn_len nn_sum nn_tries) 0 0 (QV x (V_N x.1.2.2 an0 an1 an2 anb0 anb1 ann0 ann1 n_total n_planned n_leaps n_onward q_nb_len q_nb_sum q_nb_tries nn_len nn_sum nn_tries))) (h : J_X1_plan_nb_45 n_total n_leaps n_onward nb_len nb_sum nb_tries k15 e0 v2 v3 v4 v5 = some (q_nb_len, q_nb_sum, q_nb_tries)) : PT (RM 2 52) 7 x 45 [(0, .ref an0), (1, .ref anb0), (2, .int v2), (3, .int v3), (4, .int v4), (5, .int v5)] [.int e0] (V_N x.1.2.2 an0 an1 an2 anb0 anb1 ann0 ann1 n_total n_planned n_leaps n_onward nb_len nb_sum nb_tries nn_len nn_sum nn_tries) 0 0 (QV x (V_N x.1.2.2 an0 an1 an2 anb0 anb1 ann0 ann1 n_total n_planned n_leaps n_onward q_nb_len q_nb_sum q_nb_tries nn_len nn_sum nn_tries)) := by
  unfold J_X1_plan_nb_45 at h
  refine p_istore (lv' := [(6, .int e0), (0, .ref an0), (1, .ref anb0), (2, .int v2), (3, .int v3), (4, .int v4), (5, .int v5)]) C dX1_plan_45 rfl (by decide) rfl ?_
  refine p_aload_n C dX1_plan_47 rfl 2 rfl ?_
  refine p_iload C dX1_plan_48 rfl 0 rfl ?_
  refine p_aload_n C dX1_plan_50 rfl 1 rfl ?_
  refine p_iload_n C dX1_plan_51 rfl 4 rfl ?_
  refine p_iload C dX1_plan_52 rfl 0 rfl ?_
  obtain ⟨r1, hc2, h⟩ := bd1_of h
  refine p_callVi (As := [.int v3, .int e0]) (st' := [.int e0, .ref anb0]) (Wd' := (V_N x.1.2.2 an0 an1 an2 anb0 anb1 ann0 ann1 n_total n_planned n_leaps n_onward nb_len nb_sum nb_tries nn_len nn_sum nn_tries)) C (c_X1_leap x.1 (an0 := an0) (an1 := an1) (an2 := an2) (anb0 := anb0) (anb1 := anb1) (ann0 := ann0) (ann1 := ann1) (n_total := n_total) (n_planned := n_planned) (n_onward := n_onward) (nb_len := nb_len) (nb_sum := nb_sum) (nb_tries := nb_tries) (nn_len := nn_len) (nn_sum := nn_sum) (nn_tries := nn_tries) hc2) dX1_plan_54 rfl ml_X1_90 kv_X1_leap ds_X1_leap ⟨rfl, rfl, by decide, by decide⟩ 0 rfl rfl [0, 1, 2, 3, 4, 5, 6] rfl rfl rfl rfl (Nat.le_of_ble_eq_true rfl) ⟨by decide, by decide⟩ rfl ?_
  obtain ⟨z_len3, z_sum4, z_tries5, hc6, h⟩ := bd3_of h
  refine p_callVNv (As := [.int e0, .int r1]) (st' := []) (Wd' := (V_N x.1.2.2 an0 an1 an2 anb0 anb1 ann0 ann1 n_total n_planned n_leaps n_onward z_len3 z_sum4 z_tries5 nn_len nn_sum nn_tries)) C (c_X2_append x.1 (ao0 := anb0) (ao1 := anb1) hc6) dX1_plan_57 rfl nm_X1_93 kv_X2_append ds_X2_append ⟨rfl, rfl, by decide, by decide⟩ 0 rfl rfl [3, 4] rfl rfl rfl rfl (by decide) ⟨by decide, by decide⟩ rfl ?_
  refine p_iload C dX1_plan_60 rfl 5 rfl ?_
  refine p_iconst (v := (1 : Int32)) C dX1_plan_62 rfl (by decide) ?_
  refine p_iload C dX1_plan_63 rfl 0 rfl ?_
  refine p_ishl C dX1_plan_65 rfl ?_
  refine p_iconst (v := (-1 : Int32)) C dX1_plan_66 rfl (by decide) ?_
  refine p_ixor C dX1_plan_67 rfl ?_
  refine p_iand C dX1_plan_68 rfl ?_
  refine p_istore (lv' := [(4, .int (v4 &&& ((((1 : Int32)) <<< (e0 &&& 31)) ^^^ ((-1 : Int32))))), (6, .int e0), (0, .ref an0), (1, .ref anb0), (2, .int v2), (3, .int v3), (5, .int v5)]) C dX1_plan_69 rfl (by decide) rfl ?_
  refine p_iload C dX1_plan_71 rfl 1 rfl ?_
  refine p_iconst (v := (1 : Int32)) C dX1_plan_73 rfl (by decide) ?_
  refine p_iadd C dX1_plan_74 rfl ?_
  refine p_istore_n (lv' := [(3, .int (e0 + ((1 : Int32)))), (4, .int (v4 &&& ((((1 : Int32)) <<< (e0 &&& 31)) ^^^ ((-1 : Int32))))), (6, .int e0), (0, .ref an0), (1, .ref anb0), (2, .int v2), (5, .int v5)]) C dX1_plan_75 rfl (by decide) rfl ?_
  refine p_iinc (w := v5 + 1) (lv' := [(5, .int (v5 + 1)), (3, .int (e0 + ((1 : Int32)))), (4, .int (v4 &&& ((((1 : Int32)) <<< (e0 &&& 31)) ^^^ ((-1 : Int32))))), (6, .int e0), (0, .ref an0), (1, .ref anb0), (2, .int v2)]) C dX1_plan_76 rfl 6 rfl rfl (by decide) rfl ?_
  refine p_goto C dX1_plan_79 (pc' := 15) (by decide) ?_
  refine p_locals [4, 5, 6, 1, 2, 0] (lv' := [(0, .ref an0), (1, .ref anb0), (2, .int v2), (3, .int (e0 + ((1 : Int32)))), (4, .int (v4 &&& ((((1 : Int32)) <<< (e0 &&& 31)) ^^^ ((-1 : Int32))))), (5, .int (v5 + 1))]) rfl ?_
  exact hk15 _ _ _ _ _ _ h
def B_X1_plan_nb_15 (n_total : Int32) (n_leaps : Ar) (n_onward : Ar)  (v2 : Int32) (kk : Int32 → Int32 → Int32 → Int32 → Int32 → Ar → Option (Int32 × Int32 × Ar)) (v3 : Int32) (v4 : Int32) (v5 : Int32) (nb_len : Int32) (nb_sum : Int32) (nb_tries : Ar) : Option (Int32 × Int32 × Ar) := if n_total ≤ v5 then (some (nb_len, nb_sum, nb_tries)) else (if v2 = 0 then (bd1 (m_X1_nearestOf n_total n_leaps v3 v4) (fun r3 => J_X1_plan_nb_45 n_total n_leaps n_onward nb_len nb_sum nb_tries (kk) r3 v2 v3 v4 v5)) else (bd1 (m_X1_firstOfBest n_total n_leaps n_onward v3 v4) (fun r5 => J_X1_plan_nb_45 n_total n_leaps n_onward nb_len nb_sum nb_tries (kk) r5 v2 v3 v4 v5)))
def L_X1_plan_nb_15 (n_total : Int32) (n_leaps : Ar) (n_onward : Ar)  (v2 : Int32) : Nat → Int32 → Int32 → Int32 → Int32 → Int32 → Ar → Option (Int32 × Int32 × Ar) := lpG (fun _ _ _ _ _ _ => none) (B_X1_plan_nb_15 n_total n_leaps n_onward v2)
set_option maxHeartbeats 4000000 in
set_option maxRecDepth 100000 in
theorem tl_X1_plan_nb_15 {x : Cxt} {an0 an1 an2 anb0 anb1 ann0 ann1 : Nat} {n_total : Int32} {n_planned : Int32} {n_leaps : Ar} {n_onward : Ar} {nn_len : Int32} {nn_sum : Int32} {nn_tries : Ar}  {v2 : Int32} {q_nb_len : Int32} {q_nb_sum : Int32} {q_nb_tries : Ar} (C : CX RX1 cX1_plan 7 none x)  : ∀ (n : Nat) (v3 : Int32) (v4 : Int32) (v5 : Int32) (nb_len : Int32) (nb_sum : Int32) (nb_tries : Ar), L_X1_plan_nb_15 n_total n_leaps n_onward v2 n v3 v4 v5 nb_len nb_sum nb_tries = some (q_nb_len, q_nb_sum, q_nb_tries) → PT (RM 2 52) 7 x 15 [(0, .ref an0), (1, .ref anb0), (2, .int v2), (3, .int v3), (4, .int v4), (5, .int v5)] [] (V_N x.1.2.2 an0 an1 an2 anb0 anb1 ann0 ann1 n_total n_planned n_leaps n_onward nb_len nb_sum nb_tries nn_len nn_sum nn_tries) 0 0 (QV x (V_N x.1.2.2 an0 an1 an2 anb0 anb1 ann0 ann1 n_total n_planned n_leaps n_onward q_nb_len q_nb_sum q_nb_tries nn_len nn_sum nn_tries)) := by
  intro n
  induction n with
  | zero =>
    intro v3 v4 v5 nb_len nb_sum nb_tries h
    cases h
  | succ n ih =>
    intro v3 v4 v5 nb_len nb_sum nb_tries h
    have h : B_X1_plan_nb_15 n_total n_leaps n_onward v2 (L_X1_plan_nb_15 n_total n_leaps n_onward v2 n) v3 v4 v5 nb_len nb_sum nb_tries = some (q_nb_len, q_nb_sum, q_nb_tries) := h
    unfold B_X1_plan_nb_15 at h
    refine p_iload C dX1_plan_15 rfl 5 rfl ?_
    refine p_aload_n C dX1_plan_17 rfl 0 rfl ?_
    refine p_get C dX1_plan_18 rfl 0 0 inlX1 fl_X1_9 rfl rfl (by decide) rfl rfl ?_
    refine p_icmp_ge C dX1_plan_21 (tgt := 82) (by decide) rfl (fun c1 => ?_) (fun c1 => ?_)
    · have h := if_t c1 h
      cases h
      exact p_vret C dX1_plan_82
    · have h := if_f c1 h
      refine p_iload_n C dX1_plan_24 rfl 2 rfl ?_
      refine p_if_eq C dX1_plan_25 (tgt := 38) (by decide) rfl (fun c2 => ?_) (fun c2 => ?_)
      · have h := if_t c2 h
        refine p_aload_n C dX1_plan_38 rfl 0 rfl ?_
        refine p_iload_n C dX1_plan_39 rfl 3 rfl ?_
        refine p_iload C dX1_plan_40 rfl 4 rfl ?_
        obtain ⟨r3, hc4, h⟩ := bd1_of h
        refine p_callVi (As := [.int v3, .int v4]) (st' := []) (Wd' := (V_N x.1.2.2 an0 an1 an2 anb0 anb1 ann0 ann1 n_total n_planned n_leaps n_onward nb_len nb_sum nb_tries nn_len nn_sum nn_tries)) C (c_X1_nearestOf x.1 (an0 := an0) (an1 := an1) (an2 := an2) (anb0 := anb0) (anb1 := anb1) (ann0 := ann0) (ann1 := ann1) (n_planned := n_planned) (n_onward := n_onward) (nb_len := nb_len) (nb_sum := nb_sum) (nb_tries := nb_tries) (nn_len := nn_len) (nn_sum := nn_sum) (nn_tries := nn_tries) hc4) dX1_plan_42 rfl ml_X1_87 kv_X1_nearestOf ds_X1_nearestOf ⟨rfl, rfl, by decide, by decide⟩ 0 rfl rfl [0, 1, 2, 3, 4, 5, 6] rfl rfl rfl rfl (by decide) ⟨by decide, by decide⟩ rfl ?_
        refine p_locals [0, 1, 2, 3, 4, 5] (lv' := [(0, .ref an0), (1, .ref anb0), (2, .int v2), (3, .int v3), (4, .int v4), (5, .int v5)]) rfl ?_
        exact tj_X1_plan_nb_45 C (fun u0 u1 u2 u3 u4 u5 h => ih u0 u1 u2 u3 u4 u5 h) h
      · have h := if_f c2 h
        refine p_aload_n C dX1_plan_28 rfl 0 rfl ?_
        refine p_iload_n C dX1_plan_29 rfl 3 rfl ?_
        refine p_iload C dX1_plan_30 rfl 4 rfl ?_
        obtain ⟨r5, hc6, h⟩ := bd1_of h
        refine p_callVi (As := [.int v3, .int v4]) (st' := []) (Wd' := (V_N x.1.2.2 an0 an1 an2 anb0 anb1 ann0 ann1 n_total n_planned n_leaps n_onward nb_len nb_sum nb_tries nn_len nn_sum nn_tries)) C (c_X1_firstOfBest x.1 (an0 := an0) (an1 := an1) (an2 := an2) (anb0 := anb0) (anb1 := anb1) (ann0 := ann0) (ann1 := ann1) (n_planned := n_planned) (nb_len := nb_len) (nb_sum := nb_sum) (nb_tries := nb_tries) (nn_len := nn_len) (nn_sum := nn_sum) (nn_tries := nn_tries) hc6) dX1_plan_32 rfl ml_X1_84 kv_X1_firstOfBest ds_X1_firstOfBest ⟨rfl, rfl, by decide, by decide⟩ 0 rfl rfl [0, 1, 2, 3, 4, 5, 6] rfl rfl rfl rfl (by decide) ⟨by decide, by decide⟩ rfl ?_
        refine p_goto C dX1_plan_35 (pc' := 45) (by decide) ?_
        refine p_locals [0, 1, 2, 3, 4, 5] (lv' := [(0, .ref an0), (1, .ref anb0), (2, .int v2), (3, .int v3), (4, .int v4), (5, .int v5)]) rfl ?_
        exact tj_X1_plan_nb_45 C (fun u0 u1 u2 u3 u4 u5 h => ih u0 u1 u2 u3 u4 u5 h) h
def m_X1_plan_nb (n_total : Int32) (n_leaps : Ar) (n_onward : Ar) (nb_len : Int32) (nb_sum : Int32) (nb_tries : Ar) (p2 : Int32) : Option (Int32 × Int32 × Ar) := bd2 (m_X2_clear nb_len nb_sum) (fun z_len1 z_sum2 => bd1 (m_X1_allTries n_total) (fun r4 => L_X1_plan_nb_15 n_total n_leaps n_onward p2 FU ((0 : Int32)) r4 ((0 : Int32)) z_len1 z_sum2 nb_tries))
theorem ds_X1_plan : (yX1_plan).cls ≠ "java/lang/invoke/MethodHandle" ∧ (yX1_plan).cls ≠ "java/lang/invoke/VarHandle" ∧ (parseMethodDescriptor (yX1_plan).desc).map (fun d => d.parameters.length) = some 2 := by decide +kernel
set_option maxHeartbeats 4000000 in
set_option maxRecDepth 100000 in
theorem c_X1_plan_nb (E : En) {an0 an1 an2 anb0 anb1 ann0 ann1 : Nat} {n_total : Int32} {n_planned : Int32} {n_leaps : Ar} {n_onward : Ar} {nb_len : Int32} {nb_sum : Int32} {nb_tries : Ar} {nn_len : Int32} {nn_sum : Int32} {nn_tries : Ar} {p2 : Int32} {q_nb_len : Int32} {q_nb_sum : Int32} {q_nb_tries : Ar} (h : m_X1_plan_nb n_total n_leaps n_onward nb_len nb_sum nb_tries p2 = some (q_nb_len, q_nb_sum, q_nb_tries)) : Cv E yX1_plan (wU yX1_plan cX1_plan 7 none) (RM 2 52) [.ref an0, .ref anb0, .int p2] (V_N E.2.2 an0 an1 an2 anb0 anb1 ann0 ann1 n_total n_planned n_leaps n_onward nb_len nb_sum nb_tries nn_len nn_sum nn_tries) (V_N E.2.2 an0 an1 an2 anb0 anb1 ann0 ann1 n_total n_planned n_leaps n_onward q_nb_len q_nb_sum q_nb_tries nn_len nn_sum nn_tries) := by
  refine Cv.of (by decide) (Nat.le_of_ble_eq_true rfl) ?_
  intro x hE C
  subst hE
  have C : CX RX1 cX1_plan 7 none x := C
  refine p_locals [0, 1, 2] (lv' := [(0, .ref an0), (1, .ref anb0), (2, .int p2)]) rfl ?_
  unfold m_X1_plan_nb at h
  refine p_aload_n C dX1_plan_0 rfl 1 rfl ?_
  obtain ⟨z_len1, z_sum2, hc3, h⟩ := bd2_of h
  refine p_callVNv (As := []) (st' := []) (Wd' := (V_N x.1.2.2 an0 an1 an2 anb0 anb1 ann0 ann1 n_total n_planned n_leaps n_onward z_len1 z_sum2 nb_tries nn_len nn_sum nn_tries)) C (c_X2_clear x.1 (ao0 := anb0) (ao1 := anb1) (o_tries := nb_tries) hc3) dX1_plan_1 rfl nm_X1_77 kv_X2_clear ds_X2_clear ⟨rfl, rfl, by decide, by decide⟩ 0 rfl rfl [3, 4] rfl rfl rfl rfl (by decide) ⟨by decide, by decide⟩ rfl ?_
  refine p_iconst (v := (0 : Int32)) C dX1_plan_4 rfl (by decide) ?_
  refine p_istore_n (lv' := [(3, .int ((0 : Int32))), (0, .ref an0), (1, .ref anb0), (2, .int p2)]) C dX1_plan_5 rfl (by decide) rfl ?_
  refine p_aload_n C dX1_plan_6 rfl 1 rfl ?_
  obtain ⟨r4, hc5, h⟩ := bd1_of h
  refine p_callVi (As := []) (st' := []) (Wd' := (V_N x.1.2.2 an0 an1 an2 anb0 anb1 ann0 ann1 n_total n_planned n_leaps n_onward z_len1 z_sum2 nb_tries nn_len nn_sum nn_tries)) C (c_X1_allTries x.1 (an0 := an0) (an1 := an1) (an2 := an2) (anb0 := anb0) (anb1 := anb1) (ann0 := ann0) (ann1 := ann1) (n_planned := n_planned) (n_leaps := n_leaps) (n_onward := n_onward) (nb_len := z_len1) (nb_sum := z_sum2) (nb_tries := nb_tries) (nn_len := nn_len) (nn_sum := nn_sum) (nn_tries := nn_tries) hc5) dX1_plan_7 rfl ml_X1_80 kv_X1_allTries ds_X1_allTries ⟨rfl, rfl, by decide, by decide⟩ 0 rfl rfl [0, 1, 2, 3, 4, 5, 6] rfl rfl rfl rfl (by decide) ⟨by decide, by decide⟩ rfl ?_
  refine p_istore (lv' := [(4, .int r4), (3, .int ((0 : Int32))), (0, .ref an0), (1, .ref anb0), (2, .int p2)]) C dX1_plan_10 rfl (by decide) rfl ?_
  refine p_iconst (v := (0 : Int32)) C dX1_plan_12 rfl (by decide) ?_
  refine p_istore (lv' := [(5, .int ((0 : Int32))), (4, .int r4), (3, .int ((0 : Int32))), (0, .ref an0), (1, .ref anb0), (2, .int p2)]) C dX1_plan_13 rfl (by decide) rfl ?_
  refine p_locals [3, 4, 5, 2, 1, 0] (lv' := [(0, .ref an0), (1, .ref anb0), (2, .int p2), (3, .int ((0 : Int32))), (4, .int r4), (5, .int ((0 : Int32)))]) rfl ?_
  exact tl_X1_plan_nb_15 C  FU _ _ _ _ _ _ h
def J_X1_weighOnward_47 (n_total : Int32) (n_leaps : Ar) (n_onward : Ar) (k12 : Int32 → Ar → Option (Ar)) (k2 : Int32 → Ar → Option (Ar))  (v1 : Int32) (v2 : Int32) : Option (Ar) := k12 (v2 + 1) n_onward
set_option maxHeartbeats 4000000 in
set_option maxRecDepth 100000 in
theorem tj_X1_weighOnward_47 {x : Cxt} {an0 an1 an2 anb0 anb1 ann0 ann1 : Nat} {n_total : Int32} {n_planned : Int32} {n_leaps : Ar} {n_onward : Ar} {nb_len : Int32} {nb_sum : Int32} {nb_tries : Ar} {nn_len : Int32} {nn_sum : Int32} {nn_tries : Ar} {k12 : Int32 → Ar → Option (Ar)} {k2 : Int32 → Ar → Option (Ar)}  {v1 : Int32} {v2 : Int32} {q_n_onward : Ar} (C : CX RX1 cX1_weighOnward 3 none x) (hk12 : ∀ (w2 : Int32) (w_n_onward : Ar), k12 w2 w_n_onward = some q_n_onward → PT (RM 1 26) 3 x 12 [(0, .ref an0), (1, .int v1), (2, .int w2)] [] (V_N x.1.2.2 an0 an1 an2 anb0 anb1 ann0 ann1 n_total n_planned n_leaps w_n_onward nb_len nb_sum nb_tries nn_len nn_sum nn_tries) 0 0 (QV x (V_N x.1.2.2 an0 an1 an2 anb0 anb1 ann0 ann1 n_total n_planned n_leaps q_n_onward nb_len nb_sum nb_tries nn_len nn_sum nn_tries))) (hk2 : ∀ (w1 : Int32) (w_n_onward : Ar), k2 w1 w_n_onward = some q_n_onward → PT (RM 1 26) 3 x 2 [(0, .ref an0), (1, .int w1)] [] (V_N x.1.2.2 an0 an1 an2 anb0 anb1 ann0 ann1 n_total n_planned n_leaps w_n_onward nb_len nb_sum nb_tries nn_len nn_sum nn_tries) 0 0 (QV x (V_N x.1.2.2 an0 an1 an2 anb0 anb1 ann0 ann1 n_total n_planned n_leaps q_n_onward nb_len nb_sum nb_tries nn_len nn_sum nn_tries))) (h : J_X1_weighOnward_47 n_total n_leaps n_onward k12 k2 v1 v2 = some q_n_onward) : PT (RM 1 26) 3 x 47 [(0, .ref an0), (1, .int v1), (2, .int v2)] [] (V_N x.1.2.2 an0 an1 an2 anb0 anb1 ann0 ann1 n_total n_planned n_leaps n_onward nb_len nb_sum nb_tries nn_len nn_sum nn_tries) 0 0 (QV x (V_N x.1.2.2 an0 an1 an2 anb0 anb1 ann0 ann1 n_total n_planned n_leaps q_n_onward nb_len nb_sum nb_tries nn_len nn_sum nn_tries)) := by
  unfold J_X1_weighOnward_47 at h
  refine p_iinc (w := v2 + 1) (lv' := [(2, .int (v2 + 1)), (0, .ref an0), (1, .int v1)]) C dX1_weighOnward_47 rfl 2 rfl rfl (by decide) rfl ?_
  refine p_goto C dX1_weighOnward_50 (pc' := 12) (by decide) ?_
  refine p_locals [1, 2, 0] (lv' := [(0, .ref an0), (1, .int v1), (2, .int (v2 + 1))]) rfl ?_
  exact hk12 _ _ h
def B_X1_weighOnward_12 (n_total : Int32) (n_leaps : Ar) (k2 : Int32 → Ar → Option (Ar)) (v1 : Int32) (kk : Int32 → Ar → Option (Ar)) (v2 : Int32) (n_onward : Ar) : Option (Ar) := if n_total ≤ v2 then (k2 (v1 + 1) n_onward) else (bd1 (m_X5_isIn v1 v2) (fun r2 => if r2 = 0 then (bd1 (m_X1_leastThrough n_total n_leaps n_onward (v2 + ((1 : Int32))) v1) (fun r5 => grd (gI ((v1 * ((10 : Int32))) + v2) 10240) (J_X1_weighOnward_47 n_total n_leaps (upd n_onward ((v1 * ((10 : Int32))) + v2).toNatClampNeg r5) (kk) (k2) v1 v2))) else (J_X1_weighOnward_47 n_total n_leaps n_onward (kk) (k2) v1 v2)))
def L_X1_weighOnward_12 (n_total : Int32) (n_leaps : Ar) (k2 : Int32 → Ar → Option (Ar)) (v1 : Int32) : Nat → Int32 → Ar → Option (Ar) := lpG (fun _ _ => none) (B_X1_weighOnward_12 n_total n_leaps k2 v1)
set_option maxHeartbeats 4000000 in
set_option maxRecDepth 100000 in
theorem tl_X1_weighOnward_12 {x : Cxt} {an0 an1 an2 anb0 anb1 ann0 ann1 : Nat} {n_total : Int32} {n_planned : Int32} {n_leaps : Ar} {nb_len : Int32} {nb_sum : Int32} {nb_tries : Ar} {nn_len : Int32} {nn_sum : Int32} {nn_tries : Ar} {k2 : Int32 → Ar → Option (Ar)} {v1 : Int32} {q_n_onward : Ar} (C : CX RX1 cX1_weighOnward 3 none x) (hk2 : ∀ (w1 : Int32) (w_n_onward : Ar), k2 w1 w_n_onward = some q_n_onward → PT (RM 1 26) 3 x 2 [(0, .ref an0), (1, .int w1)] [] (V_N x.1.2.2 an0 an1 an2 anb0 anb1 ann0 ann1 n_total n_planned n_leaps w_n_onward nb_len nb_sum nb_tries nn_len nn_sum nn_tries) 0 0 (QV x (V_N x.1.2.2 an0 an1 an2 anb0 anb1 ann0 ann1 n_total n_planned n_leaps q_n_onward nb_len nb_sum nb_tries nn_len nn_sum nn_tries))) : ∀ (n : Nat) (v2 : Int32) (n_onward : Ar), L_X1_weighOnward_12 n_total n_leaps k2 v1 n v2 n_onward = some q_n_onward → PT (RM 1 26) 3 x 12 [(0, .ref an0), (1, .int v1), (2, .int v2)] [] (V_N x.1.2.2 an0 an1 an2 anb0 anb1 ann0 ann1 n_total n_planned n_leaps n_onward nb_len nb_sum nb_tries nn_len nn_sum nn_tries) 0 0 (QV x (V_N x.1.2.2 an0 an1 an2 anb0 anb1 ann0 ann1 n_total n_planned n_leaps q_n_onward nb_len nb_sum nb_tries nn_len nn_sum nn_tries)) := by
  intro n
  induction n with
  | zero =>
    intro v2 n_onward h
    cases h
  | succ n ih =>
    intro v2 n_onward h
    have h : B_X1_weighOnward_12 n_total n_leaps k2 v1 (L_X1_weighOnward_12 n_total n_leaps k2 v1 n) v2 n_onward = some q_n_onward := h
    unfold B_X1_weighOnward_12 at h
    refine p_iload_n C dX1_weighOnward_12 rfl 2 rfl ?_
    refine p_aload_n C dX1_weighOnward_13 rfl 0 rfl ?_
    refine p_get C dX1_weighOnward_14 rfl 0 0 inlX1 fl_X1_9 rfl rfl (by decide) rfl rfl ?_
    refine p_icmp_ge C dX1_weighOnward_17 (tgt := 53) (by decide) rfl (fun c1 => ?_) (fun c1 => ?_)
    · have h := if_t c1 h
      refine p_iinc (w := v1 + 1) (lv' := [(1, .int (v1 + 1)), (0, .ref an0), (2, .int v2)]) C dX1_weighOnward_53 rfl 1 rfl rfl (by decide) rfl ?_
      refine p_goto C dX1_weighOnward_56 (pc' := 2) (by decide) ?_
      refine p_locals [1, 0] (lv' := [(0, .ref an0), (1, .int (v1 + 1))]) rfl ?_
      exact hk2 _ _ h
    · have h := if_f c1 h
      refine p_iload_n C dX1_weighOnward_20 rfl 1 rfl ?_
      refine p_iload_n C dX1_weighOnward_21 rfl 2 rfl ?_
      obtain ⟨r2, hc3, h⟩ := bd1_of h
      refine p_callSNi (As := [.int v1, .int v2]) (st' := []) (Wd' := (V_N x.1.2.2 an0 an1 an2 anb0 anb1 ann0 ann1 n_total n_planned n_leaps n_onward nb_len nb_sum nb_tries nn_len nn_sum nn_tries)) C (c_X5_isIn x.1 hc3) dX1_weighOnward_22 rfl nm_X1_100 ks_X5_isIn ds_X5_isIn ⟨rfl, rfl, by decide, by decide⟩ [] rfl rfl rfl rfl (by decide) ⟨by decide, by decide⟩ rfl ?_
      refine p_if_ne C dX1_weighOnward_25 (tgt := 47) (by decide) rfl (fun c4 => ?_) (fun c4 => ?_)
      · have h := if_f c4 h
        refine p_locals [0, 1, 2] (lv' := [(0, .ref an0), (1, .int v1), (2, .int v2)]) rfl ?_
        exact tj_X1_weighOnward_47 C (fun u0 u1 h => ih u0 u1 h) (fun u0 u1 h => hk2 u0 u1 h) h
      · have h := if_t c4 h
        refine p_aload_n C dX1_weighOnward_28 rfl 0 rfl ?_
        refine p_get C dX1_weighOnward_29 rfl 0 2 inlX1 fl_X1_19 rfl rfl (by decide) rfl rfl ?_
        refine p_iload_n C dX1_weighOnward_32 rfl 1 rfl ?_
        refine p_bipush (v := (10 : Int32)) C dX1_weighOnward_33 rfl (by decide) ?_
        refine p_imul C dX1_weighOnward_35 rfl ?_
        refine p_iload_n C dX1_weighOnward_36 rfl 2 rfl ?_
        refine p_iadd C dX1_weighOnward_37 rfl ?_
        refine p_aload_n C dX1_weighOnward_38 rfl 0 rfl ?_
        refine p_iload_n C dX1_weighOnward_39 rfl 2 rfl ?_
        refine p_iconst (v := (1 : Int32)) C dX1_weighOnward_40 rfl (by decide) ?_
        refine p_iadd C dX1_weighOnward_41 rfl ?_
        refine p_iload_n C dX1_weighOnward_42 rfl 1 rfl ?_
        obtain ⟨r5, hc6, h⟩ := bd1_of h
        refine p_callVi (As := [.int (v2 + ((1 : Int32))), .int v1]) (st' := [.int ((v1 * ((10 : Int32))) + v2), .ref an2]) (Wd' := (V_N x.1.2.2 an0 an1 an2 anb0 anb1 ann0 ann1 n_total n_planned n_leaps n_onward nb_len nb_sum nb_tries nn_len nn_sum nn_tries)) C (c_X1_leastThrough x.1 (an0 := an0) (an1 := an1) (an2 := an2) (anb0 := anb0) (anb1 := anb1) (ann0 := ann0) (ann1 := ann1) (n_planned := n_planned) (nb_len := nb_len) (nb_sum := nb_sum) (nb_tries := nb_tries) (nn_len := nn_len) (nn_sum := nn_sum) (nn_tries := nn_tries) hc6) dX1_weighOnward_43 rfl ml_X1_104 kv_X1_leastThrough ds_X1_leastThrough ⟨rfl, rfl, by decide, by decide⟩ 0 rfl rfl [0, 1, 2, 3, 4, 5, 6] rfl rfl rfl rfl (Nat.le_of_ble_eq_true rfl) ⟨by decide, by decide⟩ rfl ?_
        obtain ⟨g7, h⟩ := grd_of h
        refine p_iast (Wd' := (V_N x.1.2.2 an0 an1 an2 anb0 anb1 ann0 ann1 n_total n_planned n_leaps (upd n_onward ((v1 * ((10 : Int32))) + v2).toNatClampNeg r5) nb_len nb_sum nb_tries nn_len nn_sum nn_tries)) C dX1_weighOnward_46 rfl 2 rfl g7 rfl ?_
        refine p_locals [0, 1, 2] (lv' := [(0, .ref an0), (1, .int v1), (2, .int v2)]) rfl ?_
        exact tj_X1_weighOnward_47 C (fun u0 u1 h => ih u0 u1 h) (fun u0 u1 h => hk2 u0 u1 h) h
def B_X1_weighOnward_2 (n_total : Int32) (n_leaps : Ar)   (kk : Int32 → Ar → Option (Ar)) (v1 : Int32) (n_onward : Ar) : Option (Ar) := bd1 (m_X1_allTries n_total) (fun r1 => if r1 < v1 then (some n_onward) else (L_X1_weighOnward_12 n_total n_leaps kk v1 FU ((0 : Int32)) n_onward))
def L_X1_weighOnward_2 (n_total : Int32) (n_leaps : Ar)   : Nat → Int32 → Ar → Option (Ar) := lpG (fun _ _ => none) (B_X1_weighOnward_2 n_total n_leaps)
set_option maxHeartbeats 4000000 in
set_option maxRecDepth 100000 in
theorem tl_X1_weighOnward_2 {x : Cxt} {an0 an1 an2 anb0 anb1 ann0 ann1 : Nat} {n_total : Int32} {n_planned : Int32} {n_leaps : Ar} {nb_len : Int32} {nb_sum : Int32} {nb_tries : Ar} {nn_len : Int32} {nn_sum : Int32} {nn_tries : Ar}   {q_n_onward : Ar} (C : CX RX1 cX1_weighOnward 3 none x)  : ∀ (n : Nat) (v1 : Int32) (n_onward : Ar), L_X1_weighOnward_2 n_total n_leaps n v1 n_onward = some q_n_onward → PT (RM 1 26) 3 x 2 [(0, .ref an0), (1, .int v1)] [] (V_N x.1.2.2 an0 an1 an2 anb0 anb1 ann0 ann1 n_total n_planned n_leaps n_onward nb_len nb_sum nb_tries nn_len nn_sum nn_tries) 0 0 (QV x (V_N x.1.2.2 an0 an1 an2 anb0 anb1 ann0 ann1 n_total n_planned n_leaps q_n_onward nb_len nb_sum nb_tries nn_len nn_sum nn_tries)) := by
  intro n
  induction n with
  | zero =>
    intro v1 n_onward h
    cases h
  | succ n ih =>
    intro v1 n_onward h
    have h : B_X1_weighOnward_2 n_total n_leaps (L_X1_weighOnward_2 n_total n_leaps n) v1 n_onward = some q_n_onward := h
    unfold B_X1_weighOnward_2 at h
    refine p_iload_n C dX1_weighOnward_2 rfl 1 rfl ?_
    refine p_aload_n C dX1_weighOnward_3 rfl 0 rfl ?_
    obtain ⟨r1, hc2, h⟩ := bd1_of h
    refine p_callVi (As := []) (st' := [.int v1]) (Wd' := (V_N x.1.2.2 an0 an1 an2 anb0 anb1 ann0 ann1 n_total n_planned n_leaps n_onward nb_len nb_sum nb_tries nn_len nn_sum nn_tries)) C (c_X1_allTries x.1 (an0 := an0) (an1 := an1) (an2 := an2) (anb0 := anb0) (anb1 := anb1) (ann0 := ann0) (ann1 := ann1) (n_planned := n_planned) (n_leaps := n_leaps) (n_onward := n_onward) (nb_len := nb_len) (nb_sum := nb_sum) (nb_tries := nb_tries) (nn_len := nn_len) (nn_sum := nn_sum) (nn_tries := nn_tries) hc2) dX1_weighOnward_4 rfl ml_X1_80 kv_X1_allTries ds_X1_allTries ⟨rfl, rfl, by decide, by decide⟩ 0 rfl rfl [0, 1, 2, 3, 4, 5, 6] rfl rfl rfl rfl (Nat.le_of_ble_eq_true rfl) ⟨by decide, by decide⟩ rfl ?_
    refine p_icmp_gt C dX1_weighOnward_7 (tgt := 59) (by decide) rfl (fun c3 => ?_) (fun c3 => ?_)
    · have h := if_t c3 h
      cases h
      exact p_vret C dX1_weighOnward_59
    · have h := if_f c3 h
      refine p_iconst (v := (0 : Int32)) C dX1_weighOnward_10 rfl (by decide) ?_
      refine p_istore_n (lv' := [(2, .int ((0 : Int32))), (0, .ref an0), (1, .int v1)]) C dX1_weighOnward_11 rfl (by decide) rfl ?_
      refine p_locals [1, 2, 0] (lv' := [(0, .ref an0), (1, .int v1), (2, .int ((0 : Int32)))]) rfl ?_
      exact tl_X1_weighOnward_12 C (fun u0 u1 h => ih u0 u1 h) FU _ _ h
def m_X1_weighOnward (n_total : Int32) (n_leaps : Ar) (n_onward : Ar)  : Option (Ar) := L_X1_weighOnward_2 n_total n_leaps FU ((1 : Int32)) n_onward
theorem ds_X1_weighOnward : (yX1_weighOnward).cls ≠ "java/lang/invoke/MethodHandle" ∧ (yX1_weighOnward).cls ≠ "java/lang/invoke/VarHandle" ∧ (parseMethodDescriptor (yX1_weighOnward).desc).map (fun d => d.parameters.length) = some 0 := by decide +kernel
set_option maxHeartbeats 4000000 in
set_option maxRecDepth 100000 in
theorem c_X1_weighOnward (E : En) {an0 an1 an2 anb0 anb1 ann0 ann1 : Nat} {n_total : Int32} {n_planned : Int32} {n_leaps : Ar} {n_onward : Ar} {nb_len : Int32} {nb_sum : Int32} {nb_tries : Ar} {nn_len : Int32} {nn_sum : Int32} {nn_tries : Ar}  {q_n_onward : Ar} (h : m_X1_weighOnward n_total n_leaps n_onward = some q_n_onward) : Cv E yX1_weighOnward (wU yX1_weighOnward cX1_weighOnward 3 none) (RM 1 26) [.ref an0] (V_N E.2.2 an0 an1 an2 anb0 anb1 ann0 ann1 n_total n_planned n_leaps n_onward nb_len nb_sum nb_tries nn_len nn_sum nn_tries) (V_N E.2.2 an0 an1 an2 anb0 anb1 ann0 ann1 n_total n_planned n_leaps q_n_onward nb_len nb_sum nb_tries nn_len nn_sum nn_tries) := by
  refine Cv.of (by decide) (Nat.le_of_ble_eq_true rfl) ?_
  intro x hE C
  subst hE
  have C : CX RX1 cX1_weighOnward 3 none x := C
  refine p_locals [0] (lv' := [(0, .ref an0)]) rfl ?_
  unfold m_X1_weighOnward at h
  refine p_iconst (v := (1 : Int32)) C dX1_weighOnward_0 rfl (by decide) ?_
  refine p_istore_n (lv' := [(1, .int ((1 : Int32))), (0, .ref an0)]) C dX1_weighOnward_1 rfl (by decide) rfl ?_
  refine p_locals [1, 0] (lv' := [(0, .ref an0), (1, .int ((1 : Int32)))]) rfl ?_
  exact tl_X1_weighOnward_2 C  FU _ _ h
def m_X1_planBest (n_total : Int32) (n_planned : Int32) (n_leaps : Ar) (n_onward : Ar) (nb_len : Int32) (nb_sum : Int32) (nb_tries : Ar)  : Option (Int32 × Ar × Int32 × Int32 × Ar) := if n_planned = 0 then (bd1 (m_X1_weighOnward n_total n_leaps n_onward) (fun z_onward2 => bd3 (m_X1_plan_nb n_total n_leaps z_onward2 nb_len nb_sum nb_tries ((1 : Int32))) (fun z_len4 z_sum5 z_tries6 => some ((1 : Int32), z_onward2, z_len4, z_sum5, z_tries6)))) else (some (n_planned, n_onward, nb_len, nb_sum, nb_tries))
theorem ds_X1_planBest : (yX1_planBest).cls ≠ "java/lang/invoke/MethodHandle" ∧ (yX1_planBest).cls ≠ "java/lang/invoke/VarHandle" ∧ (parseMethodDescriptor (yX1_planBest).desc).map (fun d => d.parameters.length) = some 0 := by decide +kernel
set_option maxHeartbeats 4000000 in
set_option maxRecDepth 100000 in
theorem c_X1_planBest (E : En) {an0 an1 an2 anb0 anb1 ann0 ann1 : Nat} {n_total : Int32} {n_planned : Int32} {n_leaps : Ar} {n_onward : Ar} {nb_len : Int32} {nb_sum : Int32} {nb_tries : Ar} {nn_len : Int32} {nn_sum : Int32} {nn_tries : Ar}  {q_n_planned : Int32} {q_n_onward : Ar} {q_nb_len : Int32} {q_nb_sum : Int32} {q_nb_tries : Ar} (h : m_X1_planBest n_total n_planned n_leaps n_onward nb_len nb_sum nb_tries = some (q_n_planned, q_n_onward, q_nb_len, q_nb_sum, q_nb_tries)) : Cv E yX1_planBest (wU yX1_planBest cX1_planBest 1 none) (RM 3 78) [.ref an0] (V_N E.2.2 an0 an1 an2 anb0 anb1 ann0 ann1 n_total n_planned n_leaps n_onward nb_len nb_sum nb_tries nn_len nn_sum nn_tries) (V_N E.2.2 an0 an1 an2 anb0 anb1 ann0 ann1 n_total q_n_planned n_leaps q_n_onward q_nb_len q_nb_sum q_nb_tries nn_len nn_sum nn_tries) := by
  refine Cv.of (by decide) (Nat.le_of_ble_eq_true rfl) ?_
  intro x hE C
  subst hE
  have C : CX RX1 cX1_planBest 1 none x := C
  refine p_locals [0] (lv' := [(0, .ref an0)]) rfl ?_
  unfold m_X1_planBest at h
  refine p_aload_n C dX1_planBest_0 rfl 0 rfl ?_
  refine p_get C dX1_planBest_1 rfl 0 5 inlX1 fl_X1_32 rfl rfl (by decide) rfl rfl ?_
  refine p_if_ne C dX1_planBest_4 (tgt := 25) (by decide) rfl (fun c1 => ?_) (fun c1 => ?_)
  · have h := if_f c1 h
    cases h
    exact p_vret C dX1_planBest_25
  · have h := if_t c1 h
    refine p_aload_n C dX1_planBest_7 rfl 0 rfl ?_
    obtain ⟨z_onward2, hc3, h⟩ := bd1_of h
    refine p_callVv (As := []) (st' := []) (Wd' := (V_N x.1.2.2 an0 an1 an2 anb0 anb1 ann0 ann1 n_total n_planned n_leaps z_onward2 nb_len nb_sum nb_tries nn_len nn_sum nn_tries)) C (c_X1_weighOnward x.1 (an0 := an0) (an1 := an1) (an2 := an2) (anb0 := anb0) (anb1 := anb1) (ann0 := ann0) (ann1 := ann1) (n_planned := n_planned) (nb_len := nb_len) (nb_sum := nb_sum) (nb_tries := nb_tries) (nn_len := nn_len) (nn_sum := nn_sum) (nn_tries := nn_tries) hc3) dX1_planBest_8 rfl ml_X1_74 kv_X1_weighOnward ds_X1_weighOnward ⟨rfl, rfl, by decide, by decide⟩ 0 rfl rfl [0, 1, 2, 3, 4, 5, 6] rfl rfl rfl rfl (by decide) ⟨by decide, by decide⟩ rfl ?_
    refine p_aload_n C dX1_planBest_11 rfl 0 rfl ?_
    refine p_aload_n C dX1_planBest_12 rfl 0 rfl ?_
    refine p_get C dX1_planBest_13 rfl 0 3 inlX1 fl_X1_25 rfl rfl (by decide) rfl rfl ?_
    refine p_iconst (v := (1 : Int32)) C dX1_planBest_16 rfl (by decide) ?_
    obtain ⟨z_len4, z_sum5, z_tries6, hc7, h⟩ := bd3_of h
    refine p_callVv (As := [.ref anb0, .int ((1 : Int32))]) (st' := []) (Wd' := (V_N x.1.2.2 an0 an1 an2 anb0 anb1 ann0 ann1 n_total n_planned n_leaps z_onward2 z_len4 z_sum5 z_tries6 nn_len nn_sum nn_tries)) C (c_X1_plan_nb x.1 (an0 := an0) (an1 := an1) (an2 := an2) (anb0 := anb0) (anb1 := anb1) (ann0 := ann0) (ann1 := ann1) (n_planned := n_planned) (nn_len := nn_len) (nn_sum := nn_sum) (nn_tries := nn_tries) hc7) dX1_planBest_17 rfl ml_X1_70 kv_X1_plan ds_X1_plan ⟨rfl, rfl, by decide, by decide⟩ 0 rfl rfl [0, 1, 2, 3, 4, 5, 6] rfl rfl rfl rfl (by decide) ⟨by decide, by decide⟩ rfl ?_
    refine p_aload_n C dX1_planBest_20 rfl 0 rfl ?_
    refine p_iconst (v := (1 : Int32)) C dX1_planBest_21 rfl (by decide) ?_
    refine p_put (Wd' := (V_N x.1.2.2 an0 an1 an2 anb0 anb1 ann0 ann1 n_total ((1 : Int32)) n_leaps z_onward2 z_len4 z_sum5 z_tries6 nn_len nn_sum nn_tries)) (ty := .boolean) C dX1_planBest_22 rfl 0 5 inlX1 tyX1 tyX1_ok nmX1 fl_X1_32 rfl rfl (by decide) rfl rfl (by decide +kernel) rfl rfl (Nat.le_of_ble_eq_true rfl) rfl ?_
    cases h
    exact p_vret C dX1_planBest_25
def J_X1_plan_nn_45 (n_total : Int32) (n_leaps : Ar) (n_onward : Ar) (nn_len : Int32) (nn_sum : Int32) (nn_tries : Ar) (k15 : Int32 → Int32 → Int32 → Int32 → Int32 → Ar → Option (Int32 × Int32 × Ar)) (e0 : Int32) (v2 : Int32) (v3 : Int32) (v4 : Int32) (v5 : Int32) : Option (Int32 × Int32 × Ar) := bd1 (m_X1_leap n_leaps v3 e0) (fun r1 => bd3 (m_X2_append nn_len nn_sum nn_tries e0 r1) (fun z_len3 z_sum4 z_tries5 => k15 (e0 + ((1 : Int32))) (v4 &&& ((((1 : Int32)) <<< (e0 &&& 31)) ^^^ ((-1 : Int32)))) (v5 + 1) z_len3 z_sum4 z_tries5))
set_option maxHeartbeats 4000000 in
set_option maxRecDepth 100000 in
theorem tj_X1_plan_nn_45 {x : Cxt} {an0 an1 an2 anb0 anb1 ann0 ann1 : Nat} {n_total : Int32} {n_planned : Int32} {n_leaps : Ar} {n_onward : Ar} {nb_len : Int32} {nb_sum : Int32} {nb_tries : Ar} {nn_len : Int32} {nn_sum : Int32} {nn_tries : Ar} {k15 : Int32 → Int32 → Int32 → Int32 → Int32 → Ar → Option (Int32 × Int32 × Ar)} {e0 : Int32} {v2 : Int32} {v3 : Int32} {v4 : Int32} {v5 : Int32} {q_nn_len : Int32} {q_nn_sum : Int32} {q_nn_tries : Ar} (C : CX RX1 cX1_plan 7 none x) (hk15 : ∀ (w3 : Int32) (w4 : Int32) (w5 : Int32) (w_nn_len : Int32) (w_nn_sum : Int32) (w_nn_tries : Ar), k15 w3 w4 w5 w_nn_len w_nn_sum w_nn_tries = some (q_nn_len, q_nn_sum, q_nn_tries) → PT (RM 2 52) 7 x 15 [(0, .ref an0), (1, .ref ann0), (2, .int v2), (3, .int w3), (4, .int w4), (5, .int w5)] [] (V_N x.1.2.2 an0 an1 an2 anb0 anb1 ann0 ann1 n_total n_planned n_leaps n_onward nb_len nb_sum nb_tries w_nn_len w_nn_sum w_nn_tries) 0 0 (QV x (V_N x.1.2.2 an0 an1 an2 anb0 anb1 ann0 ann1 n_total n_planned n_leaps n_onward nb_len nb_sum nb_tries q_nn_len q_nn_sum q_nn_tries))) (h : J_X1_plan_nn_45 n_total n_leaps n_onward nn_len nn_sum nn_tries k15 e0 v2 v3 v4 v5 = some (q_nn_len, q_nn_sum, q_nn_tries)) : PT (RM 2 52) 7 x 45 [(0, .ref an0), (1, .ref ann0), (2, .int v2), (3, .int v3), (4, .int v4), (5, .int v5)] [.int e0] (V_N x.1.2.2 an0 an1 an2 anb0 anb1 ann0 ann1 n_total n_planned n_leaps n_onward nb_len nb_sum nb_tries nn_len nn_sum nn_tries) 0 0 (QV x (V_N x.1.2.2 an0 an1 an2 anb0 anb1 ann0 ann1 n_total n_planned n_leaps n_onward nb_len nb_sum nb_tries q_nn_len q_nn_sum q_nn_tries)) := by
  unfold J_X1_plan_nn_45 at h
  refine p_istore (lv' := [(6, .int e0), (0, .ref an0), (1, .ref ann0), (2, .int v2), (3, .int v3), (4, .int v4), (5, .int v5)]) C dX1_plan_45 rfl (by decide) rfl ?_
  refine p_aload_n C dX1_plan_47 rfl 2 rfl ?_
  refine p_iload C dX1_plan_48 rfl 0 rfl ?_
  refine p_aload_n C dX1_plan_50 rfl 1 rfl ?_
  refine p_iload_n C dX1_plan_51 rfl 4 rfl ?_
  refine p_iload C dX1_plan_52 rfl 0 rfl ?_
  obtain ⟨r1, hc2, h⟩ := bd1_of h
  refine p_callVi (As := [.int v3, .int e0]) (st' := [.int e0, .ref ann0]) (Wd' := (V_N x.1.2.2 an0 an1 an2 anb0 anb1 ann0 ann1 n_total n_planned n_leaps n_onward nb_len nb_sum nb_tries nn_len nn_sum nn_tries)) C (c_X1_leap x.1 (an0 := an0) (an1 := an1) (an2 := an2) (anb0 := anb0) (anb1 := anb1) (ann0 := ann0) (ann1 := ann1) (n_total := n_total) (n_planned := n_planned) (n_onward := n_onward) (nb_len := nb_len) (nb_sum := nb_sum) (nb_tries := nb_tries) (nn_len := nn_len) (nn_sum := nn_sum) (nn_tries := nn_tries) hc2) dX1_plan_54 rfl ml_X1_90 kv_X1_leap ds_X1_leap ⟨rfl, rfl, by decide, by decide⟩ 0 rfl rfl [0, 1, 2, 3, 4, 5, 6] rfl rfl rfl rfl (Nat.le_of_ble_eq_true rfl) ⟨by decide, by decide⟩ rfl ?_
  obtain ⟨z_len3, z_sum4, z_tries5, hc6, h⟩ := bd3_of h
  refine p_callVNv (As := [.int e0, .int r1]) (st' := []) (Wd' := (V_N x.1.2.2 an0 an1 an2 anb0 anb1 ann0 ann1 n_total n_planned n_leaps n_onward nb_len nb_sum nb_tries z_len3 z_sum4 z_tries5)) C (c_X2_append x.1 (ao0 := ann0) (ao1 := ann1) hc6) dX1_plan_57 rfl nm_X1_93 kv_X2_append ds_X2_append ⟨rfl, rfl, by decide, by decide⟩ 0 rfl rfl [5, 6] rfl rfl rfl rfl (by decide) ⟨by decide, by decide⟩ rfl ?_
  refine p_iload C dX1_plan_60 rfl 5 rfl ?_
  refine p_iconst (v := (1 : Int32)) C dX1_plan_62 rfl (by decide) ?_
  refine p_iload C dX1_plan_63 rfl 0 rfl ?_
  refine p_ishl C dX1_plan_65 rfl ?_
  refine p_iconst (v := (-1 : Int32)) C dX1_plan_66 rfl (by decide) ?_
  refine p_ixor C dX1_plan_67 rfl ?_
  refine p_iand C dX1_plan_68 rfl ?_
  refine p_istore (lv' := [(4, .int (v4 &&& ((((1 : Int32)) <<< (e0 &&& 31)) ^^^ ((-1 : Int32))))), (6, .int e0), (0, .ref an0), (1, .ref ann0), (2, .int v2), (3, .int v3), (5, .int v5)]) C dX1_plan_69 rfl (by decide) rfl ?_
  refine p_iload C dX1_plan_71 rfl 1 rfl ?_
  refine p_iconst (v := (1 : Int32)) C dX1_plan_73 rfl (by decide) ?_
  refine p_iadd C dX1_plan_74 rfl ?_
  refine p_istore_n (lv' := [(3, .int (e0 + ((1 : Int32)))), (4, .int (v4 &&& ((((1 : Int32)) <<< (e0 &&& 31)) ^^^ ((-1 : Int32))))), (6, .int e0), (0, .ref an0), (1, .ref ann0), (2, .int v2), (5, .int v5)]) C dX1_plan_75 rfl (by decide) rfl ?_
  refine p_iinc (w := v5 + 1) (lv' := [(5, .int (v5 + 1)), (3, .int (e0 + ((1 : Int32)))), (4, .int (v4 &&& ((((1 : Int32)) <<< (e0 &&& 31)) ^^^ ((-1 : Int32))))), (6, .int e0), (0, .ref an0), (1, .ref ann0), (2, .int v2)]) C dX1_plan_76 rfl 6 rfl rfl (by decide) rfl ?_
  refine p_goto C dX1_plan_79 (pc' := 15) (by decide) ?_
  refine p_locals [4, 5, 6, 1, 2, 0] (lv' := [(0, .ref an0), (1, .ref ann0), (2, .int v2), (3, .int (e0 + ((1 : Int32)))), (4, .int (v4 &&& ((((1 : Int32)) <<< (e0 &&& 31)) ^^^ ((-1 : Int32))))), (5, .int (v5 + 1))]) rfl ?_
  exact hk15 _ _ _ _ _ _ h
def B_X1_plan_nn_15 (n_total : Int32) (n_leaps : Ar) (n_onward : Ar)  (v2 : Int32) (kk : Int32 → Int32 → Int32 → Int32 → Int32 → Ar → Option (Int32 × Int32 × Ar)) (v3 : Int32) (v4 : Int32) (v5 : Int32) (nn_len : Int32) (nn_sum : Int32) (nn_tries : Ar) : Option (Int32 × Int32 × Ar) := if n_total ≤ v5 then (some (nn_len, nn_sum, nn_tries)) else (if v2 = 0 then (bd1 (m_X1_nearestOf n_total n_leaps v3 v4) (fun r3 => J_X1_plan_nn_45 n_total n_leaps n_onward nn_len nn_sum nn_tries (kk) r3 v2 v3 v4 v5)) else (bd1 (m_X1_firstOfBest n_total n_leaps n_onward v3 v4) (fun r5 => J_X1_plan_nn_45 n_total n_leaps n_onward nn_len nn_sum nn_tries (kk) r5 v2 v3 v4 v5)))
def L_X1_plan_nn_15 (n_total : Int32) (n_leaps : Ar) (n_onward : Ar)  (v2 : Int32) : Nat → Int32 → Int32 → Int32 → Int32 → Int32 → Ar → Option (Int32 × Int32 × Ar) := lpG (fun _ _ _ _ _ _ => none) (B_X1_plan_nn_15 n_total n_leaps n_onward v2)
set_option maxHeartbeats 4000000 in
set_option maxRecDepth 100000 in
theorem tl_X1_plan_nn_15 {x : Cxt} {an0 an1 an2 anb0 anb1 ann0 ann1 : Nat} {n_total : Int32} {n_planned : Int32} {n_leaps : Ar} {n_onward : Ar} {nb_len : Int32} {nb_sum : Int32} {nb_tries : Ar}  {v2 : Int32} {q_nn_len : Int32} {q_nn_sum : Int32} {q_nn_tries : Ar} (C : CX RX1 cX1_plan 7 none x)  : ∀ (n : Nat) (v3 : Int32) (v4 : Int32) (v5 : Int32) (nn_len : Int32) (nn_sum : Int32) (nn_tries : Ar), L_X1_plan_nn_15 n_total n_leaps n_onward v2 n v3 v4 v5 nn_len nn_sum nn_tries = some (q_nn_len, q_nn_sum, q_nn_tries) → PT (RM 2 52) 7 x 15 [(0, .ref an0), (1, .ref ann0), (2, .int v2), (3, .int v3), (4, .int v4), (5, .int v5)] [] (V_N x.1.2.2 an0 an1 an2 anb0 anb1 ann0 ann1 n_total n_planned n_leaps n_onward nb_len nb_sum nb_tries nn_len nn_sum nn_tries) 0 0 (QV x (V_N x.1.2.2 an0 an1 an2 anb0 anb1 ann0 ann1 n_total n_planned n_leaps n_onward nb_len nb_sum nb_tries q_nn_len q_nn_sum q_nn_tries)) := by
  intro n
  induction n with
  | zero =>
    intro v3 v4 v5 nn_len nn_sum nn_tries h
    cases h
  | succ n ih =>
    intro v3 v4 v5 nn_len nn_sum nn_tries h
    have h : B_X1_plan_nn_15 n_total n_leaps n_onward v2 (L_X1_plan_nn_15 n_total n_leaps n_onward v2 n) v3 v4 v5 nn_len nn_sum nn_tries = some (q_nn_len, q_nn_sum, q_nn_tries) := h
    unfold B_X1_plan_nn_15 at h
    refine p_iload C dX1_plan_15 rfl 5 rfl ?_
    refine p_aload_n C dX1_plan_17 rfl 0 rfl ?_
    refine p_get C dX1_plan_18 rfl 0 0 inlX1 fl_X1_9 rfl rfl (by decide) rfl rfl ?_
    refine p_icmp_ge C dX1_plan_21 (tgt := 82) (by decide) rfl (fun c1 => ?_) (fun c1 => ?_)
    · have h := if_t c1 h
      cases h
      exact p_vret C dX1_plan_82
    · have h := if_f c1 h
      refine p_iload_n C dX1_plan_24 rfl 2 rfl ?_
      refine p_if_eq C dX1_plan_25 (tgt := 38) (by decide) rfl (fun c2 => ?_) (fun c2 => ?_)
      · have h := if_t c2 h
        refine p_aload_n C dX1_plan_38 rfl 0 rfl ?_
        refine p_iload_n C dX1_plan_39 rfl 3 rfl ?_
        refine p_iload C dX1_plan_40 rfl 4 rfl ?_
        obtain ⟨r3, hc4, h⟩ := bd1_of h
        refine p_callVi (As := [.int v3, .int v4]) (st' := []) (Wd' := (V_N x.1.2.2 an0 an1 an2 anb0 anb1 ann0 ann1 n_total n_planned n_leaps n_onward nb_len nb_sum nb_tries nn_len nn_sum nn_tries)) C (c_X1_nearestOf x.1 (an0 := an0) (an1 := an1) (an2 := an2) (anb0 := anb0) (anb1 := anb1) (ann0 := ann0) (ann1 := ann1) (n_planned := n_planned) (n_onward := n_onward) (nb_len := nb_len) (nb_sum := nb_sum) (nb_tries := nb_tries) (nn_len := nn_len) (nn_sum := nn_sum) (nn_tries := nn_tries) hc4) dX1_plan_42 rfl ml_X1_87 kv_X1_nearestOf ds_X1_nearestOf ⟨rfl, rfl, by decide, by decide⟩ 0 rfl rfl [0, 1, 2, 3, 4, 5, 6] rfl rfl rfl rfl (by decide) ⟨by decide, by decide⟩ rfl ?_
        refine p_locals [0, 1, 2, 3, 4, 5] (lv' := [(0, .ref an0), (1, .ref ann0), (2, .int v2), (3, .int v3), (4, .int v4), (5, .int v5)]) rfl ?_
        exact tj_X1_plan_nn_45 C (fun u0 u1 u2 u3 u4 u5 h => ih u0 u1 u2 u3 u4 u5 h) h
      · have h := if_f c2 h
        refine p_aload_n C dX1_plan_28 rfl 0 rfl ?_
        refine p_iload_n C dX1_plan_29 rfl 3 rfl ?_
        refine p_iload C dX1_plan_30 rfl 4 rfl ?_
        obtain ⟨r5, hc6, h⟩ := bd1_of h
        refine p_callVi (As := [.int v3, .int v4]) (st' := []) (Wd' := (V_N x.1.2.2 an0 an1 an2 anb0 anb1 ann0 ann1 n_total n_planned n_leaps n_onward nb_len nb_sum nb_tries nn_len nn_sum nn_tries)) C (c_X1_firstOfBest x.1 (an0 := an0) (an1 := an1) (an2 := an2) (anb0 := anb0) (anb1 := anb1) (ann0 := ann0) (ann1 := ann1) (n_planned := n_planned) (nb_len := nb_len) (nb_sum := nb_sum) (nb_tries := nb_tries) (nn_len := nn_len) (nn_sum := nn_sum) (nn_tries := nn_tries) hc6) dX1_plan_32 rfl ml_X1_84 kv_X1_firstOfBest ds_X1_firstOfBest ⟨rfl, rfl, by decide, by decide⟩ 0 rfl rfl [0, 1, 2, 3, 4, 5, 6] rfl rfl rfl rfl (by decide) ⟨by decide, by decide⟩ rfl ?_
        refine p_goto C dX1_plan_35 (pc' := 45) (by decide) ?_
        refine p_locals [0, 1, 2, 3, 4, 5] (lv' := [(0, .ref an0), (1, .ref ann0), (2, .int v2), (3, .int v3), (4, .int v4), (5, .int v5)]) rfl ?_
        exact tj_X1_plan_nn_45 C (fun u0 u1 u2 u3 u4 u5 h => ih u0 u1 u2 u3 u4 u5 h) h
def m_X1_plan_nn (n_total : Int32) (n_leaps : Ar) (n_onward : Ar) (nn_len : Int32) (nn_sum : Int32) (nn_tries : Ar) (p2 : Int32) : Option (Int32 × Int32 × Ar) := bd2 (m_X2_clear nn_len nn_sum) (fun z_len1 z_sum2 => bd1 (m_X1_allTries n_total) (fun r4 => L_X1_plan_nn_15 n_total n_leaps n_onward p2 FU ((0 : Int32)) r4 ((0 : Int32)) z_len1 z_sum2 nn_tries))
set_option maxHeartbeats 4000000 in
set_option maxRecDepth 100000 in
theorem c_X1_plan_nn (E : En) {an0 an1 an2 anb0 anb1 ann0 ann1 : Nat} {n_total : Int32} {n_planned : Int32} {n_leaps : Ar} {n_onward : Ar} {nb_len : Int32} {nb_sum : Int32} {nb_tries : Ar} {nn_len : Int32} {nn_sum : Int32} {nn_tries : Ar} {p2 : Int32} {q_nn_len : Int32} {q_nn_sum : Int32} {q_nn_tries : Ar} (h : m_X1_plan_nn n_total n_leaps n_onward nn_len nn_sum nn_tries p2 = some (q_nn_len, q_nn_sum, q_nn_tries)) : Cv E yX1_plan (wU yX1_plan cX1_plan 7 none) (RM 2 52) [.ref an0, .ref ann0, .int p2] (V_N E.2.2 an0 an1 an2 anb0 anb1 ann0 ann1 n_total n_planned n_leaps n_onward nb_len nb_sum nb_tries nn_len nn_sum nn_tries) (V_N E.2.2 an0 an1 an2 anb0 anb1 ann0 ann1 n_total n_planned n_leaps n_onward nb_len nb_sum nb_tries q_nn_len q_nn_sum q_nn_tries) := by
  refine Cv.of (by decide) (Nat.le_of_ble_eq_true rfl) ?_
  intro x hE C
  subst hE
  have C : CX RX1 cX1_plan 7 none x := C
  refine p_locals [0, 1, 2] (lv' := [(0, .ref an0), (1, .ref ann0), (2, .int p2)]) rfl ?_
  unfold m_X1_plan_nn at h
  refine p_aload_n C dX1_plan_0 rfl 1 rfl ?_
  obtain ⟨z_len1, z_sum2, hc3, h⟩ := bd2_of h
  refine p_callVNv (As := []) (st' := []) (Wd' := (V_N x.1.2.2 an0 an1 an2 anb0 anb1 ann0 ann1 n_total n_planned n_leaps n_onward nb_len nb_sum nb_tries z_len1 z_sum2 nn_tries)) C (c_X2_clear x.1 (ao0 := ann0) (ao1 := ann1) (o_tries := nn_tries) hc3) dX1_plan_1 rfl nm_X1_77 kv_X2_clear ds_X2_clear ⟨rfl, rfl, by decide, by decide⟩ 0 rfl rfl [5, 6] rfl rfl rfl rfl (by decide) ⟨by decide, by decide⟩ rfl ?_
  refine p_iconst (v := (0 : Int32)) C dX1_plan_4 rfl (by decide) ?_
  refine p_istore_n (lv' := [(3, .int ((0 : Int32))), (0, .ref an0), (1, .ref ann0), (2, .int p2)]) C dX1_plan_5 rfl (by decide) rfl ?_
  refine p_aload_n C dX1_plan_6 rfl 1 rfl ?_
  obtain ⟨r4, hc5, h⟩ := bd1_of h
  refine p_callVi (As := []) (st' := []) (Wd' := (V_N x.1.2.2 an0 an1 an2 anb0 anb1 ann0 ann1 n_total n_planned n_leaps n_onward nb_len nb_sum nb_tries z_len1 z_sum2 nn_tries)) C (c_X1_allTries x.1 (an0 := an0) (an1 := an1) (an2 := an2) (anb0 := anb0) (anb1 := anb1) (ann0 := ann0) (ann1 := ann1) (n_planned := n_planned) (n_leaps := n_leaps) (n_onward := n_onward) (nb_len := nb_len) (nb_sum := nb_sum) (nb_tries := nb_tries) (nn_len := z_len1) (nn_sum := z_sum2) (nn_tries := nn_tries) hc5) dX1_plan_7 rfl ml_X1_80 kv_X1_allTries ds_X1_allTries ⟨rfl, rfl, by decide, by decide⟩ 0 rfl rfl [0, 1, 2, 3, 4, 5, 6] rfl rfl rfl rfl (by decide) ⟨by decide, by decide⟩ rfl ?_
  refine p_istore (lv' := [(4, .int r4), (3, .int ((0 : Int32))), (0, .ref an0), (1, .ref ann0), (2, .int p2)]) C dX1_plan_10 rfl (by decide) rfl ?_
  refine p_iconst (v := (0 : Int32)) C dX1_plan_12 rfl (by decide) ?_
  refine p_istore (lv' := [(5, .int ((0 : Int32))), (4, .int r4), (3, .int ((0 : Int32))), (0, .ref an0), (1, .ref ann0), (2, .int p2)]) C dX1_plan_13 rfl (by decide) rfl ?_
  refine p_locals [3, 4, 5, 2, 1, 0] (lv' := [(0, .ref an0), (1, .ref ann0), (2, .int p2), (3, .int ((0 : Int32))), (4, .int r4), (5, .int ((0 : Int32)))]) rfl ?_
  exact tl_X1_plan_nn_15 C  FU _ _ _ _ _ _ h
def m_X1_planNearest (n_total : Int32) (n_leaps : Ar) (n_onward : Ar) (nn_len : Int32) (nn_sum : Int32) (nn_tries : Ar)  : Option (Int32 × Int32 × Ar) := bd3 (m_X1_plan_nn n_total n_leaps n_onward nn_len nn_sum nn_tries ((0 : Int32))) (fun z_len1 z_sum2 z_tries3 => some (z_len1, z_sum2, z_tries3))
theorem ds_X1_planNearest : (yX1_planNearest).cls ≠ "java/lang/invoke/MethodHandle" ∧ (yX1_planNearest).cls ≠ "java/lang/invoke/VarHandle" ∧ (parseMethodDescriptor (yX1_planNearest).desc).map (fun d => d.parameters.length) = some 0 := by decide +kernel
set_option maxHeartbeats 4000000 in
set_option maxRecDepth 100000 in
theorem c_X1_planNearest (E : En) {an0 an1 an2 anb0 anb1 ann0 ann1 : Nat} {n_total : Int32} {n_planned : Int32} {n_leaps : Ar} {n_onward : Ar} {nb_len : Int32} {nb_sum : Int32} {nb_tries : Ar} {nn_len : Int32} {nn_sum : Int32} {nn_tries : Ar}  {q_nn_len : Int32} {q_nn_sum : Int32} {q_nn_tries : Ar} (h : m_X1_planNearest n_total n_leaps n_onward nn_len nn_sum nn_tries = some (q_nn_len, q_nn_sum, q_nn_tries)) : Cv E yX1_planNearest (wU yX1_planNearest cX1_planNearest 1 none) (RM 3 78) [.ref an0] (V_N E.2.2 an0 an1 an2 anb0 anb1 ann0 ann1 n_total n_planned n_leaps n_onward nb_len nb_sum nb_tries nn_len nn_sum nn_tries) (V_N E.2.2 an0 an1 an2 anb0 anb1 ann0 ann1 n_total n_planned n_leaps n_onward nb_len nb_sum nb_tries q_nn_len q_nn_sum q_nn_tries) := by
  refine Cv.of (by decide) (Nat.le_of_ble_eq_true rfl) ?_
  intro x hE C
  subst hE
  have C : CX RX1 cX1_planNearest 1 none x := C
  refine p_locals [0] (lv' := [(0, .ref an0)]) rfl ?_
  unfold m_X1_planNearest at h
  refine p_aload_n C dX1_planNearest_0 rfl 0 rfl ?_
  refine p_aload_n C dX1_planNearest_1 rfl 0 rfl ?_
  refine p_get C dX1_planNearest_2 rfl 0 4 inlX1 fl_X1_29 rfl rfl (by decide) rfl rfl ?_
  refine p_iconst (v := (0 : Int32)) C dX1_planNearest_5 rfl (by decide) ?_
  obtain ⟨z_len1, z_sum2, z_tries3, hc4, h⟩ := bd3_of h
  refine p_callVv (As := [.ref ann0, .int ((0 : Int32))]) (st' := []) (Wd' := (V_N x.1.2.2 an0 an1 an2 anb0 anb1 ann0 ann1 n_total n_planned n_leaps n_onward nb_len nb_sum nb_tries z_len1 z_sum2 z_tries3)) C (c_X1_plan_nn x.1 (an0 := an0) (an1 := an1) (an2 := an2) (anb0 := anb0) (anb1 := anb1) (ann0 := ann0) (ann1 := ann1) (n_planned := n_planned) (nb_len := nb_len) (nb_sum := nb_sum) (nb_tries := nb_tries) hc4) dX1_planNearest_6 rfl ml_X1_70 kv_X1_plan ds_X1_plan ⟨rfl, rfl, by decide, by decide⟩ 0 rfl rfl [0, 1, 2, 3, 4, 5, 6] rfl rfl rfl rfl (by decide) ⟨by decide, by decide⟩ rfl ?_
  cases h
  exact p_vret C dX1_planNearest_9
def m_X2_tell (o_len : Int32) (o_sum : Int32) (o_tries : Ar) (p1 : Int32) : Option (Int32) := if p1 = ((-1 : Int32)) then (some o_sum) else (if p1 < 0 then (some ((-6 : Int32))) else (if o_len ≤ p1 then (some ((-6 : Int32))) else (grd (gI p1 10) (some (o_tries p1.toNatClampNeg)))))
theorem ds_X2_tell : (yX2_tell).cls ≠ "java/lang/invoke/MethodHandle" ∧ (yX2_tell).cls ≠ "java/lang/invoke/VarHandle" ∧ (parseMethodDescriptor (yX2_tell).desc).map (fun d => d.parameters.length) = some 1 := by decide +kernel
set_option maxHeartbeats 4000000 in
set_option maxRecDepth 100000 in
theorem c_X2_tell (E : En) {ao0 ao1 : Nat} {o_len : Int32} {o_sum : Int32} {o_tries : Ar} {p1 : Int32} {rr : Int32} (h : m_X2_tell o_len o_sum o_tries p1 = some rr) : Ci E yX2_tell (wU yX2_tell cX2_tell 2 (some .int)) (RM 0 0) [.ref ao0, .int p1] (V_O E.2.2 ao0 ao1 o_len o_sum o_tries) (V_O E.2.2 ao0 ao1 o_len o_sum o_tries) rr := by
  refine Ci.of (by decide) (Nat.le_of_ble_eq_true rfl) ?_
  intro x hE C
  subst hE
  have C : CX RX2 cX2_tell 2 (some .int) x := C
  refine p_locals [0, 1] (lv' := [(0, .ref ao0), (1, .int p1)]) rfl ?_
  unfold m_X2_tell at h
  refine p_iload_n C dX2_tell_0 rfl 1 rfl ?_
  refine p_iconst (v := (-1 : Int32)) C dX2_tell_1 rfl (by decide) ?_
  refine p_icmp_ne C dX2_tell_2 (tgt := 10) (by decide) rfl (fun c1 => ?_) (fun c1 => ?_)
  · have h := if_f c1 h
    refine p_iload_n C dX2_tell_10 rfl 1 rfl ?_
    refine p_if_lt C dX2_tell_11 (tgt := 31) (by decide) rfl (fun c2 => ?_) (fun c2 => ?_)
    · have h := if_t c2 h
      refine p_bipush (v := (-6 : Int32)) C dX2_tell_31 rfl (by decide) ?_
      cases h
      exact p_iret C dX2_tell_33
    · have h := if_f c2 h
      refine p_iload_n C dX2_tell_14 rfl 1 rfl ?_
      refine p_aload_n C dX2_tell_15 rfl 0 rfl ?_
      refine p_get C dX2_tell_16 rfl 0 1 inlX2 fl_X2_15 rfl rfl (by decide) rfl rfl ?_
      refine p_icmp_ge C dX2_tell_19 (tgt := 31) (by decide) rfl (fun c3 => ?_) (fun c3 => ?_)
      · have h := if_t c3 h
        refine p_bipush (v := (-6 : Int32)) C dX2_tell_31 rfl (by decide) ?_
        cases h
        exact p_iret C dX2_tell_33
      · have h := if_f c3 h
        refine p_aload_n C dX2_tell_22 rfl 0 rfl ?_
        refine p_get C dX2_tell_23 rfl 0 0 inlX2 fl_X2_9 rfl rfl (by decide) rfl rfl ?_
        refine p_iload_n C dX2_tell_26 rfl 1 rfl ?_
        obtain ⟨g4, h⟩ := grd_of h
        refine p_iald C dX2_tell_27 rfl 1 rfl g4 ?_
        refine p_goto C dX2_tell_28 (pc' := 33) (by decide) ?_
        cases h
        exact p_iret C dX2_tell_33
  · have h := if_t c1 h
    refine p_aload_n C dX2_tell_5 rfl 0 rfl ?_
    refine p_get C dX2_tell_6 rfl 0 2 inlX2 fl_X2_19 rfl rfl (by decide) rfl rfl ?_
    cases h
    exact p_iret C dX2_tell_9
def m_X3_tryAt (p_signs : Ar) (p1 : Int32) : Option (Int32) := grd (gI p1 24) (some ((p_signs p1.toNatClampNeg) - ((97 : Int32))))
theorem ds_X3_tryAt : (yX3_tryAt).cls ≠ "java/lang/invoke/MethodHandle" ∧ (yX3_tryAt).cls ≠ "java/lang/invoke/VarHandle" ∧ (parseMethodDescriptor (yX3_tryAt).desc).map (fun d => d.parameters.length) = some 1 := by decide +kernel
set_option maxHeartbeats 4000000 in
set_option maxRecDepth 100000 in
theorem c_X3_tryAt (E : En) {ap0 ap1 : Nat} {p_len : Int32} {p_signs : Ar} {p1 : Int32} {rr : Int32} (h : m_X3_tryAt p_signs p1 = some rr) : Ci E yX3_tryAt (wU yX3_tryAt cX3_tryAt 2 (some .int)) (RM 0 0) [.ref ap0, .int p1] (V_P E.2.2 ap0 ap1 p_len p_signs) (V_P E.2.2 ap0 ap1 p_len p_signs) rr := by
  refine Ci.of (by decide) (Nat.le_of_ble_eq_true rfl) ?_
  intro x hE C
  subst hE
  have C : CX RX3 cX3_tryAt 2 (some .int) x := C
  refine p_locals [0, 1] (lv' := [(0, .ref ap0), (1, .int p1)]) rfl ?_
  unfold m_X3_tryAt at h
  refine p_aload_n C dX3_tryAt_0 rfl 0 rfl ?_
  refine p_get C dX3_tryAt_1 rfl 0 0 inlX3 fl_X3_9 rfl rfl (by decide) rfl rfl ?_
  refine p_iload_n C dX3_tryAt_4 rfl 1 rfl ?_
  obtain ⟨g1, h⟩ := grd_of h
  refine p_iald C dX3_tryAt_5 rfl 1 rfl g1 ?_
  refine p_bipush (v := (97 : Int32)) C dX3_tryAt_6 rfl (by decide) ?_
  refine p_isub C dX3_tryAt_8 rfl ?_
  cases h
  exact p_iret C dX3_tryAt_9
def B_X3_tellsOrderOf_14 (p_len : Int32) (p_signs : Ar)  (v1 : Int32) (kk : Int32 → Int32 → Option (Int32)) (v2 : Int32) (v3 : Int32)  : Option (Int32) := if p_len ≤ v3 then (some ((1 : Int32))) else (bd1 (m_X3_tryAt p_signs v3) (fun r2 => if r2 < 0 then (some ((0 : Int32))) else (if v1 ≤ r2 then (some ((0 : Int32))) else (bd1 (m_X5_isIn v2 r2) (fun r6 => if r6 = 0 then (kk (v2 ||| (((1 : Int32)) <<< (r2 &&& 31))) (v3 + 1)) else (some ((0 : Int32))))))))
def L_X3_tellsOrderOf_14 (p_len : Int32) (p_signs : Ar)  (v1 : Int32) : Nat → Int32 → Int32 → Option (Int32) := lpG (fun _ _ => none) (B_X3_tellsOrderOf_14 p_len p_signs v1)
set_option maxHeartbeats 4000000 in
set_option maxRecDepth 100000 in
theorem tl_X3_tellsOrderOf_14 {x : Cxt} {ap0 ap1 : Nat} {p_len : Int32} {p_signs : Ar}  {v1 : Int32} {rr : Int32} (C : CX RX3 cX3_tellsOrderOf 5 (some .boolean) x)  : ∀ (n : Nat) (v2 : Int32) (v3 : Int32) , L_X3_tellsOrderOf_14 p_len p_signs v1 n v2 v3 = some rr → PT (RM 1 21) 5 x 14 [(0, .ref ap0), (1, .int v1), (2, .int v2), (3, .int v3)] [] (V_P x.1.2.2 ap0 ap1 p_len p_signs) 0 0 (QI x rr (V_P x.1.2.2 ap0 ap1 p_len p_signs)) := by
  intro n
  induction n with
  | zero =>
    intro v2 v3 h
    cases h
  | succ n ih =>
    intro v2 v3 h
    have h : B_X3_tellsOrderOf_14 p_len p_signs v1 (L_X3_tellsOrderOf_14 p_len p_signs v1 n) v2 v3 = some rr := h
    unfold B_X3_tellsOrderOf_14 at h
    refine p_iload_n C dX3_tellsOrderOf_14 rfl 3 rfl ?_
    refine p_aload_n C dX3_tellsOrderOf_15 rfl 0 rfl ?_
    refine p_get C dX3_tellsOrderOf_16 rfl 0 1 inlX3 fl_X3_15 rfl rfl (by decide) rfl rfl ?_
    refine p_icmp_ge C dX3_tellsOrderOf_19 (tgt := 64) (by decide) rfl (fun c1 => ?_) (fun c1 => ?_)
    · have h := if_t c1 h
      refine p_iconst (v := (1 : Int32)) C dX3_tellsOrderOf_64 rfl (by decide) ?_
      cases h
      exact p_zret C dX3_tellsOrderOf_65 rfl
    · have h := if_f c1 h
      refine p_aload_n C dX3_tellsOrderOf_22 rfl 0 rfl ?_
      refine p_iload_n C dX3_tellsOrderOf_23 rfl 3 rfl ?_
      obtain ⟨r2, hc3, h⟩ := bd1_of h
      refine p_callVi (As := [.int v3]) (st' := []) (Wd' := (V_P x.1.2.2 ap0 ap1 p_len p_signs)) C (c_X3_tryAt x.1 (ap0 := ap0) (ap1 := ap1) (p_len := p_len) hc3) dX3_tellsOrderOf_24 rfl ml_X3_19 kv_X3_tryAt ds_X3_tryAt ⟨rfl, rfl, by decide, by decide⟩ 0 rfl rfl [0, 1] rfl rfl rfl rfl (by decide) ⟨by decide, by decide⟩ rfl ?_
      refine p_istore (lv' := [(4, .int r2), (0, .ref ap0), (1, .int v1), (2, .int v2), (3, .int v3)]) C dX3_tellsOrderOf_27 rfl (by decide) rfl ?_
      refine p_iload C dX3_tellsOrderOf_29 rfl 0 rfl ?_
      refine p_if_lt C dX3_tellsOrderOf_31 (tgt := 49) (by decide) rfl (fun c4 => ?_) (fun c4 => ?_)
      · have h := if_t c4 h
        refine p_iconst (v := (0 : Int32)) C dX3_tellsOrderOf_49 rfl (by decide) ?_
        cases h
        exact p_zret C dX3_tellsOrderOf_50 rfl
      · have h := if_f c4 h
        refine p_iload C dX3_tellsOrderOf_34 rfl 0 rfl ?_
        refine p_iload_n C dX3_tellsOrderOf_36 rfl 2 rfl ?_
        refine p_icmp_ge C dX3_tellsOrderOf_37 (tgt := 49) (by decide) rfl (fun c5 => ?_) (fun c5 => ?_)
        · have h := if_t c5 h
          refine p_iconst (v := (0 : Int32)) C dX3_tellsOrderOf_49 rfl (by decide) ?_
          cases h
          exact p_zret C dX3_tellsOrderOf_50 rfl
        · have h := if_f c5 h
          refine p_iload_n C dX3_tellsOrderOf_40 rfl 3 rfl ?_
          refine p_iload C dX3_tellsOrderOf_41 rfl 0 rfl ?_
          obtain ⟨r6, hc7, h⟩ := bd1_of h
          refine p_callSNi (As := [.int v2, .int r2]) (st' := []) (Wd' := (V_P x.1.2.2 ap0 ap1 p_len p_signs)) C (c_X5_isIn x.1 hc7) dX3_tellsOrderOf_43 rfl nm_X3_23 ks_X5_isIn ds_X5_isIn ⟨rfl, rfl, by decide, by decide⟩ [] rfl rfl rfl rfl (by decide) ⟨by decide, by decide⟩ rfl ?_
          refine p_if_eq C dX3_tellsOrderOf_46 (tgt := 51) (by decide) rfl (fun c8 => ?_) (fun c8 => ?_)
          · have h := if_t c8 h
            refine p_iload_n C dX3_tellsOrderOf_51 rfl 3 rfl ?_
            refine p_iconst (v := (1 : Int32)) C dX3_tellsOrderOf_52 rfl (by decide) ?_
            refine p_iload C dX3_tellsOrderOf_53 rfl 0 rfl ?_
            refine p_ishl C dX3_tellsOrderOf_55 rfl ?_
            refine p_ior C dX3_tellsOrderOf_56 rfl ?_
            refine p_istore_n (lv' := [(2, .int (v2 ||| (((1 : Int32)) <<< (r2 &&& 31)))), (4, .int r2), (0, .ref ap0), (1, .int v1), (3, .int v3)]) C dX3_tellsOrderOf_57 rfl (by decide) rfl ?_
            refine p_iinc (w := v3 + 1) (lv' := [(3, .int (v3 + 1)), (2, .int (v2 ||| (((1 : Int32)) <<< (r2 &&& 31)))), (4, .int r2), (0, .ref ap0), (1, .int v1)]) C dX3_tellsOrderOf_58 rfl 4 rfl rfl (by decide) rfl ?_
            refine p_goto C dX3_tellsOrderOf_61 (pc' := 14) (by decide) ?_
            refine p_locals [3, 4, 1, 0] (lv' := [(0, .ref ap0), (1, .int v1), (2, .int (v2 ||| (((1 : Int32)) <<< (r2 &&& 31)))), (3, .int (v3 + 1))]) rfl ?_
            exact ih _ _ h
          · have h := if_f c8 h
            refine p_iconst (v := (0 : Int32)) C dX3_tellsOrderOf_49 rfl (by decide) ?_
            cases h
            exact p_zret C dX3_tellsOrderOf_50 rfl
def m_X3_tellsOrderOf (p_len : Int32) (p_signs : Ar) (p1 : Int32) : Option (Int32) := if p_len = p1 then (L_X3_tellsOrderOf_14 p_len p_signs p1 FU ((0 : Int32)) ((0 : Int32))) else (some ((0 : Int32)))
theorem ds_X3_tellsOrderOf : (yX3_tellsOrderOf).cls ≠ "java/lang/invoke/MethodHandle" ∧ (yX3_tellsOrderOf).cls ≠ "java/lang/invoke/VarHandle" ∧ (parseMethodDescriptor (yX3_tellsOrderOf).desc).map (fun d => d.parameters.length) = some 1 := by decide +kernel
set_option maxHeartbeats 4000000 in
set_option maxRecDepth 100000 in
theorem c_X3_tellsOrderOf (E : En) {ap0 ap1 : Nat} {p_len : Int32} {p_signs : Ar} {p1 : Int32} {rr : Int32} (h : m_X3_tellsOrderOf p_len p_signs p1 = some rr) : Ci E yX3_tellsOrderOf (wU yX3_tellsOrderOf cX3_tellsOrderOf 5 (some .boolean)) (RM 1 21) [.ref ap0, .int p1] (V_P E.2.2 ap0 ap1 p_len p_signs) (V_P E.2.2 ap0 ap1 p_len p_signs) rr := by
  refine Ci.of (by decide) (Nat.le_of_ble_eq_true rfl) ?_
  intro x hE C
  subst hE
  have C : CX RX3 cX3_tellsOrderOf 5 (some .boolean) x := C
  refine p_locals [0, 1] (lv' := [(0, .ref ap0), (1, .int p1)]) rfl ?_
  unfold m_X3_tellsOrderOf at h
  refine p_aload_n C dX3_tellsOrderOf_0 rfl 0 rfl ?_
  refine p_get C dX3_tellsOrderOf_1 rfl 0 1 inlX3 fl_X3_15 rfl rfl (by decide) rfl rfl ?_
  refine p_iload_n C dX3_tellsOrderOf_4 rfl 1 rfl ?_
  refine p_icmp_eq C dX3_tellsOrderOf_5 (tgt := 10) (by decide) rfl (fun c1 => ?_) (fun c1 => ?_)
  · have h := if_t c1 h
    refine p_iconst (v := (0 : Int32)) C dX3_tellsOrderOf_10 rfl (by decide) ?_
    refine p_istore_n (lv' := [(2, .int ((0 : Int32))), (0, .ref ap0), (1, .int p1)]) C dX3_tellsOrderOf_11 rfl (by decide) rfl ?_
    refine p_iconst (v := (0 : Int32)) C dX3_tellsOrderOf_12 rfl (by decide) ?_
    refine p_istore_n (lv' := [(3, .int ((0 : Int32))), (2, .int ((0 : Int32))), (0, .ref ap0), (1, .int p1)]) C dX3_tellsOrderOf_13 rfl (by decide) rfl ?_
    refine p_locals [2, 3, 1, 0] (lv' := [(0, .ref ap0), (1, .int p1), (2, .int ((0 : Int32))), (3, .int ((0 : Int32)))]) rfl ?_
    exact tl_X3_tellsOrderOf_14 C  FU _ _ h
  · have h := if_f c1 h
    refine p_iconst (v := (0 : Int32)) C dX3_tellsOrderOf_8 rfl (by decide) ?_
    cases h
    exact p_zret C dX3_tellsOrderOf_9 rfl
