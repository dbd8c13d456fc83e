def J_X1_firstOfBest_68 (n_total : Int32) (n_leaps : Ar) (n_onward : Ar) (k18 : Int32 → Int32 → Option (Int32))  (v1 : Int32) (v2 : Int32) (v3 : Int32) (v4 : Int32) (v5 : Int32) : Option (Int32) := k18 v4 (v5 + (-1))
set_option maxHeartbeats 4000000 in
set_option maxRecDepth 100000 in
theorem tj_X1_firstOfBest_68 {x : Cxt} {an0 an1 an2 anb0 anb1 ann0 ann1 : Nat} {n_total : Int32} {n_planned : Int32} {n_leaps : Ar} {n_onward : Ar} {nb_len : Int32} {nb_sum : Int32} {nb_tries : Ar} {nn_len : Int32} {nn_sum : Int32} {nn_tries : Ar} {k18 : Int32 → Int32 → Option (Int32)}  {v1 : Int32} {v2 : Int32} {v3 : Int32} {v4 : Int32} {v5 : Int32} {rr : Int32} (C : CX RX1 cX1_firstOfBest 7 (some .int) x) (hk18 : ∀ (w4 : Int32) (w5 : Int32) , k18 w4 w5 = some rr → PT (RM 1 26) 7 x 18 [(0, .ref an0), (1, .int v1), (2, .int v2), (3, .int v3), (4, .int w4), (5, .int w5)] [] (V_N x.1.2.2 an0 an1 an2 anb0 anb1 ann0 ann1 n_total n_planned n_leaps n_onward nb_len nb_sum nb_tries nn_len nn_sum nn_tries) 0 0 (QI x rr (V_N x.1.2.2 an0 an1 an2 anb0 anb1 ann0 ann1 n_total n_planned n_leaps n_onward nb_len nb_sum nb_tries nn_len nn_sum nn_tries))) (h : J_X1_firstOfBest_68 n_total n_leaps n_onward k18 v1 v2 v3 v4 v5 = some rr) : PT (RM 1 26) 7 x 68 [(0, .ref an0), (1, .int v1), (2, .int v2), (3, .int v3), (4, .int v4), (5, .int v5)] [] (V_N x.1.2.2 an0 an1 an2 anb0 anb1 ann0 ann1 n_total n_planned n_leaps n_onward nb_len nb_sum nb_tries nn_len nn_sum nn_tries) 0 0 (QI x rr (V_N x.1.2.2 an0 an1 an2 anb0 anb1 ann0 ann1 n_total n_planned n_leaps n_onward nb_len nb_sum nb_tries nn_len nn_sum nn_tries)) := by
  unfold J_X1_firstOfBest_68 at h
  refine p_iinc (w := v5 + (-1)) (lv' := [(5, .int (v5 + (-1))), (0, .ref an0), (1, .int v1), (2, .int v2), (3, .int v3), (4, .int v4)]) C dX1_firstOfBest_68 rfl 5 rfl rfl (by decide) rfl ?_
  refine p_goto C dX1_firstOfBest_71 (pc' := 18) (by decide) ?_
  refine p_locals [1, 2, 3, 4, 5, 0] (lv' := [(0, .ref an0), (1, .int v1), (2, .int v2), (3, .int v3), (4, .int v4), (5, .int (v5 + (-1)))]) rfl ?_
  exact hk18 _ _ h
def B_X1_firstOfBest_18 (n_total : Int32) (n_leaps : Ar) (n_onward : Ar)  (v1 : Int32) (v2 : Int32) (v3 : Int32) (kk : Int32 → Int32 → Option (Int32)) (v4 : Int32) (v5 : Int32)  : Option (Int32) := if v5 < 0 then (some v4) else (if (v2 &&& ((((1 : Int32)) <<< (v5 &&& 31)) ^^^ ((-1 : Int32)))) = v2 then (J_X1_firstOfBest_68 n_total n_leaps n_onward (kk) v1 v2 v3 v4 v5) else (bd1 (m_X1_leap n_leaps v1 v5) (fun r3 => grd (gI (((v2 &&& ((((1 : Int32)) <<< (v5 &&& 31)) ^^^ ((-1 : Int32)))) * ((10 : Int32))) + v5) 10240) (if (r3 + (n_onward (((v2 &&& ((((1 : Int32)) <<< (v5 &&& 31)) ^^^ ((-1 : Int32)))) * ((10 : Int32))) + v5).toNatClampNeg)) = v3 then (J_X1_firstOfBest_68 n_total n_leaps n_onward (kk) v1 v2 v3 v5 v5) else (J_X1_firstOfBest_68 n_total n_leaps n_onward (kk) v1 v2 v3 v4 v5)))))
def L_X1_firstOfBest_18 (n_total : Int32) (n_leaps : Ar) (n_onward : Ar)  (v1 : Int32) (v2 : Int32) (v3 : Int32) : Nat → Int32 → Int32 → Option (Int32) := lpG (fun _ _ => none) (B_X1_firstOfBest_18 n_total n_leaps n_onward v1 v2 v3)
set_option maxHeartbeats 4000000 in
set_option maxRecDepth 100000 in
theorem tl_X1_firstOfBest_18 {x : Cxt} {an0 an1 an2 anb0 anb1 ann0 ann1 : Nat} {n_total : Int32} {n_planned : Int32} {n_leaps : Ar} {n_onward : Ar} {nb_len : Int32} {nb_sum : Int32} {nb_tries : Ar} {nn_len : Int32} {nn_sum : Int32} {nn_tries : Ar}  {v1 : Int32} {v2 : Int32} {v3 : Int32} {rr : Int32} (C : CX RX1 cX1_firstOfBest 7 (some .int) x)  : ∀ (n : Nat) (v4 : Int32) (v5 : Int32) , L_X1_firstOfBest_18 n_total n_leaps n_onward v1 v2 v3 n v4 v5 = some rr → PT (RM 1 26) 7 x 18 [(0, .ref an0), (1, .int v1), (2, .int v2), (3, .int v3), (4, .int v4), (5, .int v5)] [] (V_N x.1.2.2 an0 an1 an2 anb0 anb1 ann0 ann1 n_total n_planned n_leaps n_onward nb_len nb_sum nb_tries nn_len nn_sum nn_tries) 0 0 (QI x rr (V_N x.1.2.2 an0 an1 an2 anb0 anb1 ann0 ann1 n_total n_planned n_leaps n_onward nb_len nb_sum nb_tries nn_len nn_sum nn_tries)) := by
  intro n
  induction n with
  | zero =>
    intro v4 v5 h
    cases h
  | succ n ih =>
    intro v4 v5 h
    have h : B_X1_firstOfBest_18 n_total n_leaps n_onward v1 v2 v3 (L_X1_firstOfBest_18 n_total n_leaps n_onward v1 v2 v3 n) v4 v5 = some rr := h
    unfold B_X1_firstOfBest_18 at h
    refine p_iload C dX1_firstOfBest_18 rfl 5 rfl ?_
    refine p_if_lt C dX1_firstOfBest_20 (tgt := 74) (by decide) rfl (fun c1 => ?_) (fun c1 => ?_)
    · have h := if_t c1 h
      refine p_iload C dX1_firstOfBest_74 rfl 4 rfl ?_
      cases h
      exact p_iret C dX1_firstOfBest_76
    · have h := if_f c1 h
      refine p_iload_n C dX1_firstOfBest_23 rfl 2 rfl ?_
      refine p_iconst (v := (1 : Int32)) C dX1_firstOfBest_24 rfl (by decide) ?_
      refine p_iload C dX1_firstOfBest_25 rfl 5 rfl ?_
      refine p_ishl C dX1_firstOfBest_27 rfl ?_
      refine p_iconst (v := (-1 : Int32)) C dX1_firstOfBest_28 rfl (by decide) ?_
      refine p_ixor C dX1_firstOfBest_29 rfl ?_
      refine p_iand C dX1_firstOfBest_30 rfl ?_
      refine p_istore (lv' := [(6, .int (v2 &&& ((((1 : Int32)) <<< (v5 &&& 31)) ^^^ ((-1 : Int32))))), (0, .ref an0), (1, .int v1), (2, .int v2), (3, .int v3), (4, .int v4), (5, .int v5)]) C dX1_firstOfBest_31 rfl (by decide) rfl ?_
      refine p_iload C dX1_firstOfBest_33 rfl 0 rfl ?_
      refine p_iload_n C dX1_firstOfBest_35 rfl 3 rfl ?_
      refine p_icmp_eq C dX1_firstOfBest_36 (tgt := 68) (by decide) rfl (fun c2 => ?_) (fun c2 => ?_)
      · have h := if_t c2 h
        refine p_locals [1, 2, 3, 4, 5, 6] (lv' := [(0, .ref an0), (1, .int v1), (2, .int v2), (3, .int v3), (4, .int v4), (5, .int v5)]) rfl ?_
        exact tj_X1_firstOfBest_68 C (fun u0 u1 h => ih u0 u1 h) h
      · have h := if_f c2 h
        refine p_aload_n C dX1_firstOfBest_39 rfl 1 rfl ?_
        refine p_iload_n C dX1_firstOfBest_40 rfl 2 rfl ?_
        refine p_iload C dX1_firstOfBest_41 rfl 6 rfl ?_
        obtain ⟨r3, hc4, h⟩ := bd1_of h
        refine p_callVi_s (As := [.int v1, .int v5]) (st' := []) (Wc' := (V_N x.1.2.2 an0 an1 an2 anb0 anb1 ann0 ann1 n_total n_planned n_leaps n_onward nb_len nb_sum nb_tries nn_len nn_sum nn_tries)) C (c_X1_leap x.1 (an0 := an0) (an1 := an1) (an2 := an2) (anb0 := anb0) (anb1 := anb1) (ann0 := ann0) (ann1 := ann1) (n_total := n_total) (n_planned := n_planned) (n_onward := n_onward) (nb_len := nb_len) (nb_sum := nb_sum) (nb_tries := nb_tries) (nn_len := nn_len) (nn_sum := nn_sum) (nn_tries := nn_tries) hc4) dX1_firstOfBest_43 rfl ml_X1_90 kv_X1_leap ds_X1_leap ⟨rfl, rfl, by decide, by decide⟩ 0 rfl rfl rfl rfl (by decide) ⟨by decide, by decide⟩ ?_
        refine p_aload_n C dX1_firstOfBest_46 rfl 1 rfl ?_
        refine p_get C dX1_firstOfBest_47 rfl 0 2 inlX1 fl_X1_19 rfl rfl (by decide) rfl rfl ?_
        refine p_iload C dX1_firstOfBest_50 rfl 0 rfl ?_
        refine p_bipush (v := (10 : Int32)) C dX1_firstOfBest_52 rfl (by decide) ?_
        refine p_imul C dX1_firstOfBest_54 rfl ?_
        refine p_iload C dX1_firstOfBest_55 rfl 6 rfl ?_
        refine p_iadd C dX1_firstOfBest_57 rfl ?_
        obtain ⟨g5, h⟩ := grd_of h
        refine p_iald C dX1_firstOfBest_58 rfl 2 rfl g5 ?_
        refine p_iadd C dX1_firstOfBest_59 rfl ?_
        refine p_iload_n C dX1_firstOfBest_60 rfl 4 rfl ?_
        refine p_icmp_ne C dX1_firstOfBest_61 (tgt := 68) (by decide) rfl (fun c6 => ?_) (fun c6 => ?_)
        · have h := if_f c6 h
          refine p_locals [1, 2, 3, 4, 5, 6] (lv' := [(0, .ref an0), (1, .int v1), (2, .int v2), (3, .int v3), (4, .int v4), (5, .int v5)]) rfl ?_
          exact tj_X1_firstOfBest_68 C (fun u0 u1 h => ih u0 u1 h) h
        · have h := if_t c6 h
          refine p_iload C dX1_firstOfBest_64 rfl 6 rfl ?_
          refine p_istore (lv' := [(4, .int v5), (6, .int (v2 &&& ((((1 : Int32)) <<< (v5 &&& 31)) ^^^ ((-1 : Int32))))), (0, .ref an0), (1, .int v1), (2, .int v2), (3, .int v3), (5, .int v5)]) C dX1_firstOfBest_66 rfl (by decide) rfl ?_
          refine p_locals [2, 3, 4, 5, 0, 6] (lv' := [(0, .ref an0), (1, .int v1), (2, .int v2), (3, .int v3), (4, .int v5), (5, .int v5)]) rfl ?_
          exact tj_X1_firstOfBest_68 C (fun u0 u1 h => ih u0 u1 h) h
def m_X1_firstOfBest (n_total : Int32) (n_leaps : Ar) (n_onward : Ar) (p1 : Int32) (p2 : Int32) : Option (Int32) := bd1 (m_X1_leastThrough n_total n_leaps n_onward p1 p2) (fun r1 => L_X1_firstOfBest_18 n_total n_leaps n_onward p1 p2 r1 FU ((0 : Int32)) (n_total - ((1 : Int32))))
theorem ds_X1_firstOfBest : (yX1_firstOfBest).cls ≠ "java/lang/invoke/MethodHandle" ∧ (yX1_firstOfBest).cls ≠ "java/lang/invoke/VarHandle" ∧ (parseMethodDescriptor (yX1_firstOfBest).desc).map (fun d => d.parameters.length) = some 2 := by decide +kernel
set_option maxHeartbeats 4000000 in
set_option maxRecDepth 100000 in
theorem c_X1_firstOfBest (E : En) {an0 an1 an2 anb0 anb1 ann0 ann1 : Nat} {n_total : Int32} {n_planned : Int32} {n_leaps : Ar} {n_onward : Ar} {nb_len : Int32} {nb_sum : Int32} {nb_tries : Ar} {nn_len : Int32} {nn_sum : Int32} {nn_tries : Ar} {p1 : Int32} {p2 : Int32} {rr : Int32} (h : m_X1_firstOfBest n_total n_leaps n_onward p1 p2 = some rr) : Ci E yX1_firstOfBest (wU yX1_firstOfBest cX1_firstOfBest 7 (some .int)) (RM 1 26) [.ref an0, .int p1, .int p2] (V_N E.2.2 an0 an1 an2 anb0 anb1 ann0 ann1 n_total n_planned n_leaps n_onward nb_len nb_sum nb_tries nn_len nn_sum nn_tries) (V_N E.2.2 an0 an1 an2 anb0 anb1 ann0 ann1 n_total n_planned n_leaps n_onward nb_len nb_sum nb_tries nn_len nn_sum nn_tries) rr := by
  refine Ci.of (by decide) (Nat.le_of_ble_eq_true rfl) ?_
  intro x hE C
  subst hE
  have C : CX RX1 cX1_firstOfBest 7 (some .int) x := C
  refine p_locals [0, 1, 2] (lv' := [(0, .ref an0), (1, .int p1), (2, .int p2)]) rfl ?_
  unfold m_X1_firstOfBest at h
  refine p_aload_n C dX1_firstOfBest_0 rfl 0 rfl ?_
  refine p_iload_n C dX1_firstOfBest_1 rfl 1 rfl ?_
  refine p_iload_n C dX1_firstOfBest_2 rfl 2 rfl ?_
  obtain ⟨r1, hc2, h⟩ := bd1_of h
  refine p_callVi_s (As := [.int p1, .int p2]) (st' := []) (Wc' := (V_N x.1.2.2 an0 an1 an2 anb0 anb1 ann0 ann1 n_total n_planned n_leaps n_onward nb_len nb_sum nb_tries nn_len nn_sum nn_tries)) C (c_X1_leastThrough x.1 (an0 := an0) (an1 := an1) (an2 := an2) (anb0 := anb0) (anb1 := anb1) (ann0 := ann0) (ann1 := ann1) (n_planned := n_planned) (nb_len := nb_len) (nb_sum := nb_sum) (nb_tries := nb_tries) (nn_len := nn_len) (nn_sum := nn_sum) (nn_tries := nn_tries) hc2) dX1_firstOfBest_3 rfl ml_X1_101 kv_X1_leastThrough ds_X1_leastThrough ⟨rfl, rfl, by decide, by decide⟩ 0 rfl rfl rfl rfl (by decide) ⟨by decide, by decide⟩ ?_
  refine p_istore_n (lv' := [(3, .int r1), (0, .ref an0), (1, .int p1), (2, .int p2)]) C dX1_firstOfBest_6 rfl (by decide) rfl ?_
  refine p_iconst (v := (0 : Int32)) C dX1_firstOfBest_7 rfl (by decide) ?_
  refine p_istore (lv' := [(4, .int ((0 : Int32))), (3, .int r1), (0, .ref an0), (1, .int p1), (2, .int p2)]) C dX1_firstOfBest_8 rfl (by decide) rfl ?_
  refine p_aload_n C dX1_firstOfBest_10 rfl 2 rfl ?_
  refine p_get C dX1_firstOfBest_11 rfl 0 0 inlX1 fl_X1_9 rfl rfl (by decide) rfl rfl ?_
  refine p_iconst (v := (1 : Int32)) C dX1_firstOfBest_14 rfl (by decide) ?_
  refine p_isub C dX1_firstOfBest_15 rfl ?_
  refine p_istore (lv' := [(5, .int (n_total - ((1 : Int32)))), (4, .int ((0 : Int32))), (3, .int r1), (0, .ref an0), (1, .int p1), (2, .int p2)]) C dX1_firstOfBest_16 rfl (by decide) rfl ?_
  refine p_locals [3, 4, 5, 2, 1, 0] (lv' := [(0, .ref an0), (1, .int p1), (2, .int p2), (3, .int r1), (4, .int ((0 : Int32))), (5, .int (n_total - ((1 : Int32))))]) rfl ?_
  exact tl_X1_firstOfBest_18 C  FU _ _ h
def m_X1_longer  (p0 : Int32) (p1 : Int32) : Option (Int32) := some (if (if 0 ≤ p0 then p0 else 0 - p0) < (if 0 ≤ p1 then p1 else 0 - p1) then (if 0 ≤ p1 then p1 else 0 - p1) else (if 0 ≤ p0 then p0 else 0 - p0))
theorem ds_X1_longer : (yX1_longer).cls ≠ "java/lang/invoke/MethodHandle" ∧ (yX1_longer).cls ≠ "java/lang/invoke/VarHandle" ∧ (parseMethodDescriptor (yX1_longer).desc).map (fun d => d.parameters.length) = some 2 := by decide +kernel
set_option maxHeartbeats 4000000 in
set_option maxRecDepth 100000 in
theorem c_X1_longer (E : En)  {p0 : Int32} {p1 : Int32} {rr : Int32} (h : m_X1_longer p0 p1 = some rr) : Ci E yX1_longer (wU yX1_longer cX1_longer 2 (some .int)) (RM 1 21) [.int p0, .int p1] ([] : va_W) ([] : va_W) rr := by
  refine Ci.of (by decide) (Nat.le_of_ble_eq_true rfl) ?_
  intro x hE C
  subst hE
  have C : CX RX1 cX1_longer 2 (some .int) x := C
  refine p_locals [0, 1] (lv' := [(0, .int p0), (1, .int p1)]) rfl ?_
  unfold m_X1_longer at h
  refine p_iload_n C dX1_longer_0 rfl 0 rfl ?_
  refine p_mabs C dX1_longer_1 rfl ml_X1_66 ks_Math_abs ⟨by decide, Nat.le_of_ble_eq_true rfl⟩ ⟨by decide, by decide⟩ ?_
  refine p_iload_n C dX1_longer_4 rfl 1 rfl ?_
  refine p_mabs C dX1_longer_5 rfl ml_X1_66 ks_Math_abs ⟨by decide, Nat.le_of_ble_eq_true rfl⟩ ⟨by decide, by decide⟩ ?_
  refine p_mmax C dX1_longer_8 rfl ml_X1_57 ks_Math_max ⟨by decide, Nat.le_of_ble_eq_true rfl⟩ ⟨by decide, by decide⟩ ?_
  cases h
  exact p_iret C dX1_longer_11
def m_X1_way (b_xs : Ar) (b_ys : Ar) (p1 : Int32) (p2 : Int32) : Option (Int32) := grd (gI p2 8) (grd (gI p1 8) (grd (gI p2 8) (grd (gI p1 8) (bd1 (m_X1_longer ((b_xs p2.toNatClampNeg) - (b_xs p1.toNatClampNeg)) ((b_ys p2.toNatClampNeg) - (b_ys p1.toNatClampNeg))) (fun r5 => some r5)))))
theorem ds_X1_way : (yX1_way).cls ≠ "java/lang/invoke/MethodHandle" ∧ (yX1_way).cls ≠ "java/lang/invoke/VarHandle" ∧ (parseMethodDescriptor (yX1_way).desc).map (fun d => d.parameters.length) = some 3 := by decide +kernel
set_option maxHeartbeats 4000000 in
set_option maxRecDepth 100000 in
theorem c_X1_way (E : En) {ab0 ab1 ab2 ab3 : Nat} {b_points : Int32} {b_near : Int32} {b_loose : Int32} {b_short : Int32} {b_nets : Ar} {b_xs : Ar} {b_ys : Ar} {p1 : Int32} {p2 : Int32} {rr : Int32} (h : m_X1_way b_xs b_ys p1 p2 = some rr) : Ci E yX1_way (wU yX1_way cX1_way 3 (some .int)) (RM 2 42) [.ref ab0, .int p1, .int p2] (V_B E.2.2 ab0 ab1 ab2 ab3 b_points b_near b_loose b_short b_nets b_xs b_ys) (V_B E.2.2 ab0 ab1 ab2 ab3 b_points b_near b_loose b_short b_nets b_xs b_ys) rr := by
  refine Ci.of (by decide) (Nat.le_of_ble_eq_true rfl) ?_
  intro x hE C
  subst hE
  have C : CX RX1 cX1_way 3 (some .int) x := C
  refine p_locals [0, 1, 2] (lv' := [(0, .ref ab0), (1, .int p1), (2, .int p2)]) rfl ?_
  unfold m_X1_way at h
  refine p_aload_n C dX1_way_0 rfl 0 rfl ?_
  refine p_getN C dX1_way_1 rfl 0 1 inlX0 nf_X1_45 rfl rfl (by decide) rfl rfl ?_
  refine p_iload_n C dX1_way_4 rfl 2 rfl ?_
  obtain ⟨g1, h⟩ := grd_of h
  refine p_iald C dX1_way_5 rfl 2 rfl g1 ?_
  refine p_aload_n C dX1_way_6 rfl 0 rfl ?_
  refine p_getN C dX1_way_7 rfl 0 1 inlX0 nf_X1_45 rfl rfl (by decide) rfl rfl ?_
  refine p_iload_n C dX1_way_10 rfl 1 rfl ?_
  obtain ⟨g2, h⟩ := grd_of h
  refine p_iald C dX1_way_11 rfl 2 rfl g2 ?_
  refine p_isub C dX1_way_12 rfl ?_
  refine p_aload_n C dX1_way_13 rfl 0 rfl ?_
  refine p_getN C dX1_way_14 rfl 0 2 inlX0 nf_X1_50 rfl rfl (by decide) rfl rfl ?_
  refine p_iload_n C dX1_way_17 rfl 2 rfl ?_
  obtain ⟨g3, h⟩ := grd_of h
  refine p_iald C dX1_way_18 rfl 3 rfl g3 ?_
  refine p_aload_n C dX1_way_19 rfl 0 rfl ?_
  refine p_getN C dX1_way_20 rfl 0 2 inlX0 nf_X1_50 rfl rfl (by decide) rfl rfl ?_
  refine p_iload_n C dX1_way_23 rfl 1 rfl ?_
  obtain ⟨g4, h⟩ := grd_of h
  refine p_iald C dX1_way_24 rfl 3 rfl g4 ?_
  refine p_isub C dX1_way_25 rfl ?_
  obtain ⟨r5, hc6, h⟩ := bd1_of h
  refine p_callSi (As := [.int ((b_xs p2.toNatClampNeg) - (b_xs p1.toNatClampNeg)), .int ((b_ys p2.toNatClampNeg) - (b_ys p1.toNatClampNeg))]) (st' := []) (Wd' := (V_B x.1.2.2 ab0 ab1 ab2 ab3 b_points b_near b_loose b_short b_nets b_xs b_ys)) C (c_X1_longer x.1 hc6) dX1_way_26 rfl ml_X1_53 ks_X1_longer ds_X1_longer ⟨rfl, rfl, by decide, by decide⟩ [] rfl rfl rfl rfl (by decide) ⟨by decide, by decide⟩ rfl ?_
  cases h
  exact p_iret C dX1_way_29
def B_X1_measure_88 (n_total : Int32) (n_planned : Int32) (b_xs : Ar) (b_ys : Ar) (t_total : Int32) (t_left : Ar) (t_right : Ar) (k15 : Int32 → Ar → Option (Int32 × Int32 × Ar)) (v3 : Int32) (v4 : Int32) (v5 : Int32) (kk : Int32 → Ar → Option (Int32 × Int32 × Ar)) (v6 : Int32) (n_leaps : Ar) : Option (Int32 × Int32 × Ar) := if n_total ≤ v6 then (k15 (v3 + 1) n_leaps) else (grd (gI v6 10) (bd1 (m_X1_way b_xs b_ys (t_left v6.toNatClampNeg) v4) (fun r3 => grd (gI v6 10) (bd1 (m_X1_way b_xs b_ys (t_right v6.toNatClampNeg) v5) (fun r6 => grd (gI (((v6 + ((1 : Int32))) * ((10 : Int32))) + v3) 110) (kk (v6 + 1) (upd n_leaps (((v6 + ((1 : Int32))) * ((10 : Int32))) + v3).toNatClampNeg (if r3 < r6 then r6 else r3))))))))
def L_X1_measure_88 (n_total : Int32) (n_planned : Int32) (b_xs : Ar) (b_ys : Ar) (t_total : Int32) (t_left : Ar) (t_right : Ar) (k15 : Int32 → Ar → Option (Int32 × Int32 × Ar)) (v3 : Int32) (v4 : Int32) (v5 : Int32) : Nat → Int32 → Ar → Option (Int32 × Int32 × Ar) := lpG (fun _ _ => none) (B_X1_measure_88 n_total n_planned b_xs b_ys t_total t_left t_right k15 v3 v4 v5)
set_option maxHeartbeats 4000000 in
set_option maxRecDepth 100000 in
theorem tl_X1_measure_88 {x : Cxt} {an0 an1 an2 anb0 anb1 ann0 ann1 ab0 ab1 ab2 ab3 at0 at1 at2 at3 at4 : Nat} {n_total : Int32} {n_planned : Int32} {n_onward : Ar} {nb_len : Int32} {nb_sum : Int32} {nb_tries : Ar} {nn_len : Int32} {nn_sum : Int32} {nn_tries : Ar} {b_points : Int32} {b_near : Int32} {b_loose : Int32} {b_short : Int32} {b_nets : Ar} {b_xs : Ar} {b_ys : Ar} {t_total : Int32} {t_oft : Int32} {t_left : Ar} {t_right : Ar} {t_group : Ar} {t_paired : Ar} {k15 : Int32 → Ar → Option (Int32 × Int32 × Ar)} {v3 : Int32} {v4 : Int32} {v5 : Int32} {q_n_total : Int32} {q_n_planned : Int32} {q_n_leaps : Ar} (C : CX RX1 cX1_measure 7 none x) (hk15 : ∀ (w3 : Int32) (w_n_leaps : Ar), k15 w3 w_n_leaps = some (q_n_total, q_n_planned, q_n_leaps) → PT (RM 3 64) 7 x 15 [(0, .ref an0), (1, .ref ab0), (2, .ref at0), (3, .int w3)] [] (V_NBT x.1.2.2 an0 an1 an2 anb0 anb1 ann0 ann1 ab0 ab1 ab2 ab3 at0 at1 at2 at3 at4 n_total n_planned w_n_leaps n_onward nb_len nb_sum nb_tries nn_len nn_sum nn_tries b_points b_near b_loose b_short b_nets b_xs b_ys t_total t_oft t_left t_right t_group t_paired) 0 0 (QV x (V_NBT x.1.2.2 an0 an1 an2 anb0 anb1 ann0 ann1 ab0 ab1 ab2 ab3 at0 at1 at2 at3 at4 q_n_total q_n_planned q_n_leaps n_onward nb_len nb_sum nb_tries nn_len nn_sum nn_tries b_points b_near b_loose b_short b_nets b_xs b_ys t_total t_oft t_left t_right t_group t_paired))) : ∀ (n : Nat) (v6 : Int32) (n_leaps : Ar), L_X1_measure_88 n_total n_planned b_xs b_ys t_total t_left t_right k15 v3 v4 v5 n v6 n_leaps = some (q_n_total, q_n_planned, q_n_leaps) → PT (RM 3 64) 7 x 88 [(0, .ref an0), (1, .ref ab0), (2, .ref at0), (3, .int v3), (4, .int v4), (5, .int v5), (6, .int v6)] [] (V_NBT x.1.2.2 an0 an1 an2 anb0 anb1 ann0 ann1 ab0 ab1 ab2 ab3 at0 at1 at2 at3 at4 n_total n_planned n_leaps n_onward nb_len nb_sum nb_tries nn_len nn_sum nn_tries b_points b_near b_loose b_short b_nets b_xs b_ys t_total t_oft t_left t_right t_group t_paired) 0 0 (QV x (V_NBT x.1.2.2 an0 an1 an2 anb0 anb1 ann0 ann1 ab0 ab1 ab2 ab3 at0 at1 at2 at3 at4 q_n_total q_n_planned q_n_leaps n_onward nb_len nb_sum nb_tries nn_len nn_sum nn_tries b_points b_near b_loose b_short b_nets b_xs b_ys t_total t_oft t_left t_right t_group t_paired)) := by
  intro n
  induction n with
  | zero =>
    intro v6 n_leaps h
    cases h
  | succ n ih =>
    intro v6 n_leaps h
    have h : B_X1_measure_88 n_total n_planned b_xs b_ys t_total t_left t_right k15 v3 v4 v5 (L_X1_measure_88 n_total n_planned b_xs b_ys t_total t_left t_right k15 v3 v4 v5 n) v6 n_leaps = some (q_n_total, q_n_planned, q_n_leaps) := h
    unfold B_X1_measure_88 at h
    refine p_iload C dX1_measure_88 rfl 6 rfl ?_
    refine p_aload_n C dX1_measure_90 rfl 0 rfl ?_
    refine p_get C dX1_measure_91 rfl 0 0 inlX1 fl_X1_9 rfl rfl (by decide) rfl rfl ?_
    refine p_icmp_ge C dX1_measure_94 (tgt := 146) (by decide) rfl (fun c1 => ?_) (fun c1 => ?_)
    · have h := if_t c1 h
      refine p_iinc (w := v3 + 1) (lv' := [(3, .int (v3 + 1)), (0, .ref an0), (1, .ref ab0), (2, .ref at0), (4, .int v4), (5, .int v5), (6, .int v6)]) C dX1_measure_146 rfl 3 rfl rfl (by decide) rfl ?_
      refine p_goto C dX1_measure_149 (pc' := 15) (by decide) ?_
      refine p_locals [1, 2, 3, 0] (lv' := [(0, .ref an0), (1, .ref ab0), (2, .ref at0), (3, .int (v3 + 1))]) rfl ?_
      exact hk15 _ _ h
    · have h := if_f c1 h
      refine p_aload_n C dX1_measure_97 rfl 0 rfl ?_
      refine p_get C dX1_measure_98 rfl 0 1 inlX1 fl_X1_15 rfl rfl (by decide) rfl rfl ?_
      refine p_iload C dX1_measure_101 rfl 6 rfl ?_
      refine p_iconst (v := (1 : Int32)) C dX1_measure_103 rfl (by decide) ?_
      refine p_iadd C dX1_measure_104 rfl ?_
      refine p_bipush (v := (10 : Int32)) C dX1_measure_105 rfl (by decide) ?_
      refine p_imul C dX1_measure_107 rfl ?_
      refine p_iload_n C dX1_measure_108 rfl 3 rfl ?_
      refine p_iadd C dX1_measure_109 rfl ?_
      refine p_aload_n C dX1_measure_110 rfl 1 rfl ?_
      refine p_aload_n C dX1_measure_111 rfl 2 rfl ?_
      refine p_getN C dX1_measure_112 rfl 11 0 inlX4 nf_X1_39 rfl rfl (by decide) rfl rfl ?_
      refine p_iload C dX1_measure_115 rfl 6 rfl ?_
      obtain ⟨g2, h⟩ := grd_of h
      refine p_iald C dX1_measure_117 rfl 12 rfl g2 ?_
      refine p_iload C dX1_measure_118 rfl 4 rfl ?_
      obtain ⟨r3, hc4, h⟩ := bd1_of h
      refine p_callSi (As := [.ref ab0, .int (t_left v6.toNatClampNeg), .int v4]) (st' := [.int (((v6 + ((1 : Int32))) * ((10 : Int32))) + v3), .ref an1]) (Wd' := (V_NBT x.1.2.2 an0 an1 an2 anb0 anb1 ann0 ann1 ab0 ab1 ab2 ab3 at0 at1 at2 at3 at4 n_total n_planned n_leaps n_onward nb_len nb_sum nb_tries nn_len nn_sum nn_tries b_points b_near b_loose b_short b_nets b_xs b_ys t_total t_oft t_left t_right t_group t_paired)) C (c_X1_way x.1 (ab0 := ab0) (ab1 := ab1) (ab2 := ab2) (ab3 := ab3) (b_points := b_points) (b_near := b_near) (b_loose := b_loose) (b_short := b_short) (b_nets := b_nets) hc4) dX1_measure_120 rfl ml_X1_62 ks_X1_way ds_X1_way ⟨rfl, rfl, by decide, by decide⟩ [7, 8, 9, 10] rfl rfl rfl rfl (Nat.le_of_ble_eq_true rfl) ⟨by decide, by decide⟩ rfl ?_
      refine p_aload_n C dX1_measure_123 rfl 1 rfl ?_
      refine p_aload_n C dX1_measure_124 rfl 2 rfl ?_
      refine p_getN C dX1_measure_125 rfl 11 1 inlX4 nf_X1_42 rfl rfl (by decide) rfl rfl ?_
      refine p_iload C dX1_measure_128 rfl 6 rfl ?_
      obtain ⟨g5, h⟩ := grd_of h
      refine p_iald C dX1_measure_130 rfl 13 rfl g5 ?_
      refine p_iload C dX1_measure_131 rfl 5 rfl ?_
      obtain ⟨r6, hc7, h⟩ := bd1_of h
      refine p_callSi (As := [.ref ab0, .int (t_right v6.toNatClampNeg), .int v5]) (st' := [.int r3, .int (((v6 + ((1 : Int32))) * ((10 : Int32))) + v3), .ref an1]) (Wd' := (V_NBT x.1.2.2 an0 an1 an2 anb0 anb1 ann0 ann1 ab0 ab1 ab2 ab3 at0 at1 at2 at3 at4 n_total n_planned n_leaps n_onward nb_len nb_sum nb_tries nn_len nn_sum nn_tries b_points b_near b_loose b_short b_nets b_xs b_ys t_total t_oft t_left t_right t_group t_paired)) C (c_X1_way x.1 (ab0 := ab0) (ab1 := ab1) (ab2 := ab2) (ab3 := ab3) (b_points := b_points) (b_near := b_near) (b_loose := b_loose) (b_short := b_short) (b_nets := b_nets) hc7) dX1_measure_133 rfl ml_X1_62 ks_X1_way ds_X1_way ⟨rfl, rfl, by decide, by decide⟩ [7, 8, 9, 10] rfl rfl rfl rfl (Nat.le_of_ble_eq_true rfl) ⟨by decide, by decide⟩ rfl ?_
      refine p_mmax C dX1_measure_136 rfl ml_X1_57 ks_Math_max ⟨by decide, Nat.le_of_ble_eq_true rfl⟩ ⟨by decide, by decide⟩ ?_
      obtain ⟨g8, h⟩ := grd_of h
      refine p_iast (Wd' := (V_NBT x.1.2.2 an0 an1 an2 anb0 anb1 ann0 ann1 ab0 ab1 ab2 ab3 at0 at1 at2 at3 at4 n_total n_planned (upd n_leaps (((v6 + ((1 : Int32))) * ((10 : Int32))) + v3).toNatClampNeg (if r3 < r6 then r6 else r3)) n_onward nb_len nb_sum nb_tries nn_len nn_sum nn_tries b_points b_near b_loose b_short b_nets b_xs b_ys t_total t_oft t_left t_right t_group t_paired)) C dX1_measure_139 rfl 1 rfl g8 rfl ?_
      refine p_iinc (w := v6 + 1) (lv' := [(6, .int (v6 + 1)), (0, .ref an0), (1, .ref ab0), (2, .ref at0), (3, .int v3), (4, .int v4), (5, .int v5)]) C dX1_measure_140 rfl 6 rfl rfl (by decide) rfl ?_
      refine p_goto C dX1_measure_143 (pc' := 88) (by decide) ?_
      refine p_locals [1, 2, 3, 4, 5, 6, 0] (lv' := [(0, .ref an0), (1, .ref ab0), (2, .ref at0), (3, .int v3), (4, .int v4), (5, .int v5), (6, .int (v6 + 1))]) rfl ?_
      exact ih _ _ h
def B_X1_measure_15 (n_total : Int32) (n_planned : Int32) (b_xs : Ar) (b_ys : Ar) (t_total : Int32) (t_left : Ar) (t_right : Ar)   (kk : Int32 → Ar → Option (Int32 × Int32 × Ar)) (v3 : Int32) (n_leaps : Ar) : Option (Int32 × Int32 × Ar) := if n_total ≤ v3 then (some (n_total, n_planned, n_leaps)) else (grd (gI v3 10) (grd (gI v3 10) (grd (gI (t_left v3.toNatClampNeg) 8) (grd (gI (t_left v3.toNatClampNeg) 8) (bd1 (m_X1_longer (b_xs (t_left v3.toNatClampNeg).toNatClampNeg) (b_ys (t_left v3.toNatClampNeg).toNatClampNeg)) (fun r6 => grd (gI (t_right v3.toNatClampNeg) 8) (grd (gI (t_right v3.toNatClampNeg) 8) (bd1 (m_X1_longer ((b_xs (t_right v3.toNatClampNeg).toNatClampNeg) - ((20 : Int32))) (b_ys (t_right v3.toNatClampNeg).toNatClampNeg)) (fun r10 => grd (gI v3 110) (L_X1_measure_88 n_total n_planned b_xs b_ys t_total t_left t_right kk v3 (t_left v3.toNatClampNeg) (t_right v3.toNatClampNeg) FU ((0 : Int32)) (upd n_leaps v3.toNatClampNeg (if r6 < r10 then r10 else r6))))))))))))
def L_X1_measure_15 (n_total : Int32) (n_planned : Int32) (b_xs : Ar) (b_ys : Ar) (t_total : Int32) (t_left : Ar) (t_right : Ar)   : Nat → Int32 → Ar → Option (Int32 × Int32 × Ar) := lpG (fun _ _ => none) (B_X1_measure_15 n_total n_planned b_xs b_ys t_total t_left t_right)
set_option maxHeartbeats 4000000 in
set_option maxRecDepth 100000 in
theorem tl_X1_measure_15 {x : Cxt} {an0 an1 an2 anb0 anb1 ann0 ann1 ab0 ab1 ab2 ab3 at0 at1 at2 at3 at4 : Nat} {n_total : Int32} {n_planned : Int32} {n_onward : Ar} {nb_len : Int32} {nb_sum : Int32} {nb_tries : Ar} {nn_len : Int32} {nn_sum : Int32} {nn_tries : Ar} {b_points : Int32} {b_near : Int32} {b_loose : Int32} {b_short : Int32} {b_nets : Ar} {b_xs : Ar} {b_ys : Ar} {t_total : Int32} {t_oft : Int32} {t_left : Ar} {t_right : Ar} {t_group : Ar} {t_paired : Ar}   {q_n_total : Int32} {q_n_planned : Int32} {q_n_leaps : Ar} (C : CX RX1 cX1_measure 7 none x)  : ∀ (n : Nat) (v3 : Int32) (n_leaps : Ar), L_X1_measure_15 n_total n_planned b_xs b_ys t_total t_left t_right n v3 n_leaps = some (q_n_total, q_n_planned, q_n_leaps) → PT (RM 3 64) 7 x 15 [(0, .ref an0), (1, .ref ab0), (2, .ref at0), (3, .int v3)] [] (V_NBT x.1.2.2 an0 an1 an2 anb0 anb1 ann0 ann1 ab0 ab1 ab2 ab3 at0 at1 at2 at3 at4 n_total n_planned n_leaps n_onward nb_len nb_sum nb_tries nn_len nn_sum nn_tries b_points b_near b_loose b_short b_nets b_xs b_ys t_total t_oft t_left t_right t_group t_paired) 0 0 (QV x (V_NBT x.1.2.2 an0 an1 an2 anb0 anb1 ann0 ann1 ab0 ab1 ab2 ab3 at0 at1 at2 at3 at4 q_n_total q_n_planned q_n_leaps n_onward nb_len nb_sum nb_tries nn_len nn_sum nn_tries b_points b_near b_loose b_short b_nets b_xs b_ys t_total t_oft t_left t_right t_group t_paired)) := by
  intro n
  induction n with
  | zero =>
    intro v3 n_leaps h
    cases h
  | succ n ih =>
    intro v3 n_leaps h
    have h : B_X1_measure_15 n_total n_planned b_xs b_ys t_total t_left t_right (L_X1_measure_15 n_total n_planned b_xs b_ys t_total t_left t_right n) v3 n_leaps = some (q_n_total, q_n_planned, q_n_leaps) := h
    unfold B_X1_measure_15 at h
    refine p_iload_n C dX1_measure_15 rfl 3 rfl ?_
    refine p_aload_n C dX1_measure_16 rfl 0 rfl ?_
    refine p_get C dX1_measure_17 rfl 0 0 inlX1 fl_X1_9 rfl rfl (by decide) rfl rfl ?_
    refine p_icmp_ge C dX1_measure_20 (tgt := 152) (by decide) rfl (fun c1 => ?_) (fun c1 => ?_)
    · have h := if_t c1 h
      cases h
      exact p_vret C dX1_measure_152
    · have h := if_f c1 h
      refine p_aload_n C dX1_measure_23 rfl 2 rfl ?_
      refine p_getN C dX1_measure_24 rfl 11 0 inlX4 nf_X1_39 rfl rfl (by decide) rfl rfl ?_
      refine p_iload_n C dX1_measure_27 rfl 3 rfl ?_
      obtain ⟨g2, h⟩ := grd_of h
      refine p_iald C dX1_measure_28 rfl 12 rfl g2 ?_
      refine p_istore (lv' := [(4, .int (t_left v3.toNatClampNeg)), (0, .ref an0), (1, .ref ab0), (2, .ref at0), (3, .int v3)]) C dX1_measure_29 rfl (by decide) rfl ?_
      refine p_aload_n C dX1_measure_31 rfl 3 rfl ?_
      refine p_getN C dX1_measure_32 rfl 11 1 inlX4 nf_X1_42 rfl rfl (by decide) rfl rfl ?_
      refine p_iload_n C dX1_measure_35 rfl 4 rfl ?_
      obtain ⟨g3, h⟩ := grd_of h
      refine p_iald C dX1_measure_36 rfl 13 rfl g3 ?_
      refine p_istore (lv' := [(5, .int (t_right v3.toNatClampNeg)), (4, .int (t_left v3.toNatClampNeg)), (0, .ref an0), (1, .ref ab0), (2, .ref at0), (3, .int v3)]) C dX1_measure_37 rfl (by decide) rfl ?_
      refine p_aload_n C dX1_measure_39 rfl 2 rfl ?_
      refine p_get C dX1_measure_40 rfl 0 1 inlX1 fl_X1_15 rfl rfl (by decide) rfl rfl ?_
      refine p_iload_n C dX1_measure_43 rfl 5 rfl ?_
      refine p_aload_n C dX1_measure_44 rfl 3 rfl ?_
      refine p_getN C dX1_measure_45 rfl 7 1 inlX0 nf_X1_45 rfl rfl (by decide) rfl rfl ?_
      refine p_iload C dX1_measure_48 rfl 1 rfl ?_
      obtain ⟨g4, h⟩ := grd_of h
      refine p_iald C dX1_measure_50 rfl 9 rfl g4 ?_
      refine p_aload_n C dX1_measure_51 rfl 3 rfl ?_
      refine p_getN C dX1_measure_52 rfl 7 2 inlX0 nf_X1_50 rfl rfl (by decide) rfl rfl ?_
      refine p_iload C dX1_measure_55 rfl 1 rfl ?_
      obtain ⟨g5, h⟩ := grd_of h
      refine p_iald C dX1_measure_57 rfl 10 rfl g5 ?_
      obtain ⟨r6, hc7, h⟩ := bd1_of h
      refine p_callSi (As := [.int (b_xs (t_left v3.toNatClampNeg).toNatClampNeg), .int (b_ys (t_left v3.toNatClampNeg).toNatClampNeg)]) (st' := [.int v3, .ref an1]) (Wd' := (V_NBT x.1.2.2 an0 an1 an2 anb0 anb1 ann0 ann1 ab0 ab1 ab2 ab3 at0 at1 at2 at3 at4 n_total n_planned n_leaps n_onward nb_len nb_sum nb_tries nn_len nn_sum nn_tries b_points b_near b_loose b_short b_nets b_xs b_ys t_total t_oft t_left t_right t_group t_paired)) C (c_X1_longer x.1 hc7) dX1_measure_58 rfl ml_X1_53 ks_X1_longer ds_X1_longer ⟨rfl, rfl, by decide, by decide⟩ [] rfl rfl rfl rfl (Nat.le_of_ble_eq_true rfl) ⟨by decide, by decide⟩ rfl ?_
      refine p_aload_n C dX1_measure_61 rfl 3 rfl ?_
      refine p_getN C dX1_measure_62 rfl 7 1 inlX0 nf_X1_45 rfl rfl (by decide) rfl rfl ?_
      refine p_iload C dX1_measure_65 rfl 0 rfl ?_
      obtain ⟨g8, h⟩ := grd_of h
      refine p_iald C dX1_measure_67 rfl 9 rfl g8 ?_
      refine p_bipush (v := (20 : Int32)) C dX1_measure_68 rfl (by decide) ?_
      refine p_isub C dX1_measure_70 rfl ?_
      refine p_aload_n C dX1_measure_71 rfl 3 rfl ?_
      refine p_getN C dX1_measure_72 rfl 7 2 inlX0 nf_X1_50 rfl rfl (by decide) rfl rfl ?_
      refine p_iload C dX1_measure_75 rfl 0 rfl ?_
      obtain ⟨g9, h⟩ := grd_of h
      refine p_iald C dX1_measure_77 rfl 10 rfl g9 ?_
      obtain ⟨r10, hc11, h⟩ := bd1_of h
      refine p_callSi (As := [.int ((b_xs (t_right v3.toNatClampNeg).toNatClampNeg) - ((20 : Int32))), .int (b_ys (t_right v3.toNatClampNeg).toNatClampNeg)]) (st' := [.int r6, .int v3, .ref an1]) (Wd' := (V_NBT x.1.2.2 an0 an1 an2 anb0 anb1 ann0 ann1 ab0 ab1 ab2 ab3 at0 at1 at2 at3 at4 n_total n_planned n_leaps n_onward nb_len nb_sum nb_tries nn_len nn_sum nn_tries b_points b_near b_loose b_short b_nets b_xs b_ys t_total t_oft t_left t_right t_group t_paired)) C (c_X1_longer x.1 hc11) dX1_measure_78 rfl ml_X1_53 ks_X1_longer ds_X1_longer ⟨rfl, rfl, by decide, by decide⟩ [] rfl rfl rfl rfl (Nat.le_of_ble_eq_true rfl) ⟨by decide, by decide⟩ rfl ?_
      refine p_mmax C dX1_measure_81 rfl ml_X1_57 ks_Math_max ⟨by decide, Nat.le_of_ble_eq_true rfl⟩ ⟨by decide, by decide⟩ ?_
      obtain ⟨g12, h⟩ := grd_of h
      refine p_iast (Wd' := (V_NBT x.1.2.2 an0 an1 an2 anb0 anb1 ann0 ann1 ab0 ab1 ab2 ab3 at0 at1 at2 at3 at4 n_total n_planned (upd n_leaps v3.toNatClampNeg (if r6 < r10 then r10 else r6)) n_onward nb_len nb_sum nb_tries nn_len nn_sum nn_tries b_points b_near b_loose b_short b_nets b_xs b_ys t_total t_oft t_left t_right t_group t_paired)) C dX1_measure_84 rfl 1 rfl g12 rfl ?_
      refine p_iconst (v := (0 : Int32)) C dX1_measure_85 rfl (by decide) ?_
      refine p_istore (lv' := [(6, .int ((0 : Int32))), (5, .int (t_right v3.toNatClampNeg)), (4, .int (t_left v3.toNatClampNeg)), (0, .ref an0), (1, .ref ab0), (2, .ref at0), (3, .int v3)]) C dX1_measure_86 rfl (by decide) rfl ?_
      refine p_locals [3, 4, 5, 6, 2, 1, 0] (lv' := [(0, .ref an0), (1, .ref ab0), (2, .ref at0), (3, .int v3), (4, .int (t_left v3.toNatClampNeg)), (5, .int (t_right v3.toNatClampNeg)), (6, .int ((0 : Int32)))]) rfl ?_
      exact tl_X1_measure_88 C (fun u0 u1 h => ih u0 u1 h) FU _ _ h
def m_X1_measure (n_total : Int32) (n_planned : Int32) (n_leaps : Ar) (b_xs : Ar) (b_ys : Ar) (t_total : Int32) (t_left : Ar) (t_right : Ar)  : Option (Int32 × Int32 × Ar) := L_X1_measure_15 t_total ((0 : Int32)) b_xs b_ys t_total t_left t_right FU ((0 : Int32)) n_leaps
theorem ds_X1_measure : (yX1_measure).cls ≠ "java/lang/invoke/MethodHandle" ∧ (yX1_measure).cls ≠ "java/lang/invoke/VarHandle" ∧ (parseMethodDescriptor (yX1_measure).desc).map (fun d => d.parameters.length) = some 2 := by decide +kernel
set_option maxHeartbeats 4000000 in
set_option maxRecDepth 100000 in
theorem c_X1_measure (E : En) {an0 an1 an2 anb0 anb1 ann0 ann1 ab0 ab1 ab2 ab3 at0 at1 at2 at3 at4 : Nat} {n_total : Int32} {n_planned : Int32} {n_leaps : Ar} {n_onward : Ar} {nb_len : Int32} {nb_sum : Int32} {nb_tries : Ar} {nn_len : Int32} {nn_sum : Int32} {nn_tries : Ar} {b_points : Int32} {b_near : Int32} {b_loose : Int32} {b_short : Int32} {b_nets : Ar} {b_xs : Ar} {b_ys : Ar} {t_total : Int32} {t_oft : Int32} {t_left : Ar} {t_right : Ar} {t_group : Ar} {t_paired : Ar}  {q_n_total : Int32} {q_n_planned : Int32} {q_n_leaps : Ar} (h : m_X1_measure n_total n_planned n_leaps b_xs b_ys t_total t_left t_right = some (q_n_total, q_n_planned, q_n_leaps)) : Cv E yX1_measure (wU yX1_measure cX1_measure 7 none) (RM 3 64) [.ref an0, .ref ab0, .ref at0] (V_NBT E.2.2 an0 an1 an2 anb0 anb1 ann0 ann1 ab0 ab1 ab2 ab3 at0 at1 at2 at3 at4 n_total n_planned n_leaps n_onward nb_len nb_sum nb_tries nn_len nn_sum nn_tries b_points b_near b_loose b_short b_nets b_xs b_ys t_total t_oft t_left t_right t_group t_paired) (V_NBT E.2.2 an0 an1 an2 anb0 anb1 ann0 ann1 ab0 ab1 ab2 ab3 at0 at1 at2 at3 at4 q_n_total q_n_planned q_n_leaps n_onward nb_len nb_sum nb_tries nn_len nn_sum nn_tries b_points b_near b_loose b_short b_nets b_xs b_ys t_total t_oft t_left t_right t_group t_paired) := by
  refine Cv.of (by decide) (Nat.le_of_ble_eq_true rfl) ?_
  intro x hE C
  subst hE
  have C : CX RX1 cX1_measure 7 none x := C
  refine p_locals [0, 1, 2] (lv' := [(0, .ref an0), (1, .ref ab0), (2, .ref at0)]) rfl ?_
  unfold m_X1_measure at h
  refine p_aload_n C dX1_measure_0 rfl 0 rfl ?_
  refine p_aload_n C dX1_measure_1 rfl 2 rfl ?_
  refine p_getN C dX1_measure_2 rfl 11 2 inlX4 nf_X1_36 rfl rfl (by decide) rfl rfl ?_
  refine p_put (Wd' := (V_NBT x.1.2.2 an0 an1 an2 anb0 anb1 ann0 ann1 ab0 ab1 ab2 ab3 at0 at1 at2 at3 at4 t_total n_planned n_leaps n_onward nb_len nb_sum nb_tries nn_len nn_sum nn_tries b_points b_near b_loose b_short b_nets b_xs b_ys t_total t_oft t_left t_right t_group t_paired)) (ty := .int) C dX1_measure_5 rfl 0 0 inlX1 tyX1 tyX1_ok nmX1 fl_X1_9 rfl rfl (by decide) rfl rfl (by decide +kernel) rfl rfl (Nat.le_of_ble_eq_true rfl) rfl ?_
  refine p_aload_n C dX1_measure_8 rfl 0 rfl ?_
  refine p_iconst (v := (0 : Int32)) C dX1_measure_9 rfl (by decide) ?_
  refine p_put (Wd' := (V_NBT x.1.2.2 an0 an1 an2 anb0 anb1 ann0 ann1 ab0 ab1 ab2 ab3 at0 at1 at2 at3 at4 t_total ((0 : Int32)) n_leaps n_onward nb_len nb_sum nb_tries nn_len nn_sum nn_tries b_points b_near b_loose b_short b_nets b_xs b_ys t_total t_oft t_left t_right t_group t_paired)) (ty := .boolean) C dX1_measure_10 rfl 0 5 inlX1 tyX1 tyX1_ok nmX1 fl_X1_32 rfl rfl (by decide) rfl rfl (by decide +kernel) rfl rfl (Nat.le_of_ble_eq_true rfl) rfl ?_
  refine p_iconst (v := (0 : Int32)) C dX1_measure_13 rfl (by decide) ?_
  refine p_istore_n (lv' := [(3, .int ((0 : Int32))), (0, .ref an0), (1, .ref ab0), (2, .ref at0)]) C dX1_measure_14 rfl (by decide) rfl ?_
  refine p_locals [1, 2, 3, 0] (lv' := [(0, .ref an0), (1, .ref ab0), (2, .ref at0), (3, .int ((0 : Int32)))]) rfl ?_
  exact tl_X1_measure_15 C  FU _ _ h
