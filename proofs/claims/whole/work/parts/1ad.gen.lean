def m_X5_isIn  (p0 : Int32) (p1 : Int32) : Option (Int32) := if ((p0 >>> (p1 &&& 31)) &&& ((1 : Int32))) = ((1 : Int32)) then (some ((1 : Int32))) else (some ((0 : Int32)))
theorem ds_X5_isIn : (yX5_isIn).cls ≠ "java/lang/invoke/MethodHandle" ∧ (yX5_isIn).cls ≠ "java/lang/invoke/VarHandle" ∧ (parseMethodDescriptor (yX5_isIn).desc).map (fun d => d.parameters.length) = some 2 := by decide +kernel
set_option maxHeartbeats 4000000 in
set_option maxRecDepth 100000 in
theorem c_X5_isIn (E : En)  {p0 : Int32} {p1 : Int32} {rr : Int32} (h : m_X5_isIn p0 p1 = some rr) : Ci E yX5_isIn (wU yX5_isIn cX5_isIn 2 (some .boolean)) (RM 0 0) [.int p0, .int p1] ([] : va_W) ([] : va_W) rr := by
  refine Ci.of (by decide) (Nat.le_of_ble_eq_true rfl) ?_
  intro x hE C
  subst hE
  have C : CX RX5 cX5_isIn 2 (some .boolean) x := C
  refine p_locals [0, 1] (lv' := [(0, .int p0), (1, .int p1)]) rfl ?_
  unfold m_X5_isIn at h
  refine p_iload_n C dX5_isIn_0 rfl 0 rfl ?_
  refine p_iload_n C dX5_isIn_1 rfl 1 rfl ?_
  refine p_ishr C dX5_isIn_2 rfl ?_
  refine p_iconst (v := (1 : Int32)) C dX5_isIn_3 rfl (by decide) ?_
  refine p_iand C dX5_isIn_4 rfl ?_
  refine p_iconst (v := (1 : Int32)) C dX5_isIn_5 rfl (by decide) ?_
  refine p_icmp_ne C dX5_isIn_6 (tgt := 13) (by decide) rfl (fun c1 => ?_) (fun c1 => ?_)
  · have h := if_f c1 h
    refine p_iconst (v := (0 : Int32)) C dX5_isIn_13 rfl (by decide) ?_
    cases h
    exact p_zret C dX5_isIn_14 rfl
  · have h := if_t c1 h
    refine p_iconst (v := (1 : Int32)) C dX5_isIn_9 rfl (by decide) ?_
    refine p_goto C dX5_isIn_10 (pc' := 14) (by decide) ?_
    cases h
    exact p_zret C dX5_isIn_14 rfl
def J_X1_nearestOf_52 (n_total : Int32) (n_leaps : Ar) (k10 : Int32 → Int32 → Int32 → Option (Int32))  (v1 : Int32) (v2 : Int32) (v3 : Int32) (v4 : Int32) (v5 : Int32) : Option (Int32) := k10 v3 v4 (v5 + 1)
set_option maxHeartbeats 4000000 in
set_option maxRecDepth 100000 in
theorem tj_X1_nearestOf_52 {x : Cxt} {an0 an1 an2 anb0 anb1 ann0 ann1 : Nat} {n_total : Int32} {n_planned : Int32} {n_leaps : Ar} {n_onward : Ar} {nb_len : Int32} {nb_sum : Int32} {nb_tries : Ar} {nn_len : Int32} {nn_sum : Int32} {nn_tries : Ar} {k10 : Int32 → Int32 → Int32 → Option (Int32)}  {v1 : Int32} {v2 : Int32} {v3 : Int32} {v4 : Int32} {v5 : Int32} {rr : Int32} (C : CX RX1 cX1_nearestOf 6 (some .int) x) (hk10 : ∀ (w3 : Int32) (w4 : Int32) (w5 : Int32) , k10 w3 w4 w5 = some rr → PT (RM 1 22) 6 x 10 [(0, .ref an0), (1, .int v1), (2, .int v2), (3, .int w3), (4, .int w4), (5, .int w5)] [] (V_N x.1.2.2 an0 an1 an2 anb0 anb1 ann0 ann1 n_total n_planned n_leaps n_onward nb_len nb_sum nb_tries nn_len nn_sum nn_tries) 0 0 (QI x rr (V_N x.1.2.2 an0 an1 an2 anb0 anb1 ann0 ann1 n_total n_planned n_leaps n_onward nb_len nb_sum nb_tries nn_len nn_sum nn_tries))) (h : J_X1_nearestOf_52 n_total n_leaps k10 v1 v2 v3 v4 v5 = some rr) : PT (RM 1 22) 6 x 52 [(0, .ref an0), (1, .int v1), (2, .int v2), (3, .int v3), (4, .int v4), (5, .int v5)] [] (V_N x.1.2.2 an0 an1 an2 anb0 anb1 ann0 ann1 n_total n_planned n_leaps n_onward nb_len nb_sum nb_tries nn_len nn_sum nn_tries) 0 0 (QI x rr (V_N x.1.2.2 an0 an1 an2 anb0 anb1 ann0 ann1 n_total n_planned n_leaps n_onward nb_len nb_sum nb_tries nn_len nn_sum nn_tries)) := by
  unfold J_X1_nearestOf_52 at h
  refine p_iinc (w := v5 + 1) (lv' := [(5, .int (v5 + 1)), (0, .ref an0), (1, .int v1), (2, .int v2), (3, .int v3), (4, .int v4)]) C dX1_nearestOf_52 rfl 5 rfl rfl (by decide) rfl ?_
  refine p_goto C dX1_nearestOf_55 (pc' := 10) (by decide) ?_
  refine p_locals [1, 2, 3, 4, 5, 0] (lv' := [(0, .ref an0), (1, .int v1), (2, .int v2), (3, .int v3), (4, .int v4), (5, .int (v5 + 1))]) rfl ?_
  exact hk10 _ _ _ h
def B_X1_nearestOf_10 (n_total : Int32) (n_leaps : Ar)  (v1 : Int32) (v2 : Int32) (kk : Int32 → Int32 → Int32 → Option (Int32)) (v3 : Int32) (v4 : Int32) (v5 : Int32)  : Option (Int32) := if n_total ≤ v5 then (some v3) else (bd1 (m_X5_isIn v2 v5) (fun r2 => if r2 = 0 then (J_X1_nearestOf_52 n_total n_leaps (kk) v1 v2 v3 v4 v5) else (bd1 (m_X1_leap n_leaps v1 v5) (fun r5 => if v4 ≤ r5 then (J_X1_nearestOf_52 n_total n_leaps (kk) v1 v2 v3 v4 v5) else (bd1 (m_X1_leap n_leaps v1 v5) (fun r8 => J_X1_nearestOf_52 n_total n_leaps (kk) v1 v2 v5 r8 v5))))))
def L_X1_nearestOf_10 (n_total : Int32) (n_leaps : Ar)  (v1 : Int32) (v2 : Int32) : Nat → Int32 → Int32 → Int32 → Option (Int32) := lpG (fun _ _ _ => none) (B_X1_nearestOf_10 n_total n_leaps v1 v2)
set_option maxHeartbeats 4000000 in
set_option maxRecDepth 100000 in
theorem tl_X1_nearestOf_10 {x : Cxt} {an0 an1 an2 anb0 anb1 ann0 ann1 : Nat} {n_total : Int32} {n_planned : Int32} {n_leaps : Ar} {n_onward : Ar} {nb_len : Int32} {nb_sum : Int32} {nb_tries : Ar} {nn_len : Int32} {nn_sum : Int32} {nn_tries : Ar}  {v1 : Int32} {v2 : Int32} {rr : Int32} (C : CX RX1 cX1_nearestOf 6 (some .int) x)  : ∀ (n : Nat) (v3 : Int32) (v4 : Int32) (v5 : Int32) , L_X1_nearestOf_10 n_total n_leaps v1 v2 n v3 v4 v5 = some rr → PT (RM 1 22) 6 x 10 [(0, .ref an0), (1, .int v1), (2, .int v2), (3, .int v3), (4, .int v4), (5, .int v5)] [] (V_N x.1.2.2 an0 an1 an2 anb0 anb1 ann0 ann1 n_total n_planned n_leaps n_onward nb_len nb_sum nb_tries nn_len nn_sum nn_tries) 0 0 (QI x rr (V_N x.1.2.2 an0 an1 an2 anb0 anb1 ann0 ann1 n_total n_planned n_leaps n_onward nb_len nb_sum nb_tries nn_len nn_sum nn_tries)) := by
  intro n
  induction n with
  | zero =>
    intro v3 v4 v5 h
    cases h
  | succ n ih =>
    intro v3 v4 v5 h
    have h : B_X1_nearestOf_10 n_total n_leaps v1 v2 (L_X1_nearestOf_10 n_total n_leaps v1 v2 n) v3 v4 v5 = some rr := h
    unfold B_X1_nearestOf_10 at h
    refine p_iload C dX1_nearestOf_10 rfl 5 rfl ?_
    refine p_aload_n C dX1_nearestOf_12 rfl 0 rfl ?_
    refine p_get C dX1_nearestOf_13 rfl 0 0 inlX1 fl_X1_9 rfl rfl (by decide) rfl rfl ?_
    refine p_icmp_ge C dX1_nearestOf_16 (tgt := 58) (by decide) rfl (fun c1 => ?_) (fun c1 => ?_)
    · have h := if_t c1 h
      refine p_iload_n C dX1_nearestOf_58 rfl 3 rfl ?_
      cases h
      exact p_iret C dX1_nearestOf_59
    · have h := if_f c1 h
      refine p_iload_n C dX1_nearestOf_19 rfl 2 rfl ?_
      refine p_iload C dX1_nearestOf_20 rfl 5 rfl ?_
      obtain ⟨r2, hc3, h⟩ := bd1_of h
      refine p_callSNi (As := [.int v2, .int v5]) (st' := []) (Wd' := (V_N x.1.2.2 an0 an1 an2 anb0 anb1 ann0 ann1 n_total n_planned n_leaps n_onward nb_len nb_sum nb_tries nn_len nn_sum nn_tries)) C (c_X5_isIn x.1 hc3) dX1_nearestOf_22 rfl nm_X1_97 ks_X5_isIn ds_X5_isIn ⟨rfl, rfl, by decide, by decide⟩ [] rfl rfl rfl rfl (by decide) ⟨by decide, by decide⟩ rfl ?_
      refine p_if_eq C dX1_nearestOf_25 (tgt := 52) (by decide) rfl (fun c4 => ?_) (fun c4 => ?_)
      · have h := if_t c4 h
        refine p_locals [0, 1, 2, 3, 4, 5] (lv' := [(0, .ref an0), (1, .int v1), (2, .int v2), (3, .int v3), (4, .int v4), (5, .int v5)]) rfl ?_
        exact tj_X1_nearestOf_52 C (fun u0 u1 u2 h => ih u0 u1 u2 h) h
      · have h := if_f c4 h
        refine p_aload_n C dX1_nearestOf_28 rfl 0 rfl ?_
        refine p_iload_n C dX1_nearestOf_29 rfl 1 rfl ?_
        refine p_iload C dX1_nearestOf_30 rfl 5 rfl ?_
        obtain ⟨r5, hc6, h⟩ := bd1_of h
        refine p_callVi_s (As := [.int v1, .int v5]) (st' := []) (Wc' := (V_N x.1.2.2 an0 an1 an2 anb0 anb1 ann0 ann1 n_total n_planned n_leaps n_onward nb_len nb_sum nb_tries nn_len nn_sum nn_tries)) C (c_X1_leap x.1 (an0 := an0) (an1 := an1) (an2 := an2) (anb0 := anb0) (anb1 := anb1) (ann0 := ann0) (ann1 := ann1) (n_total := n_total) (n_planned := n_planned) (n_onward := n_onward) (nb_len := nb_len) (nb_sum := nb_sum) (nb_tries := nb_tries) (nn_len := nn_len) (nn_sum := nn_sum) (nn_tries := nn_tries) hc6) dX1_nearestOf_32 rfl ml_X1_90 kv_X1_leap ds_X1_leap ⟨rfl, rfl, by decide, by decide⟩ 0 rfl rfl rfl rfl (by decide) ⟨by decide, by decide⟩ ?_
        refine p_iload C dX1_nearestOf_35 rfl 4 rfl ?_
        refine p_icmp_ge C dX1_nearestOf_37 (tgt := 52) (by decide) rfl (fun c7 => ?_) (fun c7 => ?_)
        · have h := if_t c7 h
          refine p_locals [0, 1, 2, 3, 4, 5] (lv' := [(0, .ref an0), (1, .int v1), (2, .int v2), (3, .int v3), (4, .int v4), (5, .int v5)]) rfl ?_
          exact tj_X1_nearestOf_52 C (fun u0 u1 u2 h => ih u0 u1 u2 h) h
        · have h := if_f c7 h
          refine p_iload C dX1_nearestOf_40 rfl 5 rfl ?_
          refine p_istore_n (lv' := [(3, .int v5), (0, .ref an0), (1, .int v1), (2, .int v2), (4, .int v4), (5, .int v5)]) C dX1_nearestOf_42 rfl (by decide) rfl ?_
          refine p_aload_n C dX1_nearestOf_43 rfl 1 rfl ?_
          refine p_iload_n C dX1_nearestOf_44 rfl 2 rfl ?_
          refine p_iload C dX1_nearestOf_45 rfl 5 rfl ?_
          obtain ⟨r8, hc9, h⟩ := bd1_of h
          refine p_callVi_s (As := [.int v1, .int v5]) (st' := []) (Wc' := (V_N x.1.2.2 an0 an1 an2 anb0 anb1 ann0 ann1 n_total n_planned n_leaps n_onward nb_len nb_sum nb_tries nn_len nn_sum nn_tries)) C (c_X1_leap x.1 (an0 := an0) (an1 := an1) (an2 := an2) (anb0 := anb0) (anb1 := anb1) (ann0 := ann0) (ann1 := ann1) (n_total := n_total) (n_planned := n_planned) (n_onward := n_onward) (nb_len := nb_len) (nb_sum := nb_sum) (nb_tries := nb_tries) (nn_len := nn_len) (nn_sum := nn_sum) (nn_tries := nn_tries) hc9) dX1_nearestOf_47 rfl ml_X1_90 kv_X1_leap ds_X1_leap ⟨rfl, rfl, by decide, by decide⟩ 0 rfl rfl rfl rfl (by decide) ⟨by decide, by decide⟩ ?_
          refine p_istore (lv' := [(4, .int r8), (3, .int v5), (0, .ref an0), (1, .int v1), (2, .int v2), (5, .int v5)]) C dX1_nearestOf_50 rfl (by decide) rfl ?_
          refine p_locals [2, 3, 4, 1, 0, 5] (lv' := [(0, .ref an0), (1, .int v1), (2, .int v2), (3, .int v5), (4, .int r8), (5, .int v5)]) rfl ?_
          exact tj_X1_nearestOf_52 C (fun u0 u1 u2 h => ih u0 u1 u2 h) h
def m_X1_nearestOf (n_total : Int32) (n_leaps : Ar) (p1 : Int32) (p2 : Int32) : Option (Int32) := L_X1_nearestOf_10 n_total n_leaps p1 p2 FU ((0 : Int32)) ((201 : Int32)) ((0 : Int32))
theorem ds_X1_nearestOf : (yX1_nearestOf).cls ≠ "java/lang/invoke/MethodHandle" ∧ (yX1_nearestOf).cls ≠ "java/lang/invoke/VarHandle" ∧ (parseMethodDescriptor (yX1_nearestOf).desc).map (fun d => d.parameters.length) = some 2 := by decide +kernel
set_option maxHeartbeats 4000000 in
set_option maxRecDepth 100000 in
theorem c_X1_nearestOf (E : En) {an0 an1 an2 anb0 anb1 ann0 ann1 : Nat} {n_total : Int32} {n_planned : Int32} {n_leaps : Ar} {n_onward : Ar} {nb_len : Int32} {nb_sum : Int32} {nb_tries : Ar} {nn_len : Int32} {nn_sum : Int32} {nn_tries : Ar} {p1 : Int32} {p2 : Int32} {rr : Int32} (h : m_X1_nearestOf n_total n_leaps p1 p2 = some rr) : Ci E yX1_nearestOf (wU yX1_nearestOf cX1_nearestOf 6 (some .int)) (RM 1 22) [.ref an0, .int p1, .int p2] (V_N E.2.2 an0 an1 an2 anb0 anb1 ann0 ann1 n_total n_planned n_leaps n_onward nb_len nb_sum nb_tries nn_len nn_sum nn_tries) (V_N E.2.2 an0 an1 an2 anb0 anb1 ann0 ann1 n_total n_planned n_leaps n_onward nb_len nb_sum nb_tries nn_len nn_sum nn_tries) rr := by
  refine Ci.of (by decide) (Nat.le_of_ble_eq_true rfl) ?_
  intro x hE C
  subst hE
  have C : CX RX1 cX1_nearestOf 6 (some .int) x := C
  refine p_locals [0, 1, 2] (lv' := [(0, .ref an0), (1, .int p1), (2, .int p2)]) rfl ?_
  unfold m_X1_nearestOf at h
  refine p_iconst (v := (0 : Int32)) C dX1_nearestOf_0 rfl (by decide) ?_
  refine p_istore_n (lv' := [(3, .int ((0 : Int32))), (0, .ref an0), (1, .int p1), (2, .int p2)]) C dX1_nearestOf_1 rfl (by decide) rfl ?_
  refine p_sipush (v := (201 : Int32)) C dX1_nearestOf_2 rfl (by decide) ?_
  refine p_istore (lv' := [(4, .int ((201 : Int32))), (3, .int ((0 : Int32))), (0, .ref an0), (1, .int p1), (2, .int p2)]) C dX1_nearestOf_5 rfl (by decide) rfl ?_
  refine p_iconst (v := (0 : Int32)) C dX1_nearestOf_7 rfl (by decide) ?_
  refine p_istore (lv' := [(5, .int ((0 : Int32))), (4, .int ((201 : Int32))), (3, .int ((0 : Int32))), (0, .ref an0), (1, .int p1), (2, .int p2)]) C dX1_nearestOf_8 rfl (by decide) rfl ?_
  refine p_locals [3, 4, 5, 2, 1, 0] (lv' := [(0, .ref an0), (1, .int p1), (2, .int p2), (3, .int ((0 : Int32))), (4, .int ((201 : Int32))), (5, .int ((0 : Int32)))]) rfl ?_
  exact tl_X1_nearestOf_10 C  FU _ _ _ h
def m_X2_append (o_len : Int32) (o_sum : Int32) (o_tries : Ar) (p1 : Int32) (p2 : Int32) : Option (Int32 × Int32 × Ar) := if o_len < ((10 : Int32)) then (grd (gI o_len 10) (some (o_len + ((1 : Int32)), o_sum + p2, upd o_tries o_len.toNatClampNeg p1))) else (some (o_len, o_sum, o_tries))
theorem ds_X2_append : (yX2_append).cls ≠ "java/lang/invoke/MethodHandle" ∧ (yX2_append).cls ≠ "java/lang/invoke/VarHandle" ∧ (parseMethodDescriptor (yX2_append).desc).map (fun d => d.parameters.length) = some 2 := by decide +kernel
set_option maxHeartbeats 4000000 in
set_option maxRecDepth 100000 in
theorem c_X2_append (E : En) {ao0 ao1 : Nat} {o_len : Int32} {o_sum : Int32} {o_tries : Ar} {p1 : Int32} {p2 : Int32} {q_o_len : Int32} {q_o_sum : Int32} {q_o_tries : Ar} (h : m_X2_append o_len o_sum o_tries p1 p2 = some (q_o_len, q_o_sum, q_o_tries)) : Cv E yX2_append (wU yX2_append cX2_append 3 none) (RM 0 0) [.ref ao0, .int p1, .int p2] (V_O E.2.2 ao0 ao1 o_len o_sum o_tries) (V_O E.2.2 ao0 ao1 q_o_len q_o_sum q_o_tries) := by
  refine Cv.of (by decide) (Nat.le_of_ble_eq_true rfl) ?_
  intro x hE C
  subst hE
  have C : CX RX2 cX2_append 3 none x := C
  refine p_locals [0, 1, 2] (lv' := [(0, .ref ao0), (1, .int p1), (2, .int p2)]) rfl ?_
  unfold m_X2_append at h
  refine p_aload_n C dX2_append_0 rfl 0 rfl ?_
  refine p_get C dX2_append_1 rfl 0 1 inlX2 fl_X2_15 rfl rfl (by decide) rfl rfl ?_
  refine p_bipush (v := (10 : Int32)) C dX2_append_4 rfl (by decide) ?_
  refine p_icmp_lt C dX2_append_6 (tgt := 10) (by decide) rfl (fun c1 => ?_) (fun c1 => ?_)
  · have h := if_t c1 h
    refine p_aload_n C dX2_append_10 rfl 0 rfl ?_
    refine p_get C dX2_append_11 rfl 0 0 inlX2 fl_X2_9 rfl rfl (by decide) rfl rfl ?_
    refine p_aload_n C dX2_append_14 rfl 0 rfl ?_
    refine p_get C dX2_append_15 rfl 0 1 inlX2 fl_X2_15 rfl rfl (by decide) rfl rfl ?_
    refine p_iload_n C dX2_append_18 rfl 1 rfl ?_
    obtain ⟨g2, h⟩ := grd_of h
    refine p_iast (Wd' := (V_O x.1.2.2 ao0 ao1 o_len o_sum (upd o_tries o_len.toNatClampNeg p1))) C dX2_append_19 rfl 1 rfl g2 rfl ?_
    refine p_aload_n C dX2_append_20 rfl 0 rfl ?_
    refine p_dup C dX2_append_21 rfl rfl ?_
    refine p_get C dX2_append_22 rfl 0 1 inlX2 fl_X2_15 rfl rfl (by decide) rfl rfl ?_
    refine p_iconst (v := (1 : Int32)) C dX2_append_25 rfl (by decide) ?_
    refine p_iadd C dX2_append_26 rfl ?_
    refine p_put (Wd' := (V_O x.1.2.2 ao0 ao1 (o_len + ((1 : Int32))) o_sum (upd o_tries o_len.toNatClampNeg p1))) (ty := .int) C dX2_append_27 rfl 0 1 inlX2 tyX2 tyX2_ok nmX2 fl_X2_15 rfl rfl (by decide) rfl rfl (by decide +kernel) rfl rfl (Nat.le_of_ble_eq_true rfl) rfl ?_
    refine p_aload_n C dX2_append_30 rfl 0 rfl ?_
    refine p_dup C dX2_append_31 rfl rfl ?_
    refine p_get C dX2_append_32 rfl 0 2 inlX2 fl_X2_19 rfl rfl (by decide) rfl rfl ?_
    refine p_iload_n C dX2_append_35 rfl 2 rfl ?_
    refine p_iadd C dX2_append_36 rfl ?_
    refine p_put (Wd' := (V_O x.1.2.2 ao0 ao1 (o_len + ((1 : Int32))) (o_sum + p2) (upd o_tries o_len.toNatClampNeg p1))) (ty := .int) C dX2_append_37 rfl 0 2 inlX2 tyX2 tyX2_ok nmX2 fl_X2_19 rfl rfl (by decide) rfl rfl (by decide +kernel) rfl rfl (Nat.le_of_ble_eq_true rfl) rfl ?_
    cases h
    exact p_vret C dX2_append_40
  · have h := if_f c1 h
    cases h
    exact p_vret C dX2_append_9
def m_X2_clear (o_len : Int32) (o_sum : Int32)  : Option (Int32 × Int32) := some ((0 : Int32), (0 : Int32))
theorem ds_X2_clear : (yX2_clear).cls ≠ "java/lang/invoke/MethodHandle" ∧ (yX2_clear).cls ≠ "java/lang/invoke/VarHandle" ∧ (parseMethodDescriptor (yX2_clear).desc).map (fun d => d.parameters.length) = some 0 := by decide +kernel
set_option maxHeartbeats 4000000 in
set_option maxRecDepth 100000 in
theorem c_X2_clear (E : En) {ao0 ao1 : Nat} {o_len : Int32} {o_sum : Int32} {o_tries : Ar}  {q_o_len : Int32} {q_o_sum : Int32} (h : m_X2_clear o_len o_sum = some (q_o_len, q_o_sum)) : Cv E yX2_clear (wU yX2_clear cX2_clear 1 none) (RM 0 0) [.ref ao0] (V_O E.2.2 ao0 ao1 o_len o_sum o_tries) (V_O E.2.2 ao0 ao1 q_o_len q_o_sum o_tries) := by
  refine Cv.of (by decide) (Nat.le_of_ble_eq_true rfl) ?_
  intro x hE C
  subst hE
  have C : CX RX2 cX2_clear 1 none x := C
  refine p_locals [0] (lv' := [(0, .ref ao0)]) rfl ?_
  unfold m_X2_clear at h
  refine p_aload_n C dX2_clear_0 rfl 0 rfl ?_
  refine p_iconst (v := (0 : Int32)) C dX2_clear_1 rfl (by decide) ?_
  refine p_put (Wd' := (V_O x.1.2.2 ao0 ao1 ((0 : Int32)) o_sum o_tries)) (ty := .int) C dX2_clear_2 rfl 0 1 inlX2 tyX2 tyX2_ok nmX2 fl_X2_15 rfl rfl (by decide) rfl rfl (by decide +kernel) rfl rfl (Nat.le_of_ble_eq_true rfl) rfl ?_
  refine p_aload_n C dX2_clear_5 rfl 0 rfl ?_
  refine p_iconst (v := (0 : Int32)) C dX2_clear_6 rfl (by decide) ?_
  refine p_put (Wd' := (V_O x.1.2.2 ao0 ao1 ((0 : Int32)) ((0 : Int32)) o_tries)) (ty := .int) C dX2_clear_7 rfl 0 2 inlX2 tyX2 tyX2_ok nmX2 fl_X2_19 rfl rfl (by decide) rfl rfl (by decide +kernel) rfl rfl (Nat.le_of_ble_eq_true rfl) rfl ?_
  cases h
  exact p_vret C dX2_clear_10
def J_X1_plan_nb_45 (n_total : Int32) (n_leaps : Ar) (n_onward : Ar) (nb_len : Int32) (nb_sum : Int32) (nb_tries : Ar) (k15 : Int32 → Int32 → Int32 → Int32 → Int32 → Ar → Option (Int32 × Int32 × Ar)) (e0 : Int32) (v2 : Int32) (v3 : Int32) (v4 : Int32) (v5 : Int32) : Option (Int32 × Int32 × Ar) := bd1 (m_X1_leap n_leaps v3 e0) (fun r1 => bd3 (m_X2_append nb_len nb_sum nb_tries e0 r1) (fun z_len3 z_sum4 z_tries5 => k15 (e0 + ((1 : Int32))) (v4 &&& ((((1 : Int32)) <<< (e0 &&& 31)) ^^^ ((-1 : Int32)))) (v5 + 1) z_len3 z_sum4 z_tries5))
set_option maxHeartbeats 4000000 in
set_option maxRecDepth 100000 in
theorem tj_X1_plan_nb_45 {x : Cxt} {an0 an1 an2 anb0 anb1 ann0 ann1 : Nat} {n_total : Int32} {n_planned : Int32} {n_leaps : Ar} {n_onward : Ar} {nb_len : Int32} {nb_sum : Int32} {nb_tries : Ar} {nn_len : Int32} {nn_sum : Int32} {nn_tries : Ar} {k15 : Int32 → Int32 → Int32 → Int32 → Int32 → Ar → Option (Int32 × Int32 × Ar)} {e0 : Int32} {v2 : Int32} {v3 : Int32} {v4 : Int32} {v5 : Int32} {q_nb_len : Int32} {q_nb_sum : Int32} {q_nb_tries : Ar} (C : CX RX1 cX1_plan 7 none x) (hk15 : ∀ (w3 : Int32) (w4 : Int32) (w5 : Int32) (w_nb_len : Int32) (w_nb_sum : Int32) (w_nb_tries : Ar), k15 w3 w4 w5 w_nb_len w_nb_sum w_nb_tries = some (q_nb_len, q_nb_sum, q_nb_tries) → PT (RM 2 52) 7 x 15 [(0, .ref an0), (1, .ref anb0), (2, .int v2), (3, .int w3), (4, .int w4), (5, .int w5)] [] (V_N x.1.2.2 an0 an1 an2 anb0 anb1 ann0 ann1 n_total n_planned n_leaps n_onward w_nb_len w_nb_sum w_nb_tries nn_len nn_sum nn_tries) 0 0 (QV x (V_N x.1.2.2 an0 an1 an2 anb0 anb1 ann0 ann1 n_total n_planned n_leaps n_onward q_nb_len q_nb_sum q_nb_tries nn_len nn_sum nn_tries))) (h : J_X1_plan_nb_45 n_total n_leaps n_onward nb_len nb_sum nb_tries k15 e0 v2 v3 v4 v5 = some (q_nb_len, q_nb_sum, q_nb_tries)) : PT (RM 2 52) 7 x 45 [(0, .ref an0), (1, .ref anb0), (2, .int v2), (3, .int v3), (4, .int v4), (5, .int v5)] [.int e0] (V_N x.1.2.2 an0 an1 an2 anb0 anb1 ann0 ann1 n_total n_planned n_leaps n_onward nb_len nb_sum nb_tries nn_len nn_sum nn_tries) 0 0 (QV x (V_N x.1.2.2 an0 an1 an2 anb0 anb1 ann0 ann1 n_total n_planned n_leaps n_onward q_nb_len q_nb_sum q_nb_tries nn_len nn_sum nn_tries)) := by
  unfold J_X1_plan_nb_45 at h
  refine p_istore (lv' := [(6, .int e0), (0, .ref an0), (1, .ref anb0), (2, .int v2), (3, .int v3), (4, .int v4), (5, .int v5)]) C dX1_plan_45 rfl (by decide) rfl ?_
  refine p_aload_n C dX1_plan_47 rfl 2 rfl ?_
  refine p_iload C dX1_plan_48 rfl 0 rfl ?_
  refine p_aload_n C dX1_plan_50 rfl 1 rfl ?_
  refine p_iload_n C dX1_plan_51 rfl 4 rfl ?_
  refine p_iload C dX1_plan_52 rfl 0 rfl ?_
  obtain ⟨r1, hc2, h⟩ := bd1_of h
  refine p_callVi_s (As := [.int v3, .int e0]) (st' := [.int e0, .ref anb0]) (Wc' := (V_N x.1.2.2 an0 an1 an2 anb0 anb1 ann0 ann1 n_total n_planned n_leaps n_onward nb_len nb_sum nb_tries nn_len nn_sum nn_tries)) C (c_X1_leap x.1 (an0 := an0) (an1 := an1) (an2 := an2) (anb0 := anb0) (anb1 := anb1) (ann0 := ann0) (ann1 := ann1) (n_total := n_total) (n_planned := n_planned) (n_onward := n_onward) (nb_len := nb_len) (nb_sum := nb_sum) (nb_tries := nb_tries) (nn_len := nn_len) (nn_sum := nn_sum) (nn_tries := nn_tries) hc2) dX1_plan_54 rfl ml_X1_90 kv_X1_leap ds_X1_leap ⟨rfl, rfl, by decide, by decide⟩ 0 rfl rfl rfl rfl (Nat.le_of_ble_eq_true rfl) ⟨by decide, by decide⟩ ?_
  obtain ⟨z_len3, z_sum4, z_tries5, hc6, h⟩ := bd3_of h
  refine p_callVNv (As := [.int e0, .int r1]) (st' := []) (Wd' := (V_N x.1.2.2 an0 an1 an2 anb0 anb1 ann0 ann1 n_total n_planned n_leaps n_onward z_len3 z_sum4 z_tries5 nn_len nn_sum nn_tries)) C (c_X2_append x.1 (ao0 := anb0) (ao1 := anb1) hc6) dX1_plan_57 rfl nm_X1_93 kv_X2_append ds_X2_append ⟨rfl, rfl, by decide, by decide⟩ 0 rfl rfl [3, 4] rfl rfl rfl rfl (by decide) ⟨by decide, by decide⟩ rfl ?_
  refine p_iload C dX1_plan_60 rfl 5 rfl ?_
  refine p_iconst (v := (1 : Int32)) C dX1_plan_62 rfl (by decide) ?_
  refine p_iload C dX1_plan_63 rfl 0 rfl ?_
  refine p_ishl C dX1_plan_65 rfl ?_
  refine p_iconst (v := (-1 : Int32)) C dX1_plan_66 rfl (by decide) ?_
  refine p_ixor C dX1_plan_67 rfl ?_
  refine p_iand C dX1_plan_68 rfl ?_
  refine p_istore (lv' := [(4, .int (v4 &&& ((((1 : Int32)) <<< (e0 &&& 31)) ^^^ ((-1 : Int32))))), (6, .int e0), (0, .ref an0), (1, .ref anb0), (2, .int v2), (3, .int v3), (5, .int v5)]) C dX1_plan_69 rfl (by decide) rfl ?_
  refine p_iload C dX1_plan_71 rfl 1 rfl ?_
  refine p_iconst (v := (1 : Int32)) C dX1_plan_73 rfl (by decide) ?_
  refine p_iadd C dX1_plan_74 rfl ?_
  refine p_istore_n (lv' := [(3, .int (e0 + ((1 : Int32)))), (4, .int (v4 &&& ((((1 : Int32)) <<< (e0 &&& 31)) ^^^ ((-1 : Int32))))), (6, .int e0), (0, .ref an0), (1, .ref anb0), (2, .int v2), (5, .int v5)]) C dX1_plan_75 rfl (by decide) rfl ?_
  refine p_iinc (w := v5 + 1) (lv' := [(5, .int (v5 + 1)), (3, .int (e0 + ((1 : Int32)))), (4, .int (v4 &&& ((((1 : Int32)) <<< (e0 &&& 31)) ^^^ ((-1 : Int32))))), (6, .int e0), (0, .ref an0), (1, .ref anb0), (2, .int v2)]) C dX1_plan_76 rfl 6 rfl rfl (by decide) rfl ?_
  refine p_goto C dX1_plan_79 (pc' := 15) (by decide) ?_
  refine p_locals [4, 5, 6, 1, 2, 0] (lv' := [(0, .ref an0), (1, .ref anb0), (2, .int v2), (3, .int (e0 + ((1 : Int32)))), (4, .int (v4 &&& ((((1 : Int32)) <<< (e0 &&& 31)) ^^^ ((-1 : Int32))))), (5, .int (v5 + 1))]) rfl ?_
  exact hk15 _ _ _ _ _ _ h
def B_X1_plan_nb_15 (n_total : Int32) (n_leaps : Ar) (n_onward : Ar)  (v2 : Int32) (kk : Int32 → Int32 → Int32 → Int32 → Int32 → Ar → Option (Int32 × Int32 × Ar)) (v3 : Int32) (v4 : Int32) (v5 : Int32) (nb_len : Int32) (nb_sum : Int32) (nb_tries : Ar) : Option (Int32 × Int32 × Ar) := if n_total ≤ v5 then (some (nb_len, nb_sum, nb_tries)) else (if v2 = 0 then (bd1 (m_X1_nearestOf n_total n_leaps v3 v4) (fun r3 => J_X1_plan_nb_45 n_total n_leaps n_onward nb_len nb_sum nb_tries (kk) r3 v2 v3 v4 v5)) else (bd1 (m_X1_firstOfBest n_total n_leaps n_onward v3 v4) (fun r5 => J_X1_plan_nb_45 n_total n_leaps n_onward nb_len nb_sum nb_tries (kk) r5 v2 v3 v4 v5)))
def L_X1_plan_nb_15 (n_total : Int32) (n_leaps : Ar) (n_onward : Ar)  (v2 : Int32) : Nat → Int32 → Int32 → Int32 → Int32 → Int32 → Ar → Option (Int32 × Int32 × Ar) := lpG (fun _ _ _ _ _ _ => none) (B_X1_plan_nb_15 n_total n_leaps n_onward v2)
set_option maxHeartbeats 4000000 in
set_option maxRecDepth 100000 in
theorem tl_X1_plan_nb_15 {x : Cxt} {an0 an1 an2 anb0 anb1 ann0 ann1 : Nat} {n_total : Int32} {n_planned : Int32} {n_leaps : Ar} {n_onward : Ar} {nn_len : Int32} {nn_sum : Int32} {nn_tries : Ar}  {v2 : Int32} {q_nb_len : Int32} {q_nb_sum : Int32} {q_nb_tries : Ar} (C : CX RX1 cX1_plan 7 none x)  : ∀ (n : Nat) (v3 : Int32) (v4 : Int32) (v5 : Int32) (nb_len : Int32) (nb_sum : Int32) (nb_tries : Ar), L_X1_plan_nb_15 n_total n_leaps n_onward v2 n v3 v4 v5 nb_len nb_sum nb_tries = some (q_nb_len, q_nb_sum, q_nb_tries) → PT (RM 2 52) 7 x 15 [(0, .ref an0), (1, .ref anb0), (2, .int v2), (3, .int v3), (4, .int v4), (5, .int v5)] [] (V_N x.1.2.2 an0 an1 an2 anb0 anb1 ann0 ann1 n_total n_planned n_leaps n_onward nb_len nb_sum nb_tries nn_len nn_sum nn_tries) 0 0 (QV x (V_N x.1.2.2 an0 an1 an2 anb0 anb1 ann0 ann1 n_total n_planned n_leaps n_onward q_nb_len q_nb_sum q_nb_tries nn_len nn_sum nn_tries)) := by
  intro n
  induction n with
  | zero =>
    intro v3 v4 v5 nb_len nb_sum nb_tries h
    cases h
  | succ n ih =>
    intro v3 v4 v5 nb_len nb_sum nb_tries h
    have h : B_X1_plan_nb_15 n_total n_leaps n_onward v2 (L_X1_plan_nb_15 n_total n_leaps n_onward v2 n) v3 v4 v5 nb_len nb_sum nb_tries = some (q_nb_len, q_nb_sum, q_nb_tries) := h
    unfold B_X1_plan_nb_15 at h
    refine p_iload C dX1_plan_15 rfl 5 rfl ?_
    refine p_aload_n C dX1_plan_17 rfl 0 rfl ?_
    refine p_get C dX1_plan_18 rfl 0 0 inlX1 fl_X1_9 rfl rfl (by decide) rfl rfl ?_
    refine p_icmp_ge C dX1_plan_21 (tgt := 82) (by decide) rfl (fun c1 => ?_) (fun c1 => ?_)
    · have h := if_t c1 h
      cases h
      exact p_vret C dX1_plan_82
    · have h := if_f c1 h
      refine p_iload_n C dX1_plan_24 rfl 2 rfl ?_
      refine p_if_eq C dX1_plan_25 (tgt := 38) (by decide) rfl (fun c2 => ?_) (fun c2 => ?_)
      · have h := if_t c2 h
        refine p_aload_n C dX1_plan_38 rfl 0 rfl ?_
        refine p_iload_n C dX1_plan_39 rfl 3 rfl ?_
        refine p_iload C dX1_plan_40 rfl 4 rfl ?_
        obtain ⟨r3, hc4, h⟩ := bd1_of h
        refine p_callVi_s (As := [.int v3, .int v4]) (st' := []) (Wc' := (V_N x.1.2.2 an0 an1 an2 anb0 anb1 ann0 ann1 n_total n_planned n_leaps n_onward nb_len nb_sum nb_tries nn_len nn_sum nn_tries)) C (c_X1_nearestOf x.1 (an0 := an0) (an1 := an1) (an2 := an2) (anb0 := anb0) (anb1 := anb1) (ann0 := ann0) (ann1 := ann1) (n_planned := n_planned) (n_onward := n_onward) (nb_len := nb_len) (nb_sum := nb_sum) (nb_tries := nb_tries) (nn_len := nn_len) (nn_sum := nn_sum) (nn_tries := nn_tries) hc4) dX1_plan_42 rfl ml_X1_87 kv_X1_nearestOf ds_X1_nearestOf ⟨rfl, rfl, by decide, by decide⟩ 0 rfl rfl rfl rfl (by decide) ⟨by decide, by decide⟩ ?_
        refine p_locals [0, 1, 2, 3, 4, 5] (lv' := [(0, .ref an0), (1, .ref anb0), (2, .int v2), (3, .int v3), (4, .int v4), (5, .int v5)]) rfl ?_
        exact tj_X1_plan_nb_45 C (fun u0 u1 u2 u3 u4 u5 h => ih u0 u1 u2 u3 u4 u5 h) h
      · have h := if_f c2 h
        refine p_aload_n C dX1_plan_28 rfl 0 rfl ?_
        refine p_iload_n C dX1_plan_29 rfl 3 rfl ?_
        refine p_iload C dX1_plan_30 rfl 4 rfl ?_
        obtain ⟨r5, hc6, h⟩ := bd1_of h
        refine p_callVi_s (As := [.int v3, .int v4]) (st' := []) (Wc' := (V_N x.1.2.2 an0 an1 an2 anb0 anb1 ann0 ann1 n_total n_planned n_leaps n_onward nb_len nb_sum nb_tries nn_len nn_sum nn_tries)) C (c_X1_firstOfBest x.1 (an0 := an0) (an1 := an1) (an2 := an2) (anb0 := anb0) (anb1 := anb1) (ann0 := ann0) (ann1 := ann1) (n_planned := n_planned) (nb_len := nb_len) (nb_sum := nb_sum) (nb_tries := nb_tries) (nn_len := nn_len) (nn_sum := nn_sum) (nn_tries := nn_tries) hc6) dX1_plan_32 rfl ml_X1_84 kv_X1_firstOfBest ds_X1_firstOfBest ⟨rfl, rfl, by decide, by decide⟩ 0 rfl rfl rfl rfl (by decide) ⟨by decide, by decide⟩ ?_
        refine p_goto C dX1_plan_35 (pc' := 45) (by decide) ?_
        refine p_locals [0, 1, 2, 3, 4, 5] (lv' := [(0, .ref an0), (1, .ref anb0), (2, .int v2), (3, .int v3), (4, .int v4), (5, .int v5)]) rfl ?_
        exact tj_X1_plan_nb_45 C (fun u0 u1 u2 u3 u4 u5 h => ih u0 u1 u2 u3 u4 u5 h) h
def m_X1_plan_nb (n_total : Int32) (n_leaps : Ar) (n_onward : Ar) (nb_len : Int32) (nb_sum : Int32) (nb_tries : Ar) (p2 : Int32) : Option (Int32 × Int32 × Ar) := bd2 (m_X2_clear nb_len nb_sum) (fun z_len1 z_sum2 => bd1 (m_X1_allTries n_total) (fun r4 => L_X1_plan_nb_15 n_total n_leaps n_onward p2 FU ((0 : Int32)) r4 ((0 : Int32)) z_len1 z_sum2 nb_tries))
theorem ds_X1_plan : (yX1_plan).cls ≠ "java/lang/invoke/MethodHandle" ∧ (yX1_plan).cls ≠ "java/lang/invoke/VarHandle" ∧ (parseMethodDescriptor (yX1_plan).desc).map (fun d => d.parameters.length) = some 2 := by decide +kernel
set_option maxHeartbeats 4000000 in
set_option maxRecDepth 100000 in
theorem c_X1_plan_nb (E : En) {an0 an1 an2 anb0 anb1 ann0 ann1 : Nat} {n_total : Int32} {n_planned : Int32} {n_leaps : Ar} {n_onward : Ar} {nb_len : Int32} {nb_sum : Int32} {nb_tries : Ar} {nn_len : Int32} {nn_sum : Int32} {nn_tries : Ar} {p2 : Int32} {q_nb_len : Int32} {q_nb_sum : Int32} {q_nb_tries : Ar} (h : m_X1_plan_nb n_total n_leaps n_onward nb_len nb_sum nb_tries p2 = some (q_nb_len, q_nb_sum, q_nb_tries)) : Cv E yX1_plan (wU yX1_plan cX1_plan 7 none) (RM 2 52) [.ref an0, .ref anb0, .int p2] (V_N E.2.2 an0 an1 an2 anb0 anb1 ann0 ann1 n_total n_planned n_leaps n_onward nb_len nb_sum nb_tries nn_len nn_sum nn_tries) (V_N E.2.2 an0 an1 an2 anb0 anb1 ann0 ann1 n_total n_planned n_leaps n_onward q_nb_len q_nb_sum q_nb_tries nn_len nn_sum nn_tries) := by
  refine Cv.of (by decide) (Nat.le_of_ble_eq_true rfl) ?_
  intro x hE C
  subst hE
  have C : CX RX1 cX1_plan 7 none x := C
  refine p_locals [0, 1, 2] (lv' := [(0, .ref an0), (1, .ref anb0), (2, .int p2)]) rfl ?_
  unfold m_X1_plan_nb at h
  refine p_aload_n C dX1_plan_0 rfl 1 rfl ?_
  obtain ⟨z_len1, z_sum2, hc3, h⟩ := bd2_of h
  refine p_callVNv (As := []) (st' := []) (Wd' := (V_N x.1.2.2 an0 an1 an2 anb0 anb1 ann0 ann1 n_total n_planned n_leaps n_onward z_len1 z_sum2 nb_tries nn_len nn_sum nn_tries)) C (c_X2_clear x.1 (ao0 := anb0) (ao1 := anb1) (o_tries := nb_tries) hc3) dX1_plan_1 rfl nm_X1_77 kv_X2_clear ds_X2_clear ⟨rfl, rfl, by decide, by decide⟩ 0 rfl rfl [3, 4] rfl rfl rfl rfl (by decide) ⟨by decide, by decide⟩ rfl ?_
  refine p_iconst (v := (0 : Int32)) C dX1_plan_4 rfl (by decide) ?_
  refine p_istore_n (lv' := [(3, .int ((0 : Int32))), (0, .ref an0), (1, .ref anb0), (2, .int p2)]) C dX1_plan_5 rfl (by decide) rfl ?_
  refine p_aload_n C dX1_plan_6 rfl 1 rfl ?_
  obtain ⟨r4, hc5, h⟩ := bd1_of h
  refine p_callVi_s (As := []) (st' := []) (Wc' := (V_N x.1.2.2 an0 an1 an2 anb0 anb1 ann0 ann1 n_total n_planned n_leaps n_onward z_len1 z_sum2 nb_tries nn_len nn_sum nn_tries)) C (c_X1_allTries x.1 (an0 := an0) (an1 := an1) (an2 := an2) (anb0 := anb0) (anb1 := anb1) (ann0 := ann0) (ann1 := ann1) (n_planned := n_planned) (n_leaps := n_leaps) (n_onward := n_onward) (nb_len := z_len1) (nb_sum := z_sum2) (nb_tries := nb_tries) (nn_len := nn_len) (nn_sum := nn_sum) (nn_tries := nn_tries) hc5) dX1_plan_7 rfl ml_X1_80 kv_X1_allTries ds_X1_allTries ⟨rfl, rfl, by decide, by decide⟩ 0 rfl rfl rfl rfl (by decide) ⟨by decide, by decide⟩ ?_
  refine p_istore (lv' := [(4, .int r4), (3, .int ((0 : Int32))), (0, .ref an0), (1, .ref anb0), (2, .int p2)]) C dX1_plan_10 rfl (by decide) rfl ?_
  refine p_iconst (v := (0 : Int32)) C dX1_plan_12 rfl (by decide) ?_
  refine p_istore (lv' := [(5, .int ((0 : Int32))), (4, .int r4), (3, .int ((0 : Int32))), (0, .ref an0), (1, .ref anb0), (2, .int p2)]) C dX1_plan_13 rfl (by decide) rfl ?_
  refine p_locals [3, 4, 5, 2, 1, 0] (lv' := [(0, .ref an0), (1, .ref anb0), (2, .int p2), (3, .int ((0 : Int32))), (4, .int r4), (5, .int ((0 : Int32)))]) rfl ?_
  exact tl_X1_plan_nb_15 C  FU _ _ _ _ _ _ h
def J_X1_weighOnward_49 (n_total : Int32) (n_leaps : Ar) (n_onward : Ar) (k14 : Int32 → Ar → Option (Ar)) (k7 : Int32 → Ar → Option (Ar))  (v1 : Int32) (v2 : Int32) (v3 : Int32) : Option (Ar) := k14 (v3 + 1) n_onward
set_option maxHeartbeats 4000000 in
set_option maxRecDepth 100000 in
theorem tj_X1_weighOnward_49 {x : Cxt} {an0 an1 an2 anb0 anb1 ann0 ann1 : Nat} {n_total : Int32} {n_planned : Int32} {n_leaps : Ar} {n_onward : Ar} {nb_len : Int32} {nb_sum : Int32} {nb_tries : Ar} {nn_len : Int32} {nn_sum : Int32} {nn_tries : Ar} {k14 : Int32 → Ar → Option (Ar)} {k7 : Int32 → Ar → Option (Ar)}  {v1 : Int32} {v2 : Int32} {v3 : Int32} {q_n_onward : Ar} (C : CX RX1 cX1_weighOnward 4 none x) (hk14 : ∀ (w3 : Int32) (w_n_onward : Ar), k14 w3 w_n_onward = some q_n_onward → PT (RM 1 26) 4 x 14 [(0, .ref an0), (1, .int v1), (2, .int v2), (3, .int w3)] [] (V_N x.1.2.2 an0 an1 an2 anb0 anb1 ann0 ann1 n_total n_planned n_leaps w_n_onward nb_len nb_sum nb_tries nn_len nn_sum nn_tries) 0 0 (QV x (V_N x.1.2.2 an0 an1 an2 anb0 anb1 ann0 ann1 n_total n_planned n_leaps q_n_onward nb_len nb_sum nb_tries nn_len nn_sum nn_tries))) (hk7 : ∀ (w2 : Int32) (w_n_onward : Ar), k7 w2 w_n_onward = some q_n_onward → PT (RM 1 26) 4 x 7 [(0, .ref an0), (1, .int v1), (2, .int w2)] [] (V_N x.1.2.2 an0 an1 an2 anb0 anb1 ann0 ann1 n_total n_planned n_leaps w_n_onward nb_len nb_sum nb_tries nn_len nn_sum nn_tries) 0 0 (QV x (V_N x.1.2.2 an0 an1 an2 anb0 anb1 ann0 ann1 n_total n_planned n_leaps q_n_onward nb_len nb_sum nb_tries nn_len nn_sum nn_tries))) (h : J_X1_weighOnward_49 n_total n_leaps n_onward k14 k7 v1 v2 v3 = some q_n_onward) : PT (RM 1 26) 4 x 49 [(0, .ref an0), (1, .int v1), (2, .int v2), (3, .int v3)] [] (V_N x.1.2.2 an0 an1 an2 anb0 anb1 ann0 ann1 n_total n_planned n_leaps n_onward nb_len nb_sum nb_tries nn_len nn_sum nn_tries) 0 0 (QV x (V_N x.1.2.2 an0 an1 an2 anb0 anb1 ann0 ann1 n_total n_planned n_leaps q_n_onward nb_len nb_sum nb_tries nn_len nn_sum nn_tries)) := by
  unfold J_X1_weighOnward_49 at h
  refine p_iinc (w := v3 + 1) (lv' := [(3, .int (v3 + 1)), (0, .ref an0), (1, .int v1), (2, .int v2)]) C dX1_weighOnward_49 rfl 3 rfl rfl (by decide) rfl ?_
  refine p_goto C dX1_weighOnward_52 (pc' := 14) (by decide) ?_
  refine p_locals [1, 2, 3, 0] (lv' := [(0, .ref an0), (1, .int v1), (2, .int v2), (3, .int (v3 + 1))]) rfl ?_
  exact hk14 _ _ h
def B_X1_weighOnward_14 (n_total : Int32) (n_leaps : Ar) (k7 : Int32 → Ar → Option (Ar)) (v1 : Int32) (v2 : Int32) (kk : Int32 → Ar → Option (Ar)) (v3 : Int32) (n_onward : Ar) : Option (Ar) := if n_total ≤ v3 then (k7 (v2 + 1) n_onward) else (bd1 (m_X5_isIn v2 v3) (fun r2 => if r2 = 0 then (bd1 (m_X1_leastThrough n_total n_leaps n_onward (v3 + ((1 : Int32))) v2) (fun r5 => grd (gI ((v2 * ((10 : Int32))) + v3) 10240) (J_X1_weighOnward_49 n_total n_leaps (upd n_onward ((v2 * ((10 : Int32))) + v3).toNatClampNeg r5) (kk) (k7) v1 v2 v3))) else (J_X1_weighOnward_49 n_total n_leaps n_onward (kk) (k7) v1 v2 v3)))
def L_X1_weighOnward_14 (n_total : Int32) (n_leaps : Ar) (k7 : Int32 → Ar → Option (Ar)) (v1 : Int32) (v2 : Int32) : Nat → Int32 → Ar → Option (Ar) := lpG (fun _ _ => none) (B_X1_weighOnward_14 n_total n_leaps k7 v1 v2)
set_option maxHeartbeats 4000000 in
set_option maxRecDepth 100000 in
theorem tl_X1_weighOnward_14 {x : Cxt} {an0 an1 an2 anb0 anb1 ann0 ann1 : Nat} {n_total : Int32} {n_planned : Int32} {n_leaps : Ar} {nb_len : Int32} {nb_sum : Int32} {nb_tries : Ar} {nn_len : Int32} {nn_sum : Int32} {nn_tries : Ar} {k7 : Int32 → Ar → Option (Ar)} {v1 : Int32} {v2 : Int32} {q_n_onward : Ar} (C : CX RX1 cX1_weighOnward 4 none x) (hk7 : ∀ (w2 : Int32) (w_n_onward : Ar), k7 w2 w_n_onward = some q_n_onward → PT (RM 1 26) 4 x 7 [(0, .ref an0), (1, .int v1), (2, .int w2)] [] (V_N x.1.2.2 an0 an1 an2 anb0 anb1 ann0 ann1 n_total n_planned n_leaps w_n_onward nb_len nb_sum nb_tries nn_len nn_sum nn_tries) 0 0 (QV x (V_N x.1.2.2 an0 an1 an2 anb0 anb1 ann0 ann1 n_total n_planned n_leaps q_n_onward nb_len nb_sum nb_tries nn_len nn_sum nn_tries))) : ∀ (n : Nat) (v3 : Int32) (n_onward : Ar), L_X1_weighOnward_14 n_total n_leaps k7 v1 v2 n v3 n_onward = some q_n_onward → PT (RM 1 26) 4 x 14 [(0, .ref an0), (1, .int v1), (2, .int v2), (3, .int v3)] [] (V_N x.1.2.2 an0 an1 an2 anb0 anb1 ann0 ann1 n_total n_planned n_leaps n_onward nb_len nb_sum nb_tries nn_len nn_sum nn_tries) 0 0 (QV x (V_N x.1.2.2 an0 an1 an2 anb0 anb1 ann0 ann1 n_total n_planned n_leaps q_n_onward nb_len nb_sum nb_tries nn_len nn_sum nn_tries)) := by
  intro n
  induction n with
  | zero =>
    intro v3 n_onward h
    cases h
  | succ n ih =>
    intro v3 n_onward h
    have h : B_X1_weighOnward_14 n_total n_leaps k7 v1 v2 (L_X1_weighOnward_14 n_total n_leaps k7 v1 v2 n) v3 n_onward = some q_n_onward := h
    unfold B_X1_weighOnward_14 at h
    refine p_iload_n C dX1_weighOnward_14 rfl 3 rfl ?_
    refine p_aload_n C dX1_weighOnward_15 rfl 0 rfl ?_
    refine p_get C dX1_weighOnward_16 rfl 0 0 inlX1 fl_X1_9 rfl rfl (by decide) rfl rfl ?_
    refine p_icmp_ge C dX1_weighOnward_19 (tgt := 55) (by decide) rfl (fun c1 => ?_) (fun c1 => ?_)
    · have h := if_t c1 h
      refine p_iinc (w := v2 + 1) (lv' := [(2, .int (v2 + 1)), (0, .ref an0), (1, .int v1), (3, .int v3)]) C dX1_weighOnward_55 rfl 2 rfl rfl (by decide) rfl ?_
      refine p_goto C dX1_weighOnward_58 (pc' := 7) (by decide) ?_
      refine p_locals [1, 2, 0] (lv' := [(0, .ref an0), (1, .int v1), (2, .int (v2 + 1))]) rfl ?_
      exact hk7 _ _ h
    · have h := if_f c1 h
      refine p_iload_n C dX1_weighOnward_22 rfl 2 rfl ?_
      refine p_iload_n C dX1_weighOnward_23 rfl 3 rfl ?_
      obtain ⟨r2, hc3, h⟩ := bd1_of h
      refine p_callSNi (As := [.int v2, .int v3]) (st' := []) (Wd' := (V_N x.1.2.2 an0 an1 an2 anb0 anb1 ann0 ann1 n_total n_planned n_leaps n_onward nb_len nb_sum nb_tries nn_len nn_sum nn_tries)) C (c_X5_isIn x.1 hc3) dX1_weighOnward_24 rfl nm_X1_97 ks_X5_isIn ds_X5_isIn ⟨rfl, rfl, by decide, by decide⟩ [] rfl rfl rfl rfl (by decide) ⟨by decide, by decide⟩ rfl ?_
      refine p_if_ne C dX1_weighOnward_27 (tgt := 49) (by decide) rfl (fun c4 => ?_) (fun c4 => ?_)
      · have h := if_f c4 h
        refine p_locals [0, 1, 2, 3] (lv' := [(0, .ref an0), (1, .int v1), (2, .int v2), (3, .int v3)]) rfl ?_
        exact tj_X1_weighOnward_49 C (fun u0 u1 h => ih u0 u1 h) (fun u0 u1 h => hk7 u0 u1 h) h
      · have h := if_t c4 h
        refine p_aload_n C dX1_weighOnward_30 rfl 0 rfl ?_
        refine p_get C dX1_weighOnward_31 rfl 0 2 inlX1 fl_X1_19 rfl rfl (by decide) rfl rfl ?_
        refine p_iload_n C dX1_weighOnward_34 rfl 2 rfl ?_
        refine p_bipush (v := (10 : Int32)) C dX1_weighOnward_35 rfl (by decide) ?_
        refine p_imul C dX1_weighOnward_37 rfl ?_
        refine p_iload_n C dX1_weighOnward_38 rfl 3 rfl ?_
        refine p_iadd C dX1_weighOnward_39 rfl ?_
        refine p_aload_n C dX1_weighOnward_40 rfl 0 rfl ?_
        refine p_iload_n C dX1_weighOnward_41 rfl 3 rfl ?_
        refine p_iconst (v := (1 : Int32)) C dX1_weighOnward_42 rfl (by decide) ?_
        refine p_iadd C dX1_weighOnward_43 rfl ?_
        refine p_iload_n C dX1_weighOnward_44 rfl 2 rfl ?_
        obtain ⟨r5, hc6, h⟩ := bd1_of h
        refine p_callVi_s (As := [.int (v3 + ((1 : Int32))), .int v2]) (st' := [.int ((v2 * ((10 : Int32))) + v3), .ref an2]) (Wc' := (V_N x.1.2.2 an0 an1 an2 anb0 anb1 ann0 ann1 n_total n_planned n_leaps n_onward nb_len nb_sum nb_tries nn_len nn_sum nn_tries)) C (c_X1_leastThrough x.1 (an0 := an0) (an1 := an1) (an2 := an2) (anb0 := anb0) (anb1 := anb1) (ann0 := ann0) (ann1 := ann1) (n_planned := n_planned) (nb_len := nb_len) (nb_sum := nb_sum) (nb_tries := nb_tries) (nn_len := nn_len) (nn_sum := nn_sum) (nn_tries := nn_tries) hc6) dX1_weighOnward_45 rfl ml_X1_101 kv_X1_leastThrough ds_X1_leastThrough ⟨rfl, rfl, by decide, by decide⟩ 0 rfl rfl rfl rfl (Nat.le_of_ble_eq_true rfl) ⟨by decide, by decide⟩ ?_
        obtain ⟨g7, h⟩ := grd_of h
        refine p_iast (Wd' := (V_N x.1.2.2 an0 an1 an2 anb0 anb1 ann0 ann1 n_total n_planned n_leaps (upd n_onward ((v2 * ((10 : Int32))) + v3).toNatClampNeg r5) nb_len nb_sum nb_tries nn_len nn_sum nn_tries)) C dX1_weighOnward_48 rfl 2 rfl g7 rfl ?_
        refine p_locals [0, 1, 2, 3] (lv' := [(0, .ref an0), (1, .int v1), (2, .int v2), (3, .int v3)]) rfl ?_
        exact tj_X1_weighOnward_49 C (fun u0 u1 h => ih u0 u1 h) (fun u0 u1 h => hk7 u0 u1 h) h
def B_X1_weighOnward_7 (n_total : Int32) (n_leaps : Ar)  (v1 : Int32) (kk : Int32 → Ar → Option (Ar)) (v2 : Int32) (n_onward : Ar) : Option (Ar) := if v1 < v2 then (some n_onward) else (L_X1_weighOnward_14 n_total n_leaps kk v1 v2 FU ((0 : Int32)) n_onward)
def L_X1_weighOnward_7 (n_total : Int32) (n_leaps : Ar)  (v1 : Int32) : Nat → Int32 → Ar → Option (Ar) := lpG (fun _ _ => none) (B_X1_weighOnward_7 n_total n_leaps v1)
set_option maxHeartbeats 4000000 in
set_option maxRecDepth 100000 in
theorem tl_X1_weighOnward_7 {x : Cxt} {an0 an1 an2 anb0 anb1 ann0 ann1 : Nat} {n_total : Int32} {n_planned : Int32} {n_leaps : Ar} {nb_len : Int32} {nb_sum : Int32} {nb_tries : Ar} {nn_len : Int32} {nn_sum : Int32} {nn_tries : Ar}  {v1 : Int32} {q_n_onward : Ar} (C : CX RX1 cX1_weighOnward 4 none x)  : ∀ (n : Nat) (v2 : Int32) (n_onward : Ar), L_X1_weighOnward_7 n_total n_leaps v1 n v2 n_onward = some q_n_onward → PT (RM 1 26) 4 x 7 [(0, .ref an0), (1, .int v1), (2, .int v2)] [] (V_N x.1.2.2 an0 an1 an2 anb0 anb1 ann0 ann1 n_total n_planned n_leaps n_onward nb_len nb_sum nb_tries nn_len nn_sum nn_tries) 0 0 (QV x (V_N x.1.2.2 an0 an1 an2 anb0 anb1 ann0 ann1 n_total n_planned n_leaps q_n_onward nb_len nb_sum nb_tries nn_len nn_sum nn_tries)) := by
  intro n
  induction n with
  | zero =>
    intro v2 n_onward h
    cases h
  | succ n ih =>
    intro v2 n_onward h
    have h : B_X1_weighOnward_7 n_total n_leaps v1 (L_X1_weighOnward_7 n_total n_leaps v1 n) v2 n_onward = some q_n_onward := h
    unfold B_X1_weighOnward_7 at h
    refine p_iload_n C dX1_weighOnward_7 rfl 2 rfl ?_
    refine p_iload_n C dX1_weighOnward_8 rfl 1 rfl ?_
    refine p_icmp_gt C dX1_weighOnward_9 (tgt := 61) (by decide) rfl (fun c1 => ?_) (fun c1 => ?_)
    · have h := if_t c1 h
      cases h
      exact p_vret C dX1_weighOnward_61
    · have h := if_f c1 h
      refine p_iconst (v := (0 : Int32)) C dX1_weighOnward_12 rfl (by decide) ?_
      refine p_istore_n (lv' := [(3, .int ((0 : Int32))), (0, .ref an0), (1, .int v1), (2, .int v2)]) C dX1_weighOnward_13 rfl (by decide) rfl ?_
      refine p_locals [1, 2, 3, 0] (lv' := [(0, .ref an0), (1, .int v1), (2, .int v2), (3, .int ((0 : Int32)))]) rfl ?_
      exact tl_X1_weighOnward_14 C (fun u0 u1 h => ih u0 u1 h) FU _ _ h
def m_X1_weighOnward (n_total : Int32) (n_leaps : Ar) (n_onward : Ar)  : Option (Ar) := bd1 (m_X1_allTries n_total) (fun r1 => L_X1_weighOnward_7 n_total n_leaps r1 FU ((1 : Int32)) n_onward)
theorem ds_X1_weighOnward : (yX1_weighOnward).cls ≠ "java/lang/invoke/MethodHandle" ∧ (yX1_weighOnward).cls ≠ "java/lang/invoke/VarHandle" ∧ (parseMethodDescriptor (yX1_weighOnward).desc).map (fun d => d.parameters.length) = some 0 := by decide +kernel
set_option maxHeartbeats 4000000 in
set_option maxRecDepth 100000 in
theorem c_X1_weighOnward (E : En) {an0 an1 an2 anb0 anb1 ann0 ann1 : Nat} {n_total : Int32} {n_planned : Int32} {n_leaps : Ar} {n_onward : Ar} {nb_len : Int32} {nb_sum : Int32} {nb_tries : Ar} {nn_len : Int32} {nn_sum : Int32} {nn_tries : Ar}  {q_n_onward : Ar} (h : m_X1_weighOnward n_total n_leaps n_onward = some q_n_onward) : Cv E yX1_weighOnward (wU yX1_weighOnward cX1_weighOnward 4 none) (RM 1 26) [.ref an0] (V_N E.2.2 an0 an1 an2 anb0 anb1 ann0 ann1 n_total n_planned n_leaps n_onward nb_len nb_sum nb_tries nn_len nn_sum nn_tries) (V_N E.2.2 an0 an1 an2 anb0 anb1 ann0 ann1 n_total n_planned n_leaps q_n_onward nb_len nb_sum nb_tries nn_len nn_sum nn_tries) := by
  refine Cv.of (by decide) (Nat.le_of_ble_eq_true rfl) ?_
  intro x hE C
  subst hE
  have C : CX RX1 cX1_weighOnward 4 none x := C
  refine p_locals [0] (lv' := [(0, .ref an0)]) rfl ?_
  unfold m_X1_weighOnward at h
  refine p_aload_n C dX1_weighOnward_0 rfl 0 rfl ?_
  obtain ⟨r1, hc2, h⟩ := bd1_of h
  refine p_callVi_s (As := []) (st' := []) (Wc' := (V_N x.1.2.2 an0 an1 an2 anb0 anb1 ann0 ann1 n_total n_planned n_leaps n_onward nb_len nb_sum nb_tries nn_len nn_sum nn_tries)) C (c_X1_allTries x.1 (an0 := an0) (an1 := an1) (an2 := an2) (anb0 := anb0) (anb1 := anb1) (ann0 := ann0) (ann1 := ann1) (n_planned := n_planned) (n_leaps := n_leaps) (n_onward := n_onward) (nb_len := nb_len) (nb_sum := nb_sum) (nb_tries := nb_tries) (nn_len := nn_len) (nn_sum := nn_sum) (nn_tries := nn_tries) hc2) dX1_weighOnward_1 rfl ml_X1_80 kv_X1_allTries ds_X1_allTries ⟨rfl, rfl, by decide, by decide⟩ 0 rfl rfl rfl rfl (by decide) ⟨by decide, by decide⟩ ?_
  refine p_istore_n (lv' := [(1, .int r1), (0, .ref an0)]) C dX1_weighOnward_4 rfl (by decide) rfl ?_
  refine p_iconst (v := (1 : Int32)) C dX1_weighOnward_5 rfl (by decide) ?_
  refine p_istore_n (lv' := [(2, .int ((1 : Int32))), (1, .int r1), (0, .ref an0)]) C dX1_weighOnward_6 rfl (by decide) rfl ?_
  refine p_locals [2, 1, 0] (lv' := [(0, .ref an0), (1, .int r1), (2, .int ((1 : Int32)))]) rfl ?_
  exact tl_X1_weighOnward_7 C  FU _ _ h
