def m_X1_planBest (n_total : Int32) (n_planned : Int32) (n_leaps : Ar) (n_onward : Ar) (nb_len : Int32) (nb_sum : Int32) (nb_tries : Ar)  : Option (Int32 × Ar × Int32 × Int32 × Ar) := if n_planned = 0 then (bd1 (m_X1_weighOnward n_total n_leaps n_onward) (fun z_onward2 => bd3 (m_X1_plan_nb n_total n_leaps z_onward2 nb_len nb_sum nb_tries ((1 : Int32))) (fun z_len4 z_sum5 z_tries6 => some ((1 : Int32), z_onward2, z_len4, z_sum5, z_tries6)))) else (some (n_planned, n_onward, nb_len, nb_sum, nb_tries))
theorem ds_X1_planBest : (yX1_planBest).cls ≠ "java/lang/invoke/MethodHandle" ∧ (yX1_planBest).cls ≠ "java/lang/invoke/VarHandle" ∧ (parseMethodDescriptor (yX1_planBest).desc).map (fun d => d.parameters.length) = some 0 := by decide +kernel
set_option maxHeartbeats 4000000 in
set_option maxRecDepth 100000 in
theorem c_X1_planBest (E : En) {an0 an1 an2 anb0 anb1 ann0 ann1 : Nat} {n_total : Int32} {n_planned : Int32} {n_leaps : Ar} {n_onward : Ar} {nb_len : Int32} {nb_sum : Int32} {nb_tries : Ar} {nn_len : Int32} {nn_sum : Int32} {nn_tries : Ar}  {q_n_planned : Int32} {q_n_onward : Ar} {q_nb_len : Int32} {q_nb_sum : Int32} {q_nb_tries : Ar} (h : m_X1_planBest n_total n_planned n_leaps n_onward nb_len nb_sum nb_tries = some (q_n_planned, q_n_onward, q_nb_len, q_nb_sum, q_nb_tries)) : Cv E yX1_planBest (wU yX1_planBest cX1_planBest 1 none) (RM 3 78) [.ref an0] (V_N E.2.2 an0 an1 an2 anb0 anb1 ann0 ann1 n_total n_planned n_leaps n_onward nb_len nb_sum nb_tries nn_len nn_sum nn_tries) (V_N E.2.2 an0 an1 an2 anb0 anb1 ann0 ann1 n_total q_n_planned n_leaps q_n_onward q_nb_len q_nb_sum q_nb_tries nn_len nn_sum nn_tries) := by
  refine Cv.of (by decide) (Nat.le_of_ble_eq_true rfl) ?_
  intro x hE C
  subst hE
  have C : CX RX1 cX1_planBest 1 none x := C
  refine p_locals [0] (lv' := [(0, .ref an0)]) rfl ?_
  unfold m_X1_planBest at h
  refine p_aload_n C dX1_planBest_0 rfl 0 rfl ?_
  refine p_get C dX1_planBest_1 rfl 0 5 inlX1 fl_X1_32 rfl rfl (by decide) rfl rfl ?_
  refine p_if_ne C dX1_planBest_4 (tgt := 25) (by decide) rfl (fun c1 => ?_) (fun c1 => ?_)
  · have h := if_f c1 h
    cases h
    exact p_vret C dX1_planBest_25
  · have h := if_t c1 h
    refine p_aload_n C dX1_planBest_7 rfl 0 rfl ?_
    obtain ⟨z_onward2, hc3, h⟩ := bd1_of h
    refine p_callVv_s (As := []) (st' := []) (Wc' := (V_N x.1.2.2 an0 an1 an2 anb0 anb1 ann0 ann1 n_total n_planned n_leaps z_onward2 nb_len nb_sum nb_tries nn_len nn_sum nn_tries)) C (c_X1_weighOnward x.1 (an0 := an0) (an1 := an1) (an2 := an2) (anb0 := anb0) (anb1 := anb1) (ann0 := ann0) (ann1 := ann1) (n_planned := n_planned) (nb_len := nb_len) (nb_sum := nb_sum) (nb_tries := nb_tries) (nn_len := nn_len) (nn_sum := nn_sum) (nn_tries := nn_tries) hc3) dX1_planBest_8 rfl ml_X1_74 kv_X1_weighOnward ds_X1_weighOnward ⟨rfl, rfl, by decide, by decide⟩ 0 rfl rfl rfl rfl (by decide) ⟨by decide, by decide⟩ ?_
    refine p_aload_n C dX1_planBest_11 rfl 0 rfl ?_
    refine p_aload_n C dX1_planBest_12 rfl 0 rfl ?_
    refine p_get C dX1_planBest_13 rfl 0 3 inlX1 fl_X1_25 rfl rfl (by decide) rfl rfl ?_
    refine p_iconst (v := (1 : Int32)) C dX1_planBest_16 rfl (by decide) ?_
    obtain ⟨z_len4, z_sum5, z_tries6, hc7, h⟩ := bd3_of h
    refine p_callVv_s (As := [.ref anb0, .int ((1 : Int32))]) (st' := []) (Wc' := (V_N x.1.2.2 an0 an1 an2 anb0 anb1 ann0 ann1 n_total n_planned n_leaps z_onward2 z_len4 z_sum5 z_tries6 nn_len nn_sum nn_tries)) C (c_X1_plan_nb x.1 (an0 := an0) (an1 := an1) (an2 := an2) (anb0 := anb0) (anb1 := anb1) (ann0 := ann0) (ann1 := ann1) (n_planned := n_planned) (nn_len := nn_len) (nn_sum := nn_sum) (nn_tries := nn_tries) hc7) dX1_planBest_17 rfl ml_X1_70 kv_X1_plan ds_X1_plan ⟨rfl, rfl, by decide, by decide⟩ 0 rfl rfl rfl rfl (by decide) ⟨by decide, by decide⟩ ?_
    refine p_aload_n C dX1_planBest_20 rfl 0 rfl ?_
    refine p_iconst (v := (1 : Int32)) C dX1_planBest_21 rfl (by decide) ?_
    refine p_put (Wd' := (V_N x.1.2.2 an0 an1 an2 anb0 anb1 ann0 ann1 n_total ((1 : Int32)) n_leaps z_onward2 z_len4 z_sum5 z_tries6 nn_len nn_sum nn_tries)) (ty := .boolean) C dX1_planBest_22 rfl 0 5 inlX1 tyX1 tyX1_ok nmX1 fl_X1_32 rfl rfl (by decide) rfl rfl (by decide +kernel) rfl rfl (Nat.le_of_ble_eq_true rfl) rfl ?_
    cases h
    exact p_vret C dX1_planBest_25
def J_X1_plan_nn_45 (n_total : Int32) (n_leaps : Ar) (n_onward : Ar) (nn_len : Int32) (nn_sum : Int32) (nn_tries : Ar) (k15 : Int32 → Int32 → Int32 → Int32 → Int32 → Ar → Option (Int32 × Int32 × Ar)) (e0 : Int32) (v2 : Int32) (v3 : Int32) (v4 : Int32) (v5 : Int32) : Option (Int32 × Int32 × Ar) := bd1 (m_X1_leap n_leaps v3 e0) (fun r1 => bd3 (m_X2_append nn_len nn_sum nn_tries e0 r1) (fun z_len3 z_sum4 z_tries5 => k15 (e0 + ((1 : Int32))) (v4 &&& ((((1 : Int32)) <<< (e0 &&& 31)) ^^^ ((-1 : Int32)))) (v5 + 1) z_len3 z_sum4 z_tries5))
set_option maxHeartbeats 4000000 in
set_option maxRecDepth 100000 in
theorem tj_X1_plan_nn_45 {x : Cxt} {an0 an1 an2 anb0 anb1 ann0 ann1 : Nat} {n_total : Int32} {n_planned : Int32} {n_leaps : Ar} {n_onward : Ar} {nb_len : Int32} {nb_sum : Int32} {nb_tries : Ar} {nn_len : Int32} {nn_sum : Int32} {nn_tries : Ar} {k15 : Int32 → Int32 → Int32 → Int32 → Int32 → Ar → Option (Int32 × Int32 × Ar)} {e0 : Int32} {v2 : Int32} {v3 : Int32} {v4 : Int32} {v5 : Int32} {q_nn_len : Int32} {q_nn_sum : Int32} {q_nn_tries : Ar} (C : CX RX1 cX1_plan 7 none x) (hk15 : ∀ (w3 : Int32) (w4 : Int32) (w5 : Int32) (w_nn_len : Int32) (w_nn_sum : Int32) (w_nn_tries : Ar), k15 w3 w4 w5 w_nn_len w_nn_sum w_nn_tries = some (q_nn_len, q_nn_sum, q_nn_tries) → PT (RM 2 52) 7 x 15 [(0, .ref an0), (1, .ref ann0), (2, .int v2), (3, .int w3), (4, .int w4), (5, .int w5)] [] (V_N x.1.2.2 an0 an1 an2 anb0 anb1 ann0 ann1 n_total n_planned n_leaps n_onward nb_len nb_sum nb_tries w_nn_len w_nn_sum w_nn_tries) 0 0 (QV x (V_N x.1.2.2 an0 an1 an2 anb0 anb1 ann0 ann1 n_total n_planned n_leaps n_onward nb_len nb_sum nb_tries q_nn_len q_nn_sum q_nn_tries))) (h : J_X1_plan_nn_45 n_total n_leaps n_onward nn_len nn_sum nn_tries k15 e0 v2 v3 v4 v5 = some (q_nn_len, q_nn_sum, q_nn_tries)) : PT (RM 2 52) 7 x 45 [(0, .ref an0), (1, .ref ann0), (2, .int v2), (3, .int v3), (4, .int v4), (5, .int v5)] [.int e0] (V_N x.1.2.2 an0 an1 an2 anb0 anb1 ann0 ann1 n_total n_planned n_leaps n_onward nb_len nb_sum nb_tries nn_len nn_sum nn_tries) 0 0 (QV x (V_N x.1.2.2 an0 an1 an2 anb0 anb1 ann0 ann1 n_total n_planned n_leaps n_onward nb_len nb_sum nb_tries q_nn_len q_nn_sum q_nn_tries)) := by
  unfold J_X1_plan_nn_45 at h
  refine p_istore (lv' := [(6, .int e0), (0, .ref an0), (1, .ref ann0), (2, .int v2), (3, .int v3), (4, .int v4), (5, .int v5)]) C dX1_plan_45 rfl (by decide) rfl ?_
  refine p_aload_n C dX1_plan_47 rfl 2 rfl ?_
  refine p_iload C dX1_plan_48 rfl 0 rfl ?_
  refine p_aload_n C dX1_plan_50 rfl 1 rfl ?_
  refine p_iload_n C dX1_plan_51 rfl 4 rfl ?_
  refine p_iload C dX1_plan_52 rfl 0 rfl ?_
  obtain ⟨r1, hc2, h⟩ := bd1_of h
  refine p_callVi_s (As := [.int v3, .int e0]) (st' := [.int e0, .ref ann0]) (Wc' := (V_N x.1.2.2 an0 an1 an2 anb0 anb1 ann0 ann1 n_total n_planned n_leaps n_onward nb_len nb_sum nb_tries nn_len nn_sum nn_tries)) C (c_X1_leap x.1 (an0 := an0) (an1 := an1) (an2 := an2) (anb0 := anb0) (anb1 := anb1) (ann0 := ann0) (ann1 := ann1) (n_total := n_total) (n_planned := n_planned) (n_onward := n_onward) (nb_len := nb_len) (nb_sum := nb_sum) (nb_tries := nb_tries) (nn_len := nn_len) (nn_sum := nn_sum) (nn_tries := nn_tries) hc2) dX1_plan_54 rfl ml_X1_90 kv_X1_leap ds_X1_leap ⟨rfl, rfl, by decide, by decide⟩ 0 rfl rfl rfl rfl (Nat.le_of_ble_eq_true rfl) ⟨by decide, by decide⟩ ?_
  obtain ⟨z_len3, z_sum4, z_tries5, hc6, h⟩ := bd3_of h
  refine p_callVNv (As := [.int e0, .int r1]) (st' := []) (Wd' := (V_N x.1.2.2 an0 an1 an2 anb0 anb1 ann0 ann1 n_total n_planned n_leaps n_onward nb_len nb_sum nb_tries z_len3 z_sum4 z_tries5)) C (c_X2_append x.1 (ao0 := ann0) (ao1 := ann1) hc6) dX1_plan_57 rfl nm_X1_93 kv_X2_append ds_X2_append ⟨rfl, rfl, by decide, by decide⟩ 0 rfl rfl [5, 6] rfl rfl rfl rfl (by decide) ⟨by decide, by decide⟩ rfl ?_
  refine p_iload C dX1_plan_60 rfl 5 rfl ?_
  refine p_iconst (v := (1 : Int32)) C dX1_plan_62 rfl (by decide) ?_
  refine p_iload C dX1_plan_63 rfl 0 rfl ?_
  refine p_ishl C dX1_plan_65 rfl ?_
  refine p_iconst (v := (-1 : Int32)) C dX1_plan_66 rfl (by decide) ?_
  refine p_ixor C dX1_plan_67 rfl ?_
  refine p_iand C dX1_plan_68 rfl ?_
  refine p_istore (lv' := [(4, .int (v4 &&& ((((1 : Int32)) <<< (e0 &&& 31)) ^^^ ((-1 : Int32))))), (6, .int e0), (0, .ref an0), (1, .ref ann0), (2, .int v2), (3, .int v3), (5, .int v5)]) C dX1_plan_69 rfl (by decide) rfl ?_
  refine p_iload C dX1_plan_71 rfl 1 rfl ?_
  refine p_iconst (v := (1 : Int32)) C dX1_plan_73 rfl (by decide) ?_
  refine p_iadd C dX1_plan_74 rfl ?_
  refine p_istore_n (lv' := [(3, .int (e0 + ((1 : Int32)))), (4, .int (v4 &&& ((((1 : Int32)) <<< (e0 &&& 31)) ^^^ ((-1 : Int32))))), (6, .int e0), (0, .ref an0), (1, .ref ann0), (2, .int v2), (5, .int v5)]) C dX1_plan_75 rfl (by decide) rfl ?_
  refine p_iinc (w := v5 + 1) (lv' := [(5, .int (v5 + 1)), (3, .int (e0 + ((1 : Int32)))), (4, .int (v4 &&& ((((1 : Int32)) <<< (e0 &&& 31)) ^^^ ((-1 : Int32))))), (6, .int e0), (0, .ref an0), (1, .ref ann0), (2, .int v2)]) C dX1_plan_76 rfl 6 rfl rfl (by decide) rfl ?_
  refine p_goto C dX1_plan_79 (pc' := 15) (by decide) ?_
  refine p_locals [4, 5, 6, 1, 2, 0] (lv' := [(0, .ref an0), (1, .ref ann0), (2, .int v2), (3, .int (e0 + ((1 : Int32)))), (4, .int (v4 &&& ((((1 : Int32)) <<< (e0 &&& 31)) ^^^ ((-1 : Int32))))), (5, .int (v5 + 1))]) rfl ?_
  exact hk15 _ _ _ _ _ _ h
def B_X1_plan_nn_15 (n_total : Int32) (n_leaps : Ar) (n_onward : Ar)  (v2 : Int32) (kk : Int32 → Int32 → Int32 → Int32 → Int32 → Ar → Option (Int32 × Int32 × Ar)) (v3 : Int32) (v4 : Int32) (v5 : Int32) (nn_len : Int32) (nn_sum : Int32) (nn_tries : Ar) : Option (Int32 × Int32 × Ar) := if n_total ≤ v5 then (some (nn_len, nn_sum, nn_tries)) else (if v2 = 0 then (bd1 (m_X1_nearestOf n_total n_leaps v3 v4) (fun r3 => J_X1_plan_nn_45 n_total n_leaps n_onward nn_len nn_sum nn_tries (kk) r3 v2 v3 v4 v5)) else (bd1 (m_X1_firstOfBest n_total n_leaps n_onward v3 v4) (fun r5 => J_X1_plan_nn_45 n_total n_leaps n_onward nn_len nn_sum nn_tries (kk) r5 v2 v3 v4 v5)))
def L_X1_plan_nn_15 (n_total : Int32) (n_leaps : Ar) (n_onward : Ar)  (v2 : Int32) : Nat → Int32 → Int32 → Int32 → Int32 → Int32 → Ar → Option (Int32 × Int32 × Ar) := lpG (fun _ _ _ _ _ _ => none) (B_X1_plan_nn_15 n_total n_leaps n_onward v2)
set_option maxHeartbeats 4000000 in
set_option maxRecDepth 100000 in
theorem tl_X1_plan_nn_15 {x : Cxt} {an0 an1 an2 anb0 anb1 ann0 ann1 : Nat} {n_total : Int32} {n_planned : Int32} {n_leaps : Ar} {n_onward : Ar} {nb_len : Int32} {nb_sum : Int32} {nb_tries : Ar}  {v2 : Int32} {q_nn_len : Int32} {q_nn_sum : Int32} {q_nn_tries : Ar} (C : CX RX1 cX1_plan 7 none x)  : ∀ (n : Nat) (v3 : Int32) (v4 : Int32) (v5 : Int32) (nn_len : Int32) (nn_sum : Int32) (nn_tries : Ar), L_X1_plan_nn_15 n_total n_leaps n_onward v2 n v3 v4 v5 nn_len nn_sum nn_tries = some (q_nn_len, q_nn_sum, q_nn_tries) → PT (RM 2 52) 7 x 15 [(0, .ref an0), (1, .ref ann0), (2, .int v2), (3, .int v3), (4, .int v4), (5, .int v5)] [] (V_N x.1.2.2 an0 an1 an2 anb0 anb1 ann0 ann1 n_total n_planned n_leaps n_onward nb_len nb_sum nb_tries nn_len nn_sum nn_tries) 0 0 (QV x (V_N x.1.2.2 an0 an1 an2 anb0 anb1 ann0 ann1 n_total n_planned n_leaps n_onward nb_len nb_sum nb_tries q_nn_len q_nn_sum q_nn_tries)) := by
  intro n
  induction n with
  | zero =>
    intro v3 v4 v5 nn_len nn_sum nn_tries h
    cases h
  | succ n ih =>
    intro v3 v4 v5 nn_len nn_sum nn_tries h
    have h : B_X1_plan_nn_15 n_total n_leaps n_onward v2 (L_X1_plan_nn_15 n_total n_leaps n_onward v2 n) v3 v4 v5 nn_len nn_sum nn_tries = some (q_nn_len, q_nn_sum, q_nn_tries) := h
    unfold B_X1_plan_nn_15 at h
    refine p_iload C dX1_plan_15 rfl 5 rfl ?_
    refine p_aload_n C dX1_plan_17 rfl 0 rfl ?_
    refine p_get C dX1_plan_18 rfl 0 0 inlX1 fl_X1_9 rfl rfl (by decide) rfl rfl ?_
    refine p_icmp_ge C dX1_plan_21 (tgt := 82) (by decide) rfl (fun c1 => ?_) (fun c1 => ?_)
    · have h := if_t c1 h
      cases h
      exact p_vret C dX1_plan_82
    · have h := if_f c1 h
      refine p_iload_n C dX1_plan_24 rfl 2 rfl ?_
      refine p_if_eq C dX1_plan_25 (tgt := 38) (by decide) rfl (fun c2 => ?_) (fun c2 => ?_)
      · have h := if_t c2 h
        refine p_aload_n C dX1_plan_38 rfl 0 rfl ?_
        refine p_iload_n C dX1_plan_39 rfl 3 rfl ?_
        refine p_iload C dX1_plan_40 rfl 4 rfl ?_
        obtain ⟨r3, hc4, h⟩ := bd1_of h
        refine p_callVi_s (As := [.int v3, .int v4]) (st' := []) (Wc' := (V_N x.1.2.2 an0 an1 an2 anb0 anb1 ann0 ann1 n_total n_planned n_leaps n_onward nb_len nb_sum nb_tries nn_len nn_sum nn_tries)) C (c_X1_nearestOf x.1 (an0 := an0) (an1 := an1) (an2 := an2) (anb0 := anb0) (anb1 := anb1) (ann0 := ann0) (ann1 := ann1) (n_planned := n_planned) (n_onward := n_onward) (nb_len := nb_len) (nb_sum := nb_sum) (nb_tries := nb_tries) (nn_len := nn_len) (nn_sum := nn_sum) (nn_tries := nn_tries) hc4) dX1_plan_42 rfl ml_X1_87 kv_X1_nearestOf ds_X1_nearestOf ⟨rfl, rfl, by decide, by decide⟩ 0 rfl rfl rfl rfl (by decide) ⟨by decide, by decide⟩ ?_
        refine p_locals [0, 1, 2, 3, 4, 5] (lv' := [(0, .ref an0), (1, .ref ann0), (2, .int v2), (3, .int v3), (4, .int v4), (5, .int v5)]) rfl ?_
        exact tj_X1_plan_nn_45 C (fun u0 u1 u2 u3 u4 u5 h => ih u0 u1 u2 u3 u4 u5 h) h
      · have h := if_f c2 h
        refine p_aload_n C dX1_plan_28 rfl 0 rfl ?_
        refine p_iload_n C dX1_plan_29 rfl 3 rfl ?_
        refine p_iload C dX1_plan_30 rfl 4 rfl ?_
        obtain ⟨r5, hc6, h⟩ := bd1_of h
        refine p_callVi_s (As := [.int v3, .int v4]) (st' := []) (Wc' := (V_N x.1.2.2 an0 an1 an2 anb0 anb1 ann0 ann1 n_total n_planned n_leaps n_onward nb_len nb_sum nb_tries nn_len nn_sum nn_tries)) C (c_X1_firstOfBest x.1 (an0 := an0) (an1 := an1) (an2 := an2) (anb0 := anb0) (anb1 := anb1) (ann0 := ann0) (ann1 := ann1) (n_planned := n_planned) (nb_len := nb_len) (nb_sum := nb_sum) (nb_tries := nb_tries) (nn_len := nn_len) (nn_sum := nn_sum) (nn_tries := nn_tries) hc6) dX1_plan_32 rfl ml_X1_84 kv_X1_firstOfBest ds_X1_firstOfBest ⟨rfl, rfl, by decide, by decide⟩ 0 rfl rfl rfl rfl (by decide) ⟨by decide, by decide⟩ ?_
        refine p_goto C dX1_plan_35 (pc' := 45) (by decide) ?_
        refine p_locals [0, 1, 2, 3, 4, 5] (lv' := [(0, .ref an0), (1, .ref ann0), (2, .int v2), (3, .int v3), (4, .int v4), (5, .int v5)]) rfl ?_
        exact tj_X1_plan_nn_45 C (fun u0 u1 u2 u3 u4 u5 h => ih u0 u1 u2 u3 u4 u5 h) h
def m_X1_plan_nn (n_total : Int32) (n_leaps : Ar) (n_onward : Ar) (nn_len : Int32) (nn_sum : Int32) (nn_tries : Ar) (p2 : Int32) : Option (Int32 × Int32 × Ar) := bd2 (m_X2_clear nn_len nn_sum) (fun z_len1 z_sum2 => bd1 (m_X1_allTries n_total) (fun r4 => L_X1_plan_nn_15 n_total n_leaps n_onward p2 FU ((0 : Int32)) r4 ((0 : Int32)) z_len1 z_sum2 nn_tries))
set_option maxHeartbeats 4000000 in
set_option maxRecDepth 100000 in
theorem c_X1_plan_nn (E : En) {an0 an1 an2 anb0 anb1 ann0 ann1 : Nat} {n_total : Int32} {n_planned : Int32} {n_leaps : Ar} {n_onward : Ar} {nb_len : Int32} {nb_sum : Int32} {nb_tries : Ar} {nn_len : Int32} {nn_sum : Int32} {nn_tries : Ar} {p2 : Int32} {q_nn_len : Int32} {q_nn_sum : Int32} {q_nn_tries : Ar} (h : m_X1_plan_nn n_total n_leaps n_onward nn_len nn_sum nn_tries p2 = some (q_nn_len, q_nn_sum, q_nn_tries)) : Cv E yX1_plan (wU yX1_plan cX1_plan 7 none) (RM 2 52) [.ref an0, .ref ann0, .int p2] (V_N E.2.2 an0 an1 an2 anb0 anb1 ann0 ann1 n_total n_planned n_leaps n_onward nb_len nb_sum nb_tries nn_len nn_sum nn_tries) (V_N E.2.2 an0 an1 an2 anb0 anb1 ann0 ann1 n_total n_planned n_leaps n_onward nb_len nb_sum nb_tries q_nn_len q_nn_sum q_nn_tries) := by
  refine Cv.of (by decide) (Nat.le_of_ble_eq_true rfl) ?_
  intro x hE C
  subst hE
  have C : CX RX1 cX1_plan 7 none x := C
  refine p_locals [0, 1, 2] (lv' := [(0, .ref an0), (1, .ref ann0), (2, .int p2)]) rfl ?_
  unfold m_X1_plan_nn at h
  refine p_aload_n C dX1_plan_0 rfl 1 rfl ?_
  obtain ⟨z_len1, z_sum2, hc3, h⟩ := bd2_of h
  refine p_callVNv (As := []) (st' := []) (Wd' := (V_N x.1.2.2 an0 an1 an2 anb0 anb1 ann0 ann1 n_total n_planned n_leaps n_onward nb_len nb_sum nb_tries z_len1 z_sum2 nn_tries)) C (c_X2_clear x.1 (ao0 := ann0) (ao1 := ann1) (o_tries := nn_tries) hc3) dX1_plan_1 rfl nm_X1_77 kv_X2_clear ds_X2_clear ⟨rfl, rfl, by decide, by decide⟩ 0 rfl rfl [5, 6] rfl rfl rfl rfl (by decide) ⟨by decide, by decide⟩ rfl ?_
  refine p_iconst (v := (0 : Int32)) C dX1_plan_4 rfl (by decide) ?_
  refine p_istore_n (lv' := [(3, .int ((0 : Int32))), (0, .ref an0), (1, .ref ann0), (2, .int p2)]) C dX1_plan_5 rfl (by decide) rfl ?_
  refine p_aload_n C dX1_plan_6 rfl 1 rfl ?_
  obtain ⟨r4, hc5, h⟩ := bd1_of h
  refine p_callVi_s (As := []) (st' := []) (Wc' := (V_N x.1.2.2 an0 an1 an2 anb0 anb1 ann0 ann1 n_total n_planned n_leaps n_onward nb_len nb_sum nb_tries z_len1 z_sum2 nn_tries)) C (c_X1_allTries x.1 (an0 := an0) (an1 := an1) (an2 := an2) (anb0 := anb0) (anb1 := anb1) (ann0 := ann0) (ann1 := ann1) (n_planned := n_planned) (n_leaps := n_leaps) (n_onward := n_onward) (nb_len := nb_len) (nb_sum := nb_sum) (nb_tries := nb_tries) (nn_len := z_len1) (nn_sum := z_sum2) (nn_tries := nn_tries) hc5) dX1_plan_7 rfl ml_X1_80 kv_X1_allTries ds_X1_allTries ⟨rfl, rfl, by decide, by decide⟩ 0 rfl rfl rfl rfl (by decide) ⟨by decide, by decide⟩ ?_
  refine p_istore (lv' := [(4, .int r4), (3, .int ((0 : Int32))), (0, .ref an0), (1, .ref ann0), (2, .int p2)]) C dX1_plan_10 rfl (by decide) rfl ?_
  refine p_iconst (v := (0 : Int32)) C dX1_plan_12 rfl (by decide) ?_
  refine p_istore (lv' := [(5, .int ((0 : Int32))), (4, .int r4), (3, .int ((0 : Int32))), (0, .ref an0), (1, .ref ann0), (2, .int p2)]) C dX1_plan_13 rfl (by decide) rfl ?_
  refine p_locals [3, 4, 5, 2, 1, 0] (lv' := [(0, .ref an0), (1, .ref ann0), (2, .int p2), (3, .int ((0 : Int32))), (4, .int r4), (5, .int ((0 : Int32)))]) rfl ?_
  exact tl_X1_plan_nn_15 C  FU _ _ _ _ _ _ h
def m_X1_planNearest (n_total : Int32) (n_leaps : Ar) (n_onward : Ar) (nn_len : Int32) (nn_sum : Int32) (nn_tries : Ar)  : Option (Int32 × Int32 × Ar) := bd3 (m_X1_plan_nn n_total n_leaps n_onward nn_len nn_sum nn_tries ((0 : Int32))) (fun z_len1 z_sum2 z_tries3 => some (z_len1, z_sum2, z_tries3))
theorem ds_X1_planNearest : (yX1_planNearest).cls ≠ "java/lang/invoke/MethodHandle" ∧ (yX1_planNearest).cls ≠ "java/lang/invoke/VarHandle" ∧ (parseMethodDescriptor (yX1_planNearest).desc).map (fun d => d.parameters.length) = some 0 := by decide +kernel
set_option maxHeartbeats 4000000 in
set_option maxRecDepth 100000 in
theorem c_X1_planNearest (E : En) {an0 an1 an2 anb0 anb1 ann0 ann1 : Nat} {n_total : Int32} {n_planned : Int32} {n_leaps : Ar} {n_onward : Ar} {nb_len : Int32} {nb_sum : Int32} {nb_tries : Ar} {nn_len : Int32} {nn_sum : Int32} {nn_tries : Ar}  {q_nn_len : Int32} {q_nn_sum : Int32} {q_nn_tries : Ar} (h : m_X1_planNearest n_total n_leaps n_onward nn_len nn_sum nn_tries = some (q_nn_len, q_nn_sum, q_nn_tries)) : Cv E yX1_planNearest (wU yX1_planNearest cX1_planNearest 1 none) (RM 3 78) [.ref an0] (V_N E.2.2 an0 an1 an2 anb0 anb1 ann0 ann1 n_total n_planned n_leaps n_onward nb_len nb_sum nb_tries nn_len nn_sum nn_tries) (V_N E.2.2 an0 an1 an2 anb0 anb1 ann0 ann1 n_total n_planned n_leaps n_onward nb_len nb_sum nb_tries q_nn_len q_nn_sum q_nn_tries) := by
  refine Cv.of (by decide) (Nat.le_of_ble_eq_true rfl) ?_
  intro x hE C
  subst hE
  have C : CX RX1 cX1_planNearest 1 none x := C
  refine p_locals [0] (lv' := [(0, .ref an0)]) rfl ?_
  unfold m_X1_planNearest at h
  refine p_aload_n C dX1_planNearest_0 rfl 0 rfl ?_
  refine p_aload_n C dX1_planNearest_1 rfl 0 rfl ?_
  refine p_get C dX1_planNearest_2 rfl 0 4 inlX1 fl_X1_29 rfl rfl (by decide) rfl rfl ?_
  refine p_iconst (v := (0 : Int32)) C dX1_planNearest_5 rfl (by decide) ?_
  obtain ⟨z_len1, z_sum2, z_tries3, hc4, h⟩ := bd3_of h
  refine p_callVv_s (As := [.ref ann0, .int ((0 : Int32))]) (st' := []) (Wc' := (V_N x.1.2.2 an0 an1 an2 anb0 anb1 ann0 ann1 n_total n_planned n_leaps n_onward nb_len nb_sum nb_tries z_len1 z_sum2 z_tries3)) C (c_X1_plan_nn x.1 (an0 := an0) (an1 := an1) (an2 := an2) (anb0 := anb0) (anb1 := anb1) (ann0 := ann0) (ann1 := ann1) (n_planned := n_planned) (nb_len := nb_len) (nb_sum := nb_sum) (nb_tries := nb_tries) hc4) dX1_planNearest_6 rfl ml_X1_70 kv_X1_plan ds_X1_plan ⟨rfl, rfl, by decide, by decide⟩ 0 rfl rfl rfl rfl (by decide) ⟨by decide, by decide⟩ ?_
  cases h
  exact p_vret C dX1_planNearest_9
def m_X2_tell (o_len : Int32) (o_sum : Int32) (o_tries : Ar) (p1 : Int32) : Option (Int32) := if p1 = ((-1 : Int32)) then (some o_sum) else (if p1 < 0 then (some ((-6 : Int32))) else (if o_len ≤ p1 then (some ((-6 : Int32))) else (grd (gI p1 10) (some (o_tries p1.toNatClampNeg)))))
theorem ds_X2_tell : (yX2_tell).cls ≠ "java/lang/invoke/MethodHandle" ∧ (yX2_tell).cls ≠ "java/lang/invoke/VarHandle" ∧ (parseMethodDescriptor (yX2_tell).desc).map (fun d => d.parameters.length) = some 1 := by decide +kernel
set_option maxHeartbeats 4000000 in
set_option maxRecDepth 100000 in
theorem c_X2_tell (E : En) {ao0 ao1 : Nat} {o_len : Int32} {o_sum : Int32} {o_tries : Ar} {p1 : Int32} {rr : Int32} (h : m_X2_tell o_len o_sum o_tries p1 = some rr) : Ci E yX2_tell (wU yX2_tell cX2_tell 2 (some .int)) (RM 0 0) [.ref ao0, .int p1] (V_O E.2.2 ao0 ao1 o_len o_sum o_tries) (V_O E.2.2 ao0 ao1 o_len o_sum o_tries) rr := by
  refine Ci.of (by decide) (Nat.le_of_ble_eq_true rfl) ?_
  intro x hE C
  subst hE
  have C : CX RX2 cX2_tell 2 (some .int) x := C
  refine p_locals [0, 1] (lv' := [(0, .ref ao0), (1, .int p1)]) rfl ?_
  unfold m_X2_tell at h
  refine p_iload_n C dX2_tell_0 rfl 1 rfl ?_
  refine p_iconst (v := (-1 : Int32)) C dX2_tell_1 rfl (by decide) ?_
  refine p_icmp_ne C dX2_tell_2 (tgt := 10) (by decide) rfl (fun c1 => ?_) (fun c1 => ?_)
  · have h := if_f c1 h
    refine p_iload_n C dX2_tell_10 rfl 1 rfl ?_
    refine p_if_lt C dX2_tell_11 (tgt := 31) (by decide) rfl (fun c2 => ?_) (fun c2 => ?_)
    · have h := if_t c2 h
      refine p_bipush (v := (-6 : Int32)) C dX2_tell_31 rfl (by decide) ?_
      cases h
      exact p_iret C dX2_tell_33
    · have h := if_f c2 h
      refine p_iload_n C dX2_tell_14 rfl 1 rfl ?_
      refine p_aload_n C dX2_tell_15 rfl 0 rfl ?_
      refine p_get C dX2_tell_16 rfl 0 1 inlX2 fl_X2_15 rfl rfl (by decide) rfl rfl ?_
      refine p_icmp_ge C dX2_tell_19 (tgt := 31) (by decide) rfl (fun c3 => ?_) (fun c3 => ?_)
      · have h := if_t c3 h
        refine p_bipush (v := (-6 : Int32)) C dX2_tell_31 rfl (by decide) ?_
        cases h
        exact p_iret C dX2_tell_33
      · have h := if_f c3 h
        refine p_aload_n C dX2_tell_22 rfl 0 rfl ?_
        refine p_get C dX2_tell_23 rfl 0 0 inlX2 fl_X2_9 rfl rfl (by decide) rfl rfl ?_
        refine p_iload_n C dX2_tell_26 rfl 1 rfl ?_
        obtain ⟨g4, h⟩ := grd_of h
        refine p_iald C dX2_tell_27 rfl 1 rfl g4 ?_
        refine p_goto C dX2_tell_28 (pc' := 33) (by decide) ?_
        cases h
        exact p_iret C dX2_tell_33
  · have h := if_t c1 h
    refine p_aload_n C dX2_tell_5 rfl 0 rfl ?_
    refine p_get C dX2_tell_6 rfl 0 2 inlX2 fl_X2_19 rfl rfl (by decide) rfl rfl ?_
    cases h
    exact p_iret C dX2_tell_9
def m_X3_tryAt (p_signs : Ar) (p1 : Int32) : Option (Int32) := grd (gI p1 24) (some ((p_signs p1.toNatClampNeg) - ((97 : Int32))))
theorem ds_X3_tryAt : (yX3_tryAt).cls ≠ "java/lang/invoke/MethodHandle" ∧ (yX3_tryAt).cls ≠ "java/lang/invoke/VarHandle" ∧ (parseMethodDescriptor (yX3_tryAt).desc).map (fun d => d.parameters.length) = some 1 := by decide +kernel
set_option maxHeartbeats 4000000 in
set_option maxRecDepth 100000 in
theorem c_X3_tryAt (E : En) {ap0 ap1 : Nat} {p_len : Int32} {p_signs : Ar} {p1 : Int32} {rr : Int32} (h : m_X3_tryAt p_signs p1 = some rr) : Ci E yX3_tryAt (wU yX3_tryAt cX3_tryAt 2 (some .int)) (RM 0 0) [.ref ap0, .int p1] (V_P E.2.2 ap0 ap1 p_len p_signs) (V_P E.2.2 ap0 ap1 p_len p_signs) rr := by
  refine Ci.of (by decide) (Nat.le_of_ble_eq_true rfl) ?_
  intro x hE C
  subst hE
  have C : CX RX3 cX3_tryAt 2 (some .int) x := C
  refine p_locals [0, 1] (lv' := [(0, .ref ap0), (1, .int p1)]) rfl ?_
  unfold m_X3_tryAt at h
  refine p_aload_n C dX3_tryAt_0 rfl 0 rfl ?_
  refine p_get C dX3_tryAt_1 rfl 0 0 inlX3 fl_X3_9 rfl rfl (by decide) rfl rfl ?_
  refine p_iload_n C dX3_tryAt_4 rfl 1 rfl ?_
  obtain ⟨g1, h⟩ := grd_of h
  refine p_iald C dX3_tryAt_5 rfl 1 rfl g1 ?_
  refine p_bipush (v := (97 : Int32)) C dX3_tryAt_6 rfl (by decide) ?_
  refine p_isub C dX3_tryAt_8 rfl ?_
  cases h
  exact p_iret C dX3_tryAt_9
def B_X3_tellsOrderOf_14 (p_len : Int32) (p_signs : Ar)  (v1 : Int32) (kk : Int32 → Int32 → Option (Int32)) (v2 : Int32) (v3 : Int32)  : Option (Int32) := if p_len ≤ v3 then (some ((1 : Int32))) else (bd1 (m_X3_tryAt p_signs v3) (fun r2 => if r2 < 0 then (some ((0 : Int32))) else (if v1 ≤ r2 then (some ((0 : Int32))) else (bd1 (m_X5_isIn v2 r2) (fun r6 => if r6 = 0 then (kk (v2 ||| (((1 : Int32)) <<< (r2 &&& 31))) (v3 + 1)) else (some ((0 : Int32))))))))
def L_X3_tellsOrderOf_14 (p_len : Int32) (p_signs : Ar)  (v1 : Int32) : Nat → Int32 → Int32 → Option (Int32) := lpG (fun _ _ => none) (B_X3_tellsOrderOf_14 p_len p_signs v1)
set_option maxHeartbeats 4000000 in
set_option maxRecDepth 100000 in
theorem tl_X3_tellsOrderOf_14 {x : Cxt} {ap0 ap1 : Nat} {p_len : Int32} {p_signs : Ar}  {v1 : Int32} {rr : Int32} (C : CX RX3 cX3_tellsOrderOf 5 (some .boolean) x)  : ∀ (n : Nat) (v2 : Int32) (v3 : Int32) , L_X3_tellsOrderOf_14 p_len p_signs v1 n v2 v3 = some rr → PT (RM 1 21) 5 x 14 [(0, .ref ap0), (1, .int v1), (2, .int v2), (3, .int v3)] [] (V_P x.1.2.2 ap0 ap1 p_len p_signs) 0 0 (QI x rr (V_P x.1.2.2 ap0 ap1 p_len p_signs)) := by
  intro n
  induction n with
  | zero =>
    intro v2 v3 h
    cases h
  | succ n ih =>
    intro v2 v3 h
    have h : B_X3_tellsOrderOf_14 p_len p_signs v1 (L_X3_tellsOrderOf_14 p_len p_signs v1 n) v2 v3 = some rr := h
    unfold B_X3_tellsOrderOf_14 at h
    refine p_iload_n C dX3_tellsOrderOf_14 rfl 3 rfl ?_
    refine p_aload_n C dX3_tellsOrderOf_15 rfl 0 rfl ?_
    refine p_get C dX3_tellsOrderOf_16 rfl 0 1 inlX3 fl_X3_15 rfl rfl (by decide) rfl rfl ?_
    refine p_icmp_ge C dX3_tellsOrderOf_19 (tgt := 64) (by decide) rfl (fun c1 => ?_) (fun c1 => ?_)
    · have h := if_t c1 h
      refine p_iconst (v := (1 : Int32)) C dX3_tellsOrderOf_64 rfl (by decide) ?_
      cases h
      exact p_zret C dX3_tellsOrderOf_65 rfl
    · have h := if_f c1 h
      refine p_aload_n C dX3_tellsOrderOf_22 rfl 0 rfl ?_
      refine p_iload_n C dX3_tellsOrderOf_23 rfl 3 rfl ?_
      obtain ⟨r2, hc3, h⟩ := bd1_of h
      refine p_callVi_s (As := [.int v3]) (st' := []) (Wc' := (V_P x.1.2.2 ap0 ap1 p_len p_signs)) C (c_X3_tryAt x.1 (ap0 := ap0) (ap1 := ap1) (p_len := p_len) hc3) dX3_tellsOrderOf_24 rfl ml_X3_19 kv_X3_tryAt ds_X3_tryAt ⟨rfl, rfl, by decide, by decide⟩ 0 rfl rfl rfl rfl (by decide) ⟨by decide, by decide⟩ ?_
      refine p_istore (lv' := [(4, .int r2), (0, .ref ap0), (1, .int v1), (2, .int v2), (3, .int v3)]) C dX3_tellsOrderOf_27 rfl (by decide) rfl ?_
      refine p_iload C dX3_tellsOrderOf_29 rfl 0 rfl ?_
      refine p_if_lt C dX3_tellsOrderOf_31 (tgt := 49) (by decide) rfl (fun c4 => ?_) (fun c4 => ?_)
      · have h := if_t c4 h
        refine p_iconst (v := (0 : Int32)) C dX3_tellsOrderOf_49 rfl (by decide) ?_
        cases h
        exact p_zret C dX3_tellsOrderOf_50 rfl
      · have h := if_f c4 h
        refine p_iload C dX3_tellsOrderOf_34 rfl 0 rfl ?_
        refine p_iload_n C dX3_tellsOrderOf_36 rfl 2 rfl ?_
        refine p_icmp_ge C dX3_tellsOrderOf_37 (tgt := 49) (by decide) rfl (fun c5 => ?_) (fun c5 => ?_)
        · have h := if_t c5 h
          refine p_iconst (v := (0 : Int32)) C dX3_tellsOrderOf_49 rfl (by decide) ?_
          cases h
          exact p_zret C dX3_tellsOrderOf_50 rfl
        · have h := if_f c5 h
          refine p_iload_n C dX3_tellsOrderOf_40 rfl 3 rfl ?_
          refine p_iload C dX3_tellsOrderOf_41 rfl 0 rfl ?_
          obtain ⟨r6, hc7, h⟩ := bd1_of h
          refine p_callSNi (As := [.int v2, .int r2]) (st' := []) (Wd' := (V_P x.1.2.2 ap0 ap1 p_len p_signs)) C (c_X5_isIn x.1 hc7) dX3_tellsOrderOf_43 rfl nm_X3_23 ks_X5_isIn ds_X5_isIn ⟨rfl, rfl, by decide, by decide⟩ [] rfl rfl rfl rfl (by decide) ⟨by decide, by decide⟩ rfl ?_
          refine p_if_eq C dX3_tellsOrderOf_46 (tgt := 51) (by decide) rfl (fun c8 => ?_) (fun c8 => ?_)
          · have h := if_t c8 h
            refine p_iload_n C dX3_tellsOrderOf_51 rfl 3 rfl ?_
            refine p_iconst (v := (1 : Int32)) C dX3_tellsOrderOf_52 rfl (by decide) ?_
            refine p_iload C dX3_tellsOrderOf_53 rfl 0 rfl ?_
            refine p_ishl C dX3_tellsOrderOf_55 rfl ?_
            refine p_ior C dX3_tellsOrderOf_56 rfl ?_
            refine p_istore_n (lv' := [(2, .int (v2 ||| (((1 : Int32)) <<< (r2 &&& 31)))), (4, .int r2), (0, .ref ap0), (1, .int v1), (3, .int v3)]) C dX3_tellsOrderOf_57 rfl (by decide) rfl ?_
            refine p_iinc (w := v3 + 1) (lv' := [(3, .int (v3 + 1)), (2, .int (v2 ||| (((1 : Int32)) <<< (r2 &&& 31)))), (4, .int r2), (0, .ref ap0), (1, .int v1)]) C dX3_tellsOrderOf_58 rfl 4 rfl rfl (by decide) rfl ?_
            refine p_goto C dX3_tellsOrderOf_61 (pc' := 14) (by decide) ?_
            refine p_locals [3, 4, 1, 0] (lv' := [(0, .ref ap0), (1, .int v1), (2, .int (v2 ||| (((1 : Int32)) <<< (r2 &&& 31)))), (3, .int (v3 + 1))]) rfl ?_
            exact ih _ _ h
          · have h := if_f c8 h
            refine p_iconst (v := (0 : Int32)) C dX3_tellsOrderOf_49 rfl (by decide) ?_
            cases h
            exact p_zret C dX3_tellsOrderOf_50 rfl
def m_X3_tellsOrderOf (p_len : Int32) (p_signs : Ar) (p1 : Int32) : Option (Int32) := if p_len = p1 then (L_X3_tellsOrderOf_14 p_len p_signs p1 FU ((0 : Int32)) ((0 : Int32))) else (some ((0 : Int32)))
theorem ds_X3_tellsOrderOf : (yX3_tellsOrderOf).cls ≠ "java/lang/invoke/MethodHandle" ∧ (yX3_tellsOrderOf).cls ≠ "java/lang/invoke/VarHandle" ∧ (parseMethodDescriptor (yX3_tellsOrderOf).desc).map (fun d => d.parameters.length) = some 1 := by decide +kernel
set_option maxHeartbeats 4000000 in
set_option maxRecDepth 100000 in
theorem c_X3_tellsOrderOf (E : En) {ap0 ap1 : Nat} {p_len : Int32} {p_signs : Ar} {p1 : Int32} {rr : Int32} (h : m_X3_tellsOrderOf p_len p_signs p1 = some rr) : Ci E yX3_tellsOrderOf (wU yX3_tellsOrderOf cX3_tellsOrderOf 5 (some .boolean)) (RM 1 21) [.ref ap0, .int p1] (V_P E.2.2 ap0 ap1 p_len p_signs) (V_P E.2.2 ap0 ap1 p_len p_signs) rr := by
  refine Ci.of (by decide) (Nat.le_of_ble_eq_true rfl) ?_
  intro x hE C
  subst hE
  have C : CX RX3 cX3_tellsOrderOf 5 (some .boolean) x := C
  refine p_locals [0, 1] (lv' := [(0, .ref ap0), (1, .int p1)]) rfl ?_
  unfold m_X3_tellsOrderOf at h
  refine p_aload_n C dX3_tellsOrderOf_0 rfl 0 rfl ?_
  refine p_get C dX3_tellsOrderOf_1 rfl 0 1 inlX3 fl_X3_15 rfl rfl (by decide) rfl rfl ?_
  refine p_iload_n C dX3_tellsOrderOf_4 rfl 1 rfl ?_
  refine p_icmp_eq C dX3_tellsOrderOf_5 (tgt := 10) (by decide) rfl (fun c1 => ?_) (fun c1 => ?_)
  · have h := if_t c1 h
    refine p_iconst (v := (0 : Int32)) C dX3_tellsOrderOf_10 rfl (by decide) ?_
    refine p_istore_n (lv' := [(2, .int ((0 : Int32))), (0, .ref ap0), (1, .int p1)]) C dX3_tellsOrderOf_11 rfl (by decide) rfl ?_
    refine p_iconst (v := (0 : Int32)) C dX3_tellsOrderOf_12 rfl (by decide) ?_
    refine p_istore_n (lv' := [(3, .int ((0 : Int32))), (2, .int ((0 : Int32))), (0, .ref ap0), (1, .int p1)]) C dX3_tellsOrderOf_13 rfl (by decide) rfl ?_
    refine p_locals [2, 3, 1, 0] (lv' := [(0, .ref ap0), (1, .int p1), (2, .int ((0 : Int32))), (3, .int ((0 : Int32)))]) rfl ?_
    exact tl_X3_tellsOrderOf_14 C  FU _ _ h
  · have h := if_f c1 h
    refine p_iconst (v := (0 : Int32)) C dX3_tellsOrderOf_8 rfl (by decide) ?_
    cases h
    exact p_zret C dX3_tellsOrderOf_9 rfl
