def m_J6_bitCount_0f7a4  (p0 : Int32) : Option (Int32) := bd1 (some (((p0 - ((ushr p0 ((1 : Int32))) &&& ((1431655765 : Int32)))) &&& ((858993459 : Int32))) + ((ushr (p0 - ((ushr p0 ((1 : Int32))) &&& ((1431655765 : Int32)))) ((2 : Int32))) &&& ((858993459 : Int32))))) (fun x1 => bd1 (some (((x1 + (ushr x1 ((4 : Int32)))) &&& ((252645135 : Int32))) + (ushr ((x1 + (ushr x1 ((4 : Int32)))) &&& ((252645135 : Int32))) ((8 : Int32))))) (fun x3 => some ((x3 + (ushr x3 ((16 : Int32)))) &&& ((63 : Int32)))))
theorem ds_J6_bitCount_0f7a4 : (yJ6_bitCount_0f7a4).cls ≠ "java/lang/invoke/MethodHandle" ∧ (yJ6_bitCount_0f7a4).cls ≠ "java/lang/invoke/VarHandle" ∧ (parseMethodDescriptor (yJ6_bitCount_0f7a4).desc).map (fun d => d.parameters.length) = some 1 := by decide +kernel
set_option maxHeartbeats 4000000 in
set_option maxRecDepth 100000 in
theorem c_J6_bitCount_0f7a4 (E : En)  {p0 : Int32} {rr : Int32} (h : m_J6_bitCount_0f7a4 p0 = some rr) : Ci E yJ6_bitCount_0f7a4 (wU yJ6_bitCount_0f7a4 cJ6_bitCount_0f7a4 1 (some .int)) (RM 0 0) [.int p0] ([] : va_W) ([] : va_W) rr := by
  refine Ci.of (by decide) (Nat.le_of_ble_eq_true rfl) ?_
  intro x hE C
  subst hE
  have C : CX RJ6 cJ6_bitCount_0f7a4 1 (some .int) x := C
  refine p_locals [0] (lv' := [(0, .int p0)]) rfl ?_
  unfold m_J6_bitCount_0f7a4 at h
  refine p_iload_n C dJ6_bitCount_0f7a4_0 rfl 0 rfl ?_
  refine p_iload_n C dJ6_bitCount_0f7a4_1 rfl 0 rfl ?_
  refine p_iconst (v := (1 : Int32)) C dJ6_bitCount_0f7a4_2 rfl (by decide) ?_
  refine p_iushr C dJ6_bitCount_0f7a4_3 rfl ?_
  refine p_ldcw C dJ6_bitCount_0f7a4_4 rfl cst_J6_265 ?_
  refine p_iand C dJ6_bitCount_0f7a4_7 rfl ?_
  refine p_isub C dJ6_bitCount_0f7a4_8 rfl ?_
  refine p_istore_n (lv' := [(0, .int (p0 - ((ushr p0 ((1 : Int32))) &&& ((1431655765 : Int32)))))]) C dJ6_bitCount_0f7a4_9 rfl (by decide) rfl ?_
  refine p_iload_n C dJ6_bitCount_0f7a4_10 rfl 0 rfl ?_
  refine p_ldcw C dJ6_bitCount_0f7a4_11 rfl cst_J6_266 ?_
  refine p_iand C dJ6_bitCount_0f7a4_14 rfl ?_
  refine p_iload_n C dJ6_bitCount_0f7a4_15 rfl 0 rfl ?_
  refine p_iconst (v := (2 : Int32)) C dJ6_bitCount_0f7a4_16 rfl (by decide) ?_
  refine p_iushr C dJ6_bitCount_0f7a4_17 rfl ?_
  refine p_ldcw C dJ6_bitCount_0f7a4_18 rfl cst_J6_266 ?_
  refine p_iand C dJ6_bitCount_0f7a4_21 rfl ?_
  refine p_iadd C dJ6_bitCount_0f7a4_22 rfl ?_
  obtain ⟨x1, hx2, h⟩ := bd1_of h
  have hx2 := Option.some.inj hx2
  rw [hx2]
  refine p_istore_n (lv' := [(0, .int x1)]) C dJ6_bitCount_0f7a4_23 rfl (by decide) rfl ?_
  refine p_iload_n C dJ6_bitCount_0f7a4_24 rfl 0 rfl ?_
  refine p_iload_n C dJ6_bitCount_0f7a4_25 rfl 0 rfl ?_
  refine p_iconst (v := (4 : Int32)) C dJ6_bitCount_0f7a4_26 rfl (by decide) ?_
  refine p_iushr C dJ6_bitCount_0f7a4_27 rfl ?_
  refine p_iadd C dJ6_bitCount_0f7a4_28 rfl ?_
  refine p_ldcw C dJ6_bitCount_0f7a4_29 rfl cst_J6_267 ?_
  refine p_iand C dJ6_bitCount_0f7a4_32 rfl ?_
  refine p_istore_n (lv' := [(0, .int ((x1 + (ushr x1 ((4 : Int32)))) &&& ((252645135 : Int32))))]) C dJ6_bitCount_0f7a4_33 rfl (by decide) rfl ?_
  refine p_iload_n C dJ6_bitCount_0f7a4_34 rfl 0 rfl ?_
  refine p_iload_n C dJ6_bitCount_0f7a4_35 rfl 0 rfl ?_
  refine p_bipush (v := (8 : Int32)) C dJ6_bitCount_0f7a4_36 rfl (by decide) ?_
  refine p_iushr C dJ6_bitCount_0f7a4_38 rfl ?_
  refine p_iadd C dJ6_bitCount_0f7a4_39 rfl ?_
  obtain ⟨x3, hx4, h⟩ := bd1_of h
  have hx4 := Option.some.inj hx4
  rw [hx4]
  refine p_istore_n (lv' := [(0, .int x3)]) C dJ6_bitCount_0f7a4_40 rfl (by decide) rfl ?_
  refine p_iload_n C dJ6_bitCount_0f7a4_41 rfl 0 rfl ?_
  refine p_iload_n C dJ6_bitCount_0f7a4_42 rfl 0 rfl ?_
  refine p_bipush (v := (16 : Int32)) C dJ6_bitCount_0f7a4_43 rfl (by decide) ?_
  refine p_iushr C dJ6_bitCount_0f7a4_45 rfl ?_
  refine p_iadd C dJ6_bitCount_0f7a4_46 rfl ?_
  refine p_istore_n (lv' := [(0, .int (x3 + (ushr x3 ((16 : Int32)))))]) C dJ6_bitCount_0f7a4_47 rfl (by decide) rfl ?_
  refine p_iload_n C dJ6_bitCount_0f7a4_48 rfl 0 rfl ?_
  refine p_bipush (v := (63 : Int32)) C dJ6_bitCount_0f7a4_49 rfl (by decide) ?_
  refine p_iand C dJ6_bitCount_0f7a4_51 rfl ?_
  cases h
  exact p_iret C dJ6_bitCount_0f7a4_52
def m_X0_addPoint (b_points : Int32) (b_nets : Ar) (b_xs : Ar) (b_ys : Ar) (p1 : Int32) (p2 : Int32) (p3 : Int32) : Option (Int32 × Int32 × Ar × Ar × Ar) := grd (gI b_points 8) (grd (gI b_points 8) (grd (gI b_points 8) (some (b_points, b_points + ((1 : Int32)), upd b_nets b_points.toNatClampNeg p1, upd b_xs b_points.toNatClampNeg p2, upd b_ys b_points.toNatClampNeg p3))))
theorem ds_X0_addPoint : (yX0_addPoint).cls ≠ "java/lang/invoke/MethodHandle" ∧ (yX0_addPoint).cls ≠ "java/lang/invoke/VarHandle" ∧ (parseMethodDescriptor (yX0_addPoint).desc).map (fun d => d.parameters.length) = some 3 := by decide +kernel
set_option maxHeartbeats 4000000 in
set_option maxRecDepth 100000 in
theorem c_X0_addPoint (E : En) {ab0 ab1 ab2 ab3 : Nat} {b_points : Int32} {b_near : Int32} {b_loose : Int32} {b_short : Int32} {b_nets : Ar} {b_xs : Ar} {b_ys : Ar} {p1 : Int32} {p2 : Int32} {p3 : Int32} {rr : Int32} {q_b_points : Int32} {q_b_nets : Ar} {q_b_xs : Ar} {q_b_ys : Ar} (h : m_X0_addPoint b_points b_nets b_xs b_ys p1 p2 p3 = some (rr, q_b_points, q_b_nets, q_b_xs, q_b_ys)) : Ci E yX0_addPoint (wU yX0_addPoint cX0_addPoint 5 (some .int)) (RM 0 0) [.ref ab0, .int p1, .int p2, .int p3] (V_B E.2.2 ab0 ab1 ab2 ab3 b_points b_near b_loose b_short b_nets b_xs b_ys) (V_B E.2.2 ab0 ab1 ab2 ab3 q_b_points b_near b_loose b_short q_b_nets q_b_xs q_b_ys) rr := by
  refine Ci.of (by decide) (Nat.le_of_ble_eq_true rfl) ?_
  intro x hE C
  subst hE
  have C : CX RX0 cX0_addPoint 5 (some .int) x := C
  refine p_locals [0, 1, 2, 3] (lv' := [(0, .ref ab0), (1, .int p1), (2, .int p2), (3, .int p3)]) rfl ?_
  unfold m_X0_addPoint at h
  refine p_aload_n C dX0_addPoint_0 rfl 0 rfl ?_
  refine p_get C dX0_addPoint_1 rfl 0 3 inlX0 fl_X0_21 rfl rfl (by decide) rfl rfl ?_
  refine p_istore (lv' := [(4, .int b_points), (0, .ref ab0), (1, .int p1), (2, .int p2), (3, .int p3)]) C dX0_addPoint_4 rfl (by decide) rfl ?_
  refine p_aload_n C dX0_addPoint_6 rfl 1 rfl ?_
  refine p_get C dX0_addPoint_7 rfl 0 0 inlX0 fl_X0_9 rfl rfl (by decide) rfl rfl ?_
  refine p_iload C dX0_addPoint_10 rfl 0 rfl ?_
  refine p_iload_n C dX0_addPoint_12 rfl 2 rfl ?_
  obtain ⟨g1, h⟩ := grd_of h
  refine p_iast (Wd' := (V_B x.1.2.2 ab0 ab1 ab2 ab3 b_points b_near b_loose b_short (upd b_nets b_points.toNatClampNeg p1) b_xs b_ys)) C dX0_addPoint_13 rfl 1 rfl g1 rfl ?_
  refine p_aload_n C dX0_addPoint_14 rfl 1 rfl ?_
  refine p_get C dX0_addPoint_15 rfl 0 1 inlX0 fl_X0_15 rfl rfl (by decide) rfl rfl ?_
  refine p_iload C dX0_addPoint_18 rfl 0 rfl ?_
  refine p_iload_n C dX0_addPoint_20 rfl 3 rfl ?_
  obtain ⟨g2, h⟩ := grd_of h
  refine p_iast (Wd' := (V_B x.1.2.2 ab0 ab1 ab2 ab3 b_points b_near b_loose b_short (upd b_nets b_points.toNatClampNeg p1) (upd b_xs b_points.toNatClampNeg p2) b_ys)) C dX0_addPoint_21 rfl 2 rfl g2 rfl ?_
  refine p_aload_n C dX0_addPoint_22 rfl 1 rfl ?_
  refine p_get C dX0_addPoint_23 rfl 0 2 inlX0 fl_X0_18 rfl rfl (by decide) rfl rfl ?_
  refine p_iload C dX0_addPoint_26 rfl 0 rfl ?_
  refine p_iload_n C dX0_addPoint_28 rfl 4 rfl ?_
  obtain ⟨g3, h⟩ := grd_of h
  refine p_iast (Wd' := (V_B x.1.2.2 ab0 ab1 ab2 ab3 b_points b_near b_loose b_short (upd b_nets b_points.toNatClampNeg p1) (upd b_xs b_points.toNatClampNeg p2) (upd b_ys b_points.toNatClampNeg p3))) C dX0_addPoint_29 rfl 3 rfl g3 rfl ?_
  refine p_aload_n C dX0_addPoint_30 rfl 1 rfl ?_
  refine p_dup C dX0_addPoint_31 rfl rfl ?_
  refine p_get C dX0_addPoint_32 rfl 0 3 inlX0 fl_X0_21 rfl rfl (by decide) rfl rfl ?_
  refine p_iconst (v := (1 : Int32)) C dX0_addPoint_35 rfl (by decide) ?_
  refine p_iadd C dX0_addPoint_36 rfl ?_
  refine p_put (Wd' := (V_B x.1.2.2 ab0 ab1 ab2 ab3 (b_points + ((1 : Int32))) b_near b_loose b_short (upd b_nets b_points.toNatClampNeg p1) (upd b_xs b_points.toNatClampNeg p2) (upd b_ys b_points.toNatClampNeg p3))) (ty := .int) C dX0_addPoint_37 rfl 0 3 inlX0 tyX0 tyX0_ok nmX0 fl_X0_21 rfl rfl (by decide) rfl rfl (by decide +kernel) rfl rfl (Nat.le_of_ble_eq_true rfl) rfl ?_
  refine p_iload C dX0_addPoint_40 rfl 0 rfl ?_
  cases h
  exact p_iret C dX0_addPoint_42
def B_X0_copyFrom_2 (b_points : Int32) (b_near : Int32) (b_loose : Int32) (b_short : Int32) (c_points : Int32) (c_near : Int32) (c_loose : Int32) (c_short : Int32) (c_nets : Ar) (c_xs : Ar) (c_ys : Ar)   (kk : Int32 → Ar → Ar → Ar → Option (Int32 × Int32 × Int32 × Int32 × Ar × Ar × Ar)) (v2 : Int32) (b_nets : Ar) (b_xs : Ar) (b_ys : Ar) : Option (Int32 × Int32 × Int32 × Int32 × Ar × Ar × Ar) := if ((8 : Int32)) ≤ v2 then (some (c_points, c_near, c_loose, c_short, b_nets, b_xs, b_ys)) else (grd (gI v2 8) (grd (gI v2 8) (grd (gI v2 8) (grd (gI v2 8) (grd (gI v2 8) (grd (gI v2 8) (kk (v2 + 1) (upd b_nets v2.toNatClampNeg (c_nets v2.toNatClampNeg)) (upd b_xs v2.toNatClampNeg (c_xs v2.toNatClampNeg)) (upd b_ys v2.toNatClampNeg (c_ys v2.toNatClampNeg)))))))))
def L_X0_copyFrom_2 (b_points : Int32) (b_near : Int32) (b_loose : Int32) (b_short : Int32) (c_points : Int32) (c_near : Int32) (c_loose : Int32) (c_short : Int32) (c_nets : Ar) (c_xs : Ar) (c_ys : Ar)   : Nat → Int32 → Ar → Ar → Ar → Option (Int32 × Int32 × Int32 × Int32 × Ar × Ar × Ar) := lpG (fun _ _ _ _ => none) (B_X0_copyFrom_2 b_points b_near b_loose b_short c_points c_near c_loose c_short c_nets c_xs c_ys)
set_option maxHeartbeats 4000000 in
set_option maxRecDepth 100000 in
theorem tl_X0_copyFrom_2 {x : Cxt} {ab0 ab1 ab2 ab3 ac0 ac1 ac2 ac3 : Nat} {b_points : Int32} {b_near : Int32} {b_loose : Int32} {b_short : Int32} {c_points : Int32} {c_near : Int32} {c_loose : Int32} {c_short : Int32} {c_nets : Ar} {c_xs : Ar} {c_ys : Ar}   {q_b_points : Int32} {q_b_near : Int32} {q_b_loose : Int32} {q_b_short : Int32} {q_b_nets : Ar} {q_b_xs : Ar} {q_b_ys : Ar} (C : CX RX0 cX0_copyFrom 3 none x)  : ∀ (n : Nat) (v2 : Int32) (b_nets : Ar) (b_xs : Ar) (b_ys : Ar), L_X0_copyFrom_2 b_points b_near b_loose b_short c_points c_near c_loose c_short c_nets c_xs c_ys n v2 b_nets b_xs b_ys = some (q_b_points, q_b_near, q_b_loose, q_b_short, q_b_nets, q_b_xs, q_b_ys) → PT (RM 0 0) 3 x 2 [(0, .ref ab0), (1, .ref ac0), (2, .int v2)] [] (V_BC x.1.2.2 ab0 ab1 ab2 ab3 ac0 ac1 ac2 ac3 b_points b_near b_loose b_short b_nets b_xs b_ys c_points c_near c_loose c_short c_nets c_xs c_ys) 0 0 (QV x (V_BC x.1.2.2 ab0 ab1 ab2 ab3 ac0 ac1 ac2 ac3 q_b_points q_b_near q_b_loose q_b_short q_b_nets q_b_xs q_b_ys c_points c_near c_loose c_short c_nets c_xs c_ys)) := by
  intro n
  induction n with
  | zero =>
    intro v2 b_nets b_xs b_ys h
    cases h
  | succ n ih =>
    intro v2 b_nets b_xs b_ys h
    have h : B_X0_copyFrom_2 b_points b_near b_loose b_short c_points c_near c_loose c_short c_nets c_xs c_ys (L_X0_copyFrom_2 b_points b_near b_loose b_short c_points c_near c_loose c_short c_nets c_xs c_ys n) v2 b_nets b_xs b_ys = some (q_b_points, q_b_near, q_b_loose, q_b_short, q_b_nets, q_b_xs, q_b_ys) := h
    unfold B_X0_copyFrom_2 at h
    refine p_iload_n C dX0_copyFrom_2 rfl 2 rfl ?_
    refine p_bipush (v := (8 : Int32)) C dX0_copyFrom_3 rfl (by decide) ?_
    refine p_icmp_ge C dX0_copyFrom_5 (tgt := 50) (by decide) rfl (fun c1 => ?_) (fun c1 => ?_)
    · have h := if_t c1 h
      refine p_aload_n C dX0_copyFrom_50 rfl 0 rfl ?_
      refine p_aload_n C dX0_copyFrom_51 rfl 1 rfl ?_
      refine p_get C dX0_copyFrom_52 rfl 4 3 inlX0 fl_X0_21 rfl rfl (by decide) rfl rfl ?_
      refine p_put (Wd' := (V_BC x.1.2.2 ab0 ab1 ab2 ab3 ac0 ac1 ac2 ac3 c_points b_near b_loose b_short b_nets b_xs b_ys c_points c_near c_loose c_short c_nets c_xs c_ys)) (ty := .int) C dX0_copyFrom_55 rfl 0 3 inlX0 tyX0 tyX0_ok nmX0 fl_X0_21 rfl rfl (by decide) rfl rfl (by decide +kernel) rfl rfl (Nat.le_of_ble_eq_true rfl) rfl ?_
      refine p_aload_n C dX0_copyFrom_58 rfl 0 rfl ?_
      refine p_aload_n C dX0_copyFrom_59 rfl 1 rfl ?_
      refine p_get C dX0_copyFrom_60 rfl 4 4 inlX0 fl_X0_25 rfl rfl (by decide) rfl rfl ?_
      refine p_put (Wd' := (V_BC x.1.2.2 ab0 ab1 ab2 ab3 ac0 ac1 ac2 ac3 c_points c_near b_loose b_short b_nets b_xs b_ys c_points c_near c_loose c_short c_nets c_xs c_ys)) (ty := .int) C dX0_copyFrom_63 rfl 0 4 inlX0 tyX0 tyX0_ok nmX0 fl_X0_25 rfl rfl (by decide) rfl rfl (by decide +kernel) rfl rfl (Nat.le_of_ble_eq_true rfl) rfl ?_
      refine p_aload_n C dX0_copyFrom_66 rfl 0 rfl ?_
      refine p_aload_n C dX0_copyFrom_67 rfl 1 rfl ?_
      refine p_get C dX0_copyFrom_68 rfl 4 5 inlX0 fl_X0_28 rfl rfl (by decide) rfl rfl ?_
      refine p_put (Wd' := (V_BC x.1.2.2 ab0 ab1 ab2 ab3 ac0 ac1 ac2 ac3 c_points c_near c_loose b_short b_nets b_xs b_ys c_points c_near c_loose c_short c_nets c_xs c_ys)) (ty := .int) C dX0_copyFrom_71 rfl 0 5 inlX0 tyX0 tyX0_ok nmX0 fl_X0_28 rfl rfl (by decide) rfl rfl (by decide +kernel) rfl rfl (Nat.le_of_ble_eq_true rfl) rfl ?_
      refine p_aload_n C dX0_copyFrom_74 rfl 0 rfl ?_
      refine p_aload_n C dX0_copyFrom_75 rfl 1 rfl ?_
      refine p_get C dX0_copyFrom_76 rfl 4 6 inlX0 fl_X0_31 rfl rfl (by decide) rfl rfl ?_
      refine p_put (Wd' := (V_BC x.1.2.2 ab0 ab1 ab2 ab3 ac0 ac1 ac2 ac3 c_points c_near c_loose c_short b_nets b_xs b_ys c_points c_near c_loose c_short c_nets c_xs c_ys)) (ty := .int) C dX0_copyFrom_79 rfl 0 6 inlX0 tyX0 tyX0_ok nmX0 fl_X0_31 rfl rfl (by decide) rfl rfl (by decide +kernel) rfl rfl (Nat.le_of_ble_eq_true rfl) rfl ?_
      cases h
      exact p_vret C dX0_copyFrom_82
    · have h := if_f c1 h
      refine p_aload_n C dX0_copyFrom_8 rfl 0 rfl ?_
      refine p_get C dX0_copyFrom_9 rfl 0 0 inlX0 fl_X0_9 rfl rfl (by decide) rfl rfl ?_
      refine p_iload_n C dX0_copyFrom_12 rfl 2 rfl ?_
      refine p_aload_n C dX0_copyFrom_13 rfl 1 rfl ?_
      refine p_get C dX0_copyFrom_14 rfl 4 0 inlX0 fl_X0_9 rfl rfl (by decide) rfl rfl ?_
      refine p_iload_n C dX0_copyFrom_17 rfl 2 rfl ?_
      obtain ⟨g2, h⟩ := grd_of h
      refine p_iald C dX0_copyFrom_18 rfl 5 rfl g2 ?_
      obtain ⟨g3, h⟩ := grd_of h
      refine p_iast (Wd' := (V_BC x.1.2.2 ab0 ab1 ab2 ab3 ac0 ac1 ac2 ac3 b_points b_near b_loose b_short (upd b_nets v2.toNatClampNeg (c_nets v2.toNatClampNeg)) b_xs b_ys c_points c_near c_loose c_short c_nets c_xs c_ys)) C dX0_copyFrom_19 rfl 1 rfl g3 rfl ?_
      refine p_aload_n C dX0_copyFrom_20 rfl 0 rfl ?_
      refine p_get C dX0_copyFrom_21 rfl 0 1 inlX0 fl_X0_15 rfl rfl (by decide) rfl rfl ?_
      refine p_iload_n C dX0_copyFrom_24 rfl 2 rfl ?_
      refine p_aload_n C dX0_copyFrom_25 rfl 1 rfl ?_
      refine p_get C dX0_copyFrom_26 rfl 4 1 inlX0 fl_X0_15 rfl rfl (by decide) rfl rfl ?_
      refine p_iload_n C dX0_copyFrom_29 rfl 2 rfl ?_
      obtain ⟨g4, h⟩ := grd_of h
      refine p_iald C dX0_copyFrom_30 rfl 6 rfl g4 ?_
      obtain ⟨g5, h⟩ := grd_of h
      refine p_iast (Wd' := (V_BC x.1.2.2 ab0 ab1 ab2 ab3 ac0 ac1 ac2 ac3 b_points b_near b_loose b_short (upd b_nets v2.toNatClampNeg (c_nets v2.toNatClampNeg)) (upd b_xs v2.toNatClampNeg (c_xs v2.toNatClampNeg)) b_ys c_points c_near c_loose c_short c_nets c_xs c_ys)) C dX0_copyFrom_31 rfl 2 rfl g5 rfl ?_
      refine p_aload_n C dX0_copyFrom_32 rfl 0 rfl ?_
      refine p_get C dX0_copyFrom_33 rfl 0 2 inlX0 fl_X0_18 rfl rfl (by decide) rfl rfl ?_
      refine p_iload_n C dX0_copyFrom_36 rfl 2 rfl ?_
      refine p_aload_n C dX0_copyFrom_37 rfl 1 rfl ?_
      refine p_get C dX0_copyFrom_38 rfl 4 2 inlX0 fl_X0_18 rfl rfl (by decide) rfl rfl ?_
      refine p_iload_n C dX0_copyFrom_41 rfl 2 rfl ?_
      obtain ⟨g6, h⟩ := grd_of h
      refine p_iald C dX0_copyFrom_42 rfl 7 rfl g6 ?_
      obtain ⟨g7, h⟩ := grd_of h
      refine p_iast (Wd' := (V_BC x.1.2.2 ab0 ab1 ab2 ab3 ac0 ac1 ac2 ac3 b_points b_near b_loose b_short (upd b_nets v2.toNatClampNeg (c_nets v2.toNatClampNeg)) (upd b_xs v2.toNatClampNeg (c_xs v2.toNatClampNeg)) (upd b_ys v2.toNatClampNeg (c_ys v2.toNatClampNeg)) c_points c_near c_loose c_short c_nets c_xs c_ys)) C dX0_copyFrom_43 rfl 3 rfl g7 rfl ?_
      refine p_iinc (w := v2 + 1) (lv' := [(2, .int (v2 + 1)), (0, .ref ab0), (1, .ref ac0)]) C dX0_copyFrom_44 rfl 2 rfl rfl (by decide) rfl ?_
      refine p_goto C dX0_copyFrom_47 (pc' := 2) (by decide) ?_
      refine p_locals [1, 2, 0] (lv' := [(0, .ref ab0), (1, .ref ac0), (2, .int (v2 + 1))]) rfl ?_
      exact ih _ _ _ _ h
def m_X0_copyFrom (b_points : Int32) (b_near : Int32) (b_loose : Int32) (b_short : Int32) (b_nets : Ar) (b_xs : Ar) (b_ys : Ar) (c_points : Int32) (c_near : Int32) (c_loose : Int32) (c_short : Int32) (c_nets : Ar) (c_xs : Ar) (c_ys : Ar)  : Option (Int32 × Int32 × Int32 × Int32 × Ar × Ar × Ar) := L_X0_copyFrom_2 b_points b_near b_loose b_short c_points c_near c_loose c_short c_nets c_xs c_ys FU ((0 : Int32)) b_nets b_xs b_ys
theorem ds_X0_copyFrom : (yX0_copyFrom).cls ≠ "java/lang/invoke/MethodHandle" ∧ (yX0_copyFrom).cls ≠ "java/lang/invoke/VarHandle" ∧ (parseMethodDescriptor (yX0_copyFrom).desc).map (fun d => d.parameters.length) = some 1 := by decide +kernel
set_option maxHeartbeats 4000000 in
set_option maxRecDepth 100000 in
theorem c_X0_copyFrom (E : En) {ab0 ab1 ab2 ab3 ac0 ac1 ac2 ac3 : Nat} {b_points : Int32} {b_near : Int32} {b_loose : Int32} {b_short : Int32} {b_nets : Ar} {b_xs : Ar} {b_ys : Ar} {c_points : Int32} {c_near : Int32} {c_loose : Int32} {c_short : Int32} {c_nets : Ar} {c_xs : Ar} {c_ys : Ar}  {q_b_points : Int32} {q_b_near : Int32} {q_b_loose : Int32} {q_b_short : Int32} {q_b_nets : Ar} {q_b_xs : Ar} {q_b_ys : Ar} (h : m_X0_copyFrom b_points b_near b_loose b_short b_nets b_xs b_ys c_points c_near c_loose c_short c_nets c_xs c_ys = some (q_b_points, q_b_near, q_b_loose, q_b_short, q_b_nets, q_b_xs, q_b_ys)) : Cv E yX0_copyFrom (wU yX0_copyFrom cX0_copyFrom 3 none) (RM 0 0) [.ref ab0, .ref ac0] (V_BC E.2.2 ab0 ab1 ab2 ab3 ac0 ac1 ac2 ac3 b_points b_near b_loose b_short b_nets b_xs b_ys c_points c_near c_loose c_short c_nets c_xs c_ys) (V_BC E.2.2 ab0 ab1 ab2 ab3 ac0 ac1 ac2 ac3 q_b_points q_b_near q_b_loose q_b_short q_b_nets q_b_xs q_b_ys c_points c_near c_loose c_short c_nets c_xs c_ys) := by
  refine Cv.of (by decide) (Nat.le_of_ble_eq_true rfl) ?_
  intro x hE C
  subst hE
  have C : CX RX0 cX0_copyFrom 3 none x := C
  refine p_locals [0, 1] (lv' := [(0, .ref ab0), (1, .ref ac0)]) rfl ?_
  unfold m_X0_copyFrom at h
  refine p_iconst (v := (0 : Int32)) C dX0_copyFrom_0 rfl (by decide) ?_
  refine p_istore_n (lv' := [(2, .int ((0 : Int32))), (0, .ref ab0), (1, .ref ac0)]) C dX0_copyFrom_1 rfl (by decide) rfl ?_
  refine p_locals [1, 2, 0] (lv' := [(0, .ref ab0), (1, .ref ac0), (2, .int ((0 : Int32)))]) rfl ?_
  exact tl_X0_copyFrom_2 C  FU _ _ _ _ h
def B_X0_countNetsWithPoints_4 (b_points : Int32) (b_nets : Ar)   (kk : Int32 → Int32 → Option (Int32)) (v1 : Int32) (v2 : Int32)  : Option (Int32) := if b_points ≤ v2 then (bd1 (m_J6_bitCount_0f7a4 v1) (fun r2 => some r2)) else (grd (gI v2 8) (kk (v1 ||| (((1 : Int32)) <<< ((b_nets v2.toNatClampNeg) &&& 31))) (v2 + 1)))
def L_X0_countNetsWithPoints_4 (b_points : Int32) (b_nets : Ar)   : Nat → Int32 → Int32 → Option (Int32) := lpG (fun _ _ => none) (B_X0_countNetsWithPoints_4 b_points b_nets)
set_option maxHeartbeats 4000000 in
set_option maxRecDepth 100000 in
theorem tl_X0_countNetsWithPoints_4 {x : Cxt} {ab0 ab1 ab2 ab3 : Nat} {b_points : Int32} {b_near : Int32} {b_loose : Int32} {b_short : Int32} {b_nets : Ar} {b_xs : Ar} {b_ys : Ar}   {rr : Int32} (C : CX RX0 cX0_countNetsWithPoints 3 (some .int) x)  : ∀ (n : Nat) (v1 : Int32) (v2 : Int32) , L_X0_countNetsWithPoints_4 b_points b_nets n v1 v2 = some rr → PT (RM 1 20) 3 x 4 [(0, .ref ab0), (1, .int v1), (2, .int v2)] [] (V_B x.1.2.2 ab0 ab1 ab2 ab3 b_points b_near b_loose b_short b_nets b_xs b_ys) 0 0 (QI x rr (V_B x.1.2.2 ab0 ab1 ab2 ab3 b_points b_near b_loose b_short b_nets b_xs b_ys)) := by
  intro n
  induction n with
  | zero =>
    intro v1 v2 h
    cases h
  | succ n ih =>
    intro v1 v2 h
    have h : B_X0_countNetsWithPoints_4 b_points b_nets (L_X0_countNetsWithPoints_4 b_points b_nets n) v1 v2 = some rr := h
    unfold B_X0_countNetsWithPoints_4 at h
    refine p_iload_n C dX0_countNetsWithPoints_4 rfl 2 rfl ?_
    refine p_aload_n C dX0_countNetsWithPoints_5 rfl 0 rfl ?_
    refine p_get C dX0_countNetsWithPoints_6 rfl 0 3 inlX0 fl_X0_21 rfl rfl (by decide) rfl rfl ?_
    refine p_icmp_ge C dX0_countNetsWithPoints_9 (tgt := 29) (by decide) rfl (fun c1 => ?_) (fun c1 => ?_)
    · have h := if_t c1 h
      refine p_iload_n C dX0_countNetsWithPoints_29 rfl 1 rfl ?_
      obtain ⟨r2, hc3, h⟩ := bd1_of h
      refine p_callSi (As := [.int v1]) (st' := []) (Wd' := (V_B x.1.2.2 ab0 ab1 ab2 ab3 b_points b_near b_loose b_short b_nets b_xs b_ys)) C (c_J6_bitCount_0f7a4 x.1 hc3) dX0_countNetsWithPoints_30 rfl ml_X0_38 ks_J6_bitCount_0f7a4 ds_J6_bitCount_0f7a4 ⟨rfl, rfl, by decide, by decide⟩ [] rfl rfl rfl rfl (by decide) ⟨by decide, by decide⟩ rfl ?_
      cases h
      exact p_iret C dX0_countNetsWithPoints_33
    · have h := if_f c1 h
      refine p_iload_n C dX0_countNetsWithPoints_12 rfl 1 rfl ?_
      refine p_iconst (v := (1 : Int32)) C dX0_countNetsWithPoints_13 rfl (by decide) ?_
      refine p_aload_n C dX0_countNetsWithPoints_14 rfl 0 rfl ?_
      refine p_get C dX0_countNetsWithPoints_15 rfl 0 0 inlX0 fl_X0_9 rfl rfl (by decide) rfl rfl ?_
      refine p_iload_n C dX0_countNetsWithPoints_18 rfl 2 rfl ?_
      obtain ⟨g4, h⟩ := grd_of h
      refine p_iald C dX0_countNetsWithPoints_19 rfl 1 rfl g4 ?_
      refine p_ishl C dX0_countNetsWithPoints_20 rfl ?_
      refine p_ior C dX0_countNetsWithPoints_21 rfl ?_
      refine p_istore_n (lv' := [(1, .int (v1 ||| (((1 : Int32)) <<< ((b_nets v2.toNatClampNeg) &&& 31)))), (0, .ref ab0), (2, .int v2)]) C dX0_countNetsWithPoints_22 rfl (by decide) rfl ?_
      refine p_iinc (w := v2 + 1) (lv' := [(2, .int (v2 + 1)), (1, .int (v1 ||| (((1 : Int32)) <<< ((b_nets v2.toNatClampNeg) &&& 31)))), (0, .ref ab0)]) C dX0_countNetsWithPoints_23 rfl 2 rfl rfl (by decide) rfl ?_
      refine p_goto C dX0_countNetsWithPoints_26 (pc' := 4) (by decide) ?_
      refine p_locals [2, 1, 0] (lv' := [(0, .ref ab0), (1, .int (v1 ||| (((1 : Int32)) <<< ((b_nets v2.toNatClampNeg) &&& 31)))), (2, .int (v2 + 1))]) rfl ?_
      exact ih _ _ h
def m_X0_countNetsWithPoints (b_points : Int32) (b_nets : Ar)  : Option (Int32) := L_X0_countNetsWithPoints_4 b_points b_nets FU ((0 : Int32)) ((0 : Int32))
theorem ds_X0_countNetsWithPoints : (yX0_countNetsWithPoints).cls ≠ "java/lang/invoke/MethodHandle" ∧ (yX0_countNetsWithPoints).cls ≠ "java/lang/invoke/VarHandle" ∧ (parseMethodDescriptor (yX0_countNetsWithPoints).desc).map (fun d => d.parameters.length) = some 0 := by decide +kernel
set_option maxHeartbeats 4000000 in
set_option maxRecDepth 100000 in
theorem c_X0_countNetsWithPoints (E : En) {ab0 ab1 ab2 ab3 : Nat} {b_points : Int32} {b_near : Int32} {b_loose : Int32} {b_short : Int32} {b_nets : Ar} {b_xs : Ar} {b_ys : Ar}  {rr : Int32} (h : m_X0_countNetsWithPoints b_points b_nets = some rr) : Ci E yX0_countNetsWithPoints (wU yX0_countNetsWithPoints cX0_countNetsWithPoints 3 (some .int)) (RM 1 20) [.ref ab0] (V_B E.2.2 ab0 ab1 ab2 ab3 b_points b_near b_loose b_short b_nets b_xs b_ys) (V_B E.2.2 ab0 ab1 ab2 ab3 b_points b_near b_loose b_short b_nets b_xs b_ys) rr := by
  refine Ci.of (by decide) (Nat.le_of_ble_eq_true rfl) ?_
  intro x hE C
  subst hE
  have C : CX RX0 cX0_countNetsWithPoints 3 (some .int) x := C
  refine p_locals [0] (lv' := [(0, .ref ab0)]) rfl ?_
  unfold m_X0_countNetsWithPoints at h
  refine p_iconst (v := (0 : Int32)) C dX0_countNetsWithPoints_0 rfl (by decide) ?_
  refine p_istore_n (lv' := [(1, .int ((0 : Int32))), (0, .ref ab0)]) C dX0_countNetsWithPoints_1 rfl (by decide) rfl ?_
  refine p_iconst (v := (0 : Int32)) C dX0_countNetsWithPoints_2 rfl (by decide) ?_
  refine p_istore_n (lv' := [(2, .int ((0 : Int32))), (1, .int ((0 : Int32))), (0, .ref ab0)]) C dX0_countNetsWithPoints_3 rfl (by decide) rfl ?_
  refine p_locals [2, 1, 0] (lv' := [(0, .ref ab0), (1, .int ((0 : Int32))), (2, .int ((0 : Int32)))]) rfl ?_
  exact tl_X0_countNetsWithPoints_4 C  FU _ _ h
