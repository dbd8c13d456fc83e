section RW
variable {own : String} {cc : ByteArray} {nL : Nat} {ret : Option FieldType} {R : Room} {x : Cxt} {pc pc' : Nat} {lv lv' : List (Nat × Value)} {st : List Value} {Wd Wd' : va_W} {cl sl : Nat} {Q : State → Prop}
theorem p_iconst (C : CX own cc nL ret x) {n : Int} {v : Int32} (hd : decode cc pc = .ok (.iconst n, 1)) (hp : pc + 1 = pc') (hv : Int32.ofInt n = v) (k : PT R nL x pc' lv (.int v :: st) Wd cl sl Q) : PT R nL x pc lv st Wd cl sl Q := by
  obtain ⟨⟨l, D, k0⟩, p, e, s, m, args, below, meth, c, A⟩ := x
  obtain ⟨hx, hb, hml, hown, hts, hr, hlk, hK, hA, hN, hS0⟩ := C
  subst hp
  intro H locs ls hH hl
  exact lv_iconst hx hb hd hv (k H locs ls hH hl)
theorem p_bipush (C : CX own cc nL ret x) {n : Int} {v : Int32} (hd : decode cc pc = .ok (.bipush n, 2)) (hp : pc + 2 = pc') (hv : (Int8.ofInt n).toInt32 = v) (k : PT R nL x pc' lv (.int v :: st) Wd cl sl Q) : PT R nL x pc lv st Wd cl sl Q := by
  obtain ⟨⟨l, D, k0⟩, p, e, s, m, args, below, meth, c, A⟩ := x
  obtain ⟨hx, hb, hml, hown, hts, hr, hlk, hK, hA, hN, hS0⟩ := C
  subst hp
  intro H locs ls hH hl
  exact lv_bipush hx hb hd hv (k H locs ls hH hl)
theorem p_sipush (C : CX own cc nL ret x) {n : Int} {v : Int32} (hd : decode cc pc = .ok (.sipush n, 3)) (hp : pc + 3 = pc') (hv : (Int16.ofInt n).toInt32 = v) (k : PT R nL x pc' lv (.int v :: st) Wd cl sl Q) : PT R nL x pc lv st Wd cl sl Q := by
  obtain ⟨⟨l, D, k0⟩, p, e, s, m, args, below, meth, c, A⟩ := x
  obtain ⟨hx, hb, hml, hown, hts, hr, hlk, hK, hA, hN, hS0⟩ := C
  subst hp
  intro H locs ls hH hl
  exact lv_sipush hx hb hd hv (k H locs ls hH hl)
theorem p_ldc (C : CX own cc nL ret x) {index : Nat} {v : Int32} (hd : decode cc pc = .ok (.ldc index, 2)) (hp : pc + 2 = pc') (hw : Cond.constant own index v ∈ wG) (k : PT R nL x pc' lv (.int v :: st) Wd cl sl Q) : PT R nL x pc lv st Wd cl sl Q := by
  obtain ⟨⟨l, D, k0⟩, p, e, s, m, args, below, meth, c, A⟩ := x
  obtain ⟨hx, hb, hml, hown, hts, hr, hlk, hK, hA, hN, hS0⟩ := C
  subst hp
  intro H locs ls hH hl
  exact lv_ldc hx hb hown (hts _ hw) hd (k H locs ls hH hl)
theorem p_ldcw (C : CX own cc nL ret x) {index : Nat} {v : Int32} (hd : decode cc pc = .ok (.ldc_w index, 3)) (hp : pc + 3 = pc') (hw : Cond.constant own index v ∈ wG) (k : PT R nL x pc' lv (.int v :: st) Wd cl sl Q) : PT R nL x pc lv st Wd cl sl Q := by
  obtain ⟨⟨l, D, k0⟩, p, e, s, m, args, below, meth, c, A⟩ := x
  obtain ⟨hx, hb, hml, hown, hts, hr, hlk, hK, hA, hN, hS0⟩ := C
  subst hp
  intro H locs ls hH hl
  exact lv_ldcw hx hb hown (hts _ hw) hd (k H locs ls hH hl)
theorem p_iload_n (C : CX own cc nL ret x) {i : Fin 4} {v : Int32} (hd : decode cc pc = .ok (.iload_n i, 1)) (hp : pc + 1 = pc') (j : Nat) (hj : lv[j]? = some ((i : Nat), .int v)) (k : PT R nL x pc' lv (.int v :: st) Wd cl sl Q) : PT R nL x pc lv st Wd cl sl Q := by
  obtain ⟨⟨l, D, k0⟩, p, e, s, m, args, below, meth, c, A⟩ := x
  obtain ⟨hx, hb, hml, hown, hts, hr, hlk, hK, hA, hN, hS0⟩ := C
  subst hp
  intro H locs ls hH hl
  exact lv_iload_n hx hb hd rfl (lv_at hl j hj) (k H locs ls hH hl)
theorem p_iload (C : CX own cc nL ret x) {i : Nat} {v : Int32} (hd : decode cc pc = .ok (.iload i, 2)) (hp : pc + 2 = pc') (j : Nat) (hj : lv[j]? = some (i, .int v)) (k : PT R nL x pc' lv (.int v :: st) Wd cl sl Q) : PT R nL x pc lv st Wd cl sl Q := by
  obtain ⟨⟨l, D, k0⟩, p, e, s, m, args, below, meth, c, A⟩ := x
  obtain ⟨hx, hb, hml, hown, hts, hr, hlk, hK, hA, hN, hS0⟩ := C
  subst hp
  intro H locs ls hH hl
  exact lv_iload hx hb hd (lv_at hl j hj) (k H locs ls hH hl)
theorem p_aload_n (C : CX own cc nL ret x) {i : Fin 4} {v : Nat} (hd : decode cc pc = .ok (.aload_n i, 1)) (hp : pc + 1 = pc') (j : Nat) (hj : lv[j]? = some ((i : Nat), .ref v)) (k : PT R nL x pc' lv (.ref v :: st) Wd cl sl Q) : PT R nL x pc lv st Wd cl sl Q := by
  obtain ⟨⟨l, D, k0⟩, p, e, s, m, args, below, meth, c, A⟩ := x
  obtain ⟨hx, hb, hml, hown, hts, hr, hlk, hK, hA, hN, hS0⟩ := C
  subst hp
  intro H locs ls hH hl
  exact lv_aload_n hx hb hd rfl (lv_at hl j hj) (k H locs ls hH hl)
theorem p_aload (C : CX own cc nL ret x) {i : Nat} {v : Nat} (hd : decode cc pc = .ok (.aload i, 2)) (hp : pc + 2 = pc') (j : Nat) (hj : lv[j]? = some (i, .ref v)) (k : PT R nL x pc' lv (.ref v :: st) Wd cl sl Q) : PT R nL x pc lv st Wd cl sl Q := by
  obtain ⟨⟨l, D, k0⟩, p, e, s, m, args, below, meth, c, A⟩ := x
  obtain ⟨hx, hb, hml, hown, hts, hr, hlk, hK, hA, hN, hS0⟩ := C
  subst hp
  intro H locs ls hH hl
  exact lv_aload hx hb hd (lv_at hl j hj) (k H locs ls hH hl)
theorem p_istore_n (C : CX own cc nL ret x) {i : Fin 4} {v : Int32} (hd : decode cc pc = .ok (.istore_n i, 1)) (hp : pc + 1 = pc') (hn : (i : Nat) < nL) (hv : ((i : Nat), Value.int v) :: lv.filter (fun q => !(q.1 == (i : Nat)) && !(q.1 + 1 == (i : Nat) && q.2.category == 2)) = lv') (k : PT R nL x pc' lv' st Wd cl sl Q) : PT R nL x pc lv (.int v :: st) Wd cl sl Q := by
  obtain ⟨⟨l, D, k0⟩, p, e, s, m, args, below, meth, c, A⟩ := x
  obtain ⟨hx, hb, hml, hown, hts, hr, hlk, hK, hA, hN, hS0⟩ := C
  subst hp
  intro H locs ls hH hl
  exact lv_istore_n hx hb hd rfl hl hn hv (fun ls' hl' => k H locs ls' hH hl')
theorem p_istore (C : CX own cc nL ret x) {i : Nat} {v : Int32} (hd : decode cc pc = .ok (.istore i, 2)) (hp : pc + 2 = pc') (hn : i < nL) (hv : (i, Value.int v) :: lv.filter (fun q => !(q.1 == i) && !(q.1 + 1 == i && q.2.category == 2)) = lv') (k : PT R nL x pc' lv' st Wd cl sl Q) : PT R nL x pc lv (.int v :: st) Wd cl sl Q := by
  obtain ⟨⟨l, D, k0⟩, p, e, s, m, args, below, meth, c, A⟩ := x
  obtain ⟨hx, hb, hml, hown, hts, hr, hlk, hK, hA, hN, hS0⟩ := C
  subst hp
  intro H locs ls hH hl
  exact lv_istore hx hb hd hl hn hv (fun ls' hl' => k H locs ls' hH hl')
theorem p_astore_n (C : CX own cc nL ret x) {i : Fin 4} {v : Nat} (hd : decode cc pc = .ok (.astore_n i, 1)) (hp : pc + 1 = pc') (hn : (i : Nat) < nL) (hv : ((i : Nat), Value.ref v) :: lv.filter (fun q => !(q.1 == (i : Nat)) && !(q.1 + 1 == (i : Nat) && q.2.category == 2)) = lv') (k : PT R nL x pc' lv' st Wd cl sl Q) : PT R nL x pc lv (.ref v :: st) Wd cl sl Q := by
  obtain ⟨⟨l, D, k0⟩, p, e, s, m, args, below, meth, c, A⟩ := x
  obtain ⟨hx, hb, hml, hown, hts, hr, hlk, hK, hA, hN, hS0⟩ := C
  subst hp
  intro H locs ls hH hl
  exact lv_astore_n hx hb hd rfl hl hn hv (fun ls' hl' => k H locs ls' hH hl')
theorem p_iinc (C : CX own cc nL ret x) {i : Nat} {n : Int} {v w : Int32} (hd : decode cc pc = .ok (.iinc i n, 3)) (hp : pc + 3 = pc') (j : Nat) (hj : lv[j]? = some (i, .int v)) (hw : v + Int32.ofInt n = w) (hn : i < nL) (hv : (i, Value.int w) :: lv.filter (fun q => !(q.1 == i) && !(q.1 + 1 == i && q.2.category == 2)) = lv') (k : PT R nL x pc' lv' st Wd cl sl Q) : PT R nL x pc lv st Wd cl sl Q := by
  obtain ⟨⟨l, D, k0⟩, p, e, s, m, args, below, meth, c, A⟩ := x
  obtain ⟨hx, hb, hml, hown, hts, hr, hlk, hK, hA, hN, hS0⟩ := C
  subst hp
  intro H locs ls hH hl
  exact lv_iinc hx hb hd hl hj hw hn hv (fun ls' hl' => k H locs ls' hH hl')
theorem p_locals (is : List Nat) (h : lv_pick lv is = lv') (k : PT R nL x pc lv' st Wd cl sl Q) : PT R nL x pc lv st Wd cl sl Q := by
  obtain ⟨⟨l, D, k0⟩, p, e, s, m, args, below, meth, c, A⟩ := x
  intro H locs ls hH hl
  exact k H locs ls hH (lv_sub hl is h)
theorem p_iadd (C : CX own cc nL ret x) {v w : Int32} (hd : decode cc pc = .ok (.iadd, 1)) (hp : pc + 1 = pc') (k : PT R nL x pc' lv (.int (v + w) :: st) Wd cl sl Q) : PT R nL x pc lv (.int w :: .int v :: st) Wd cl sl Q := by
  obtain ⟨⟨l, D, k0⟩, p, e, s, m, args, below, meth, c, A⟩ := x
  obtain ⟨hx, hb, hml, hown, hts, hr, hlk, hK, hA, hN, hS0⟩ := C
  subst hp
  intro H locs ls hH hl
  exact lv_iadd hx hb hd (k H locs ls hH hl)
theorem p_isub (C : CX own cc nL ret x) {v w : Int32} (hd : decode cc pc = .ok (.isub, 1)) (hp : pc + 1 = pc') (k : PT R nL x pc' lv (.int (v - w) :: st) Wd cl sl Q) : PT R nL x pc lv (.int w :: .int v :: st) Wd cl sl Q := by
  obtain ⟨⟨l, D, k0⟩, p, e, s, m, args, below, meth, c, A⟩ := x
  obtain ⟨hx, hb, hml, hown, hts, hr, hlk, hK, hA, hN, hS0⟩ := C
  subst hp
  intro H locs ls hH hl
  exact lv_isub hx hb hd (k H locs ls hH hl)
theorem p_imul (C : CX own cc nL ret x) {v w : Int32} (hd : decode cc pc = .ok (.imul, 1)) (hp : pc + 1 = pc') (k : PT R nL x pc' lv (.int (v * w) :: st) Wd cl sl Q) : PT R nL x pc lv (.int w :: .int v :: st) Wd cl sl Q := by
  obtain ⟨⟨l, D, k0⟩, p, e, s, m, args, below, meth, c, A⟩ := x
  obtain ⟨hx, hb, hml, hown, hts, hr, hlk, hK, hA, hN, hS0⟩ := C
  subst hp
  intro H locs ls hH hl
  exact lv_imul hx hb hd (k H locs ls hH hl)
theorem p_iand (C : CX own cc nL ret x) {v w : Int32} (hd : decode cc pc = .ok (.iand, 1)) (hp : pc + 1 = pc') (k : PT R nL x pc' lv (.int (v &&& w) :: st) Wd cl sl Q) : PT R nL x pc lv (.int w :: .int v :: st) Wd cl sl Q := by
  obtain ⟨⟨l, D, k0⟩, p, e, s, m, args, below, meth, c, A⟩ := x
  obtain ⟨hx, hb, hml, hown, hts, hr, hlk, hK, hA, hN, hS0⟩ := C
  subst hp
  intro H locs ls hH hl
  exact lv_iand hx hb hd (k H locs ls hH hl)
theorem p_ior (C : CX own cc nL ret x) {v w : Int32} (hd : decode cc pc = .ok (.ior, 1)) (hp : pc + 1 = pc') (k : PT R nL x pc' lv (.int (v ||| w) :: st) Wd cl sl Q) : PT R nL x pc lv (.int w :: .int v :: st) Wd cl sl Q := by
  obtain ⟨⟨l, D, k0⟩, p, e, s, m, args, below, meth, c, A⟩ := x
  obtain ⟨hx, hb, hml, hown, hts, hr, hlk, hK, hA, hN, hS0⟩ := C
  subst hp
  intro H locs ls hH hl
  exact lv_ior hx hb hd (k H locs ls hH hl)
theorem p_ixor (C : CX own cc nL ret x) {v w : Int32} (hd : decode cc pc = .ok (.ixor, 1)) (hp : pc + 1 = pc') (k : PT R nL x pc' lv (.int (v ^^^ w) :: st) Wd cl sl Q) : PT R nL x pc lv (.int w :: .int v :: st) Wd cl sl Q := by
  obtain ⟨⟨l, D, k0⟩, p, e, s, m, args, below, meth, c, A⟩ := x
  obtain ⟨hx, hb, hml, hown, hts, hr, hlk, hK, hA, hN, hS0⟩ := C
  subst hp
  intro H locs ls hH hl
  exact lv_ixor hx hb hd (k H locs ls hH hl)
theorem p_ishl (C : CX own cc nL ret x) {v w : Int32} (hd : decode cc pc = .ok (.ishl, 1)) (hp : pc + 1 = pc') (k : PT R nL x pc' lv (.int (v <<< (w &&& 31)) :: st) Wd cl sl Q) : PT R nL x pc lv (.int w :: .int v :: st) Wd cl sl Q := by
  obtain ⟨⟨l, D, k0⟩, p, e, s, m, args, below, meth, c, A⟩ := x
  obtain ⟨hx, hb, hml, hown, hts, hr, hlk, hK, hA, hN, hS0⟩ := C
  subst hp
  intro H locs ls hH hl
  exact lv_ishl hx hb hd (k H locs ls hH hl)
theorem p_ishr (C : CX own cc nL ret x) {v w : Int32} (hd : decode cc pc = .ok (.ishr, 1)) (hp : pc + 1 = pc') (k : PT R nL x pc' lv (.int (v >>> (w &&& 31)) :: st) Wd cl sl Q) : PT R nL x pc lv (.int w :: .int v :: st) Wd cl sl Q := by
  obtain ⟨⟨l, D, k0⟩, p, e, s, m, args, below, meth, c, A⟩ := x
  obtain ⟨hx, hb, hml, hown, hts, hr, hlk, hK, hA, hN, hS0⟩ := C
  subst hp
  intro H locs ls hH hl
  exact lv_ishr hx hb hd (k H locs ls hH hl)
def ushr (v w : Int32) : Int32 := (v.toUInt32 >>> (w.toUInt32 &&& Int32.toUInt32 31)).toInt32
theorem p_iushr (C : CX own cc nL ret x) {v w : Int32} (hd : decode cc pc = .ok (.iushr, 1)) (hp : pc + 1 = pc') (k : PT R nL x pc' lv (.int (ushr v w) :: st) Wd cl sl Q) : PT R nL x pc lv (.int w :: .int v :: st) Wd cl sl Q := by
  obtain ⟨⟨l, D, k0⟩, p, e, s, m, args, below, meth, c, A⟩ := x
  obtain ⟨hx, hb, hml, hown, hts, hr, hlk, hK, hA, hN, hS0⟩ := C
  subst hp
  intro H locs ls hH hl
  exact lv_iushr hx hb hd rfl (k H locs ls hH hl)
theorem p_idiv (C : CX own cc nL ret x) {v w : Int32} (hd : decode cc pc = .ok (.idiv, 1)) (hp : pc + 1 = pc') (h0 : ¬ w = 0) (k : PT R nL x pc' lv (.int (v / w) :: st) Wd cl sl Q) : PT R nL x pc lv (.int w :: .int v :: st) Wd cl sl Q := by
  obtain ⟨⟨l, D, k0⟩, p, e, s, m, args, below, meth, c, A⟩ := x
  obtain ⟨hx, hb, hml, hown, hts, hr, hlk, hK, hA, hN, hS0⟩ := C
  subst hp
  intro H locs ls hH hl
  exact lv_idiv hx hb hd h0 (k H locs ls hH hl)
theorem p_irem (C : CX own cc nL ret x) {v w : Int32} (hd : decode cc pc = .ok (.irem, 1)) (hp : pc + 1 = pc') (h0 : ¬ w = 0) (k : PT R nL x pc' lv (.int (v - v / w * w) :: st) Wd cl sl Q) : PT R nL x pc lv (.int w :: .int v :: st) Wd cl sl Q := by
  obtain ⟨⟨l, D, k0⟩, p, e, s, m, args, below, meth, c, A⟩ := x
  obtain ⟨hx, hb, hml, hown, hts, hr, hlk, hK, hA, hN, hS0⟩ := C
  subst hp
  intro H locs ls hH hl
  exact lv_irem hx hb hd h0 (k H locs ls hH hl)
theorem p_ineg (C : CX own cc nL ret x) {v : Int32} (hd : decode cc pc = .ok (.ineg, 1)) (hp : pc + 1 = pc') (k : PT R nL x pc' lv (.int (-v) :: st) Wd cl sl Q) : PT R nL x pc lv (.int v :: st) Wd cl sl Q := by
  obtain ⟨⟨l, D, k0⟩, p, e, s, m, args, below, meth, c, A⟩ := x
  obtain ⟨hx, hb, hml, hown, hts, hr, hlk, hK, hA, hN, hS0⟩ := C
  subst hp
  intro H locs ls hH hl
  exact lv_ineg hx hb hd (k H locs ls hH hl)
theorem p_dup (C : CX own cc nL ret x) {v : Value} (hd : decode cc pc = .ok (.dup, 1)) (hp : pc + 1 = pc') (hc : v.category = 1) (k : PT R nL x pc' lv (v :: v :: st) Wd cl sl Q) : PT R nL x pc lv (v :: st) Wd cl sl Q := by
  obtain ⟨⟨l, D, k0⟩, p, e, s, m, args, below, meth, c, A⟩ := x
  obtain ⟨hx, hb, hml, hown, hts, hr, hlk, hK, hA, hN, hS0⟩ := C
  subst hp
  intro H locs ls hH hl
  exact lv_dup hx hb hd hc (k H locs ls hH hl)
theorem p_dup2 (C : CX own cc nL ret x) {v w : Value} (hd : decode cc pc = .ok (.dup2, 1)) (hp : pc + 1 = pc') (hc : v.category = 1) (hc2 : w.category = 1) (k : PT R nL x pc' lv (v :: w :: v :: w :: st) Wd cl sl Q) : PT R nL x pc lv (v :: w :: st) Wd cl sl Q := by
  obtain ⟨⟨l, D, k0⟩, p, e, s, m, args, below, meth, c, A⟩ := x
  obtain ⟨hx, hb, hml, hown, hts, hr, hlk, hK, hA, hN, hS0⟩ := C
  subst hp
  intro H locs ls hH hl
  exact lv_dup2_11 hx hb hd hc hc2 (k H locs ls hH hl)
theorem p_goto (C : CX own cc nL ret x) {off : Int} (hd : decode cc pc = .ok (.goto off, 3)) (hp : (pc : Int) + off = (pc' : Int)) (k : PT R nL x pc' lv st Wd cl sl Q) : PT R nL x pc lv st Wd cl sl Q := by
  obtain ⟨⟨l, D, k0⟩, p, e, s, m, args, below, meth, c, A⟩ := x
  obtain ⟨hx, hb, hml, hown, hts, hr, hlk, hK, hA, hN, hS0⟩ := C
  intro H locs ls hH hl
  exact lv_goto hx hb hd hp (k H locs ls hH hl)
theorem p_if_eq (C : CX own cc nL ret x) {off : Int} {v : Int32} (hd : decode cc pc = .ok (.ifCond .eq off, 3)) {tgt : Nat} (ht : (pc : Int) + off = (tgt : Int)) (hp : pc + 3 = pc') (kt : v = 0 → PT R nL x tgt lv st Wd cl sl Q) (kf : ¬ v = 0 → PT R nL x pc' lv st Wd cl sl Q) : PT R nL x pc lv (.int v :: st) Wd cl sl Q := by
  obtain ⟨⟨l, D, k0⟩, p, e, s, m, args, below, meth, c, A⟩ := x
  obtain ⟨hx, hb, hml, hown, hts, hr, hlk, hK, hA, hN, hS0⟩ := C
  subst hp
  intro H locs ls hH hl
  exact lv_if_eq hx hb hd ht (fun h => kt h H locs ls hH hl) (fun h => kf h H locs ls hH hl)
theorem p_icmp_eq (C : CX own cc nL ret x) {off : Int} {v w : Int32} (hd : decode cc pc = .ok (.if_icmp .eq off, 3)) {tgt : Nat} (ht : (pc : Int) + off = (tgt : Int)) (hp : pc + 3 = pc') (kt : v = w → PT R nL x tgt lv st Wd cl sl Q) (kf : ¬ v = w → PT R nL x pc' lv st Wd cl sl Q) : PT R nL x pc lv (.int w :: .int v :: st) Wd cl sl Q := by
  obtain ⟨⟨l, D, k0⟩, p, e, s, m, args, below, meth, c, A⟩ := x
  obtain ⟨hx, hb, hml, hown, hts, hr, hlk, hK, hA, hN, hS0⟩ := C
  subst hp
  intro H locs ls hH hl
  exact lv_icmp_eq hx hb hd ht (fun h => kt h H locs ls hH hl) (fun h => kf h H locs ls hH hl)
theorem p_if_ne (C : CX own cc nL ret x) {off : Int} {v : Int32} (hd : decode cc pc = .ok (.ifCond .ne off, 3)) {tgt : Nat} (ht : (pc : Int) + off = (tgt : Int)) (hp : pc + 3 = pc') (kt : ¬ v = 0 → PT R nL x tgt lv st Wd cl sl Q) (kf : v = 0 → PT R nL x pc' lv st Wd cl sl Q) : PT R nL x pc lv (.int v :: st) Wd cl sl Q := by
  obtain ⟨⟨l, D, k0⟩, p, e, s, m, args, below, meth, c, A⟩ := x
  obtain ⟨hx, hb, hml, hown, hts, hr, hlk, hK, hA, hN, hS0⟩ := C
  subst hp
  intro H locs ls hH hl
  exact lv_if_ne hx hb hd ht (fun h => kt h H locs ls hH hl) (fun h => kf h H locs ls hH hl)
theorem p_icmp_ne (C : CX own cc nL ret x) {off : Int} {v w : Int32} (hd : decode cc pc = .ok (.if_icmp .ne off, 3)) {tgt : Nat} (ht : (pc : Int) + off = (tgt : Int)) (hp : pc + 3 = pc') (kt : ¬ v = w → PT R nL x tgt lv st Wd cl sl Q) (kf : v = w → PT R nL x pc' lv st Wd cl sl Q) : PT R nL x pc lv (.int w :: .int v :: st) Wd cl sl Q := by
  obtain ⟨⟨l, D, k0⟩, p, e, s, m, args, below, meth, c, A⟩ := x
  obtain ⟨hx, hb, hml, hown, hts, hr, hlk, hK, hA, hN, hS0⟩ := C
  subst hp
  intro H locs ls hH hl
  exact lv_icmp_ne hx hb hd ht (fun h => kt h H locs ls hH hl) (fun h => kf h H locs ls hH hl)
theorem p_if_lt (C : CX own cc nL ret x) {off : Int} {v : Int32} (hd : decode cc pc = .ok (.ifCond .lt off, 3)) {tgt : Nat} (ht : (pc : Int) + off = (tgt : Int)) (hp : pc + 3 = pc') (kt : v < 0 → PT R nL x tgt lv st Wd cl sl Q) (kf : ¬ v < 0 → PT R nL x pc' lv st Wd cl sl Q) : PT R nL x pc lv (.int v :: st) Wd cl sl Q := by
  obtain ⟨⟨l, D, k0⟩, p, e, s, m, args, below, meth, c, A⟩ := x
  obtain ⟨hx, hb, hml, hown, hts, hr, hlk, hK, hA, hN, hS0⟩ := C
  subst hp
  intro H locs ls hH hl
  exact lv_if_lt hx hb hd ht (fun h => kt h H locs ls hH hl) (fun h => kf h H locs ls hH hl)
theorem p_icmp_lt (C : CX own cc nL ret x) {off : Int} {v w : Int32} (hd : decode cc pc = .ok (.if_icmp .lt off, 3)) {tgt : Nat} (ht : (pc : Int) + off = (tgt : Int)) (hp : pc + 3 = pc') (kt : v < w → PT R nL x tgt lv st Wd cl sl Q) (kf : ¬ v < w → PT R nL x pc' lv st Wd cl sl Q) : PT R nL x pc lv (.int w :: .int v :: st) Wd cl sl Q := by
  obtain ⟨⟨l, D, k0⟩, p, e, s, m, args, below, meth, c, A⟩ := x
  obtain ⟨hx, hb, hml, hown, hts, hr, hlk, hK, hA, hN, hS0⟩ := C
  subst hp
  intro H locs ls hH hl
  exact lv_icmp_lt hx hb hd ht (fun h => kt h H locs ls hH hl) (fun h => kf h H locs ls hH hl)
theorem p_if_ge (C : CX own cc nL ret x) {off : Int} {v : Int32} (hd : decode cc pc = .ok (.ifCond .ge off, 3)) {tgt : Nat} (ht : (pc : Int) + off = (tgt : Int)) (hp : pc + 3 = pc') (kt : 0 ≤ v → PT R nL x tgt lv st Wd cl sl Q) (kf : ¬ 0 ≤ v → PT R nL x pc' lv st Wd cl sl Q) : PT R nL x pc lv (.int v :: st) Wd cl sl Q := by
  obtain ⟨⟨l, D, k0⟩, p, e, s, m, args, below, meth, c, A⟩ := x
  obtain ⟨hx, hb, hml, hown, hts, hr, hlk, hK, hA, hN, hS0⟩ := C
  subst hp
  intro H locs ls hH hl
  exact lv_if_ge hx hb hd ht (fun h => kt h H locs ls hH hl) (fun h => kf h H locs ls hH hl)
theorem p_icmp_ge (C : CX own cc nL ret x) {off : Int} {v w : Int32} (hd : decode cc pc = .ok (.if_icmp .ge off, 3)) {tgt : Nat} (ht : (pc : Int) + off = (tgt : Int)) (hp : pc + 3 = pc') (kt : w ≤ v → PT R nL x tgt lv st Wd cl sl Q) (kf : ¬ w ≤ v → PT R nL x pc' lv st Wd cl sl Q) : PT R nL x pc lv (.int w :: .int v :: st) Wd cl sl Q := by
  obtain ⟨⟨l, D, k0⟩, p, e, s, m, args, below, meth, c, A⟩ := x
  obtain ⟨hx, hb, hml, hown, hts, hr, hlk, hK, hA, hN, hS0⟩ := C
  subst hp
  intro H locs ls hH hl
  exact lv_icmp_ge hx hb hd ht (fun h => kt h H locs ls hH hl) (fun h => kf h H locs ls hH hl)
theorem p_if_gt (C : CX own cc nL ret x) {off : Int} {v : Int32} (hd : decode cc pc = .ok (.ifCond .gt off, 3)) {tgt : Nat} (ht : (pc : Int) + off = (tgt : Int)) (hp : pc + 3 = pc') (kt : 0 < v → PT R nL x tgt lv st Wd cl sl Q) (kf : ¬ 0 < v → PT R nL x pc' lv st Wd cl sl Q) : PT R nL x pc lv (.int v :: st) Wd cl sl Q := by
  obtain ⟨⟨l, D, k0⟩, p, e, s, m, args, below, meth, c, A⟩ := x
  obtain ⟨hx, hb, hml, hown, hts, hr, hlk, hK, hA, hN, hS0⟩ := C
  subst hp
  intro H locs ls hH hl
  exact lv_if_gt hx hb hd ht (fun h => kt h H locs ls hH hl) (fun h => kf h H locs ls hH hl)
theorem p_icmp_gt (C : CX own cc nL ret x) {off : Int} {v w : Int32} (hd : decode cc pc = .ok (.if_icmp .gt off, 3)) {tgt : Nat} (ht : (pc : Int) + off = (tgt : Int)) (hp : pc + 3 = pc') (kt : w < v → PT R nL x tgt lv st Wd cl sl Q) (kf : ¬ w < v → PT R nL x pc' lv st Wd cl sl Q) : PT R nL x pc lv (.int w :: .int v :: st) Wd cl sl Q := by
  obtain ⟨⟨l, D, k0⟩, p, e, s, m, args, below, meth, c, A⟩ := x
  obtain ⟨hx, hb, hml, hown, hts, hr, hlk, hK, hA, hN, hS0⟩ := C
  subst hp
  intro H locs ls hH hl
  exact lv_icmp_gt hx hb hd ht (fun h => kt h H locs ls hH hl) (fun h => kf h H locs ls hH hl)
theorem p_if_le (C : CX own cc nL ret x) {off : Int} {v : Int32} (hd : decode cc pc = .ok (.ifCond .le off, 3)) {tgt : Nat} (ht : (pc : Int) + off = (tgt : Int)) (hp : pc + 3 = pc') (kt : v ≤ 0 → PT R nL x tgt lv st Wd cl sl Q) (kf : ¬ v ≤ 0 → PT R nL x pc' lv st Wd cl sl Q) : PT R nL x pc lv (.int v :: st) Wd cl sl Q := by
  obtain ⟨⟨l, D, k0⟩, p, e, s, m, args, below, meth, c, A⟩ := x
  obtain ⟨hx, hb, hml, hown, hts, hr, hlk, hK, hA, hN, hS0⟩ := C
  subst hp
  intro H locs ls hH hl
  exact lv_if_le hx hb hd ht (fun h => kt h H locs ls hH hl) (fun h => kf h H locs ls hH hl)
theorem p_icmp_le (C : CX own cc nL ret x) {off : Int} {v w : Int32} (hd : decode cc pc = .ok (.if_icmp .le off, 3)) {tgt : Nat} (ht : (pc : Int) + off = (tgt : Int)) (hp : pc + 3 = pc') (kt : v ≤ w → PT R nL x tgt lv st Wd cl sl Q) (kf : ¬ v ≤ w → PT R nL x pc' lv st Wd cl sl Q) : PT R nL x pc lv (.int w :: .int v :: st) Wd cl sl Q := by
  obtain ⟨⟨l, D, k0⟩, p, e, s, m, args, below, meth, c, A⟩ := x
  obtain ⟨hx, hb, hml, hown, hts, hr, hlk, hK, hA, hN, hS0⟩ := C
  subst hp
  intro H locs ls hH hl
  exact lv_icmp_le hx hb hd ht (fun h => kt h H locs ls hH hl) (fun h => kf h H locs ls hH hl)
theorem p_get (C : CX own cc nL ret x) {Cn ref : String} {T : u_T} {N ci index a : Nat} {fs : List Value} {v : Value} (hd : decode cc pc = .ok (.getfield index, 3)) (hp : pc + 3 = pc') (q0 k0 : Nat) (hin : ∀ w ∈ u_ws Cn T N, w ∈ wG) (hw : Cond.fieldLink own index ref (T k0).2.1 (T k0).2.2.1 ∈ wG) (he : Wd[q0]? = some (a, .inr (ci, fs))) (hc : vwCl[ci]? = some (Cn, T, N)) (hk : k0 < N) (href : (T k0).1 = ref) (hv : fs[k0]? = some v)
    (k : PT R nL x pc' lv (v :: st) Wd cl sl Q) : PT R nL x pc lv (.ref a :: st) Wd cl sl Q := by
  obtain ⟨⟨l, D, k1⟩, p, e, s, m, args, below, meth, c, A⟩ := x
  obtain ⟨hx, hb, hml, hown, hts, hr, hlk, hK, hA, hN, hS0⟩ := C
  subst hp
  subst href
  intro H locs ls hH hl
  exact va_get hx hb hts hin hown hK hH.1 q0 he hc k0 hk (hts _ hw) (fun _ h9 => h9) hv hd (k H locs ls hH hl)
theorem p_getN (C : CX own cc nL ret x) {Cn ref : String} {T : u_T} {N ci index a : Nat} {fs : List Value} {v : Value} (hd : decode cc pc = .ok (.getfield index, 3)) (hp : pc + 3 = pc') (q0 k0 : Nat) (hin : ∀ w ∈ u_ws Cn T N, w ∈ wG) (hw : (own, index, ref, (T k0).2.1, (T k0).2.2.1) ∈ nestFs) (he : Wd[q0]? = some (a, .inr (ci, fs))) (hc : vwCl[ci]? = some (Cn, T, N)) (hk : k0 < N) (href : (T k0).1 = ref) (hv : fs[k0]? = some v)
    (k : PT R nL x pc' lv (v :: st) Wd cl sl Q) : PT R nL x pc lv (.ref a :: st) Wd cl sl Q := by
  obtain ⟨⟨l, D, k1⟩, p, e, s, m, args, below, meth, c, A⟩ := x
  obtain ⟨hx, hb, hml, hown, hts, hr, hlk, hK, hA, hN, hS0⟩ := C
  subst hp
  subst href
  intro H locs ls hH hl
  exact va_getN hx hb hts hin hown hK hH.1 q0 he hc k0 hk (va_Nw.use rfl (hN.1 _ hw)) (fun _ h9 => h9) hv hd (k H locs ls hH hl)
theorem p_put (C : CX own cc nL ret x) {Cn ref : String} {T : u_T} {N ci index a : Nat} {fs : List Value} {v : Value} {ty : FieldType} (hd : decode cc pc = .ok (.putfield index, 3)) (hp : pc + 3 = pc') (q0 k0 : Nat) (hin : ∀ w ∈ u_ws Cn T N, w ∈ wG) (ty0 : Nat → FieldType) (hty : ∀ k, k < N → parseFieldDescriptor (T k).2.2.1 = some (ty0 k)) (hnm : ∀ a, a < N → ∀ b, b < N → a ≠ b → (T a).2.1 ≠ (T b).2.1) (hw : Cond.fieldLink own index ref (T k0).2.1 (T k0).2.2.1 ∈ wG) (he : Wd[q0]? = some (a, .inr (ci, fs))) (hc : vwCl[ci]? = some (Cn, T, N)) (hk : k0 < N) (href : (T k0).1 = ref) (hfin : (T k0).2.2.2 = false) (hdc : parseFieldDescriptor (T k0).2.2.1 = some ty) (hn : narrow ty v = v) (hfit : fits ty v = true) (hlen : k0 < fs.length) (hW : Wd.set q0 (a, .inr (ci, fs.set k0 v)) = Wd')
    (k : PT R nL x pc' lv st Wd' cl sl Q) : PT R nL x pc lv (v :: .ref a :: st) Wd cl sl Q := by
  obtain ⟨⟨l, D, k1⟩, p, e, s, m, args, below, meth, c, A⟩ := x
  obtain ⟨hx, hb, hml, hown, hts, hr, hlk, hK, hA, hN, hS0⟩ := C
  subst hp
  subst href
  subst hW
  intro H locs ls hH hl
  exact va_put hx hb hts hin ty0 hty hnm hown hK hH.1 hH.2.1 hH.2.2 q0 he hc k0 hk (hts _ hw) (fun _ h9 => h9) hfin hdc hn hfit hlen hd (fun H1 locs1 hP hD hS => k H1 locs1 ls ⟨hP, hD, hS⟩ hl)
theorem p_putN (C : CX own cc nL ret x) {Cn ref : String} {T : u_T} {N ci index a : Nat} {fs : List Value} {v : Value} {ty : FieldType} (hd : decode cc pc = .ok (.putfield index, 3)) (hp : pc + 3 = pc') (q0 k0 : Nat) (hin : ∀ w ∈ u_ws Cn T N, w ∈ wG) (ty0 : Nat → FieldType) (hty : ∀ k, k < N → parseFieldDescriptor (T k).2.2.1 = some (ty0 k)) (hnm : ∀ a, a < N → ∀ b, b < N → a ≠ b → (T a).2.1 ≠ (T b).2.1) (hw : (own, index, ref, (T k0).2.1, (T k0).2.2.1) ∈ nestFs) (he : Wd[q0]? = some (a, .inr (ci, fs))) (hc : vwCl[ci]? = some (Cn, T, N)) (hk : k0 < N) (href : (T k0).1 = ref) (hfin : (T k0).2.2.2 = false) (hdc : parseFieldDescriptor (T k0).2.2.1 = some ty) (hn : narrow ty v = v) (hfit : fits ty v = true) (hlen : k0 < fs.length) (hW : Wd.set q0 (a, .inr (ci, fs.set k0 v)) = Wd')
    (k : PT R nL x pc' lv st Wd' cl sl Q) : PT R nL x pc lv (v :: .ref a :: st) Wd cl sl Q := by
  obtain ⟨⟨l, D, k1⟩, p, e, s, m, args, below, meth, c, A⟩ := x
  obtain ⟨hx, hb, hml, hown, hts, hr, hlk, hK, hA, hN, hS0⟩ := C
  subst hp
  subst href
  subst hW
  intro H locs ls hH hl
  exact va_putN hx hb hts hin ty0 hty hnm hown hK hH.1 hH.2.1 hH.2.2 q0 he hc k0 hk (va_Nw.use rfl (hN.1 _ hw)) (fun _ h9 => h9) hfin hdc hn hfit hlen hd (fun H1 locs1 hP hD hS => k H1 locs1 ls ⟨hP, hD, hS⟩ hl)
theorem p_iald (C : CX own cc nL ret x) {a n : Nat} {f : Ar} {i : Int32} (hd : decode cc pc = .ok (.iaload, 1)) (hp : pc + 1 = pc') (q0 : Nat) (ha : Wd[q0]? = some (a, .inl (x.1.2.2.1, n, .inl f))) (hg : gI i n = true)
    (k : PT R nL x pc' lv (.int (f i.toNatClampNeg) :: st) Wd cl sl Q) : PT R nL x pc lv (.int i :: .ref a :: st) Wd cl sl Q := by
  obtain ⟨⟨l, D, k1⟩, p, e, s, m, args, below, meth, c, A⟩ := x
  obtain ⟨hx, hb, hml, hown, hts, hr, hlk, hK, hA, hN, hS0⟩ := C
  subst hp
  intro H locs ls hH hl
  exact va_iald hx hb hK hH.1 q0 0 ha rfl (gI_in hg) hd (k H locs ls hH hl)
theorem p_zald (C : CX own cc nL ret x) {a n : Nat} {f : Ar} {i : Int32} (hd : decode cc pc = .ok (.baload, 1)) (hp : pc + 1 = pc') (q0 : Nat) (ha : Wd[q0]? = some (a, .inl (x.1.2.2.2.1, n, .inl f))) (hg : gI i n = true)
    (k : PT R nL x pc' lv (.int (f i.toNatClampNeg) :: st) Wd cl sl Q) : PT R nL x pc lv (.int i :: .ref a :: st) Wd cl sl Q := by
  obtain ⟨⟨l, D, k1⟩, p, e, s, m, args, below, meth, c, A⟩ := x
  obtain ⟨hx, hb, hml, hown, hts, hr, hlk, hK, hA, hN, hS0⟩ := C
  subst hp
  intro H locs ls hH hl
  exact va_zald hx hb hK hH.1 q0 1 ha rfl (gI_in hg) hd (k H locs ls hH hl)
theorem p_iast (C : CX own cc nL ret x) {a n : Nat} {f : Ar} {i v : Int32} (hd : decode cc pc = .ok (.iastore, 1)) (hp : pc + 1 = pc') (q0 : Nat) (ha : Wd[q0]? = some (a, .inl (x.1.2.2.1, n, .inl f))) (hg : gI i n = true) (hW : Wd.set q0 (a, .inl (x.1.2.2.1, n, .inl (upd f i.toNatClampNeg v))) = Wd')
    (k : PT R nL x pc' lv st Wd' cl sl Q) : PT R nL x pc lv (.int v :: .int i :: .ref a :: st) Wd cl sl Q := by
  obtain ⟨⟨l, D, k1⟩, p, e, s, m, args, below, meth, c, A⟩ := x
  obtain ⟨hx, hb, hml, hown, hts, hr, hlk, hK, hA, hN, hS0⟩ := C
  subst hp
  subst hW
  intro H locs ls hH hl
  exact va_iast hx hb hK hH.1 hH.2.1 hH.2.2 q0 0 ha rfl (gI_in hg) hd (fun H1 locs1 hP hD hS => k H1 locs1 ls ⟨hP, hD, hS⟩ hl)
theorem p_zast (C : CX own cc nL ret x) {a n : Nat} {f : Ar} {i v : Int32} (hd : decode cc pc = .ok (.bastore, 1)) (hp : pc + 1 = pc') (q0 : Nat) (ha : Wd[q0]? = some (a, .inl (x.1.2.2.2.1, n, .inl f))) (hg : gI i n = true) (hW : Wd.set q0 (a, .inl (x.1.2.2.2.1, n, .inl (upd f i.toNatClampNeg (vp_nar .boolean v)))) = Wd')
    (k : PT R nL x pc' lv st Wd' cl sl Q) : PT R nL x pc lv (.int v :: .int i :: .ref a :: st) Wd cl sl Q := by
  obtain ⟨⟨l, D, k1⟩, p, e, s, m, args, below, meth, c, A⟩ := x
  obtain ⟨hx, hb, hml, hown, hts, hr, hlk, hK, hA, hN, hS0⟩ := C
  subst hp
  subst hW
  intro H locs ls hH hl
  exact va_zast hx hb hK hH.1 hH.2.1 hH.2.2 q0 1 ha rfl (gI_in hg) hd (fun H1 locs1 hP hD hS => k H1 locs1 ls ⟨hP, hD, hS⟩ hl)
theorem p_aald (C : CX own cc nL ret x) {a n b : Nat} {f : Nat → Option Nat} {i : Int32} (hd : decode cc pc = .ok (.aaload, 1)) (hp : pc + 1 = pc') (q0 : Nat) (ha : Wd[q0]? = some (a, .inl (x.1.2.2.2.2, n, .inr (.inr (.inr (.inr f)))))) (hg : gI i n = true) (hv : f i.toNatClampNeg = some b)
    (k : PT R nL x pc' lv (.ref b :: st) Wd cl sl Q) : PT R nL x pc lv (.int i :: .ref a :: st) Wd cl sl Q := by
  obtain ⟨⟨l, D, k1⟩, p, e, s, m, args, below, meth, c, A⟩ := x
  obtain ⟨hx, hb, hml, hown, hts, hr, hlk, hK, hA, hN, hS0⟩ := C
  subst hp
  intro H locs ls hH hl
  refine va_aldq hx hb hK hH.1 q0 2 ha rfl (gI_in hg) hd ?_
  rw [hv]
  exact k H locs ls hH hl
def TT (x : Cxt) (t : Nat) (f : Nat → Int32) : Prop := va_T .int t 6 (fun j => .int (f j)) x.2.2.2.2.2.2.2.2.2 x.2.2.2.1 x.2.2.2.1.heap
theorem p_getsL (C : CX own cc nL ret x) {index : Nat} (hd : decode cc pc = .ok (.getstatic index, 3)) (hp : pc + 3 = pc') (hw : Cond.fieldLink own index "NeedlePairs" "LESSER_NET" "[I" ∈ wG) (k : ∀ t, TT x t LNf → PT R nL x pc' lv (.ref t :: st) Wd cl sl Q) : PT R nL x pc lv st Wd cl sl Q := by
  obtain ⟨⟨l, D, k1⟩, p, e, s, m, args, below, meth, c, A⟩ := x
  obtain ⟨hx, hb, hml, hown, hts, hr, hlk, hK, hA, hN, t1, t2, z1, y1, z2, y2⟩ := C
  subst hp
  intro H locs ls hH hl
  exact va_gets hx hb z1 hH.2.2 hown (hts _ hw) (fun _ h9 => h9) hd (k t1 y1 H locs ls hH hl)
theorem p_getsG (C : CX own cc nL ret x) {index : Nat} (hd : decode cc pc = .ok (.getstatic index, 3)) (hp : pc + 3 = pc') (hw : Cond.fieldLink own index "NeedlePairs" "GREATER_NET" "[I" ∈ wG) (k : ∀ t, TT x t GNf → PT R nL x pc' lv (.ref t :: st) Wd cl sl Q) : PT R nL x pc lv st Wd cl sl Q := by
  obtain ⟨⟨l, D, k1⟩, p, e, s, m, args, below, meth, c, A⟩ := x
  obtain ⟨hx, hb, hml, hown, hts, hr, hlk, hK, hA, hN, t1, t2, z1, y1, z2, y2⟩ := C
  subst hp
  intro H locs ls hH hl
  exact va_gets hx hb z2 hH.2.2 hown (hts _ hw) (fun _ h9 => h9) hd (k t2 y2 H locs ls hH hl)
theorem p_getsLN (C : CX own cc nL ret x) {index : Nat} (hd : decode cc pc = .ok (.getstatic index, 3)) (hp : pc + 3 = pc') (hw : (own, index, "NeedlePairs", "LESSER_NET", "[I") ∈ nestFs) (k : ∀ t, TT x t LNf → PT R nL x pc' lv (.ref t :: st) Wd cl sl Q) : PT R nL x pc lv st Wd cl sl Q := by
  obtain ⟨⟨l, D, k1⟩, p, e, s, m, args, below, meth, c, A⟩ := x
  obtain ⟨hx, hb, hml, hown, hts, hr, hlk, hK, hA, hN, t1, t2, z1, y1, z2, y2⟩ := C
  subst hp
  intro H locs ls hH hl
  exact va_getsN hx hb z1 hH.2.2 hown (va_Nw.use rfl (hN.1 _ hw)) (fun _ h9 => h9) hd (k t1 y1 H locs ls hH hl)
theorem p_getsGN (C : CX own cc nL ret x) {index : Nat} (hd : decode cc pc = .ok (.getstatic index, 3)) (hp : pc + 3 = pc') (hw : (own, index, "NeedlePairs", "GREATER_NET", "[I") ∈ nestFs) (k : ∀ t, TT x t GNf → PT R nL x pc' lv (.ref t :: st) Wd cl sl Q) : PT R nL x pc lv st Wd cl sl Q := by
  obtain ⟨⟨l, D, k1⟩, p, e, s, m, args, below, meth, c, A⟩ := x
  obtain ⟨hx, hb, hml, hown, hts, hr, hlk, hK, hA, hN, t1, t2, z1, y1, z2, y2⟩ := C
  subst hp
  intro H locs ls hH hl
  exact va_getsN hx hb z2 hH.2.2 hown (va_Nw.use rfl (hN.1 _ hw)) (fun _ h9 => h9) hd (k t2 y2 H locs ls hH hl)
theorem p_tald (C : CX own cc nL ret x) {t : Nat} {f : Nat → Int32} {i : Int32} (hT : TT x t f) (hd : decode cc pc = .ok (.iaload, 1)) (hp : pc + 1 = pc') (hg : gI i 6 = true)
    (k : PT R nL x pc' lv (.int (f i.toNatClampNeg) :: st) Wd cl sl Q) : PT R nL x pc lv (.int i :: .ref t :: st) Wd cl sl Q := by
  obtain ⟨⟨l, D, k1⟩, p, e, s, m, args, below, meth, c, A⟩ := x
  obtain ⟨hx, hb, hml, hown, hts, hr, hlk, hK, hA, hN, hS0⟩ := C
  subst hp
  intro H locs ls hH hl
  exact va_ti hx hb hT hH.2.2 (gI_in hg) rfl hd (k H locs ls hH hl)
theorem p_mmax (C : CX own cc nL ret x) {index : Nat} {v w : Int32} (hd : decode cc pc = .ok (.invokestatic index, 3)) (hp : pc + 3 = pc') (hw : Cond.methodLink own index Lib.Math.max.name ∈ wG) (h2 : Cond.static Lib.Math.max.name ∈ wG ∧ Cond.initialized "java/lang/Math" ∈ wG ∧ Cond.code Lib.Math.max.name Lib.Math.max.code 2 (some .int) ∈ wG) (hR : 1 ≤ R.frames ∧ (st.map fun v => v.category).sum + 13 ≤ R.locals) (hC : cl ≤ R.cells ∧ sl ≤ R.slots)
    (k : PT R nL x pc' lv (.int (if v < w then w else v) :: st) Wd cl sl Q) : PT R nL x pc lv (.int w :: .int v :: st) Wd cl sl Q := by
  obtain ⟨⟨l, D, k1⟩, p, e, s, m, args, below, meth, c, A⟩ := x
  obtain ⟨hx, hb, hml, hown, hts, hr, hlk, hK, hA, hN, hS0⟩ := C
  subst hp
  intro H locs ls hH hl
  exact va_mmax hx hb (by rw [hml]; exact hl.1.symm) hown (hts _ hw) (hts _ h2.1) (hts _ h2.2.1) (hts _ h2.2.2) hR.1 hR.2 hC.1 hC.2 hd (k H locs ls hH hl)
theorem p_mmin (C : CX own cc nL ret x) {index : Nat} {v w : Int32} (hd : decode cc pc = .ok (.invokestatic index, 3)) (hp : pc + 3 = pc') (hw : Cond.methodLink own index Lib.Math.min.name ∈ wG) (h2 : Cond.static Lib.Math.min.name ∈ wG ∧ Cond.initialized "java/lang/Math" ∈ wG ∧ Cond.code Lib.Math.min.name Lib.Math.min.code 2 (some .int) ∈ wG) (hR : 1 ≤ R.frames ∧ (st.map fun v => v.category).sum + 13 ≤ R.locals) (hC : cl ≤ R.cells ∧ sl ≤ R.slots)
    (k : PT R nL x pc' lv (.int (if w < v then w else v) :: st) Wd cl sl Q) : PT R nL x pc lv (.int w :: .int v :: st) Wd cl sl Q := by
  obtain ⟨⟨l, D, k1⟩, p, e, s, m, args, below, meth, c, A⟩ := x
  obtain ⟨hx, hb, hml, hown, hts, hr, hlk, hK, hA, hN, hS0⟩ := C
  subst hp
  intro H locs ls hH hl
  exact va_mmin hx hb (by rw [hml]; exact hl.1.symm) hown (hts _ hw) (hts _ h2.1) (hts _ h2.2.1) (hts _ h2.2.2) hR.1 hR.2 hC.1 hC.2 hd (k H locs ls hH hl)
theorem p_mabs (C : CX own cc nL ret x) {index : Nat} {v : Int32} (hd : decode cc pc = .ok (.invokestatic index, 3)) (hp : pc + 3 = pc') (hw : Cond.methodLink own index Lib.Math.abs.name ∈ wG) (h2 : Cond.static Lib.Math.abs.name ∈ wG ∧ Cond.initialized "java/lang/Math" ∈ wG ∧ Cond.code Lib.Math.abs.name Lib.Math.abs.code 1 (some .int) ∈ wG) (hR : 1 ≤ R.frames ∧ (st.map fun v => v.category).sum + 13 ≤ R.locals) (hC : cl ≤ R.cells ∧ sl ≤ R.slots)
    (k : PT R nL x pc' lv (.int (if 0 ≤ v then v else 0 - v) :: st) Wd cl sl Q) : PT R nL x pc lv (.int v :: st) Wd cl sl Q := by
  obtain ⟨⟨l, D, k1⟩, p, e, s, m, args, below, meth, c, A⟩ := x
  obtain ⟨hx, hb, hml, hown, hts, hr, hlk, hK, hA, hN, hS0⟩ := C
  subst hp
  intro H locs ls hH hl
  exact va_mabs hx hb (by rw [hml]; exact hl.1.symm) hown (hts _ hw) (hts _ h2.1) (hts _ h2.2.1) (hts _ h2.2.2) hR.1 hR.2 hC.1 hC.2 hd (k H locs ls hH hl)
/-- returns -/
theorem p_iret (C : CX own cc nL (some .int) x) {v : Int32} (hd : decode cc pc = .ok (.ireturn, 1)) : PT R nL x pc lv [.int v] Wd 0 0 (QI x v Wd) := by
  obtain ⟨⟨l, D, k1⟩, p, e, s, m, args, below, meth, c, A⟩ := x
  obtain ⟨hx, hb, hml, hown, hts, hr, hlk, hK, hA, hN, hS0⟩ := C
  intro H locs ls hH hl
  exact W.iret (v := v) hx hb hr (fun t ht hW => ⟨⟨v, (), rfl, rfl, by show va_P D vwCl Wd t.heap; rw [ht]; exact hH.1⟩, hH.2.2.F ht⟩) hH.2.2.2.2 hd
theorem p_zret (C : CX own cc nL (some .boolean) x) {v : Int32} (hd : decode cc pc = .ok (.ireturn, 1)) (hn : narrow .boolean (.int v) = .int v) : PT R nL x pc lv [.int v] Wd 0 0 (QI x v Wd) := by
  obtain ⟨⟨l, D, k1⟩, p, e, s, m, args, below, meth, c, A⟩ := x
  obtain ⟨hx, hb, hml, hown, hts, hr, hlk, hK, hA, hN, hS0⟩ := C
  intro H locs ls hH hl
  exact W.zret (v := v) hx hb hr hn (fun t ht hW => ⟨⟨v, (), rfl, rfl, by show va_P D vwCl Wd t.heap; rw [ht]; exact hH.1⟩, hH.2.2.F ht⟩) hH.2.2.2.2 hd
theorem p_vret (C : CX own cc nL none x) (hd : decode cc pc = .ok (.return_, 1)) : PT R nL x pc lv [] Wd 0 0 (QV x Wd) := by
  obtain ⟨⟨l, D, k1⟩, p, e, s, m, args, below, meth, c, A⟩ := x
  obtain ⟨hx, hb, hml, hown, hts, hr, hlk, hK, hA, hN, hS0⟩ := C
  intro H locs ls hH hl
  exact W.vret hx hb hr (fun t ht hW => ⟨⟨(), rfl, trivial, by show va_P D vwCl Wd t.heap; rw [ht]; exact hH.1⟩, hH.2.2.F ht⟩) hH.2.2.2.2 hd
end RW
