/-! rows of making: new objects, new arrays, constructors -/
def MN (x : Cxt) : Prop := match x with
  | (_, _, _, _, _, _, _, meth, _, _) => meth.name = "<init>"
def QC (x : Cxt) (S : Type) (W' : S → va_W) (mc ms : Nat) : State → Prop :=
  match x with
  | ((_, D, _), _, _, s, _, args, below, _, _, A) => MQ below (va_Qv (fun (_ : S) => True) (fun u t => va_P D vwCl (W' u) t.heap ∧ va_D A (W' u)) A) args s mc ms A
def Cc (E : En) (y : MethodName) (ws : List Cond) (rm : Room) (b : Nat) (W0 : va_W) (W' : (Nat → Nat) → va_W) (mc ms : Nat) : Prop := ∀ sz : Nat, Met E.1 y ws rm (PreC E [.ref b] W0 sz) (va_Qv (fun (_ : Nat → Nat) => True) (fun u t => va_P E.2.1 vwCl (W' u) t.heap ∧ va_D (va_A W0 sz) (W' u)) (va_A W0 sz)) mc ms (va_A W0 sz)
theorem Cc.of {E : En} {y : MethodName} {cc : ByteArray} {nL : Nat} {ret : Option FieldType} {rm : Room} {b : Nat} {Wd : va_W} {W' : (Nat → Nat) → va_W} {mc ms : Nat} (hy : plainName y.cls = true) (hi : y.name = "<init>") (hL : (lg_sl [.ref b]).length ≤ nL)
    (body : ∀ x : Cxt, x.1 = E → CX y.cls cc nL ret x → MN x → PT rm nL x 0 (lv_args 0 [.ref b]) [] Wd 0 0 (QC x (Nat → Nat) W' mc ms)) : Cc E y (wU y cc nL ret) rm b Wd W' mc ms :=
  fun sz => enter (Qc := fun sz => va_Qv (fun (_ : Nat → Nat) => True) (fun u t => va_P E.2.1 vwCl (W' u) t.heap ∧ va_D (va_A Wd sz) (W' u)) (va_A Wd sz)) hy hL (fun p e s m args below meth c C hm => body (E, p, e, s, m, args, below, meth, c, va_A Wd s.heap.size) rfl C (hm.trans hi)) sz
section CR
variable {own : String} {cc : ByteArray} {nL : Nat} {ret : Option FieldType} {R : Room} {x : Cxt} {pc pc' : Nat} {lv lv' : List (Nat × Value)} {st st' : List Value} {Wd Wd' : va_W} {cl sl : Nat} {Q : State → Prop}
theorem p_vretC (C : CX own cc nL none x) {W' : (Nat → Nat) → va_W} (hd : decode cc pc = .ok (.return_, 1)) (u : Nat → Nat) (hW : Wd = W' u) : PT R nL x pc lv [] Wd cl sl (QC x (Nat → Nat) W' cl sl) := by
  obtain ⟨⟨l, D, k1⟩, p, e, s, m, args, below, meth, c, A⟩ := x
  obtain ⟨hx, hb, hml, hown, hts, hr, hlk, hK, hA, hN, hS0⟩ := C
  subst hW
  intro H locs ls hH hl
  exact W.vret hx hb hr (fun t ht hW => ⟨⟨u, rfl, trivial, by show va_P D vwCl (W' u) t.heap; rw [ht]; exact hH.1, hH.2.1⟩, hH.2.2.F ht⟩) hH.2.2.2.2 hd
theorem p_perm (is : List Nat) (hs : is.map (fun i => Wd[i]?) = Wd'.map some) (hn : va_nd is = true) (k : PT R nL x pc lv st Wd' cl sl Q) : PT R nL x pc lv st Wd cl sl Q := by
  obtain ⟨⟨l, D, k1⟩, p, e, s, m, args, below, meth, c, A⟩ := x
  intro H locs ls hH hl
  exact k H locs ls ⟨hC_P hs hH.1, hH.2.1.sub is hn hs, hH.2.2⟩ hl
theorem p_objInit (C : CX own cc nL ret x) {index a : Nat} (hd : decode cc pc = .ok (.invokespecial index, 3)) (hp : pc + 3 = pc') (hw : Cond.methodLink own index objectInit ∈ wG) (hw2 : Cond.instanceMethod objectInit ∈ wG ∧ Cond.code objectInit ⟨#[0xb1]⟩ 1 none ∈ wG) (hR : 1 ≤ R.frames ∧ (st.map fun v => v.category).sum + 12 ≤ R.locals) (k : PT R nL x pc' lv st Wd cl sl Q) : PT R nL x pc lv (.ref a :: st) Wd cl sl Q := by
  obtain ⟨⟨l, D, k0⟩, p, e, s, m, args, below, meth, c, A⟩ := x
  obtain ⟨hx, hb, hml, hown, hts, hr, hlk, hK, hA, hN, hS0⟩ := C
  subst hp
  intro H locs ls hH hl
  refine W.objInit hx hb hown (hts _ hw) (hts _ hw2.1) (hts _ hw2.2) rfl (by rw [hml]; exact hl.1) rfl hd hR.1 ?_ ?_
  · have h9 : 2 * (F0 m pc ls (.ref a :: st)).monitorRoom = 0 := rfl
    rw [h9, Nat.zero_add]
    exact hR.2
  · exact k H locs ls hH hl
theorem p_new (C : CX own cc nL ret x) {Cn : String} {T : u_T} {N ci index : Nat} {fs : List Value} (hd : decode cc pc = .ok (.new index, 3)) (hp : pc + 3 = pc') (hin : ∀ w ∈ u_ws Cn T N, w ∈ wG) (ty : Nat → FieldType) (hty : ∀ k, k < N → parseFieldDescriptor (T k).2.2.1 = some (ty k)) (hcl : Cond.classLink own index Cn ∈ wG) (hins : Cond.instantiable Cn N ∈ wG) (hini : Cond.initialized Cn ∈ wG) (hc : vwCl[ci]? = some (Cn, T, N)) (hfs : ∀ j, j < N → defaultValue (ty j) = vp_V fs j) (hcs : cl + 1 ≤ R.cells ∧ sl + N ≤ R.slots)
    (k : ∀ q, PT R nL x pc' lv (.ref q :: st) (Wd ++ [(q, .inr (ci, fs))]) (cl + 1) (sl + N) Q) : PT R nL x pc lv st Wd cl sl Q := by
  obtain ⟨⟨l, D, k0⟩, p, e, s, m, args, below, meth, c, A⟩ := x
  obtain ⟨hx, hb, hml, hown, hts, hr, hlk, hK, hA, hN, hS0⟩ := C
  subst hp
  intro H locs ls hH hl
  exact va_new hx hb hts hin ty hty hown (hts _ hcl) (hts _ hins) (hts _ hini) hK hH.1 hH.2.1 hH.2.2 hA hc hfs hcs.1 hcs.2 hd (fun q H1 hP hD hS => k q H1 locs ls ⟨hP, hD, hS⟩ hl)
theorem tyAt {D : va_G} {k : Ec} {s : State} {cA : ClassId} {ty : FieldType} (hK : va_K D vwCl (tyL k ++ [(cA, ty)]) s) : va_RA s cA ty := (hK.2 3 (cA, ty) rfl).2
theorem p_newaI (C : CX own cc nL ret x) {n : Int32} {N' : Nat} (hd : decode cc pc = .ok (.newarray .int, 2)) (hp : pc + 2 = pc') (hn : ¬ n < 0) (hN : n.toNatClampNeg = N') (hby : N' * 4 ≤ 536870912) (hcs : cl + 1 ≤ R.cells ∧ sl + N' ≤ R.slots)
    (k : ∀ q, PT R nL x pc' lv (.ref q :: st) (Wd ++ [(q, .inl (x.1.2.2.1, N', .inl (fun _ => 0)))]) (cl + 1) (sl + N') Q) : PT R nL x pc lv (.int n :: st) Wd cl sl Q := by
  obtain ⟨⟨l, D, k0⟩, p, e, s, m, args, below, meth, c, A⟩ := x
  obtain ⟨hx, hb, hml, hown, hts, hr, hlk, hK, hA, hN0, hS0⟩ := C
  subst hp
  intro H locs ls hH hl
  refine va_newa (atype := .int) (ty := .int) (a0 := (N', .inl (fun _ => 0))) hx hb (hts _ arr_int) rfl hK hH.1 hH.2.1 hH.2.2 hA (fun _ => rfl) hn hN hby hcs.1 hcs.2 hd ?_
  intro q cA H1 hK1 hP hD hS
  have h1 : s.vm.findClass ("[" ++ FieldType.int.toString) = some cA := tyAt hK1
  have h2 : s.vm.findClass ("[" ++ FieldType.int.toString) = some k0.1 := (hK.2 0 _ rfl).2
  have h3 : cA = k0.1 := Option.some.inj (h1.symm.trans h2)
  subst h3
  exact k q H1 locs ls ⟨hP, hD, hS⟩ hl
theorem p_newaZ (C : CX own cc nL ret x) {n : Int32} {N' : Nat} (hd : decode cc pc = .ok (.newarray .boolean, 2)) (hp : pc + 2 = pc') (hn : ¬ n < 0) (hN : n.toNatClampNeg = N') (hby : N' * componentBytes .boolean ≤ 536870912) (hcs : cl + 1 ≤ R.cells ∧ sl + N' ≤ R.slots)
    (k : ∀ q, PT R nL x pc' lv (.ref q :: st) (Wd ++ [(q, .inl (x.1.2.2.2.1, N', .inl (fun _ => 0)))]) (cl + 1) (sl + N') Q) : PT R nL x pc lv (.int n :: st) Wd cl sl Q := by
  obtain ⟨⟨l, D, k0⟩, p, e, s, m, args, below, meth, c, A⟩ := x
  obtain ⟨hx, hb, hml, hown, hts, hr, hlk, hK, hA, hN0, hS0⟩ := C
  subst hp
  intro H locs ls hH hl
  refine va_newa (atype := .boolean) (ty := .boolean) (a0 := (N', .inl (fun _ => 0))) hx hb (hts _ arr_boolean) rfl hK hH.1 hH.2.1 hH.2.2 hA (fun _ => rfl) hn hN hby hcs.1 hcs.2 hd ?_
  intro q cA H1 hK1 hP hD hS
  have h1 : s.vm.findClass ("[" ++ FieldType.boolean.toString) = some cA := tyAt hK1
  have h2 : s.vm.findClass ("[" ++ FieldType.boolean.toString) = some k0.2.1 := (hK.2 1 _ rfl).2
  have h3 : cA = k0.2.1 := Option.some.inj (h1.symm.trans h2)
  subst h3
  exact k q H1 locs ls ⟨hP, hD, hS⟩ hl
theorem p_newq (C : CX own cc nL ret x) {n : Int32} {N' index : Nat} (hd : decode cc pc = .ok (.anewarray index, 3)) (hp : pc + 3 = pc') (hw : Cond.classLink own index "NeedlePairs$Board" ∈ wG) (hn : ¬ n < 0) (hN : n.toNatClampNeg = N') (hby : N' * 4 ≤ 536870912) (hcs : cl + 1 ≤ R.cells ∧ sl + N' ≤ R.slots)
    (k : ∀ q, PT R nL x pc' lv (.ref q :: st) (Wd ++ [(q, .inl (x.1.2.2.2.2, N', .inr (.inr (.inr (.inr (fun _ => none))))))]) (cl + 1) (sl + N') Q) : PT R nL x pc lv (.int n :: st) Wd cl sl Q := by
  obtain ⟨⟨l, D, k0⟩, p, e, s, m, args, below, meth, c, A⟩ := x
  obtain ⟨hx, hb, hml, hown, hts, hr, hlk, hK, hA, hN0, hS0⟩ := C
  subst hp
  intro H locs ls hH hl
  refine va_newq hx hb hown (hts _ hw) hN0.2.2 hK hH.1 hH.2.1 hH.2.2 hA hn hN hby hcs.1 hcs.2 hd ?_
  intro q cA H1 hK1 hP hD hS
  obtain ⟨_, _, _, _, _, h1⟩ : va_RA s cA (.object "NeedlePairs$Board") := tyAt hK1
  obtain ⟨_, _, _, _, _, h2⟩ : va_RA s k0.2.2 (.object "NeedlePairs$Board") := (hK.2 2 _ rfl).2
  have h3 : cA = k0.2.2 := Option.some.inj (h1.symm.trans h2)
  subst h3
  exact k q H1 locs ls ⟨hP, hD, hS⟩ hl
theorem p_putF (C : CX own cc nL ret x) (hM : MN x) {Cn ref : String} {T : u_T} {N ci index a : Nat} {fs : List Value} {v : Value} {ty : FieldType} (hd : decode cc pc = .ok (.putfield index, 3)) (hp : pc + 3 = pc') (q0 k0 : Nat) (hin : ∀ w ∈ u_ws Cn T N, w ∈ wG) (ty0 : Nat → FieldType) (hty : ∀ k, k < N → parseFieldDescriptor (T k).2.2.1 = some (ty0 k)) (hnm : ∀ a, a < N → ∀ b, b < N → a ≠ b → (T a).2.1 ≠ (T b).2.1) (hw : Cond.fieldLink own index ref (T k0).2.1 (T k0).2.2.1 ∈ wG) (he : Wd[q0]? = some (a, .inr (ci, fs))) (hc : vwCl[ci]? = some (Cn, T, N)) (hk : k0 < N) (href : (T k0).1 = ref) (hfin : (T k0).2.2.2 = true) (hdecl : (T k0).1 = own) (hdc : parseFieldDescriptor (T k0).2.2.1 = some ty) (hn : narrow ty v = v) (hfit : fits ty v = true) (hlen : k0 < fs.length) (hW : Wd.set q0 (a, .inr (ci, fs.set k0 v)) = Wd')
    (k : PT R nL x pc' lv st Wd' cl sl Q) : PT R nL x pc lv (v :: .ref a :: st) Wd cl sl Q := by
  obtain ⟨⟨l, D, k1⟩, p, e, s, m, args, below, meth, c, A⟩ := x
  obtain ⟨hx, hb, hml, hown, hts, hr, hlk, hK, hA, hN, hS0⟩ := C
  subst hp
  subst href
  subst hW
  intro H locs ls hH hl
  exact va_putF hx hb hts hin ty0 hty hnm hown hK hH.1 hH.2.1 hH.2.2 q0 he hc k0 hk (hts _ hw) (fun _ h9 => h9) hfin hM hdecl hdc hn hfit hlen hd (fun H1 locs1 hP hD hS => k H1 locs1 ls ⟨hP, hD, hS⟩ hl)
theorem p_aastj (C : CX own cc nL ret x) {a n b j : Nat} {ci : Nat} {T : u_T} {N : Nat} {fs : List Value} {f : Nat → Option Nat} {i : Int32} (hd : decode cc pc = .ok (.aastore, 1)) (hp : pc + 1 = pc') (q0 qk : Nat) (ha : Wd[q0]? = some (a, .inl (x.1.2.2.2.2, n, .inr (.inr (.inr (.inr f)))))) (hv : Wd[qk]? = some (b, .inr (ci, fs))) (hc : vwCl[ci]? = some (RX0, T, N)) (hg : gI i n = true) (hj : i.toNatClampNeg = j) (hW : Wd.set q0 (a, .inl (x.1.2.2.2.2, n, .inr (.inr (.inr (.inr (va_up f j (some b))))))) = Wd')
    (k : PT R nL x pc' lv st Wd' cl sl Q) : PT R nL x pc lv (.ref b :: .int i :: .ref a :: st) Wd cl sl Q := by
  obtain ⟨⟨l, D, k1⟩, p, e, s, m, args, below, meth, c, A⟩ := x
  obtain ⟨hx, hb, hml, hown, hts, hr, hlk, hK, hA, hN, hS0⟩ := C
  subst hp
  subst hW
  subst hj
  intro H locs ls hH hl
  exact va_astq hx hb hK hH.1 hH.2.1 hH.2.2 q0 2 qk ci ha rfl hv hc (gI_in hg) hd (fun H1 locs1 hP hD hS => k H1 locs1 ls ⟨hP, hD, hS⟩ hl)
theorem p_callIN (C : CX own cc nL ret x) {y : MethodName} {cc' : ByteArray} {nL' : Nat} {rm' : Room} {b index mc ms : Nat} {e0 : va_E} {wr : va_W} {W' : (Nat → Nat) → va_W} (hM : Cc x.1 y (wU y cc' nL' none) rm' b [(b, e0)] W' mc ms) (hd : decode cc pc = .ok (.invokespecial index, 3)) (hp : pc + 3 = pc') (hl0 : (own, index, y) ∈ nestMs) (hv : Cond.instanceMethod y ∈ wG ∧ Cond.initialized y.cls ∈ wG ∧ Cond.code y cc' nL' none ∈ wG) (hyn : y.name = "<init>") (hdsc : y.cls ≠ "java/lang/invoke/MethodHandle" ∧ y.cls ≠ "java/lang/invoke/VarHandle" ∧ (parseMethodDescriptor y.desc).map (fun d => d.parameters.length) = some 0) (hR : rm'.cells = mc ∧ rm'.slots = ms ∧ rm'.frames + 1 ≤ R.frames ∧ 8 + (nL' + 11) + rm'.locals ≤ R.locals) (j : Nat) (hj : Wd[j]? = some (b, e0)) (isR : List Nat) (hRs : isR.map (fun i => Wd[i]?) = wr.map some) (hnd : va_nd isR = true) (hdis : ∀ i ∈ isR, i ∉ [j]) (hcat : (st.map fun v => v.category).sum ≤ 8) (hcs : cl + mc ≤ R.cells ∧ sl + ms ≤ R.slots)
    (k : ∀ u : Nat → Nat, PT R nL x pc' lv st (wr ++ W' u) (cl + mc) (sl + ms) Q) : PT R nL x pc lv (.ref b :: st) Wd cl sl Q := by
  obtain ⟨⟨l, D, k0⟩, p, e, s, m, args, below, meth, c, A⟩ := x
  obtain ⟨hx, hb, hml, hown, hts, hr, hlk, hK, hA, hN, hS0⟩ := C
  subst hp
  intro H locs ls hH hl
  obtain ⟨hP, hD, hS⟩ := hH
  have hC : [j].map (fun i => Wd[i]?) = ([(b, e0)] : va_W).map some := by simp [hj]
  have hPc : va_P D vwCl [(b, e0)] H := hC_P hC hP
  have hDc : va_D (fun _ => True) [(b, e0)] := (hD.sub [j] rfl hC).weaken (fun _ _ _ _ => trivial)
  have hFc : ∀ q, va_A [(b, e0)] H.size q → A q := va_free (wc := [(b, e0)]) hD hS hA [j] hC
  refine va_callv (va_runIN (As := []) (rest := st) ⟨hx, hb, hml, hown, hts⟩ (hM H.size) ⟨va_cnB 0 hts (wU_good hv.2.2) rfl hR.1 hR.2.1 (hN.2.1 _ hl0) (hts _ hv.2.1) hdsc hR.2.2, hyn, hts _ hv.1⟩ ⟨PreC.blind _ _ _ _, fun U hU hW => ⟨rfl, by rw [hU], by rw [hU]; exact hPc, va_K.moved hW.alike hK, hDc, NW.warm hW hN, by rw [hU]; exact ((hS0.kept hS.2.1).narrow hFc).moved hW.alike⟩⟩ rfl rfl hl.1 rfl (lv_room hcat) hd hcs) hS (fun q _ h => hFc q h) hFc (fun u t H1 locs1 ht hvm hw hB hz1 hk1 hS1 => ?_)
  obtain ⟨hB1, hB2⟩ := hB
  have hB1 : va_P D vwCl (W' u) t.heap := hB1
  rw [ht] at hB1
  have hJ := va_join hP hD [j] isR hC hRs hnd hdis hk1 hFc hB1 hB2
  exact k u H1 locs1 ls ⟨hJ.1, hJ.2, hS1⟩ hl
theorem p_callI (C : CX own cc nL ret x) {y : MethodName} {cc' : ByteArray} {nL' : Nat} {rm' : Room} {b index mc ms : Nat} {e0 : va_E} {wr : va_W} {W' : (Nat → Nat) → va_W} (hM : Cc x.1 y (wU y cc' nL' none) rm' b [(b, e0)] W' mc ms) (hd : decode cc pc = .ok (.invokespecial index, 3)) (hp : pc + 3 = pc') (hl0 : Cond.methodLink own index y ∈ wG) (hv : Cond.instanceMethod y ∈ wG ∧ Cond.initialized y.cls ∈ wG ∧ Cond.code y cc' nL' none ∈ wG) (hyn : y.name = "<init>") (hdsc : y.cls ≠ "java/lang/invoke/MethodHandle" ∧ y.cls ≠ "java/lang/invoke/VarHandle" ∧ (parseMethodDescriptor y.desc).map (fun d => d.parameters.length) = some 0) (hR : rm'.cells = mc ∧ rm'.slots = ms ∧ rm'.frames + 1 ≤ R.frames ∧ 8 + (nL' + 11) + rm'.locals ≤ R.locals) (j : Nat) (hj : Wd[j]? = some (b, e0)) (isR : List Nat) (hRs : isR.map (fun i => Wd[i]?) = wr.map some) (hnd : va_nd isR = true) (hdis : ∀ i ∈ isR, i ∉ [j]) (hcat : (st.map fun v => v.category).sum ≤ 8) (hcs : cl + mc ≤ R.cells ∧ sl + ms ≤ R.slots)
    (k : ∀ u : Nat → Nat, PT R nL x pc' lv st (wr ++ W' u) (cl + mc) (sl + ms) Q) : PT R nL x pc lv (.ref b :: st) Wd cl sl Q := by
  obtain ⟨⟨l, D, k0⟩, p, e, s, m, args, below, meth, c, A⟩ := x
  obtain ⟨hx, hb, hml, hown, hts, hr, hlk, hK, hA, hN, hS0⟩ := C
  subst hp
  intro H locs ls hH hl
  obtain ⟨hP, hD, hS⟩ := hH
  have hC : [j].map (fun i => Wd[i]?) = ([(b, e0)] : va_W).map some := by simp [hj]
  have hPc : va_P D vwCl [(b, e0)] H := hC_P hC hP
  have hDc : va_D (fun _ => True) [(b, e0)] := (hD.sub [j] rfl hC).weaken (fun _ _ _ _ => trivial)
  have hFc : ∀ q, va_A [(b, e0)] H.size q → A q := va_free (wc := [(b, e0)]) hD hS hA [j] hC
  refine va_callv (va_runI (As := []) (rest := st) ⟨hx, hb, hml, hown, hts⟩ (hM H.size) ⟨callB_of 0 hts (wU_good hv.2.2) rfl hR.1 hR.2.1 (hts _ hv.2.1) (hts _ hl0) hdsc hR.2.2, hyn, hts _ hv.1⟩ ⟨PreC.blind _ _ _ _, fun U hU hW => ⟨rfl, by rw [hU], by rw [hU]; exact hPc, va_K.moved hW.alike hK, hDc, NW.warm hW hN, by rw [hU]; exact ((hS0.kept hS.2.1).narrow hFc).moved hW.alike⟩⟩ rfl rfl hl.1 rfl (lv_room hcat) hd hcs) hS (fun q _ h => hFc q h) hFc (fun u t H1 locs1 ht hvm hw hB hz1 hk1 hS1 => ?_)
  obtain ⟨hB1, hB2⟩ := hB
  have hB1 : va_P D vwCl (W' u) t.heap := hB1
  rw [ht] at hB1
  have hJ := va_join hP hD [j] isR hC hRs hnd hdis hk1 hFc hB1 hB2
  exact k u H1 locs1 ls ⟨hJ.1, hJ.2, hS1⟩ hl
end CR
