/-! my own judgement PT: from a place of a method, with locals lv, stack st and world Wd, the machine comes to Q -/
abbrev Ec : Type := ClassId × ClassId × ClassId
abbrev En : Type := Launch × va_G × Ec
abbrev Cxt : Type := En × Program × Env × State × MethodId × Array Value × List Frame × Method × Code × (Nat → Prop)
abbrev Ar : Type := Nat → Int32
abbrev tyL (k : Ec) : List (ClassId × FieldType) := [(k.1, .int), (k.2.1, .boolean), (k.2.2, .object "NeedlePairs$Board")]
def LNf : Nat → Int32 := fun j => match j with
  | 0 => 0 | 1 => 0 | 2 => 0 | 3 => 1 | 4 => 1 | _ => 2
def GNf : Nat → Int32 := fun j => match j with
  | 0 => 1 | 1 => 2 | 2 => 3 | 3 => 2 | 4 => 3 | _ => 3
def ST (A : Nat → Prop) (U : State) (H : Heap) : Prop := ∃ t1 t2 : Nat, va_Z "NeedlePairs" "LESSER_NET" "[I" (.ref t1) A U H ∧ va_T .int t1 6 (fun j => .int (LNf j)) A U H ∧ va_Z "NeedlePairs" "GREATER_NET" "[I" (.ref t2) A U H ∧ va_T .int t2 6 (fun j => .int (GNf j)) A U H
theorem ST.moved {A : Nat → Prop} {u U : State} {H : Heap} (hvm : u.vm.Alike U.vm) (h : ST A u H) : ST A U H := by
  obtain ⟨t1, t2, a, b, c, d⟩ := h
  exact ⟨t1, t2, a.moved hvm, b.moved hvm, c.moved hvm, d.moved hvm⟩
theorem ST.kept {A : Nat → Prop} {U : State} {H H1 : Heap} (h : ST A U H) (hq : ∀ a : Nat, a < H.size → ¬ A a → H1[a]? = H[a]?) : ST A U H1 := by
  obtain ⟨t1, t2, a, b, c, d⟩ := h
  exact ⟨t1, t2, a.kept hq, b.kept hq, c.kept hq, d.kept hq⟩
theorem ST.narrow {A B : Nat → Prop} {U : State} {H : Heap} (h : ST A U H) (hAB : ∀ q, B q → A q) : ST B U H := by
  obtain ⟨t1, t2, a, b, c, d⟩ := h
  exact ⟨t1, t2, a.narrow hAB, b.narrow hAB, c.narrow hAB, d.narrow hAB⟩
/-- the links among nest mates -/
def NW (U : State) : Prop := (∀ q ∈ nestFs, va_Nw (.fieldLinkNest q.1 q.2.1 q.2.2.1 q.2.2.2.1 q.2.2.2.2 "NeedlePairs") U) ∧ (∀ q ∈ nestMs, va_Nw (.methodLinkNest q.1 q.2.1 q.2.2 "NeedlePairs") U) ∧ va_AO "NeedlePairs$Board" U
theorem NW.warm {s U : State} (hW : s.WarmedH U.vm) (h : NW s) : NW U := ⟨fun q hq => va_Nw.warmF hW (h.1 q hq), fun q hq => va_Nw.warmM hW (h.2.1 q hq), va_AO.moved hW.alike h.2.2⟩
theorem NW.same {u U : State} (hv : u.vm = U.vm) (h : NW u) : NW U := ⟨fun q hq => va_Nw.same rfl hv (h.1 q hq), fun q hq => va_Nw.same rfl hv (h.2.1 q hq), va_AO.moved (by rw [← hv]; exact Vm.Alike.refl u.vm) h.2.2⟩
def HW (D : va_G) (A : Nat → Prop) (s : State) (Wd : va_W) (H : Heap) (locs : List Loc) : Prop := va_P D vwCl Wd H ∧ va_D A Wd ∧ va_S A s.heap H locs
def CX (own : String) (cc : ByteArray) (nL : Nat) (ret : Option FieldType) (x : Cxt) : Prop :=
  match x with
  | ((_, D, k), p, _, s, m, args, _, meth, c, A) => p.tables.exec = Jvm.exec ∧ c.code = cc ∧ c.maxLocals = nL ∧ s.vm.findClass own = some m.cls ∧ (∀ w ∈ wG, w.before args s = true) ∧ meth.sig.returnType = ret ∧ meth.locks = false ∧ va_K D vwCl (tyL k) s ∧ (∀ q, s.heap.size ≤ q → A q) ∧ NW s ∧ ST A s s.heap
def PT (R : Room) (nL : Nat) (x : Cxt) (pc : Nat) (lv : List (Nat × Value)) (st : List Value) (Wd : va_W) (cl sl : Nat) (Q : State → Prop) : Prop :=
  match x with
  | ((l, D, _), p, e, s, m, args, below, meth, c, A) => ∀ (H : Heap) (locs : List Loc) (ls : Array Slot), HW D A s Wd H locs → lv_has ls nL lv → W p l e R s m args below meth c H locs cl sl Q (F0 m pc ls st)
/-- pure parts of a meaning: a guard, a binding, a loop with fuel -/
def gI (i : Int32) (n : Nat) : Bool := decide (0 ≤ i.toInt) && decide (i.toInt < n)
theorem gI_in {i : Int32} {n : Nat} (h : gI i n = true) : vp_in i n := by
  rw [vp_in_iff]
  simpa [gI] using h
def grd {α : Type} (b : Bool) (k : Option α) : Option α := if b = true then k else none
theorem grd_of {α : Type} {b : Bool} {k : Option α} {r : α} (h : grd b k = some r) : b = true ∧ k = some r := by
  unfold grd at h
  split at h
  · exact ⟨by assumption, h⟩
  · cases h
def bd1 {α β : Type} (o : Option α) (f : α → Option β) : Option β := o.bind f
def bd2 {α1 α2 β : Type} (o : Option (α1 × α2)) (f : α1 → α2 → Option β) : Option β := o.bind (fun q => f q.1 q.2)
def bd3 {α1 α2 α3 β : Type} (o : Option (α1 × α2 × α3)) (f : α1 → α2 → α3 → Option β) : Option β := o.bind (fun q => f q.1 q.2.1 q.2.2)
def bd4 {α1 α2 α3 α4 β : Type} (o : Option (α1 × α2 × α3 × α4)) (f : α1 → α2 → α3 → α4 → Option β) : Option β := o.bind (fun q => f q.1 q.2.1 q.2.2.1 q.2.2.2)
def bd5 {α1 α2 α3 α4 α5 β : Type} (o : Option (α1 × α2 × α3 × α4 × α5)) (f : α1 → α2 → α3 → α4 → α5 → Option β) : Option β := o.bind (fun q => f q.1 q.2.1 q.2.2.1 q.2.2.2.1 q.2.2.2.2)
def bd6 {α1 α2 α3 α4 α5 α6 β : Type} (o : Option (α1 × α2 × α3 × α4 × α5 × α6)) (f : α1 → α2 → α3 → α4 → α5 → α6 → Option β) : Option β := o.bind (fun q => f q.1 q.2.1 q.2.2.1 q.2.2.2.1 q.2.2.2.2.1 q.2.2.2.2.2)
def bd7 {α1 α2 α3 α4 α5 α6 α7 β : Type} (o : Option (α1 × α2 × α3 × α4 × α5 × α6 × α7)) (f : α1 → α2 → α3 → α4 → α5 → α6 → α7 → Option β) : Option β := o.bind (fun q => f q.1 q.2.1 q.2.2.1 q.2.2.2.1 q.2.2.2.2.1 q.2.2.2.2.2.1 q.2.2.2.2.2.2)
def bd8 {α1 α2 α3 α4 α5 α6 α7 α8 β : Type} (o : Option (α1 × α2 × α3 × α4 × α5 × α6 × α7 × α8)) (f : α1 → α2 → α3 → α4 → α5 → α6 → α7 → α8 → Option β) : Option β := o.bind (fun q => f q.1 q.2.1 q.2.2.1 q.2.2.2.1 q.2.2.2.2.1 q.2.2.2.2.2.1 q.2.2.2.2.2.2.1 q.2.2.2.2.2.2.2)
def bd9 {α1 α2 α3 α4 α5 α6 α7 α8 α9 β : Type} (o : Option (α1 × α2 × α3 × α4 × α5 × α6 × α7 × α8 × α9)) (f : α1 → α2 → α3 → α4 → α5 → α6 → α7 → α8 → α9 → Option β) : Option β := o.bind (fun q => f q.1 q.2.1 q.2.2.1 q.2.2.2.1 q.2.2.2.2.1 q.2.2.2.2.2.1 q.2.2.2.2.2.2.1 q.2.2.2.2.2.2.2.1 q.2.2.2.2.2.2.2.2)
theorem bd1_of {α β : Type} {o : Option α} {f : α → Option β} {r : β} (h : bd1 o f = some r) : ∃ a, o = some a ∧ f a = some r := by
  unfold bd1 at h
  cases o with
  | none => cases h
  | some a => exact ⟨a, rfl, h⟩
theorem bd2_of {α1 α2 β : Type} {o : Option (α1 × α2)} {f : α1 → α2 → Option β} {r : β} (h : bd2 o f = some r) : ∃ a1 a2, o = some (a1, a2) ∧ f a1 a2 = some r := by
  unfold bd2 at h
  cases o with
  | none => cases h
  | some a => exact ⟨_, _, rfl, h⟩
theorem bd3_of {α1 α2 α3 β : Type} {o : Option (α1 × α2 × α3)} {f : α1 → α2 → α3 → Option β} {r : β} (h : bd3 o f = some r) : ∃ a1 a2 a3, o = some (a1, a2, a3) ∧ f a1 a2 a3 = some r := by
  unfold bd3 at h
  cases o with
  | none => cases h
  | some a => exact ⟨_, _, _, rfl, h⟩
theorem bd4_of {α1 α2 α3 α4 β : Type} {o : Option (α1 × α2 × α3 × α4)} {f : α1 → α2 → α3 → α4 → Option β} {r : β} (h : bd4 o f = some r) : ∃ a1 a2 a3 a4, o = some (a1, a2, a3, a4) ∧ f a1 a2 a3 a4 = some r := by
  unfold bd4 at h
  cases o with
  | none => cases h
  | some a => exact ⟨_, _, _, _, rfl, h⟩
theorem bd5_of {α1 α2 α3 α4 α5 β : Type} {o : Option (α1 × α2 × α3 × α4 × α5)} {f : α1 → α2 → α3 → α4 → α5 → Option β} {r : β} (h : bd5 o f = some r) : ∃ a1 a2 a3 a4 a5, o = some (a1, a2, a3, a4, a5) ∧ f a1 a2 a3 a4 a5 = some r := by
  unfold bd5 at h
  cases o with
  | none => cases h
  | some a => exact ⟨_, _, _, _, _, rfl, h⟩
theorem bd6_of {α1 α2 α3 α4 α5 α6 β : Type} {o : Option (α1 × α2 × α3 × α4 × α5 × α6)} {f : α1 → α2 → α3 → α4 → α5 → α6 → Option β} {r : β} (h : bd6 o f = some r) : ∃ a1 a2 a3 a4 a5 a6, o = some (a1, a2, a3, a4, a5, a6) ∧ f a1 a2 a3 a4 a5 a6 = some r := by
  unfold bd6 at h
  cases o with
  | none => cases h
  | some a => exact ⟨_, _, _, _, _, _, rfl, h⟩
theorem bd7_of {α1 α2 α3 α4 α5 α6 α7 β : Type} {o : Option (α1 × α2 × α3 × α4 × α5 × α6 × α7)} {f : α1 → α2 → α3 → α4 → α5 → α6 → α7 → Option β} {r : β} (h : bd7 o f = some r) : ∃ a1 a2 a3 a4 a5 a6 a7, o = some (a1, a2, a3, a4, a5, a6, a7) ∧ f a1 a2 a3 a4 a5 a6 a7 = some r := by
  unfold bd7 at h
  cases o with
  | none => cases h
  | some a => exact ⟨_, _, _, _, _, _, _, rfl, h⟩
theorem bd8_of {α1 α2 α3 α4 α5 α6 α7 α8 β : Type} {o : Option (α1 × α2 × α3 × α4 × α5 × α6 × α7 × α8)} {f : α1 → α2 → α3 → α4 → α5 → α6 → α7 → α8 → Option β} {r : β} (h : bd8 o f = some r) : ∃ a1 a2 a3 a4 a5 a6 a7 a8, o = some (a1, a2, a3, a4, a5, a6, a7, a8) ∧ f a1 a2 a3 a4 a5 a6 a7 a8 = some r := by
  unfold bd8 at h
  cases o with
  | none => cases h
  | some a => exact ⟨_, _, _, _, _, _, _, _, rfl, h⟩
theorem bd9_of {α1 α2 α3 α4 α5 α6 α7 α8 α9 β : Type} {o : Option (α1 × α2 × α3 × α4 × α5 × α6 × α7 × α8 × α9)} {f : α1 → α2 → α3 → α4 → α5 → α6 → α7 → α8 → α9 → Option β} {r : β} (h : bd9 o f = some r) : ∃ a1 a2 a3 a4 a5 a6 a7 a8 a9, o = some (a1, a2, a3, a4, a5, a6, a7, a8, a9) ∧ f a1 a2 a3 a4 a5 a6 a7 a8 a9 = some r := by
  unfold bd9 at h
  cases o with
  | none => cases h
  | some a => exact ⟨_, _, _, _, _, _, _, _, _, rfl, h⟩
def lpG {T : Type} (bot : T) (B : T → T) : Nat → T
  | 0 => bot
  | n + 1 => B (lpG bot B n)
theorem if_t {α : Type} {c : Prop} [Decidable c] {a b r : α} (hc : c) (h : (if c then a else b) = r) : a = r := by rw [if_pos hc] at h; exact h
theorem if_f {α : Type} {c : Prop} [Decidable c] {a b r : α} (hc : ¬ c) (h : (if c then a else b) = r) : b = r := by rw [if_neg hc] at h; exact h
/-- contracts -/
abbrev RM (f lo : Nat) : Room := { frames := f, cells := 0, slots := 0, locals := lo }
def wU (y : MethodName) (cc : ByteArray) (nL : Nat) (ret : Option FieldType) : List Cond := .code y cc nL ret :: wG
def PreC (E : En) (As : List Value) (Wd : va_W) (sz : Nat) : Array Value → State → Prop := va_Pc As (fun U => U.heap.size = sz ∧ va_P E.2.1 vwCl Wd U.heap ∧ va_K E.2.1 vwCl (tyL E.2.2) U ∧ va_D (fun _ => True) Wd ∧ NW U ∧ ST (va_A Wd sz) U U.heap)
def Ci (E : En) (y : MethodName) (ws : List Cond) (rm : Room) (As : List Value) (Wd Wd' : va_W) (r : Int32) : Prop := ∀ sz : Nat, Met E.1 y ws rm (PreC E As Wd sz) (va_Qi (fun v (_ : Unit) => v = r) (fun _ t => va_P E.2.1 vwCl Wd' t.heap) (va_A Wd sz)) 0 0 (va_A Wd sz)
def Cv (E : En) (y : MethodName) (ws : List Cond) (rm : Room) (As : List Value) (Wd Wd' : va_W) : Prop := ∀ sz : Nat, Met E.1 y ws rm (PreC E As Wd sz) (va_Qv (fun (_ : Unit) => True) (fun _ t => va_P E.2.1 vwCl Wd' t.heap) (va_A Wd sz)) 0 0 (va_A Wd sz)
def QI (x : Cxt) (r : Int32) (Wd' : va_W) : State → Prop :=
  match x with
  | ((_, D, _), _, _, s, _, args, below, _, _, A) => MQ below (va_Qi (fun v (_ : Unit) => v = r) (fun _ t => va_P D vwCl Wd' t.heap) A) args s 0 0 A
def QV (x : Cxt) (Wd' : va_W) : State → Prop :=
  match x with
  | ((_, D, _), _, _, s, _, args, below, _, _, A) => MQ below (va_Qv (fun (_ : Unit) => True) (fun _ t => va_P D vwCl Wd' t.heap) A) args s 0 0 A
theorem PreC.blind (E : En) (As : List Value) (Wd : va_W) (sz : Nat) : FrameBlind (PreC E As Wd sz) := by
  intro a U g mk q
  obtain ⟨q0, q1, qP, qK, qD, qN, qS⟩ := q
  exact ⟨q0, q1, qP, va_K.moved (u := U) (U := U.calling g mk a) (Vm.Alike.refl U.vm) qK, qD, NW.same rfl qN, ST.moved (u := U) (U := U.calling g mk a) (Vm.Alike.refl U.vm) qS⟩
theorem enter {E : En} {y : MethodName} {cc : ByteArray} {nL : Nat} {ret : Option FieldType} {rm : Room} {As : List Value} {Wd : va_W} {Qc : Nat → Array Value → State → Outcome → State → Prop} {mc ms : Nat}
    (hy : plainName y.cls = true) (hL : (lg_sl As).length ≤ nL)
    (body : ∀ (p : Program) (e : Env) (s : State) (m : MethodId) (args : Array Value) (below : List Frame) (meth : Method) (c : Code), CX y.cls cc nL ret (E, p, e, s, m, args, below, meth, c, va_A Wd s.heap.size) → meth.name = y.name → PT rm nL (E, p, e, s, m, args, below, meth, c, va_A Wd s.heap.size) 0 (lv_args 0 As) [] Wd 0 0 (MQ below (Qc s.heap.size) args s mc ms (va_A Wd s.heap.size))) (sz : Nat) :
    Met E.1 y (wU y cc nL ret) rm (PreC E As Wd sz) (Qc sz) mc ms (va_A Wd sz) := by
  refine Met.ofW (cc := cc) (maxL := nL) (ret := ret) hy rfl ?_
  intro p e s m args below meth c s₁ B hml hv
  obtain ⟨rfl, hsz, hP, hK, hD0, hN, hS⟩ := hv
  subst hsz
  have hts := atoms_spec (ws := wU y cc nL ret) B.pre
  have h1 := body p e s m As.toArray below meth c ⟨B.exec, B.bytes, hml, findClass_of_methodNamed B.named, fun w hw => hts w (List.mem_cons_of_mem _ hw), B.returns, B.notSynchronized, hK, fun q h => Or.inr h, hN, hS⟩ (name_of_methodNamed B.named B.method).1
  have hl := lv_entry As (n := nL) hL
  rw [lg_entry_eq]
  exact h1 s.heap [] _ ⟨hP, hD0.self, va_S.rf⟩ hl
theorem Ci.of {E : En} {y : MethodName} {cc : ByteArray} {nL : Nat} {ret : Option FieldType} {rm : Room} {As : List Value} {Wd Wd' : va_W} {r : Int32} (hy : plainName y.cls = true) (hL : (lg_sl As).length ≤ nL)
    (body : ∀ x : Cxt, x.1 = E → CX y.cls cc nL ret x → PT rm nL x 0 (lv_args 0 As) [] Wd 0 0 (QI x r Wd')) : Ci E y (wU y cc nL ret) rm As Wd Wd' r :=
  fun sz => enter (Qc := fun sz => va_Qi (fun v (_ : Unit) => v = r) (fun _ t => va_P E.2.1 vwCl Wd' t.heap) (va_A Wd sz)) hy hL (fun p e s m args below meth c C _ => body (E, p, e, s, m, args, below, meth, c, va_A Wd s.heap.size) rfl C) sz
theorem Cv.of {E : En} {y : MethodName} {cc : ByteArray} {nL : Nat} {ret : Option FieldType} {rm : Room} {As : List Value} {Wd Wd' : va_W} (hy : plainName y.cls = true) (hL : (lg_sl As).length ≤ nL)
    (body : ∀ x : Cxt, x.1 = E → CX y.cls cc nL ret x → PT rm nL x 0 (lv_args 0 As) [] Wd 0 0 (QV x Wd')) : Cv E y (wU y cc nL ret) rm As Wd Wd' :=
  fun sz => enter (Qc := fun sz => va_Qv (fun (_ : Unit) => True) (fun _ t => va_P E.2.1 vwCl Wd' t.heap) (va_A Wd sz)) hy hL (fun p e s m args below meth c C _ => body (E, p, e, s, m, args, below, meth, c, va_A Wd s.heap.size) rfl C) sz
