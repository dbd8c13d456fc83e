def wlk : List Nat → va_W → Nat → Option (Nat × va_E)
  | i :: is, c :: cs, k => if i == k then some c else wlk is cs k
  | _, _, _ => none
def wputk (is : List Nat) (cs : va_W) : Nat → va_W → va_W
  | _, [] => []
  | k, c :: r => (match wlk is cs k with | some c' => c' | none => c) :: wputk is cs (k + 1) r
/-- the world with its cells at the places is replaced by cs -/
def wput (Wd : va_W) (is : List Nat) (cs : va_W) : va_W := wputk is cs 0 Wd
theorem wlk_none : ∀ (is : List Nat) (cs : va_W) (k : Nat), is.length = cs.length → wlk is cs k = none → k ∉ is := by
  intro is
  induction is with
  | nil => intro cs k _ _; simp
  | cons i is ih =>
    intro cs k h1 h2
    cases cs with
    | nil => simp at h1
    | cons c cs =>
      unfold wlk at h2
      split at h2
      · cases h2
      · rename_i hne
        have := ih cs k (by simpa using h1) h2
        simp only [List.mem_cons, not_or]
        exact ⟨fun e => hne (by simp [e]), this⟩
theorem wlk_some : ∀ (is : List Nat) (cs : va_W) (k : Nat) (c : Nat × va_E), wlk is cs k = some c → ∃ j : Nat, is[j]? = some k ∧ cs[j]? = some c := by
  intro is
  induction is with
  | nil => intro cs k c h; cases h
  | cons i is ih =>
    intro cs k c h
    cases cs with
    | nil => cases h
    | cons c0 cs =>
      unfold wlk at h
      split at h
      · rename_i he
        cases h
        exact ⟨0, by simpa using he, rfl⟩
      · obtain ⟨j, h1, h2⟩ := ih cs k c h
        exact ⟨j + 1, by simpa using h1, by simpa using h2⟩
theorem wputk_at (is : List Nat) (cs : va_W) : ∀ (Wd : va_W) (k0 k : Nat), (wputk is cs k0 Wd)[k]? = (Wd[k]?).map (fun c => (wlk is cs (k0 + k)).getD c) := by
  intro Wd
  induction Wd with
  | nil => intro k0 k; simp [wputk]
  | cons c r ih =>
    intro k0 k
    cases k with
    | zero =>
      simp only [wputk, List.getElem?_cons_zero, Option.map_some, Nat.add_zero]
      cases wlk is cs k0 <;> rfl
    | succ k =>
      simp only [wputk, List.getElem?_cons_succ]
      rw [ih (k0 + 1) k, show k0 + 1 + k = k0 + (k + 1) by omega]
theorem wput_ok {D : va_G} {cl : List vw_C} {A : Nat → Prop} {H1 : Heap} (is : List Nat) (cs : va_W) (Wd : va_W) (h1 : ∀ (k : Nat) (q : Nat × va_E), Wd[k]? = some q → k ∉ is → va_at D cl q H1) (h2 : ∀ (j i : Nat) (c : Nat × va_E), is[j]? = some i → cs[j]? = some c → ∃ q, Wd[i]? = some q ∧ q.1 = c.1) (h3 : ∀ (j : Nat) (c : Nat × va_E), cs[j]? = some c → va_at D cl c H1) (h4 : is.length = cs.length) (h5 : va_D A Wd) : va_P D cl (wput Wd is cs) H1 ∧ va_D A (wput Wd is cs) := by
  have hat : ∀ k : Nat, (wput Wd is cs)[k]? = (Wd[k]?).map (fun c => (wlk is cs k).getD c) := fun k => by rw [wput, wputk_at, Nat.zero_add]
  have hfst : ∀ (k : Nat) (q : Nat × va_E), (wput Wd is cs)[k]? = some q → ∃ q0, Wd[k]? = some q0 ∧ q0.1 = q.1 := by
    intro k q hk
    rw [hat] at hk
    cases hw : Wd[k]? with
    | none => rw [hw] at hk; cases hk
    | some q0 =>
      rw [hw] at hk
      refine ⟨q0, rfl, ?_⟩
      simp only [Option.map_some, Option.some.injEq] at hk
      cases hl : wlk is cs k with
      | none => rw [hl] at hk; simp at hk; rw [hk]
      | some c =>
        rw [hl] at hk
        simp at hk
        subst hk
        obtain ⟨j, hj1, hj2⟩ := wlk_some is cs k c hl
        obtain ⟨q2, hq2, he⟩ := h2 j k c hj1 hj2
        rw [hw] at hq2
        cases hq2
        exact he
  refine ⟨?_, ?_, ?_⟩
  · intro k q hk
    have hk2 := hk
    rw [hat] at hk2
    cases hw : Wd[k]? with
    | none => rw [hw] at hk2; cases hk2
    | some q0 =>
      rw [hw] at hk2
      simp only [Option.map_some, Option.some.injEq] at hk2
      cases hl : wlk is cs k with
      | none =>
        rw [hl] at hk2
        simp at hk2
        subst hk2
        exact h1 k _ hw (wlk_none is cs k h4 hl)
      | some c =>
        rw [hl] at hk2
        simp at hk2
        subst hk2
        obtain ⟨j, hj1, hj2⟩ := wlk_some is cs k c hl
        exact h3 j c hj2
  · intro i j p q hi hj he
    obtain ⟨p0, hp0, hp1⟩ := hfst i p hi
    obtain ⟨q0, hq0, hq1⟩ := hfst j q hj
    exact h5.1 i j p0 q0 hp0 hq0 (by rw [hp1, hq1, he])
  · intro k q hk
    obtain ⟨q0, hq0, hq1⟩ := hfst k q hk
    rw [← hq1]
    exact h5.2 k q0 hq0
theorem range_map_id (Wd : va_W) : (List.range Wd.length).map (fun i => Wd[i]?) = Wd.map some := by
  apply List.ext_getElem?
  intro k
  simp only [List.getElem?_map]
  rcases Nat.lt_or_ge k Wd.length with h | h
  · rw [List.getElem?_range h, List.getElem?_eq_getElem h]
    simp [List.getElem?_eq_getElem h]
  · rw [List.getElem?_eq_none (by simpa using h), List.getElem?_eq_none h]
    rfl
theorem va_nd_of : ∀ l : List Nat, l.Nodup → va_nd l = true := by
  intro l
  induction l with
  | nil => intro _; rfl
  | cons a r ih =>
    intro h
    rw [List.nodup_cons] at h
    simp [va_nd, h.1, ih h.2]
theorem wlk_id : ∀ (is : List Nat) (cs : va_W) (j : Nat), is.Nodup → is.length = cs.length → ∀ k, is[j]? = some k → wlk is cs k = cs[j]? := by
  intro is
  induction is with
  | nil => intro cs j _ _ k h; simp at h
  | cons i is ih =>
    intro cs j hn hl k hk
    rw [List.nodup_cons] at hn
    cases cs with
    | nil => simp at hl
    | cons c cs =>
      cases j with
      | zero =>
        simp at hk
        subst hk
        simp [wlk]
      | succ j =>
        simp only [List.getElem?_cons_succ] at hk ⊢
        have hne : ¬ i = k := fun e => hn.1 (e ▸ List.mem_of_getElem? hk)
        unfold wlk
        rw [if_neg (by simpa using hne)]
        exact ih cs j hn.2 (by simpa using hl) k hk
theorem wput_id {Wc Wc' : va_W} (hF : Wc'.map Prod.fst = Wc.map Prod.fst) : wput Wc (List.range Wc.length) Wc' = Wc' := by
  have hl : Wc'.length = Wc.length := by simpa using congrArg List.length hF
  apply List.ext_getElem?
  intro k
  rw [wput, wputk_at, Nat.zero_add]
  rcases Nat.lt_or_ge k Wc.length with h | h
  · rw [wlk_id (List.range Wc.length) Wc' k List.nodup_range (by simp [hl]) k (List.getElem?_range h), List.getElem?_eq_getElem h, List.getElem?_eq_getElem (by omega : k < Wc'.length)]
    rfl
  · rw [List.getElem?_eq_none h, List.getElem?_eq_none (by omega)]
    rfl
theorem hC_at {Wd Wc : va_W} {isC : List Nat} (hC : isC.map (fun i => Wd[i]?) = Wc.map some) {j : Nat} {c : Nat × va_E} (hc : Wc[j]? = some c) : ∃ i, isC[j]? = some i ∧ Wd[i]? = some c := by
  have h1 : (isC.map (fun i => Wd[i]?))[j]? = some (some c) := by rw [hC, List.getElem?_map, hc]; rfl
  rw [List.getElem?_map] at h1
  cases hi : isC[j]? with
  | none => rw [hi] at h1; cases h1
  | some i => rw [hi] at h1; exact ⟨i, rfl, Option.some.inj h1⟩
theorem hC_P {D : va_G} {cl : List vw_C} {Wd Wc : va_W} {isC : List Nat} {H : Heap} (hC : isC.map (fun i => Wd[i]?) = Wc.map some) (hP : va_P D cl Wd H) : va_P D cl Wc H := by
  intro k q hk
  obtain ⟨i, -, hi⟩ := hC_at hC hk
  exact hP i q hi
theorem call_ok {D : va_G} {cl : List vw_C} {A : Nat → Prop} {Wd Wc Wc' : va_W} {isC : List Nat} {H H1 : Heap} (hP : va_P D cl Wd H) (hD : va_D A Wd) (hC : isC.map (fun i => Wd[i]?) = Wc.map some) (hF : Wc'.map Prod.fst = Wc.map Prod.fst) (hP1 : va_P D cl Wc' H1) (hk1 : ∀ q : Nat, q < H.size → ¬ va_A Wc H.size q → H1[q]? = H[q]?) : va_P D cl (wput Wd isC Wc') H1 ∧ va_D A (wput Wd isC Wc') := by
  have hl1 : isC.length = Wc.length := by simpa using congrArg List.length hC
  have hl2 : Wc'.length = Wc.length := by simpa using congrArg List.length hF
  refine wput_ok isC Wc' Wd ?_ ?_ (fun j c hj => hP1 j c hj) (by omega) hD
  · intro k q hk hn
    have h0 := hP k q hk
    refine h0.kept (hk1 q.1 h0.lt ?_)
    intro hA
    rcases hA with ⟨j, e, hj⟩ | hA
    · obtain ⟨i, hi, hw⟩ := hC_at hC hj
      have := hD.1 k i q (q.1, e) hk hw rfl
      subst this
      exact hn (List.mem_of_getElem? hi)
    · exact absurd h0.lt (Nat.not_lt.mpr hA)
  · intro j i c hj hc
    have hj2 : j < Wc.length := by
      rcases Nat.lt_or_ge j Wc.length with h | h
      · exact h
      · rw [List.getElem?_eq_none (by omega)] at hj; cases hj
    have hcj : Wc[j]? = some (Wc[j]'hj2) := List.getElem?_eq_getElem hj2
    obtain ⟨i2, hi2, hw⟩ := hC_at hC hcj
    rw [hj] at hi2
    cases hi2
    refine ⟨_, hw, ?_⟩
    have h9 : (Wc'.map Prod.fst)[j]? = (Wc.map Prod.fst)[j]? := by rw [hF]
    rw [List.getElem?_map, List.getElem?_map, hc, hcj] at h9
    exact (Option.some.inj h9).symm
theorem wU_good {y : MethodName} {cc : ByteArray} {nL : Nat} {ret : Option FieldType} (h : Cond.code y cc nL ret ∈ wG) : GoodIn wG (wU y cc nL ret) := fun w hw => (List.mem_cons.mp hw).elim (fun e => e ▸ wG_good _ h) (wG_good w)
section CL
variable {own : String} {cc : ByteArray} {nL : Nat} {ret : Option FieldType} {R : Room} {x : Cxt} {pc pc' : Nat} {lv lv' : List (Nat × Value)} {st st' : List Value} {Wd Wd' : va_W} {cl sl : Nat} {Q : State → Prop} {y : MethodName} {cc' : ByteArray} {nL' : Nat} {ret' : Option FieldType} {rm' : Room} {As : List Value} {Wc Wc' : va_W} {r : Int32} {index b : Nat}
theorem p_callVi (C : CX own cc nL ret x) (hM : Ci x.1 y (wU y cc' nL' ret') rm' (.ref b :: As) Wc Wc' r) (hd : decode cc pc = .ok (.invokevirtual index, 3)) (hp : pc + 3 = pc') (hl0 : Cond.methodLink own index y ∈ wG) (hv : Cond.instanceMethod y ∈ wG ∧ Cond.selects y.cls y y ∈ wG ∧ Cond.initialized y.cls ∈ wG ∧ Cond.code y cc' nL' ret' ∈ wG) (hdsc : y.cls ≠ "java/lang/invoke/MethodHandle" ∧ y.cls ≠ "java/lang/invoke/VarHandle" ∧ (parseMethodDescriptor y.desc).map (fun d => d.parameters.length) = some As.length) (hR : rm'.cells = 0 ∧ rm'.slots = 0 ∧ rm'.frames + 1 ≤ R.frames ∧ 8 + (nL' + 11) + rm'.locals ≤ R.locals) {ci N : Nat} {T : u_T} {fs : List Value} (q0 : Nat) (hrc : Wc[q0]? = some (b, .inr (ci, fs))) (hvc : vwCl[ci]? = some (y.cls, T, N)) (isC : List Nat) (hC : isC.map (fun i => Wd[i]?) = Wc.map some) (hnd : va_nd isC = true) (hF : Wc'.map Prod.fst = Wc.map Prod.fst) (hst : st = As.reverse ++ .ref b :: st') (hcat : (st'.map fun v => v.category).sum ≤ 8) (hcs : cl + 0 ≤ R.cells ∧ sl + 0 ≤ R.slots) (hW : wput Wd isC Wc' = Wd')
    (k : PT R nL x pc' lv (.int r :: st') Wd' cl sl Q) : PT R nL x pc lv st Wd cl sl Q := by
  obtain ⟨⟨l, D, k0⟩, p, e, s, m, args, below, meth, c, A⟩ := x
  obtain ⟨hx, hb, hml, hown, hts, hr, hlk, hK, hA, hN, hS0⟩ := C
  subst hp
  subst hst
  subst hW
  intro H locs ls hH hl
  obtain ⟨hP, hD, hS⟩ := hH
  have hPc : va_P D vwCl Wc H := hC_P hC hP
  have hDc : va_D (fun _ => True) Wc := (hD.sub isC hnd hC).weaken (fun _ _ _ _ => trivial)
  have hFc : ∀ q, va_A Wc H.size q → A q := va_free (wc := Wc) hD hS hA isC hC
  refine va_calli (va_runV (As := As) (rest := st') ⟨hx, hb, hml, hown, hts⟩ (hM H.size) ⟨callB_of As.length hts (wU_good hv.2.2.2) rfl hR.1 hR.2.1 (hts _ hv.2.2.1) (hts _ hl0) hdsc hR.2.2, hts _ hv.1, hts _ hv.2.1⟩ ⟨PreC.blind _ _ _ _, va_recv hK hPc hvc hrc, fun U hU hW => ⟨rfl, by rw [hU], by rw [hU]; exact hPc, va_K.moved hW.alike hK, hDc, NW.warm hW hN, by rw [hU]; exact ((hS0.kept hS.2.1).narrow hFc).moved hW.alike⟩⟩ rfl rfl hl.1 rfl (lv_room hcat) hd hcs) hS (fun q _ h => hFc q h) hFc (fun r1 u t H1 locs1 ht hvm hw hB hz1 hk1 hS1 => ?_)
  have hB : va_P D vwCl Wc' t.heap := hB
  rw [ht] at hB
  have hJ := call_ok hP hD hC hF hB hk1
  subst hw
  exact k H1 locs1 ls ⟨hJ.1, hJ.2, hS1⟩ hl
theorem p_callVi_s (C : CX own cc nL ret x) (hM : Ci x.1 y (wU y cc' nL' ret') rm' (.ref b :: As) Wc Wc' r) (hd : decode cc pc = .ok (.invokevirtual index, 3)) (hp : pc + 3 = pc') (hl0 : Cond.methodLink own index y ∈ wG) (hv : Cond.instanceMethod y ∈ wG ∧ Cond.selects y.cls y y ∈ wG ∧ Cond.initialized y.cls ∈ wG ∧ Cond.code y cc' nL' ret' ∈ wG) (hdsc : y.cls ≠ "java/lang/invoke/MethodHandle" ∧ y.cls ≠ "java/lang/invoke/VarHandle" ∧ (parseMethodDescriptor y.desc).map (fun d => d.parameters.length) = some As.length) (hR : rm'.cells = 0 ∧ rm'.slots = 0 ∧ rm'.frames + 1 ≤ R.frames ∧ 8 + (nL' + 11) + rm'.locals ≤ R.locals) {ci N : Nat} {T : u_T} {fs : List Value} (q0 : Nat) (hrc : Wc[q0]? = some (b, .inr (ci, fs))) (hvc : vwCl[ci]? = some (y.cls, T, N)) (hF : Wc'.map Prod.fst = Wc.map Prod.fst) (hst : st = As.reverse ++ .ref b :: st') (hcat : (st'.map fun v => v.category).sum ≤ 8) (hcs : cl + 0 ≤ R.cells ∧ sl + 0 ≤ R.slots)
    (k : PT R nL x pc' lv (.int r :: st') Wc' cl sl Q) : PT R nL x pc lv st Wc cl sl Q :=
  p_callVi C hM hd hp hl0 hv hdsc hR q0 hrc hvc (List.range Wc.length) (range_map_id Wc) (va_nd_of _ List.nodup_range) hF hst hcat hcs (wput_id hF) k
theorem p_callVv (C : CX own cc nL ret x) (hM : Cv x.1 y (wU y cc' nL' ret') rm' (.ref b :: As) Wc Wc') (hd : decode cc pc = .ok (.invokevirtual index, 3)) (hp : pc + 3 = pc') (hl0 : Cond.methodLink own index y ∈ wG) (hv : Cond.instanceMethod y ∈ wG ∧ Cond.selects y.cls y y ∈ wG ∧ Cond.initialized y.cls ∈ wG ∧ Cond.code y cc' nL' ret' ∈ wG) (hdsc : y.cls ≠ "java/lang/invoke/MethodHandle" ∧ y.cls ≠ "java/lang/invoke/VarHandle" ∧ (parseMethodDescriptor y.desc).map (fun d => d.parameters.length) = some As.length) (hR : rm'.cells = 0 ∧ rm'.slots = 0 ∧ rm'.frames + 1 ≤ R.frames ∧ 8 + (nL' + 11) + rm'.locals ≤ R.locals) {ci N : Nat} {T : u_T} {fs : List Value} (q0 : Nat) (hrc : Wc[q0]? = some (b, .inr (ci, fs))) (hvc : vwCl[ci]? = some (y.cls, T, N)) (isC : List Nat) (hC : isC.map (fun i => Wd[i]?) = Wc.map some) (hnd : va_nd isC = true) (hF : Wc'.map Prod.fst = Wc.map Prod.fst) (hst : st = As.reverse ++ .ref b :: st') (hcat : (st'.map fun v => v.category).sum ≤ 8) (hcs : cl + 0 ≤ R.cells ∧ sl + 0 ≤ R.slots) (hW : wput Wd isC Wc' = Wd')
    (k : PT R nL x pc' lv st' Wd' cl sl Q) : PT R nL x pc lv st Wd cl sl Q := by
  obtain ⟨⟨l, D, k0⟩, p, e, s, m, args, below, meth, c, A⟩ := x
  obtain ⟨hx, hb, hml, hown, hts, hr, hlk, hK, hA, hN, hS0⟩ := C
  subst hp
  subst hst
  subst hW
  intro H locs ls hH hl
  obtain ⟨hP, hD, hS⟩ := hH
  have hPc : va_P D vwCl Wc H := hC_P hC hP
  have hDc : va_D (fun _ => True) Wc := (hD.sub isC hnd hC).weaken (fun _ _ _ _ => trivial)
  have hFc : ∀ q, va_A Wc H.size q → A q := va_free (wc := Wc) hD hS hA isC hC
  refine va_callv (va_runV (As := As) (rest := st') ⟨hx, hb, hml, hown, hts⟩ (hM H.size) ⟨callB_of As.length hts (wU_good hv.2.2.2) rfl hR.1 hR.2.1 (hts _ hv.2.2.1) (hts _ hl0) hdsc hR.2.2, hts _ hv.1, hts _ hv.2.1⟩ ⟨PreC.blind _ _ _ _, va_recv hK hPc hvc hrc, fun U hU hW => ⟨rfl, by rw [hU], by rw [hU]; exact hPc, va_K.moved hW.alike hK, hDc, NW.warm hW hN, by rw [hU]; exact ((hS0.kept hS.2.1).narrow hFc).moved hW.alike⟩⟩ rfl rfl hl.1 rfl (lv_room hcat) hd hcs) hS (fun q _ h => hFc q h) hFc (fun u t H1 locs1 ht hvm hw hB hz1 hk1 hS1 => ?_)
  have hB : va_P D vwCl Wc' t.heap := hB
  rw [ht] at hB
  have hJ := call_ok hP hD hC hF hB hk1
  skip
  exact k H1 locs1 ls ⟨hJ.1, hJ.2, hS1⟩ hl
theorem p_callVv_s (C : CX own cc nL ret x) (hM : Cv x.1 y (wU y cc' nL' ret') rm' (.ref b :: As) Wc Wc') (hd : decode cc pc = .ok (.invokevirtual index, 3)) (hp : pc + 3 = pc') (hl0 : Cond.methodLink own index y ∈ wG) (hv : Cond.instanceMethod y ∈ wG ∧ Cond.selects y.cls y y ∈ wG ∧ Cond.initialized y.cls ∈ wG ∧ Cond.code y cc' nL' ret' ∈ wG) (hdsc : y.cls ≠ "java/lang/invoke/MethodHandle" ∧ y.cls ≠ "java/lang/invoke/VarHandle" ∧ (parseMethodDescriptor y.desc).map (fun d => d.parameters.length) = some As.length) (hR : rm'.cells = 0 ∧ rm'.slots = 0 ∧ rm'.frames + 1 ≤ R.frames ∧ 8 + (nL' + 11) + rm'.locals ≤ R.locals) {ci N : Nat} {T : u_T} {fs : List Value} (q0 : Nat) (hrc : Wc[q0]? = some (b, .inr (ci, fs))) (hvc : vwCl[ci]? = some (y.cls, T, N)) (hF : Wc'.map Prod.fst = Wc.map Prod.fst) (hst : st = As.reverse ++ .ref b :: st') (hcat : (st'.map fun v => v.category).sum ≤ 8) (hcs : cl + 0 ≤ R.cells ∧ sl + 0 ≤ R.slots)
    (k : PT R nL x pc' lv st' Wc' cl sl Q) : PT R nL x pc lv st Wc cl sl Q :=
  p_callVv C hM hd hp hl0 hv hdsc hR q0 hrc hvc (List.range Wc.length) (range_map_id Wc) (va_nd_of _ List.nodup_range) hF hst hcat hcs (wput_id hF) k
theorem p_callVNi (C : CX own cc nL ret x) (hM : Ci x.1 y (wU y cc' nL' ret') rm' (.ref b :: As) Wc Wc' r) (hd : decode cc pc = .ok (.invokevirtual index, 3)) (hp : pc + 3 = pc') (hl0 : (own, index, y) ∈ nestMs) (hv : Cond.instanceMethod y ∈ wG ∧ Cond.selects y.cls y y ∈ wG ∧ Cond.initialized y.cls ∈ wG ∧ Cond.code y cc' nL' ret' ∈ wG) (hdsc : y.cls ≠ "java/lang/invoke/MethodHandle" ∧ y.cls ≠ "java/lang/invoke/VarHandle" ∧ (parseMethodDescriptor y.desc).map (fun d => d.parameters.length) = some As.length) (hR : rm'.cells = 0 ∧ rm'.slots = 0 ∧ rm'.frames + 1 ≤ R.frames ∧ 8 + (nL' + 11) + rm'.locals ≤ R.locals) {ci N : Nat} {T : u_T} {fs : List Value} (q0 : Nat) (hrc : Wc[q0]? = some (b, .inr (ci, fs))) (hvc : vwCl[ci]? = some (y.cls, T, N)) (isC : List Nat) (hC : isC.map (fun i => Wd[i]?) = Wc.map some) (hnd : va_nd isC = true) (hF : Wc'.map Prod.fst = Wc.map Prod.fst) (hst : st = As.reverse ++ .ref b :: st') (hcat : (st'.map fun v => v.category).sum ≤ 8) (hcs : cl + 0 ≤ R.cells ∧ sl + 0 ≤ R.slots) (hW : wput Wd isC Wc' = Wd')
    (k : PT R nL x pc' lv (.int r :: st') Wd' cl sl Q) : PT R nL x pc lv st Wd cl sl Q := by
  obtain ⟨⟨l, D, k0⟩, p, e, s, m, args, below, meth, c, A⟩ := x
  obtain ⟨hx, hb, hml, hown, hts, hr, hlk, hK, hA, hN, hS0⟩ := C
  subst hp
  subst hst
  subst hW
  intro H locs ls hH hl
  obtain ⟨hP, hD, hS⟩ := hH
  have hPc : va_P D vwCl Wc H := hC_P hC hP
  have hDc : va_D (fun _ => True) Wc := (hD.sub isC hnd hC).weaken (fun _ _ _ _ => trivial)
  have hFc : ∀ q, va_A Wc H.size q → A q := va_free (wc := Wc) hD hS hA isC hC
  refine va_calli (va_runVN (As := As) (rest := st') ⟨hx, hb, hml, hown, hts⟩ (hM H.size) ⟨va_cnB As.length hts (wU_good hv.2.2.2) rfl hR.1 hR.2.1 (hN.2.1 _ hl0) (hts _ hv.2.2.1) hdsc hR.2.2, hts _ hv.1, hts _ hv.2.1⟩ ⟨PreC.blind _ _ _ _, va_recv hK hPc hvc hrc, fun U hU hW => ⟨rfl, by rw [hU], by rw [hU]; exact hPc, va_K.moved hW.alike hK, hDc, NW.warm hW hN, by rw [hU]; exact ((hS0.kept hS.2.1).narrow hFc).moved hW.alike⟩⟩ rfl rfl hl.1 rfl (lv_room hcat) hd hcs) hS (fun q _ h => hFc q h) hFc (fun r1 u t H1 locs1 ht hvm hw hB hz1 hk1 hS1 => ?_)
  have hB : va_P D vwCl Wc' t.heap := hB
  rw [ht] at hB
  have hJ := call_ok hP hD hC hF hB hk1
  subst hw
  exact k H1 locs1 ls ⟨hJ.1, hJ.2, hS1⟩ hl
theorem p_callVNi_s (C : CX own cc nL ret x) (hM : Ci x.1 y (wU y cc' nL' ret') rm' (.ref b :: As) Wc Wc' r) (hd : decode cc pc = .ok (.invokevirtual index, 3)) (hp : pc + 3 = pc') (hl0 : (own, index, y) ∈ nestMs) (hv : Cond.instanceMethod y ∈ wG ∧ Cond.selects y.cls y y ∈ wG ∧ Cond.initialized y.cls ∈ wG ∧ Cond.code y cc' nL' ret' ∈ wG) (hdsc : y.cls ≠ "java/lang/invoke/MethodHandle" ∧ y.cls ≠ "java/lang/invoke/VarHandle" ∧ (parseMethodDescriptor y.desc).map (fun d => d.parameters.length) = some As.length) (hR : rm'.cells = 0 ∧ rm'.slots = 0 ∧ rm'.frames + 1 ≤ R.frames ∧ 8 + (nL' + 11) + rm'.locals ≤ R.locals) {ci N : Nat} {T : u_T} {fs : List Value} (q0 : Nat) (hrc : Wc[q0]? = some (b, .inr (ci, fs))) (hvc : vwCl[ci]? = some (y.cls, T, N)) (hF : Wc'.map Prod.fst = Wc.map Prod.fst) (hst : st = As.reverse ++ .ref b :: st') (hcat : (st'.map fun v => v.category).sum ≤ 8) (hcs : cl + 0 ≤ R.cells ∧ sl + 0 ≤ R.slots)
    (k : PT R nL x pc' lv (.int r :: st') Wc' cl sl Q) : PT R nL x pc lv st Wc cl sl Q :=
  p_callVNi C hM hd hp hl0 hv hdsc hR q0 hrc hvc (List.range Wc.length) (range_map_id Wc) (va_nd_of _ List.nodup_range) hF hst hcat hcs (wput_id hF) k
theorem p_callVNv (C : CX own cc nL ret x) (hM : Cv x.1 y (wU y cc' nL' ret') rm' (.ref b :: As) Wc Wc') (hd : decode cc pc = .ok (.invokevirtual index, 3)) (hp : pc + 3 = pc') (hl0 : (own, index, y) ∈ nestMs) (hv : Cond.instanceMethod y ∈ wG ∧ Cond.selects y.cls y y ∈ wG ∧ Cond.initialized y.cls ∈ wG ∧ Cond.code y cc' nL' ret' ∈ wG) (hdsc : y.cls ≠ "java/lang/invoke/MethodHandle" ∧ y.cls ≠ "java/lang/invoke/VarHandle" ∧ (parseMethodDescriptor y.desc).map (fun d => d.parameters.length) = some As.length) (hR : rm'.cells = 0 ∧ rm'.slots = 0 ∧ rm'.frames + 1 ≤ R.frames ∧ 8 + (nL' + 11) + rm'.locals ≤ R.locals) {ci N : Nat} {T : u_T} {fs : List Value} (q0 : Nat) (hrc : Wc[q0]? = some (b, .inr (ci, fs))) (hvc : vwCl[ci]? = some (y.cls, T, N)) (isC : List Nat) (hC : isC.map (fun i => Wd[i]?) = Wc.map some) (hnd : va_nd isC = true) (hF : Wc'.map Prod.fst = Wc.map Prod.fst) (hst : st = As.reverse ++ .ref b :: st') (hcat : (st'.map fun v => v.category).sum ≤ 8) (hcs : cl + 0 ≤ R.cells ∧ sl + 0 ≤ R.slots) (hW : wput Wd isC Wc' = Wd')
    (k : PT R nL x pc' lv st' Wd' cl sl Q) : PT R nL x pc lv st Wd cl sl Q := by
  obtain ⟨⟨l, D, k0⟩, p, e, s, m, args, below, meth, c, A⟩ := x
  obtain ⟨hx, hb, hml, hown, hts, hr, hlk, hK, hA, hN, hS0⟩ := C
  subst hp
  subst hst
  subst hW
  intro H locs ls hH hl
  obtain ⟨hP, hD, hS⟩ := hH
  have hPc : va_P D vwCl Wc H := hC_P hC hP
  have hDc : va_D (fun _ => True) Wc := (hD.sub isC hnd hC).weaken (fun _ _ _ _ => trivial)
  have hFc : ∀ q, va_A Wc H.size q → A q := va_free (wc := Wc) hD hS hA isC hC
  refine va_callv (va_runVN (As := As) (rest := st') ⟨hx, hb, hml, hown, hts⟩ (hM H.size) ⟨va_cnB As.length hts (wU_good hv.2.2.2) rfl hR.1 hR.2.1 (hN.2.1 _ hl0) (hts _ hv.2.2.1) hdsc hR.2.2, hts _ hv.1, hts _ hv.2.1⟩ ⟨PreC.blind _ _ _ _, va_recv hK hPc hvc hrc, fun U hU hW => ⟨rfl, by rw [hU], by rw [hU]; exact hPc, va_K.moved hW.alike hK, hDc, NW.warm hW hN, by rw [hU]; exact ((hS0.kept hS.2.1).narrow hFc).moved hW.alike⟩⟩ rfl rfl hl.1 rfl (lv_room hcat) hd hcs) hS (fun q _ h => hFc q h) hFc (fun u t H1 locs1 ht hvm hw hB hz1 hk1 hS1 => ?_)
  have hB : va_P D vwCl Wc' t.heap := hB
  rw [ht] at hB
  have hJ := call_ok hP hD hC hF hB hk1
  skip
  exact k H1 locs1 ls ⟨hJ.1, hJ.2, hS1⟩ hl
theorem p_callVNv_s (C : CX own cc nL ret x) (hM : Cv x.1 y (wU y cc' nL' ret') rm' (.ref b :: As) Wc Wc') (hd : decode cc pc = .ok (.invokevirtual index, 3)) (hp : pc + 3 = pc') (hl0 : (own, index, y) ∈ nestMs) (hv : Cond.instanceMethod y ∈ wG ∧ Cond.selects y.cls y y ∈ wG ∧ Cond.initialized y.cls ∈ wG ∧ Cond.code y cc' nL' ret' ∈ wG) (hdsc : y.cls ≠ "java/lang/invoke/MethodHandle" ∧ y.cls ≠ "java/lang/invoke/VarHandle" ∧ (parseMethodDescriptor y.desc).map (fun d => d.parameters.length) = some As.length) (hR : rm'.cells = 0 ∧ rm'.slots = 0 ∧ rm'.frames + 1 ≤ R.frames ∧ 8 + (nL' + 11) + rm'.locals ≤ R.locals) {ci N : Nat} {T : u_T} {fs : List Value} (q0 : Nat) (hrc : Wc[q0]? = some (b, .inr (ci, fs))) (hvc : vwCl[ci]? = some (y.cls, T, N)) (hF : Wc'.map Prod.fst = Wc.map Prod.fst) (hst : st = As.reverse ++ .ref b :: st') (hcat : (st'.map fun v => v.category).sum ≤ 8) (hcs : cl + 0 ≤ R.cells ∧ sl + 0 ≤ R.slots)
    (k : PT R nL x pc' lv st' Wc' cl sl Q) : PT R nL x pc lv st Wc cl sl Q :=
  p_callVNv C hM hd hp hl0 hv hdsc hR q0 hrc hvc (List.range Wc.length) (range_map_id Wc) (va_nd_of _ List.nodup_range) hF hst hcat hcs (wput_id hF) k
theorem p_callSi (C : CX own cc nL ret x) (hM : Ci x.1 y (wU y cc' nL' ret') rm' As Wc Wc' r) (hd : decode cc pc = .ok (.invokestatic index, 3)) (hp : pc + 3 = pc') (hl0 : Cond.methodLink own index y ∈ wG) (hv : Cond.static y ∈ wG ∧ Cond.initialized y.cls ∈ wG ∧ Cond.code y cc' nL' ret' ∈ wG) (hdsc : y.cls ≠ "java/lang/invoke/MethodHandle" ∧ y.cls ≠ "java/lang/invoke/VarHandle" ∧ (parseMethodDescriptor y.desc).map (fun d => d.parameters.length) = some As.length) (hR : rm'.cells = 0 ∧ rm'.slots = 0 ∧ rm'.frames + 1 ≤ R.frames ∧ 8 + (nL' + 11) + rm'.locals ≤ R.locals) (isC : List Nat) (hC : isC.map (fun i => Wd[i]?) = Wc.map some) (hnd : va_nd isC = true) (hF : Wc'.map Prod.fst = Wc.map Prod.fst) (hst : st = As.reverse ++ st') (hcat : (st'.map fun v => v.category).sum ≤ 8) (hcs : cl + 0 ≤ R.cells ∧ sl + 0 ≤ R.slots) (hW : wput Wd isC Wc' = Wd')
    (k : PT R nL x pc' lv (.int r :: st') Wd' cl sl Q) : PT R nL x pc lv st Wd cl sl Q := by
  obtain ⟨⟨l, D, k0⟩, p, e, s, m, args, below, meth, c, A⟩ := x
  obtain ⟨hx, hb, hml, hown, hts, hr, hlk, hK, hA, hN, hS0⟩ := C
  subst hp
  subst hst
  subst hW
  intro H locs ls hH hl
  obtain ⟨hP, hD, hS⟩ := hH
  have hPc : va_P D vwCl Wc H := hC_P hC hP
  have hDc : va_D (fun _ => True) Wc := (hD.sub isC hnd hC).weaken (fun _ _ _ _ => trivial)
  have hFc : ∀ q, va_A Wc H.size q → A q := va_free (wc := Wc) hD hS hA isC hC
  refine va_calli (va_runS (As := As) (rest := st') ⟨hx, hb, hml, hown, hts⟩ (hM H.size) ⟨callB_of As.length hts (wU_good hv.2.2) rfl hR.1 hR.2.1 (hts _ hv.2.1) (hts _ hl0) hdsc hR.2.2, hts _ hv.1⟩ ⟨PreC.blind _ _ _ _, fun U hU hW => ⟨rfl, by rw [hU], by rw [hU]; exact hPc, va_K.moved hW.alike hK, hDc, NW.warm hW hN, by rw [hU]; exact ((hS0.kept hS.2.1).narrow hFc).moved hW.alike⟩⟩ rfl rfl hl.1 rfl (lv_room hcat) hd hcs) hS (fun q _ h => hFc q h) hFc (fun r1 u t H1 locs1 ht hvm hw hB hz1 hk1 hS1 => ?_)
  have hB : va_P D vwCl Wc' t.heap := hB
  rw [ht] at hB
  have hJ := call_ok hP hD hC hF hB hk1
  subst hw
  exact k H1 locs1 ls ⟨hJ.1, hJ.2, hS1⟩ hl
theorem p_callSi_s (C : CX own cc nL ret x) (hM : Ci x.1 y (wU y cc' nL' ret') rm' As Wc Wc' r) (hd : decode cc pc = .ok (.invokestatic index, 3)) (hp : pc + 3 = pc') (hl0 : Cond.methodLink own index y ∈ wG) (hv : Cond.static y ∈ wG ∧ Cond.initialized y.cls ∈ wG ∧ Cond.code y cc' nL' ret' ∈ wG) (hdsc : y.cls ≠ "java/lang/invoke/MethodHandle" ∧ y.cls ≠ "java/lang/invoke/VarHandle" ∧ (parseMethodDescriptor y.desc).map (fun d => d.parameters.length) = some As.length) (hR : rm'.cells = 0 ∧ rm'.slots = 0 ∧ rm'.frames + 1 ≤ R.frames ∧ 8 + (nL' + 11) + rm'.locals ≤ R.locals) (hF : Wc'.map Prod.fst = Wc.map Prod.fst) (hst : st = As.reverse ++ st') (hcat : (st'.map fun v => v.category).sum ≤ 8) (hcs : cl + 0 ≤ R.cells ∧ sl + 0 ≤ R.slots)
    (k : PT R nL x pc' lv (.int r :: st') Wc' cl sl Q) : PT R nL x pc lv st Wc cl sl Q :=
  p_callSi C hM hd hp hl0 hv hdsc hR (List.range Wc.length) (range_map_id Wc) (va_nd_of _ List.nodup_range) hF hst hcat hcs (wput_id hF) k
theorem p_callSv (C : CX own cc nL ret x) (hM : Cv x.1 y (wU y cc' nL' ret') rm' As Wc Wc') (hd : decode cc pc = .ok (.invokestatic index, 3)) (hp : pc + 3 = pc') (hl0 : Cond.methodLink own index y ∈ wG) (hv : Cond.static y ∈ wG ∧ Cond.initialized y.cls ∈ wG ∧ Cond.code y cc' nL' ret' ∈ wG) (hdsc : y.cls ≠ "java/lang/invoke/MethodHandle" ∧ y.cls ≠ "java/lang/invoke/VarHandle" ∧ (parseMethodDescriptor y.desc).map (fun d => d.parameters.length) = some As.length) (hR : rm'.cells = 0 ∧ rm'.slots = 0 ∧ rm'.frames + 1 ≤ R.frames ∧ 8 + (nL' + 11) + rm'.locals ≤ R.locals) (isC : List Nat) (hC : isC.map (fun i => Wd[i]?) = Wc.map some) (hnd : va_nd isC = true) (hF : Wc'.map Prod.fst = Wc.map Prod.fst) (hst : st = As.reverse ++ st') (hcat : (st'.map fun v => v.category).sum ≤ 8) (hcs : cl + 0 ≤ R.cells ∧ sl + 0 ≤ R.slots) (hW : wput Wd isC Wc' = Wd')
    (k : PT R nL x pc' lv st' Wd' cl sl Q) : PT R nL x pc lv st Wd cl sl Q := by
  obtain ⟨⟨l, D, k0⟩, p, e, s, m, args, below, meth, c, A⟩ := x
  obtain ⟨hx, hb, hml, hown, hts, hr, hlk, hK, hA, hN, hS0⟩ := C
  subst hp
  subst hst
  subst hW
  intro H locs ls hH hl
  obtain ⟨hP, hD, hS⟩ := hH
  have hPc : va_P D vwCl Wc H := hC_P hC hP
  have hDc : va_D (fun _ => True) Wc := (hD.sub isC hnd hC).weaken (fun _ _ _ _ => trivial)
  have hFc : ∀ q, va_A Wc H.size q → A q := va_free (wc := Wc) hD hS hA isC hC
  refine va_callv (va_runS (As := As) (rest := st') ⟨hx, hb, hml, hown, hts⟩ (hM H.size) ⟨callB_of As.length hts (wU_good hv.2.2) rfl hR.1 hR.2.1 (hts _ hv.2.1) (hts _ hl0) hdsc hR.2.2, hts _ hv.1⟩ ⟨PreC.blind _ _ _ _, fun U hU hW => ⟨rfl, by rw [hU], by rw [hU]; exact hPc, va_K.moved hW.alike hK, hDc, NW.warm hW hN, by rw [hU]; exact ((hS0.kept hS.2.1).narrow hFc).moved hW.alike⟩⟩ rfl rfl hl.1 rfl (lv_room hcat) hd hcs) hS (fun q _ h => hFc q h) hFc (fun u t H1 locs1 ht hvm hw hB hz1 hk1 hS1 => ?_)
  have hB : va_P D vwCl Wc' t.heap := hB
  rw [ht] at hB
  have hJ := call_ok hP hD hC hF hB hk1
  skip
  exact k H1 locs1 ls ⟨hJ.1, hJ.2, hS1⟩ hl
theorem p_callSv_s (C : CX own cc nL ret x) (hM : Cv x.1 y (wU y cc' nL' ret') rm' As Wc Wc') (hd : decode cc pc = .ok (.invokestatic index, 3)) (hp : pc + 3 = pc') (hl0 : Cond.methodLink own index y ∈ wG) (hv : Cond.static y ∈ wG ∧ Cond.initialized y.cls ∈ wG ∧ Cond.code y cc' nL' ret' ∈ wG) (hdsc : y.cls ≠ "java/lang/invoke/MethodHandle" ∧ y.cls ≠ "java/lang/invoke/VarHandle" ∧ (parseMethodDescriptor y.desc).map (fun d => d.parameters.length) = some As.length) (hR : rm'.cells = 0 ∧ rm'.slots = 0 ∧ rm'.frames + 1 ≤ R.frames ∧ 8 + (nL' + 11) + rm'.locals ≤ R.locals) (hF : Wc'.map Prod.fst = Wc.map Prod.fst) (hst : st = As.reverse ++ st') (hcat : (st'.map fun v => v.category).sum ≤ 8) (hcs : cl + 0 ≤ R.cells ∧ sl + 0 ≤ R.slots)
    (k : PT R nL x pc' lv st' Wc' cl sl Q) : PT R nL x pc lv st Wc cl sl Q :=
  p_callSv C hM hd hp hl0 hv hdsc hR (List.range Wc.length) (range_map_id Wc) (va_nd_of _ List.nodup_range) hF hst hcat hcs (wput_id hF) k
theorem p_callSNi (C : CX own cc nL ret x) (hM : Ci x.1 y (wU y cc' nL' ret') rm' As Wc Wc' r) (hd : decode cc pc = .ok (.invokestatic index, 3)) (hp : pc + 3 = pc') (hl0 : (own, index, y) ∈ nestMs) (hv : Cond.static y ∈ wG ∧ Cond.initialized y.cls ∈ wG ∧ Cond.code y cc' nL' ret' ∈ wG) (hdsc : y.cls ≠ "java/lang/invoke/MethodHandle" ∧ y.cls ≠ "java/lang/invoke/VarHandle" ∧ (parseMethodDescriptor y.desc).map (fun d => d.parameters.length) = some As.length) (hR : rm'.cells = 0 ∧ rm'.slots = 0 ∧ rm'.frames + 1 ≤ R.frames ∧ 8 + (nL' + 11) + rm'.locals ≤ R.locals) (isC : List Nat) (hC : isC.map (fun i => Wd[i]?) = Wc.map some) (hnd : va_nd isC = true) (hF : Wc'.map Prod.fst = Wc.map Prod.fst) (hst : st = As.reverse ++ st') (hcat : (st'.map fun v => v.category).sum ≤ 8) (hcs : cl + 0 ≤ R.cells ∧ sl + 0 ≤ R.slots) (hW : wput Wd isC Wc' = Wd')
    (k : PT R nL x pc' lv (.int r :: st') Wd' cl sl Q) : PT R nL x pc lv st Wd cl sl Q := by
  obtain ⟨⟨l, D, k0⟩, p, e, s, m, args, below, meth, c, A⟩ := x
  obtain ⟨hx, hb, hml, hown, hts, hr, hlk, hK, hA, hN, hS0⟩ := C
  subst hp
  subst hst
  subst hW
  intro H locs ls hH hl
  obtain ⟨hP, hD, hS⟩ := hH
  have hPc : va_P D vwCl Wc H := hC_P hC hP
  have hDc : va_D (fun _ => True) Wc := (hD.sub isC hnd hC).weaken (fun _ _ _ _ => trivial)
  have hFc : ∀ q, va_A Wc H.size q → A q := va_free (wc := Wc) hD hS hA isC hC
  refine va_calli (va_runSN (As := As) (rest := st') ⟨hx, hb, hml, hown, hts⟩ (hM H.size) ⟨va_cnB As.length hts (wU_good hv.2.2) rfl hR.1 hR.2.1 (hN.2.1 _ hl0) (hts _ hv.2.1) hdsc hR.2.2, hts _ hv.1, trivial⟩ ⟨PreC.blind _ _ _ _, fun U hU hW => ⟨rfl, by rw [hU], by rw [hU]; exact hPc, va_K.moved hW.alike hK, hDc, NW.warm hW hN, by rw [hU]; exact ((hS0.kept hS.2.1).narrow hFc).moved hW.alike⟩⟩ rfl rfl hl.1 rfl (lv_room hcat) hd hcs) hS (fun q _ h => hFc q h) hFc (fun r1 u t H1 locs1 ht hvm hw hB hz1 hk1 hS1 => ?_)
  have hB : va_P D vwCl Wc' t.heap := hB
  rw [ht] at hB
  have hJ := call_ok hP hD hC hF hB hk1
  subst hw
  exact k H1 locs1 ls ⟨hJ.1, hJ.2, hS1⟩ hl
theorem p_callSNi_s (C : CX own cc nL ret x) (hM : Ci x.1 y (wU y cc' nL' ret') rm' As Wc Wc' r) (hd : decode cc pc = .ok (.invokestatic index, 3)) (hp : pc + 3 = pc') (hl0 : (own, index, y) ∈ nestMs) (hv : Cond.static y ∈ wG ∧ Cond.initialized y.cls ∈ wG ∧ Cond.code y cc' nL' ret' ∈ wG) (hdsc : y.cls ≠ "java/lang/invoke/MethodHandle" ∧ y.cls ≠ "java/lang/invoke/VarHandle" ∧ (parseMethodDescriptor y.desc).map (fun d => d.parameters.length) = some As.length) (hR : rm'.cells = 0 ∧ rm'.slots = 0 ∧ rm'.frames + 1 ≤ R.frames ∧ 8 + (nL' + 11) + rm'.locals ≤ R.locals) (hF : Wc'.map Prod.fst = Wc.map Prod.fst) (hst : st = As.reverse ++ st') (hcat : (st'.map fun v => v.category).sum ≤ 8) (hcs : cl + 0 ≤ R.cells ∧ sl + 0 ≤ R.slots)
    (k : PT R nL x pc' lv (.int r :: st') Wc' cl sl Q) : PT R nL x pc lv st Wc cl sl Q :=
  p_callSNi C hM hd hp hl0 hv hdsc hR (List.range Wc.length) (range_map_id Wc) (va_nd_of _ List.nodup_range) hF hst hcat hcs (wput_id hF) k
theorem p_callSNv (C : CX own cc nL ret x) (hM : Cv x.1 y (wU y cc' nL' ret') rm' As Wc Wc') (hd : decode cc pc = .ok (.invokestatic index, 3)) (hp : pc + 3 = pc') (hl0 : (own, index, y) ∈ nestMs) (hv : Cond.static y ∈ wG ∧ Cond.initialized y.cls ∈ wG ∧ Cond.code y cc' nL' ret' ∈ wG) (hdsc : y.cls ≠ "java/lang/invoke/MethodHandle" ∧ y.cls ≠ "java/lang/invoke/VarHandle" ∧ (parseMethodDescriptor y.desc).map (fun d => d.parameters.length) = some As.length) (hR : rm'.cells = 0 ∧ rm'.slots = 0 ∧ rm'.frames + 1 ≤ R.frames ∧ 8 + (nL' + 11) + rm'.locals ≤ R.locals) (isC : List Nat) (hC : isC.map (fun i => Wd[i]?) = Wc.map some) (hnd : va_nd isC = true) (hF : Wc'.map Prod.fst = Wc.map Prod.fst) (hst : st = As.reverse ++ st') (hcat : (st'.map fun v => v.category).sum ≤ 8) (hcs : cl + 0 ≤ R.cells ∧ sl + 0 ≤ R.slots) (hW : wput Wd isC Wc' = Wd')
    (k : PT R nL x pc' lv st' Wd' cl sl Q) : PT R nL x pc lv st Wd cl sl Q := by
  obtain ⟨⟨l, D, k0⟩, p, e, s, m, args, below, meth, c, A⟩ := x
  obtain ⟨hx, hb, hml, hown, hts, hr, hlk, hK, hA, hN, hS0⟩ := C
  subst hp
  subst hst
  subst hW
  intro H locs ls hH hl
  obtain ⟨hP, hD, hS⟩ := hH
  have hPc : va_P D vwCl Wc H := hC_P hC hP
  have hDc : va_D (fun _ => True) Wc := (hD.sub isC hnd hC).weaken (fun _ _ _ _ => trivial)
  have hFc : ∀ q, va_A Wc H.size q → A q := va_free (wc := Wc) hD hS hA isC hC
  refine va_callv (va_runSN (As := As) (rest := st') ⟨hx, hb, hml, hown, hts⟩ (hM H.size) ⟨va_cnB As.length hts (wU_good hv.2.2) rfl hR.1 hR.2.1 (hN.2.1 _ hl0) (hts _ hv.2.1) hdsc hR.2.2, hts _ hv.1, trivial⟩ ⟨PreC.blind _ _ _ _, fun U hU hW => ⟨rfl, by rw [hU], by rw [hU]; exact hPc, va_K.moved hW.alike hK, hDc, NW.warm hW hN, by rw [hU]; exact ((hS0.kept hS.2.1).narrow hFc).moved hW.alike⟩⟩ rfl rfl hl.1 rfl (lv_room hcat) hd hcs) hS (fun q _ h => hFc q h) hFc (fun u t H1 locs1 ht hvm hw hB hz1 hk1 hS1 => ?_)
  have hB : va_P D vwCl Wc' t.heap := hB
  rw [ht] at hB
  have hJ := call_ok hP hD hC hF hB hk1
  skip
  exact k H1 locs1 ls ⟨hJ.1, hJ.2, hS1⟩ hl
theorem p_callSNv_s (C : CX own cc nL ret x) (hM : Cv x.1 y (wU y cc' nL' ret') rm' As Wc Wc') (hd : decode cc pc = .ok (.invokestatic index, 3)) (hp : pc + 3 = pc') (hl0 : (own, index, y) ∈ nestMs) (hv : Cond.static y ∈ wG ∧ Cond.initialized y.cls ∈ wG ∧ Cond.code y cc' nL' ret' ∈ wG) (hdsc : y.cls ≠ "java/lang/invoke/MethodHandle" ∧ y.cls ≠ "java/lang/invoke/VarHandle" ∧ (parseMethodDescriptor y.desc).map (fun d => d.parameters.length) = some As.length) (hR : rm'.cells = 0 ∧ rm'.slots = 0 ∧ rm'.frames + 1 ≤ R.frames ∧ 8 + (nL' + 11) + rm'.locals ≤ R.locals) (hF : Wc'.map Prod.fst = Wc.map Prod.fst) (hst : st = As.reverse ++ st') (hcat : (st'.map fun v => v.category).sum ≤ 8) (hcs : cl + 0 ≤ R.cells ∧ sl + 0 ≤ R.slots)
    (k : PT R nL x pc' lv st' Wc' cl sl Q) : PT R nL x pc lv st Wc cl sl Q :=
  p_callSNv C hM hd hp hl0 hv hdsc hR (List.range Wc.length) (range_map_id Wc) (va_nd_of _ List.nodup_range) hF hst hcat hcs (wput_id hF) k
theorem p_tabIn (C : CX own cc nL ret x) {dflt lo hi off : Int} {offs : Array Int} {len : Nat} {v w : Int32} (hd : decode cc pc = .ok (.tableswitch dflt lo hi offs, len)) (hv : v = w) (h1 : ¬ w.toInt < lo) (h2 : ¬ hi < w.toInt) (ho : offs[(w.toInt - lo).toNat]? = some off) (ht : (pc : Int) + off = (pc' : Int)) (k : PT R nL x pc' lv st Wd cl sl Q) : PT R nL x pc lv (.int v :: st) Wd cl sl Q := by
  obtain ⟨⟨l, D, k0⟩, p, e, s, m, args, below, meth, c, A⟩ := x
  obtain ⟨hx, hb, hml, hown, hts, hr, hlk, hK, hA, hN, hS0⟩ := C
  subst hv
  intro H locs ls hH hl
  exact lv_tableIn hx hb hd h1 h2 ho ht (k H locs ls hH hl)
theorem tab_out {v : Int32} {n : Nat} (hn : n < 2 ^ 31) (h : ∀ k, k < n → ¬ v = nI k) : v.toInt < 0 ∨ (n : Int) - 1 < v.toInt := by
  rcases Int.lt_or_le v.toInt 0 with h0 | h0
  · exact Or.inl h0
  · rcases Int.lt_or_le ((n : Int) - 1) v.toInt with h1 | h1
    · exact Or.inr h1
    · exfalso
      obtain ⟨j, hj, he⟩ := vp_in_of (n := n) (vp_in_iff.mpr ⟨h0, by omega⟩) hn
      exact h j hj he
theorem p_tabOut (C : CX own cc nL ret x) {dflt hi : Int} {offs : Array Int} {len n : Nat} {v : Int32} (hd : decode cc pc = .ok (.tableswitch dflt 0 hi offs, len)) (hn : n < 2 ^ 31) (hhi : hi = (n : Int) - 1) (h : ∀ k, k < n → ¬ v = nI k) (ht : (pc : Int) + dflt = (pc' : Int)) (k : PT R nL x pc' lv st Wd cl sl Q) : PT R nL x pc lv (.int v :: st) Wd cl sl Q := by
  obtain ⟨⟨l, D, k0⟩, p, e, s, m, args, below, meth, c, A⟩ := x
  obtain ⟨hx, hb, hml, hown, hts, hr, hlk, hK, hA, hN, hS0⟩ := C
  subst hhi
  intro H locs ls hH hl
  exact lv_tableOut hx hb hd (tab_out hn h) ht (k H locs ls hH hl)
end CL
