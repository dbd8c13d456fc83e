/-! ===== the class: all trees side by side ===== -/
def EA (s : GP) (g : Ar) : Prop := ∀ p, p < 8 → g p = s.1 p
def RP (pd : Ar) (P : Nat → Bool) : Prop := ∀ a b, a < 8 → b < 8 → bt (pd a) b = P (8 * a + b)
theorem okC_EA {n : Nat} {nets : Ar} {s : GP} {g : Ar} (h : EA s g) {j : Nat} (hj : j < 64) : okC n nets g j = okC n nets s.1 j := by
  unfold okC
  rw [h (j / 8) (by omega), h (j % 8) (by omega)]
theorem mrg_EA {n : Nat} (hn : n ≤ 8) {nets : Ar} {s : GP} {g : Ar} (h : EA s g) (hI : Ig n nets s.1) {j : Nat} (ho : okC n nets s.1 j = true) : EA (jn n s j) (mrg g (g (j / 8)) (g (j % 8))) := by
  obtain ⟨h1, h2, h3, h4⟩ := okC_of ho
  intro p hp
  show (if p < 8 ∧ g p = g (j % 8) then g (j / 8) else g p) = (if p < n ∧ s.1 p = s.1 (j % 8) then s.1 (j / 8) else s.1 p)
  rw [h p hp, h (j / 8) (by omega), h (j % 8) (by omega)]
  by_cases hc : s.1 p = s.1 (j % 8)
  · have hpn : p < n := by
      obtain ⟨q, c1, c2, c3, c4, c5, c6⟩ := hI p hp
      obtain ⟨qb, hb1, hb2, hb3, hb4, hb5, -⟩ := hI (j % 8) (by omega)
      rcases Nat.lt_or_ge p n with h9 | h9
      · exact h9
      · have e := c6 h9
        have e2 : nI q = nI qb := by rw [← c2, hc, hb2]
        rw [eqN (by omega) (by omega)] at e2
        have := hb5 h2
        omega
    rw [if_pos ⟨hp, hc⟩, if_pos ⟨hpn, hc⟩]
  · rw [if_neg (fun h => hc h.2), if_neg (fun h => hc h.2)]
theorem RP_set {pd : Ar} {P : Nat → Bool} (h : RP pd P) {j : Nat} (hj : j < 64) : RP (upd pd (j / 8) (pd (j / 8) ||| (1 : Int32) <<< (nI (j % 8) &&& 31))) (fun i => decide (i = j) || P i) := by
  intro a b ha hb
  by_cases hA : a = j / 8
  · subst hA
    rw [upd_s, b_set _ (by omega) (by omega), h _ _ ha hb]
    congr 1
    exact decide_eq_decide.mpr (by omega)
  · rw [upd_n _ _ hA, h a b ha hb]
    have : decide (8 * a + b = j) = false := decide_eq_false (by omega)
    simp only [this, Bool.false_or]
theorem grow_init {n : Nat} (nets xs ys : Ar) : ∀ k i, i + k = 8 → ∀ f, k < f → ∀ g pd, L_X4_growTrees_2 (nI n) nets xs ys f (nI i) g pd = L_X4_growTrees_32 (nI n) nets xs ys FU 1 1 (fun p => if i ≤ p ∧ p < 8 then nI p else g p) (fun p => if i ≤ p ∧ p < 8 then 0 else pd p) := by
  intro k
  induction k with
  | zero =>
    intro i hi f hf g pd
    obtain ⟨f, rfl⟩ : ∃ f', f = f' + 1 := ⟨f - 1, by omega⟩
    show B_X4_growTrees_2 _ _ _ _ (L_X4_growTrees_2 (nI n) nets xs ys f) _ _ _ = _
    unfold B_X4_growTrees_2
    rw [if_pos (by rw [i8, leN (by omega) (by omega)]; omega)]
    congr 1
    · funext p; rw [if_neg (by omega)]
    · funext p; rw [if_neg (by omega)]
  | succ k ih =>
    intro i hi f hf g pd
    obtain ⟨f, rfl⟩ : ∃ f', f = f' + 1 := ⟨f - 1, by omega⟩
    show B_X4_growTrees_2 _ _ _ _ (L_X4_growTrees_2 (nI n) nets xs ys f) _ _ _ = _
    unfold B_X4_growTrees_2
    rw [if_neg (by rw [i8, leN (by omega) (by omega)]; omega)]
    simp (disch := omega) only [gN, grd_tt, cN, i1, addN]
    rw [ih (i + 1) (by omega) f (by omega)]
    congr 1
    · funext p
      by_cases hp : p = i
      · subst hp; rw [if_neg (by omega), upd_s, if_pos (by omega)]
      · rw [upd_n _ _ hp]
        by_cases h3 : i + 1 ≤ p ∧ p < 8
        · rw [if_pos h3, if_pos (by omega)]
        · rw [if_neg h3, if_neg (by omega)]
    · funext p
      by_cases hp : p = i
      · subst hp; rw [if_neg (by omega), upd_s, if_pos (by omega)]
      · rw [upd_n _ _ hp]
        by_cases h3 : i + 1 ≤ p ∧ p < 8
        · rw [if_pos h3, if_pos (by omega)]
        · rw [if_neg h3, if_neg (by omega)]
theorem grow_stop {n : Nat} (hn : n ≤ 8) (nets xs ys g pd : Ar) {i : Nat} (hi : i ≤ 9) {f : Nat} : L_X4_growTrees_32 (nI n) nets xs ys (f + 1) 0 (nI i) g pd = some (g, pd) := by
  show B_X4_growTrees_32 _ _ _ _ (L_X4_growTrees_32 (nI n) nets xs ys f) _ _ _ _ = _
  unfold B_X4_growTrees_32
  by_cases h : nI n ≤ nI i
  · rw [if_pos h]
  · rw [if_neg h, if_pos rfl]
theorem grow_done {n i f : Nat} (nets xs ys g pd : Ar) (v : Int32) (h : n ≤ i) (hi : i < 100) : L_X4_growTrees_32 (nI n) nets xs ys (f + 1) v (nI i) g pd = some (g, pd) := by
  show B_X4_growTrees_32 _ _ _ _ (L_X4_growTrees_32 (nI n) nets xs ys f) _ _ _ _ = _
  unfold B_X4_growTrees_32
  rw [if_pos (by rw [leN (by omega) (by omega)]; omega)]
theorem grow_loop {n : Nat} (hn : n ≤ 8) (nets xs ys : Ar) : ∀ k t, t + 1 + k = n → ∀ f, k + 1 < f → ∀ g pd, EA (itr (okC n nets) (frF xs ys) n s0P t) g → RP pd (itr (okC n nets) (frF xs ys) n s0P t).2 → Ik n nets (itr (okC n nets) (frF xs ys) n s0P t) → cnt (itr (okC n nets) (frF xs ys) n s0P t).2 64 = t →
    ∃ g' pd' t', L_X4_growTrees_32 (nI n) nets xs ys f 1 (nI (t + 1)) g pd = some (g', pd') ∧ EA (itr (okC n nets) (frF xs ys) n s0P t') g' ∧ RP pd' (itr (okC n nets) (frF xs ys) n s0P t').2 ∧ Ik n nets (itr (okC n nets) (frF xs ys) n s0P t') ∧ PK (okC n nets (itr (okC n nets) (frF xs ys) n s0P t').1) (frF xs ys) 64 = none := by
  intro k
  induction k with
  | zero =>
    intro t ht f hf g pd hE hR hK hc
    obtain ⟨f, rfl⟩ : ∃ f', f = f' + 1 := ⟨f - 1, by omega⟩
    refine ⟨g, pd, t, ?_, hE, hR, hK, PK_none fun j hj => ld_one hn hK.1 ?_ hj⟩
    · show B_X4_growTrees_32 _ _ _ _ (L_X4_growTrees_32 (nI n) nets xs ys f) _ _ _ _ = _
      unfold B_X4_growTrees_32
      rw [if_pos (by rw [leN (by omega) (by omega)]; omega)]
    · have := hK.2.2.2
      omega
  | succ k ih =>
    intro t ht f hf g pd hE hR hK hc
    obtain ⟨f, rfl⟩ : ∃ f', f = f' + 1 := ⟨f - 1, by omega⟩
    have hpk : PK (okC n nets g) (frF xs ys) 64 = PK (okC n nets (itr (okC n nets) (frF xs ys) n s0P t).1) (frF xs ys) 64 := PK_ext 64 (fun j hj => okC_EA hE hj)
    have e0 : L_X4_growTrees_32 (nI n) nets xs ys (f + 1) 1 (nI (t + 1)) g pd = bd3 (m_X4_joinNextPair g pd (nI n) nets xs ys) (fun r z1 z2 => L_X4_growTrees_32 (nI n) nets xs ys f r (nI (t + 1) + 1) z1 z2) := by
      show B_X4_growTrees_32 _ _ _ _ (L_X4_growTrees_32 (nI n) nets xs ys f) _ _ _ _ = _
      unfold B_X4_growTrees_32
      rw [if_neg (by rw [leN (by omega) (by omega)]; omega), if_neg (by decide)]
    rw [e0, jnp5 hn nets xs ys g pd, hpk]
    cases hp : PK (okC n nets (itr (okC n nets) (frF xs ys) n s0P t).1) (frF xs ys) 64 with
    | none =>
      refine ⟨g, pd, t, ?_, hE, hR, hK, hp⟩
      simp only [bd3_s]
      obtain ⟨f, rfl⟩ : ∃ f', f = f' + 1 := ⟨f - 1, by omega⟩
      rw [i1, addN]
      exact grow_stop hn nets xs ys g pd (by omega)
    | some j =>
      have hs := (PK_spec 64).2 j hp
      simp only [bd3_s]
      have e1 : itr (okC n nets) (frF xs ys) n s0P (t + 1) = jn n (itr (okC n nets) (frF xs ys) n s0P t) j := stp_some hp
      have hE2 := mrg_EA hn hE hK.1 hs.2.1
      have hR2 := RP_set hR hs.1
      have hK2 := Ik_jn hn hK hs.1 hs.2.1
      have hld := ld_jn hn hK.1 hs.2.1
      have hc2 : cnt (jn n (itr (okC n nets) (frF xs ys) n s0P t) j).2 64 = t + 1 := by
        have := hK2.2.2.2
        have := hK.2.2.2
        omega
      rw [← e1] at hE2 hK2 hc2
      have hR3 : RP (upd pd (j / 8) (pd (j / 8) ||| (1 : Int32) <<< (nI (j % 8) &&& 31))) (itr (okC n nets) (frF xs ys) n s0P (t + 1)).2 := by rw [e1]; exact hR2
      have h9 := ih (t + 1) (by omega) f (by omega) _ _ hE2 hR3 hK2 hc2
      have e3 : nI (t + 1) + 1 = nI (t + 1 + 1) := by rw [i1, addN]
      rw [e3]
      exact h9
/-- the class's trees -/
theorem grow5 {n : Nat} (hn : n ≤ 8) (nets xs ys g pd : Ar) : ∃ g' pd' t, m_X4_growTrees g pd (nI n) nets xs ys = some (g', pd') ∧ EA (itr (okC n nets) (frF xs ys) n s0P t) g' ∧ RP pd' (itr (okC n nets) (frF xs ys) n s0P t).2 ∧ Ik n nets (itr (okC n nets) (frF xs ys) n s0P t) ∧ PK (okC n nets (itr (okC n nets) (frF xs ys) n s0P t).1) (frF xs ys) 64 = none := by
  unfold m_X4_growTrees
  rw [i0, grow_init nets xs ys 8 0 (by omega) FU (by show _ < 4096; omega)]
  have hE : EA s0P (fun p => if 0 ≤ p ∧ p < 8 then nI p else g p) := fun p hp => by
    show (if 0 ≤ p ∧ p < 8 then nI p else g p) = _
    rw [if_pos (by omega)]
    rfl
  have hR : RP (fun p => if 0 ≤ p ∧ p < 8 then 0 else pd p) s0P.2 := fun a b ha hb => by
    show bt (if 0 ≤ a ∧ a < 8 then 0 else pd a) b = _
    rw [if_pos (by omega), b_0]
    rfl
  have hK : Ik n nets s0P := Ik_0 (fun _ _ => rfl) (fun _ _ => rfl) hn
  rcases Nat.eq_zero_or_pos n with h0 | h0
  · subst h0
    refine ⟨_, _, 0, ?_, hE, hR, hK, PK_none fun j hj => by simp [okC]⟩
    exact grow_done (n := 0) (i := 1) (f := 4095) nets xs ys _ _ 1 (by omega) (by omega)
  · exact grow_loop hn nets xs ys (n - 1) 0 (by omega) FU (by show _ < 4096; omega) _ _ hE hR hK (cnt_zero 64 (fun _ _ => rfl))
/-! ===== tries as a list ===== -/
def lfB (xs : Ar) (a b : Nat) : Bool := decide (xs a < xs b ∨ (xs a = xs b ∧ a < b))
def ordP (xs : Ar) (a b : Nat) : Nat × Nat := if lfB xs a b then (a, b) else (b, a)
def Lr (l : List (Nat × Nat)) (left right : Ar) : Prop := ∀ (i : Nat) (q : Nat × Nat), l[i]? = some q → left i = nI q.1 ∧ right i = nI q.2
theorem Lr_push {l : List (Nat × Nat)} {left right : Ar} (h : Lr l left right) (q : Nat × Nat) : Lr (l ++ [q]) (upd left l.length (nI q.1)) (upd right l.length (nI q.2)) := by
  intro i r hr
  by_cases hi : i = l.length
  · subst hi
    rw [List.getElem?_append_right (Nat.le_refl _)] at hr
    simp at hr
    subst hr
    exact ⟨upd_s _ _ _, upd_s _ _ _⟩
  · rw [upd_n _ _ hi, upd_n _ _ hi]
    have hlt : i < (l ++ [q]).length := by
      rcases Nat.lt_or_ge i (l ++ [q]).length with h9 | h9
      · exact h9
      · rw [List.getElem?_eq_none h9] at hr; cases hr
    simp at hlt
    rw [List.getElem?_append_left (by omega)] at hr
    exact h i r hr
theorem isLeftOf5 (xs : Ar) {a b : Nat} (ha : a < 8) (hb : b < 8) : m_X0_isLeftOf xs (nI a) (nI b) = some (bi (lfB xs a b)) := by
  unfold m_X0_isLeftOf J_X0_isLeftOf_35
  simp (disch := omega) only [gN, grd_tt, cN, leN]
  unfold lfB
  by_cases h1 : xs a < xs b
  · simp [h1, bi]
  · by_cases h2 : xs a = xs b
    · by_cases h3 : b ≤ a
      · have : ¬ a < b := by omega
        simp [h1, h2, h3, this, bi]
      · have : a < b := by omega
        simp [h1, h2, h3, this, bi]
    · simp [h1, h2, bi]
theorem addTry5 (xs : Ar) {t a b : Nat} (ht : t < 10) (ha : a < 8) (hb : b < 8) (left right : Ar) : m_X4_addTry (nI t) left right xs (nI a) (nI b) = some (nI (t + 1), upd left t (nI (ordP xs a b).1), upd right t (nI (ordP xs a b).2)) := by
  unfold m_X4_addTry
  rw [if_pos (by rw [i10, ltN (by omega) (by omega)]; omega), isLeftOf5 xs ha hb, bd1_s]
  unfold J_X4_addTry_36 J_X4_addTry_55 ordP
  simp (disch := omega) only [gN, grd_tt, cN, i1, addN]
  cases lfB xs a b
  · rw [if_pos (by decide), if_pos (by decide)]; rfl
  · rw [if_neg (by decide), if_neg (by decide)]; rfl
theorem addTry6 {st nets xs ys : Ar} {n : Nat} {near : Int32} (hR : Rb st n nets xs ys near) {t a b : Nat} (ht : t < 16) (ha : a < 8) (hb : b < 8) (c : Bool) (left right ap : Ar) : m_X6_addTry (nI t) st left right ap (nI a) (nI b) (bi c) = some (nI (t + 1), upd left t (nI (ordP xs a b).1), upd right t (nI (ordP xs a b).2), upd ap t (bi c)) := by
  obtain ⟨h0, hn, hp, hr⟩ := hR
  unfold m_X6_addTry J_X6_addTry_47 J_X6_addTry_51 J_X6_addTry_52 J_X6_addTry_72 J_X6_addTry_91
  simp (disch := omega) only [i9, addN, gN, grd_tt, cN, leN, (hp a ha).2.1, (hp b hb).2.1, nar_bi]
  have e10 : ¬ (1 : Int32) = 0 := by decide
  have e00 : (0 : Int32) = 0 := rfl
  have e1 : nI t + 1 = nI (t + 1) := by rw [i1, addN]
  simp only [e10, e00, if_false, if_true, e1]
  unfold ordP lfB
  by_cases h1 : xs a < xs b
  · simp [h1]
  · by_cases h2 : xs a = xs b
    · by_cases h3 : b ≤ a
      · have : ¬ a < b := by omega
        simp [h1, h2, h3, this]
      · have : a < b := by omega
        simp [h1, h2, h3, this]
    · simp [h1, h2]
