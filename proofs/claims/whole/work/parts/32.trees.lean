/-! ===== the reference's next pair, and its join ===== -/
def okN (n : Nat) (nets : Ar) (m : Nat) (g : Ar) (j : Nat) : Bool := okC n nets g j && decide (nets (j / 8) = nI m)
theorem canJoin6 {st nets xs ys : Ar} {n : Nat} {near : Int32} (hR : Rb st n nets xs ys near) (g : Ar) (m : Int32) {a b : Nat} (ha : a < 8) (hb : b < 8) : m_X6_canJoin st g (nI a) (nI b) m = some (bi (decide (nets a = m ∧ nets b = m ∧ ¬ g a = g b))) := by
  obtain ⟨h0, hn, hp, hr⟩ := hR
  unfold m_X6_canJoin
  simp (disch := omega) only [i1, addN, gN, grd_tt, cN]
  rw [(hp a ha).1, (hp b hb).1]
  by_cases h1 : nets a = m
  · by_cases h2 : nets b = m
    · by_cases h3 : g a = g b
      · simp [h1, h2, h3, bi, nI]
      · simp [h1, h2, h3, bi, nI]
    · simp [h1, h2, bi]
  · simp [h1, bi]
theorem np_inner {st nets xs ys : Ar} {n : Nat} {near : Int32} (hR : Rb st n nets xs ys near) (g : Ar) (m : Nat) (k5 : Int32 → Int32 → Option Int32) {a : Nat} (ha : a < n) :
    ∀ k b, b + k = n → a < b → ∀ f, k < f → L_X6_nextPair_20 st g k5 (nI m) (nI a) f (pvf (PK (okN n nets m g) (frF xs ys) (8 * a + b))) (nI b) = k5 (pvf (PK (okN n nets m g) (frF xs ys) (8 * a + n))) (nI a + 1) := by
  have hn : n ≤ 8 := hR.2.1
  have h0 : st 0 = nI n := hR.1
  intro k
  induction k with
  | zero =>
    intro b hb hab f hf
    obtain ⟨f, rfl⟩ : ∃ f', f = f' + 1 := ⟨f - 1, by omega⟩
    have : b = n := by omega
    subst this
    show B_X6_nextPair_20 _ _ _ _ _ (L_X6_nextPair_20 st g k5 (nI m) (nI a) f) _ _ = _
    unfold B_X6_nextPair_20
    rw [h0, if_pos (by rw [leN (by omega) (by omega)]; omega)]
  | succ k ih =>
    intro b hb hab f hf
    obtain ⟨f, rfl⟩ : ∃ f', f = f' + 1 := ⟨f - 1, by omega⟩
    have hd : (8 * a + b) / 8 = a := by omega
    have hm : (8 * a + b) % 8 = b := by omega
    have ih' := ih (b + 1) (by omega) (by omega) f (by omega)
    rw [show 8 * a + (b + 1) = 8 * a + b + 1 by omega] at ih'
    show B_X6_nextPair_20 _ _ _ _ _ (L_X6_nextPair_20 st g k5 (nI m) (nI a) f) _ _ = _
    unfold B_X6_nextPair_20
    rw [h0, if_neg (by rw [leN (by omega) (by omega)]; omega), canJoin6 hR g (nI m) (by omega) (by omega), bd1_s]
    by_cases hc : nets a = nI m ∧ nets b = nI m ∧ ¬ g a = g b
    · have ho : okN n nets m g (8 * a + b) = true := by
        simp only [okN, okC, hd, hm, Bool.and_eq_true, decide_eq_true_eq]
        exact ⟨⟨hab, by omega, by rw [hc.1, hc.2.1], hc.2.2⟩, hc.1⟩
      have hfr : frF xs ys (8 * a + b) = frd xs ys a b := by simp only [frF, hd, hm]
      have e : PK (okN n nets m g) (frF xs ys) (8 * a + b + 1) = (match PK (okN n nets m g) (frF xs ys) (8 * a + b) with | none => some (8 * a + b) | some j => if frF xs ys (8 * a + b) < frF xs ys j then some (8 * a + b) else some j) := by
        rw [PK, if_pos ho]
        rfl
      have e2 : pvf (some (8 * a + b)) = (8 : Int32) * nI a + nI b := by
        show nI (8 * a + b) = _
        rw [i8, mulN, addN]
      rw [if_neg (by rw [decide_eq_true hc]; decide)]
      cases hp : PK (okN n nets m g) (frF xs ys) (8 * a + b) with
      | none =>
        rw [hp] at e
        simp only at e
        rw [e, e2] at ih'
        rw [if_pos (show pvf none < 0 by decide)]
        unfold J_X6_nextPair_68 J_X6_nextPair_76
        rw [i1, addN]
        exact ih'
      | some j =>
        have hj := PK_lt hp
        rw [hp] at e
        simp only at e
        rw [if_neg (show ¬ pvf (some j) < 0 from nneg (by omega)), farOf6 hR (by omega) (by omega), bd1_s]
        show bd1 (m_X6_farOf st (nI j / 8) (nI j - nI j / 8 * 8)) _ = _
        rw [div8 j (by omega), show nI j - nI (j / 8) * 8 = nI (j % 8) by rw [← div8 j (by omega)]; exact mod8 j (by omega), farOf6 hR (by omega) (by omega), bd1_s]
        by_cases hlt : frF xs ys (8 * a + b) < frF xs ys j
        · rw [if_pos hlt] at e
          rw [e, e2] at ih'
          rw [if_neg (by rw [leI]; rw [ltI, hfr] at hlt; show ¬ (frF xs ys j).toInt ≤ _; omega)]
          unfold J_X6_nextPair_68 J_X6_nextPair_76
          rw [i1, addN]
          exact ih'
        · rw [if_neg hlt] at e
          rw [e] at ih'
          rw [if_pos (by rw [leI]; rw [ltI, hfr] at hlt; show (frF xs ys j).toInt ≤ _; omega)]
          unfold J_X6_nextPair_76
          rw [i1, addN]
          exact ih'
    · rw [if_pos (by rw [decide_eq_false hc]; rfl)]
      have e : PK (okN n nets m g) (frF xs ys) (8 * a + b + 1) = PK (okN n nets m g) (frF xs ys) (8 * a + b) := by
        rw [PK, if_neg]
        simp only [okN, okC, hd, hm, Bool.and_eq_true, decide_eq_true_eq]
        intro h
        exact hc ⟨h.2, by rw [← h.1.2.2.1]; exact h.2, h.1.2.2.2⟩
      rw [e] at ih'
      unfold J_X6_nextPair_76
      rw [i1, addN]
      exact ih'
theorem np_outer {st nets xs ys : Ar} {n : Nat} {near : Int32} (hR : Rb st n nets xs ys near) (g : Ar) (m : Nat) :
    ∀ k a, a + k = n → ∀ f, k < f → L_X6_nextPair_5 st g (nI m) f (pvf (PK (okN n nets m g) (frF xs ys) (8 * a))) (nI a) = some (pvf (PK (okN n nets m g) (frF xs ys) (8 * n))) := by
  have hn : n ≤ 8 := hR.2.1
  have h0 : st 0 = nI n := hR.1
  intro k
  induction k with
  | zero =>
    intro a ha f hf
    obtain ⟨f, rfl⟩ : ∃ f', f = f' + 1 := ⟨f - 1, by omega⟩
    have : a = n := by omega
    subst this
    show B_X6_nextPair_5 _ _ _ (L_X6_nextPair_5 st g (nI m) f) _ _ = _
    unfold B_X6_nextPair_5
    rw [h0, if_pos (by rw [leN (by omega) (by omega)]; omega)]
  | succ k ih =>
    intro a ha f hf
    obtain ⟨f, rfl⟩ : ∃ f', f = f' + 1 := ⟨f - 1, by omega⟩
    show B_X6_nextPair_5 _ _ _ (L_X6_nextPair_5 st g (nI m) f) _ _ = _
    unfold B_X6_nextPair_5
    rw [h0, if_neg (by rw [leN (by omega) (by omega)]; omega)]
    have e1 : PK (okN n nets m g) (frF xs ys) (8 * a) = PK (okN n nets m g) (frF xs ys) (8 * a + (a + 1)) := by
      refine (PK_to (by omega) fun q h1 h2 => ?_).symm
      have : ¬ q / 8 < q % 8 := by omega
      simp [okN, okC, this]
    have e2 : PK (okN n nets m g) (frF xs ys) (8 * (a + 1)) = PK (okN n nets m g) (frF xs ys) (8 * a + n) := by
      refine PK_to (by omega) fun q h1 h2 => ?_
      have : ¬ q % 8 < n := by omega
      simp [okN, okC, this]
    rw [e1, i1, addN, np_inner hR g m _ (by omega : a < n) (n - (a + 1)) (a + 1) (by omega) (by omega) FU (by show _ < 4096; omega), ← e2, i1, addN, ih (a + 1) (by omega) f (by omega)]
theorem nextPair6 {st nets xs ys : Ar} {n : Nat} {near : Int32} (hR : Rb st n nets xs ys near) (g : Ar) (m : Nat) : m_X6_nextPair st g (nI m) = some (pvf (PK (okN n nets m g) (frF xs ys) 64)) := by
  have hn : n ≤ 8 := hR.2.1
  have h := np_outer hR g m n 0 (by omega) FU (by show _ < 4096; omega)
  have e : PK (okN n nets m g) (frF xs ys) 64 = PK (okN n nets m g) (frF xs ys) (8 * n) := by
    refine PK_to (by omega) fun q h1 h2 => ?_
    have : ¬ (q / 8 < q % 8 ∧ q % 8 < n) := by omega
    simp only [okN, okC, Bool.and_eq_false_iff, decide_eq_false_iff_not]
    exact Or.inl fun h => this ⟨h.1, h.2.1⟩
  unfold m_X6_nextPair
  rw [e]
  exact h
def mrgn (n : Nat) (g : Ar) (a b : Int32) : Ar := fun p => if p < n ∧ g p = b then a else g p
theorem join6 {st nets xs ys : Ar} {n : Nat} {near : Int32} (hR : Rb st n nets xs ys near) (g : Ar) {a b : Nat} (ha : a < 8) (hb : b < 8) (hne : ¬ g a = g b) : m_X6_join st g (nI a) (nI b) = some (mrgn n g (g a) (g b)) := by
  have hn : n ≤ 8 := hR.2.1
  have h0 : st 0 = nI n := hR.1
  have key : ∀ k i, i + k = n → ∀ f, k < f → L_X6_join_10 st (nI a) (g b) f (nI i) (mrgn i g (g a) (g b)) = some (mrgn n g (g a) (g b)) := by
    intro k
    induction k with
    | zero =>
      intro i hi f hf
      obtain ⟨f, rfl⟩ : ∃ f', f = f' + 1 := ⟨f - 1, by omega⟩
      show B_X6_join_10 _ _ _ (L_X6_join_10 st (nI a) (g b) f) _ _ = _
      unfold B_X6_join_10
      rw [h0, if_pos (by rw [leN (by omega) (by omega)]; omega), show i = n by omega]
    | succ k ih =>
      intro i hi f hf
      obtain ⟨f, rfl⟩ : ∃ f', f = f' + 1 := ⟨f - 1, by omega⟩
      show B_X6_join_10 _ _ _ (L_X6_join_10 st (nI a) (g b) f) _ _ = _
      unfold B_X6_join_10 J_X6_join_54
      rw [h0, if_neg (by rw [leN (by omega) (by omega)]; omega)]
      simp (disch := omega) only [gN, grd_tt, cN, i1, addN]
      have e1 : mrgn i g (g a) (g b) i = g i := by simp [mrgn]
      have e2 : mrgn i g (g a) (g b) a = g a := by simp [mrgn, hne]
      rw [e1, e2]
      by_cases h : g i = g b
      · rw [if_pos h]
        have e3 : upd (mrgn i g (g a) (g b)) i (g a) = mrgn (i + 1) g (g a) (g b) := by
          funext p
          by_cases hp : p = i
          · subst hp; rw [upd_s]; simp [mrgn, h]
          · rw [upd_n _ _ hp]
            simp only [mrgn]
            by_cases h3 : p < i ∧ g p = g b
            · rw [if_pos h3, if_pos ⟨by omega, h3.2⟩]
            · rw [if_neg h3, if_neg (fun h4 => h3 ⟨by omega, h4.2⟩)]
        rw [e3]
        exact ih (i + 1) (by omega) f (by omega)
      · rw [if_neg h]
        have e3 : upd (mrgn i g (g a) (g b)) i (g i) = mrgn (i + 1) g (g a) (g b) := by
          funext p
          by_cases hp : p = i
          · subst hp; rw [upd_s]; simp [mrgn, h]
          · rw [upd_n _ _ hp]
            simp only [mrgn]
            by_cases h3 : p < i ∧ g p = g b
            · rw [if_pos h3, if_pos ⟨by omega, h3.2⟩]
            · rw [if_neg h3, if_neg (fun h4 => h3 ⟨by omega, h4.2⟩)]
        rw [e3]
        exact ih (i + 1) (by omega) f (by omega)
  unfold m_X6_join
  rw [gN hb (by omega), grd_tt, cN (by omega)]
  have h := key n 0 (by omega) FU (by show _ < 4096; omega)
  have e : mrgn 0 g (g a) (g b) = g := by funext p; simp [mrgn]
  rw [e] at h
  exact h
/-! ===== growing trees, abstractly: g groups, P pairs ===== -/
abbrev GP : Type := Ar × (Nat → Bool)
def jn (n : Nat) (s : GP) (j : Nat) : GP := (mrgn n s.1 (s.1 (j / 8)) (s.1 (j % 8)), fun i => decide (i = j) || s.2 i)
def stp (ok : Ar → Nat → Bool) (fr : Nat → Int32) (n : Nat) (s : GP) : GP := match PK (ok s.1) fr 64 with
  | none => s
  | some j => jn n s j
def itr (ok : Ar → Nat → Bool) (fr : Nat → Int32) (n : Nat) (s : GP) : Nat → GP
  | 0 => s
  | k + 1 => stp ok fr n (itr ok fr n s k)
def Ig (n : Nat) (nets g : Ar) : Prop := ∀ p, p < 8 → ∃ q, q < 8 ∧ g p = nI q ∧ g q = nI q ∧ nets q = nets p ∧ (p < n → q < n) ∧ (n ≤ p → q = p)
def E1 (nets : Ar) (m : Nat) (s t : GP) : Prop := (∀ p, p < 8 → nets p = nI m → s.1 p = t.1 p) ∧ (∀ j, j < 64 → nets (j / 8) = nI m → s.2 j = t.2 j)
theorem E1.symm {nets : Ar} {m : Nat} {s t : GP} (h : E1 nets m s t) : E1 nets m t s := ⟨fun p a b => (h.1 p a b).symm, fun j a b => (h.2 j a b).symm⟩
theorem E1.trans {nets : Ar} {m : Nat} {s t u : GP} (h : E1 nets m s t) (h2 : E1 nets m t u) : E1 nets m s u := ⟨fun p a b => (h.1 p a b).trans (h2.1 p a b), fun j a b => (h.2 j a b).trans (h2.2 j a b)⟩
theorem E1.rf {nets : Ar} {m : Nat} {s : GP} : E1 nets m s s := ⟨fun _ _ _ => rfl, fun _ _ _ => rfl⟩
theorem okC_of {n : Nat} {nets g : Ar} {j : Nat} (h : okC n nets g j = true) : j / 8 < j % 8 ∧ j % 8 < n ∧ nets (j / 8) = nets (j % 8) ∧ ¬ g (j / 8) = g (j % 8) := by simpa [okC] using h
theorem okN_E1 {n : Nat} {nets : Ar} {m : Nat} {s t : GP} (h : E1 nets m s t) (hn : n ≤ 8) {j : Nat} (hj : j < 64) : okN n nets m s.1 j = okN n nets m t.1 j := by
  unfold okN okC
  by_cases h1 : nets (j / 8) = nI m
  · by_cases h2 : nets (j / 8) = nets (j % 8)
    · rw [h.1 (j / 8) (by omega) h1, h.1 (j % 8) (by omega) (by rw [← h2]; exact h1)]
    · simp [h2]
  · simp [h1]
theorem PK_ext {ok ok' : Nat → Bool} {fr : Nat → Int32} : ∀ n, (∀ j, j < n → ok j = ok' j) → PK ok fr n = PK ok' fr n := by
  intro n
  induction n with
  | zero => intro _; rfl
  | succ n ih => intro h; rw [PK, PK, h n (by omega), ih (fun j hj => h j (by omega))]
theorem Ig_jn {n : Nat} (hn : n ≤ 8) {nets : Ar} {s : GP} (hI : Ig n nets s.1) {j : Nat} (ho : okC n nets s.1 j = true) : Ig n nets (jn n s j).1 := by
  obtain ⟨h1, h2, h3, h4⟩ := okC_of ho
  obtain ⟨qa, ha1, ha2, ha3, ha4, ha5, -⟩ := hI (j / 8) (by omega)
  obtain ⟨qb, hb1, hb2, hb3, hb4, hb5, -⟩ := hI (j % 8) (by omega)
  have hab : ¬ qa = qb := fun e => h4 (by rw [ha2, hb2, e])
  have hqb := hb5 h2
  have hqa := ha5 (by omega)
  intro p hp
  obtain ⟨q, c1, c2, c3, c4, c5, c6⟩ := hI p hp
  by_cases hc : p < n ∧ s.1 p = s.1 (j % 8)
  · refine ⟨qa, ha1, ?_, ?_, ?_, fun _ => hqa, fun h => by omega⟩
    · show (if p < n ∧ s.1 p = s.1 (j % 8) then s.1 (j / 8) else s.1 p) = _
      rw [if_pos hc, ha2]
    · show (if qa < n ∧ s.1 qa = s.1 (j % 8) then s.1 (j / 8) else s.1 qa) = _
      rw [if_neg (by rw [ha3, hb2, eqN (by omega) (by omega)]; omega), ha3]
    · have : nI q = nI qb := by rw [← c2, hc.2, hb2]
      rw [eqN (by omega) (by omega)] at this
      rw [ha4, h3, ← hb4, ← this, c4]
  · refine ⟨q, c1, ?_, ?_, c4, c5, c6⟩
    · show (if p < n ∧ s.1 p = s.1 (j % 8) then s.1 (j / 8) else s.1 p) = _
      rw [if_neg hc, c2]
    · show (if q < n ∧ s.1 q = s.1 (j % 8) then s.1 (j / 8) else s.1 q) = _
      rw [if_neg, c3]
      intro h
      apply hc
      rw [c3] at h
      refine ⟨?_, by rw [c2]; exact h.2⟩
      rcases Nat.lt_or_ge p n with h9 | h9
      · exact h9
      · have := c6 h9; omega
theorem E1_jn {n : Nat} {nets : Ar} {m : Nat} {s t : GP} (h : E1 nets m s t) (hn : n ≤ 8) {j : Nat} (hj : j < 64) (ho : okN n nets m s.1 j = true) : E1 nets m (jn n s j) (jn n t j) := by
  have ho2 : okC n nets s.1 j = true ∧ nets (j / 8) = nI m := by simpa [okN] using ho
  obtain ⟨h1, h2, h3, h4⟩ := okC_of ho2.1
  refine ⟨fun p hp hm => ?_, fun i hi hm => ?_⟩
  · show (if p < n ∧ s.1 p = s.1 (j % 8) then s.1 (j / 8) else s.1 p) = (if p < n ∧ t.1 p = t.1 (j % 8) then t.1 (j / 8) else t.1 p)
    rw [h.1 p hp hm, h.1 (j / 8) (by omega) ho2.2, h.1 (j % 8) (by omega) (by rw [← h3]; exact ho2.2)]
  · show (decide (i = j) || s.2 i) = (decide (i = j) || t.2 i)
    rw [h.2 i hi hm]
theorem E1_other {n : Nat} (hn : n ≤ 8) {nets : Ar} {m : Nat} {s : GP} (hI : Ig n nets s.1) {j : Nat} (hj : j < 64) (ho : okC n nets s.1 j = true) (hne : ¬ nets (j / 8) = nI m) : E1 nets m (jn n s j) s := by
  obtain ⟨h1, h2, h3, h4⟩ := okC_of ho
  refine ⟨fun p hp hm => ?_, fun i hi hm => ?_⟩
  · show (if p < n ∧ s.1 p = s.1 (j % 8) then s.1 (j / 8) else s.1 p) = s.1 p
    rw [if_neg]
    intro hc
    obtain ⟨q, c1, c2, c3, c4, -⟩ := hI p hp
    obtain ⟨qb, hb1, hb2, hb3, hb4, -⟩ := hI (j % 8) (by omega)
    have : nI q = nI qb := by rw [← c2, hc.2, hb2]
    rw [eqN (by omega) (by omega)] at this
    exact hne (by rw [h3, ← hb4, ← this, c4, hm])
  · show (decide (i = j) || s.2 i) = s.2 i
    rw [decide_eq_false]
    · rfl
    · intro e; subst e; exact hne hm
