/-! ===== the first of the least, by scanning ===== -/
theorem grd_tt {α : Type} (k : Option α) : grd true k = k := rfl
def PK (ok : Nat → Bool) (fr : Nat → Int32) : Nat → Option Nat
  | 0 => none
  | i + 1 => if ok i = true then (match PK ok fr i with | none => some i | some j => if fr i < fr j then some i else some j) else PK ok fr i
theorem PK_skip {ok : Nat → Bool} {fr : Nat → Int32} (i : Nat) : ∀ k, (∀ j, i ≤ j → j < i + k → ok j = false) → PK ok fr (i + k) = PK ok fr i := by
  intro k
  induction k with
  | zero => intro _; rfl
  | succ k ih =>
    intro h
    rw [← Nat.add_assoc, PK, if_neg (by rw [h (i + k) (by omega) (by omega)]; decide)]
    exact ih (fun j h1 h2 => h j h1 (by omega))
theorem PK_to {ok : Nat → Bool} {fr : Nat → Int32} {i j : Nat} (hij : i ≤ j) (h : ∀ q, i ≤ q → q < j → ok q = false) : PK ok fr j = PK ok fr i := by
  obtain ⟨k, rfl⟩ := Nat.exists_eq_add_of_le hij
  exact PK_skip i k h
def PKp (ok : Nat → Bool) (fr : Nat → Int32) (n j : Nat) : Prop := j < n ∧ ok j = true ∧ ∀ i, i < n → ok i = true → (fr j).toInt ≤ (fr i).toInt ∧ (i < j → (fr j).toInt < (fr i).toInt)
theorem PK_spec {ok : Nat → Bool} {fr : Nat → Int32} : ∀ n, (PK ok fr n = none → ∀ i, i < n → ok i = false) ∧ (∀ j, PK ok fr n = some j → PKp ok fr n j) := by
  intro n
  induction n with
  | zero => exact ⟨fun _ i h => by omega, fun j h => by cases h⟩
  | succ n ih =>
    obtain ⟨ih1, ih2⟩ := ih
    by_cases ho : ok n = true
    · have e : PK ok fr (n + 1) = (match PK ok fr n with | none => some n | some j => if fr n < fr j then some n else some j) := by rw [PK, if_pos ho]
      rw [e]
      cases hp : PK ok fr n with
      | none =>
        have hn := ih1 hp
        refine ⟨fun h => by simp at h, fun j h => ?_⟩
        simp at h
        subst h
        refine ⟨by omega, ho, fun i hi hoi => ?_⟩
        rcases Nat.lt_or_ge i n with h | h
        · rw [hn i h] at hoi; cases hoi
        · have : i = n := by omega
          subst this
          exact ⟨Int.le_refl _, fun h => by omega⟩
      | some q =>
        obtain ⟨h1, h2, h3⟩ := ih2 q hp
        refine ⟨fun h => (by simp only at h; split at h <;> cases h), fun j h => ?_⟩
        simp only at h
        by_cases hlt : fr n < fr q
        · rw [if_pos hlt] at h
          rw [ltI] at hlt
          cases h
          refine ⟨by omega, ho, fun i hi hoi => ?_⟩
          rcases Nat.lt_or_ge i n with hi2 | hi2
          · have := h3 i hi2 hoi
            exact ⟨by omega, fun _ => by omega⟩
          · have : i = n := by omega
            subst this
            exact ⟨Int.le_refl _, fun h => by omega⟩
        · rw [if_neg hlt] at h
          rw [ltI] at hlt
          cases h
          refine ⟨by omega, h2, fun i hi hoi => ?_⟩
          rcases Nat.lt_or_ge i n with hi2 | hi2
          · exact h3 i hi2 hoi
          · have : i = n := by omega
            subst this
            exact ⟨by omega, fun h => by omega⟩
    · have ho' : ok n = false := by simpa using ho
      rw [PK, if_neg ho]
      refine ⟨fun h i hi => ?_, fun j h => ?_⟩
      · rcases Nat.lt_or_ge i n with hi2 | hi2
        · exact ih1 h i hi2
        · have : i = n := by omega
          subst this
          exact ho'
      · obtain ⟨h1, h2, h3⟩ := ih2 j h
        refine ⟨by omega, h2, fun i hi hoi => ?_⟩
        rcases Nat.lt_or_ge i n with hi2 | hi2
        · exact h3 i hi2 hoi
        · have : i = n := by omega
          subst this
          rw [ho'] at hoi
          cases hoi
theorem PKp_uniq {ok : Nat → Bool} {fr : Nat → Int32} {n j j' : Nat} (h : PKp ok fr n j) (h' : PKp ok fr n j') : j = j' := by
  obtain ⟨a1, a2, a3⟩ := h
  obtain ⟨b1, b2, b3⟩ := h'
  have c1 := a3 j' b1 b2
  have c2 := b3 j a1 a2
  rcases Nat.lt_trichotomy j j' with h | h | h
  · have := c2.2 h; omega
  · exact h
  · have := c1.2 h; omega
theorem PK_of {ok : Nat → Bool} {fr : Nat → Int32} {n j : Nat} (h : PKp ok fr n j) : PK ok fr n = some j := by
  cases hp : PK ok fr n with
  | none =>
    have := (PK_spec n).1 hp j h.1
    rw [h.2.1] at this
    cases this
  | some q => rw [PKp_uniq ((PK_spec n).2 q hp) h]
theorem PK_none {ok : Nat → Bool} {fr : Nat → Int32} {n : Nat} (h : ∀ i, i < n → ok i = false) : PK ok fr n = none := by
  cases hp : PK ok fr n with
  | none => rfl
  | some q =>
    have h2 := (PK_spec n).2 q hp
    have h3 := h2.2.1
    rw [h q h2.1] at h3
    cases h3
/-! ===== the board that both hold ===== -/
def frd (xs ys : Ar) (a b : Nat) : Int32 := (xs a - xs b) * (xs a - xs b) + (ys a - ys b) * (ys a - ys b)
/-- the reference's row holds the board -/
def Rb (st : Ar) (n : Nat) (nets xs ys : Ar) (near : Int32) : Prop := st 0 = nI n ∧ n ≤ 8 ∧ (∀ p, p < 8 → st (1 + p) = nets p ∧ st (9 + p) = xs p ∧ st (17 + p) = ys p) ∧ st 33 = near
theorem dist5 (xs ys : Ar) {a b : Nat} (ha : a < 8) (hb : b < 8) : m_X0_distance xs ys (nI a) (nI b) = some (frd xs ys a b) := by
  unfold m_X0_distance
  simp (disch := omega) only [gN, grd_tt, cN]
  rfl
theorem farOf6 {st nets xs ys : Ar} {n : Nat} {near : Int32} (hR : Rb st n nets xs ys near) {a b : Nat} (ha : a < 8) (hb : b < 8) : m_X6_farOf st (nI a) (nI b) = some (frd xs ys a b) := by
  obtain ⟨h0, hn, hp, hr⟩ := hR
  unfold m_X6_farOf
  simp (disch := omega) only [i9, i17, addN, gN, grd_tt, cN, bd1_s]
  rw [(hp a ha).2.1, (hp b hb).2.1, (hp a ha).2.2, (hp b hb).2.2]
  rfl
theorem div8 : ∀ j, j < 64 → nI j / 8 = nI (j / 8) := by decide +kernel
theorem mod8 : ∀ j, j < 64 → nI j - nI j / 8 * 8 = nI (j % 8) := by decide +kernel
def pv2 (a : Option Nat) : Int32 := match a with | none => -1 | some j => nI (j / 8)
def pv3 (a : Option Nat) : Int32 := match a with | none => -1 | some j => nI (j % 8)
def pv4 (fr : Nat → Int32) (a : Option Nat) : Int32 := match a with | none => 0 | some j => fr j
def pvf (a : Option Nat) : Int32 := match a with | none => -6 | some j => nI j
def frF (xs ys : Ar) (j : Nat) : Int32 := frd xs ys (j / 8) (j % 8)
theorem nneg {j : Nat} (h : j < 100000) : ¬ nI j < 0 := by
  rw [ltI, tN h]
  simp
/-- places that may be joined -/
def okC (n : Nat) (nets g : Ar) (j : Nat) : Bool := decide (j / 8 < j % 8 ∧ j % 8 < n ∧ nets (j / 8) = nets (j % 8) ∧ ¬ g (j / 8) = g (j % 8))
theorem PK_lt {ok : Nat → Bool} {fr : Nat → Int32} {n j : Nat} (h : PK ok fr n = some j) : j < n := ((PK_spec n).2 j h).1
theorem jnp_inner {n : Nat} (hn : n ≤ 8) (nets xs ys g pd : Ar) (k10 : Int32 → Int32 → Int32 → Int32 → Option (Int32 × Ar × Ar)) {a : Nat} (ha : a < n) :
    ∀ k b, b + k = n → a < b → ∀ f, k < f → L_X4_joinNextPair_25 g pd (nI n) nets xs ys k10 (nI a) f (pv2 (PK (okC n nets g) (frF xs ys) (8 * a + b))) (pv3 (PK (okC n nets g) (frF xs ys) (8 * a + b))) (pv4 (frF xs ys) (PK (okC n nets g) (frF xs ys) (8 * a + b))) (nI b)
      = k10 (pv2 (PK (okC n nets g) (frF xs ys) (8 * a + n))) (pv3 (PK (okC n nets g) (frF xs ys) (8 * a + n))) (pv4 (frF xs ys) (PK (okC n nets g) (frF xs ys) (8 * a + n))) (nI a + 1) := by
  intro k
  induction k with
  | zero =>
    intro b hb hab f hf
    obtain ⟨f, rfl⟩ : ∃ f', f = f' + 1 := ⟨f - 1, by omega⟩
    have : b = n := by omega
    subst this
    show B_X4_joinNextPair_25 _ _ _ _ _ _ _ _ _ _ _ _ _ = _
    unfold B_X4_joinNextPair_25
    rw [if_pos (by rw [leN (by omega) (by omega)]; omega)]
  | succ k ih =>
    intro b hb hab f hf
    obtain ⟨f, rfl⟩ : ∃ f', f = f' + 1 := ⟨f - 1, by omega⟩
    have hd : (8 * a + b) / 8 = a := by omega
    have hm : (8 * a + b) % 8 = b := by omega
    have ih' := ih (b + 1) (by omega) (by omega) f (by omega)
    rw [show 8 * a + (b + 1) = 8 * a + b + 1 by omega] at ih'
    show B_X4_joinNextPair_25 _ _ _ _ _ _ _ _ (L_X4_joinNextPair_25 g pd (nI n) nets xs ys k10 (nI a) f) _ _ _ _ = _
    unfold B_X4_joinNextPair_25
    rw [if_neg (by rw [leN (by omega) (by omega)]; omega)]
    simp (disch := omega) only [gN, grd_tt, cN]
    by_cases h1 : nets a = nets b
    · rw [if_pos h1]
      by_cases h2 : g a = g b
      · rw [if_pos h2]
        unfold J_X4_joinNextPair_99
        have e : PK (okC n nets g) (frF xs ys) (8 * a + b + 1) = PK (okC n nets g) (frF xs ys) (8 * a + b) := by
          rw [PK, if_neg (by simp [okC, hd, hm, h2])]
        rw [e] at ih'
        rw [i1, addN]
        exact ih'
      · rw [if_neg h2, dist5 xs ys (by omega) (by omega), bd1_s]
        have ho : okC n nets g (8 * a + b) = true := by simp [okC, hd, hm, h1, h2]; omega
        have hfr : frF xs ys (8 * a + b) = frd xs ys a b := by simp only [frF, hd, hm]
        have e : PK (okC n nets g) (frF xs ys) (8 * a + b + 1) = (match PK (okC n nets g) (frF xs ys) (8 * a + b) with | none => some (8 * a + b) | some j => if frF xs ys (8 * a + b) < frF xs ys j then some (8 * a + b) else some j) := by rw [PK, if_pos ho]
        have e2 : pv2 (some (8 * a + b)) = nI a := by simp only [pv2, hd]
        have e3 : pv3 (some (8 * a + b)) = nI b := by simp only [pv3, hm]
        have e4 : pv4 (frF xs ys) (some (8 * a + b)) = frd xs ys a b := by simp only [pv4, hfr]
        cases hp : PK (okC n nets g) (frF xs ys) (8 * a + b) with
        | none =>
          rw [hp] at e
          simp only at e
          rw [e, e2, e3, e4] at ih'
          rw [if_pos (show pv2 none < 0 by decide)]
          unfold J_X4_joinNextPair_89 J_X4_joinNextPair_99
          rw [i1, addN]
          exact ih'
        | some j =>
          have hj := PK_lt hp
          rw [hp] at e
          simp only at e
          rw [if_neg (show ¬ pv2 (some j) < 0 from nneg (by omega))]
          by_cases hlt : frF xs ys (8 * a + b) < frF xs ys j
          · rw [if_pos hlt] at e
            rw [e, e2, e3, e4] at ih'
            rw [if_neg (show ¬ pv4 (frF xs ys) (some j) ≤ frd xs ys a b by show ¬ frF xs ys j ≤ _; rw [leI]; rw [ltI, hfr] at hlt; omega)]
            unfold J_X4_joinNextPair_89 J_X4_joinNextPair_99
            rw [i1, addN]
            exact ih'
          · rw [if_neg hlt] at e
            rw [e] at ih'
            rw [if_pos (show pv4 (frF xs ys) (some j) ≤ frd xs ys a b by show frF xs ys j ≤ _; rw [leI]; rw [ltI, hfr] at hlt; omega)]
            unfold J_X4_joinNextPair_99
            rw [i1, addN]
            exact ih'
    · rw [if_neg h1]
      unfold J_X4_joinNextPair_99
      have e : PK (okC n nets g) (frF xs ys) (8 * a + b + 1) = PK (okC n nets g) (frF xs ys) (8 * a + b) := by
        rw [PK, if_neg (by simp [okC, hd, hm, h1])]
      rw [e] at ih'
      rw [i1, addN]
      exact ih'
theorem jnp_outer {n : Nat} (hn : n ≤ 8) (nets xs ys g pd : Ar) :
    ∀ k a, a + k = n → ∀ f, k < f → L_X4_joinNextPair_10 g pd (nI n) nets xs ys f (pv2 (PK (okC n nets g) (frF xs ys) (8 * a))) (pv3 (PK (okC n nets g) (frF xs ys) (8 * a))) (pv4 (frF xs ys) (PK (okC n nets g) (frF xs ys) (8 * a))) (nI a)
      = L_X4_joinNextPair_10 g pd (nI n) nets xs ys (f - k) (pv2 (PK (okC n nets g) (frF xs ys) (8 * n))) (pv3 (PK (okC n nets g) (frF xs ys) (8 * n))) (pv4 (frF xs ys) (PK (okC n nets g) (frF xs ys) (8 * n))) (nI n) := by
  intro k
  induction k with
  | zero =>
    intro a ha f hf
    have : a = n := by omega
    subst this
    rfl
  | succ k ih =>
    intro a ha f hf
    obtain ⟨f, rfl⟩ : ∃ f', f = f' + 1 := ⟨f - 1, by omega⟩
    show B_X4_joinNextPair_10 _ _ _ _ _ _ (L_X4_joinNextPair_10 g pd (nI n) nets xs ys f) _ _ _ _ = _
    unfold B_X4_joinNextPair_10
    rw [if_neg (by rw [leN (by omega) (by omega)]; omega)]
    have e1 : PK (okC n nets g) (frF xs ys) (8 * a) = PK (okC n nets g) (frF xs ys) (8 * a + (a + 1)) := by
      refine (PK_to (by omega) fun q h1 h2 => ?_).symm
      have : ¬ q / 8 < q % 8 := by omega
      simp [okC, this]
    have e2 : PK (okC n nets g) (frF xs ys) (8 * (a + 1)) = PK (okC n nets g) (frF xs ys) (8 * a + n) := by
      refine PK_to (by omega) fun q h1 h2 => ?_
      have : ¬ q % 8 < n := by omega
      simp [okC, this]
    rw [e1, i1, addN, jnp_inner hn nets xs ys g pd _ (by omega : a < n) (n - (a + 1)) (a + 1) (by omega) (by omega) FU (by show _ < 4096; omega), ← e2, i1, addN, ih (a + 1) (by omega) f (by omega)]
    congr 1
    omega
def mrg (g : Ar) (a b : Int32) : Ar := fun p => if p < 8 ∧ g p = b then a else g p
theorem merge5_loop (a b : Int32) : ∀ k i, i + k = 8 → ∀ f, k < f → ∀ g, L_X4_mergeGroups_2 a b f (nI i) g = some (fun p => if i ≤ p ∧ p < 8 ∧ g p = b then a else g p) := by
  intro k
  induction k with
  | zero =>
    intro i hi f hf g
    obtain ⟨f, rfl⟩ : ∃ f', f = f' + 1 := ⟨f - 1, by omega⟩
    show B_X4_mergeGroups_2 _ _ (L_X4_mergeGroups_2 a b f) _ _ = _
    unfold B_X4_mergeGroups_2
    rw [if_pos (by rw [i8, leN (by omega) (by omega)]; omega)]
    congr 1
    funext p
    rw [if_neg (by omega)]
  | succ k ih =>
    intro i hi f hf g
    obtain ⟨f, rfl⟩ : ∃ f', f = f' + 1 := ⟨f - 1, by omega⟩
    show B_X4_mergeGroups_2 _ _ (L_X4_mergeGroups_2 a b f) _ _ = _
    unfold B_X4_mergeGroups_2
    rw [if_neg (by rw [i8, leN (by omega) (by omega)]; omega)]
    simp (disch := omega) only [gN, grd_tt, cN, J_X4_mergeGroups_25, i1, addN]
    by_cases h : g i = b
    · rw [if_pos h, ih (i + 1) (by omega) f (by omega)]
      congr 1
      funext p
      by_cases hp : p = i
      · subst hp
        rw [if_neg (by omega), upd_s, if_pos ⟨by omega, by omega, h⟩]
      · rw [upd_n _ _ hp]
        by_cases h3 : i + 1 ≤ p ∧ p < 8 ∧ g p = b
        · rw [if_pos h3, if_pos ⟨by omega, h3.2⟩]
        · rw [if_neg h3, if_neg (fun h4 => h3 ⟨by omega, h4.2⟩)]
    · rw [if_neg h, ih (i + 1) (by omega) f (by omega)]
      congr 1
      funext p
      by_cases hp : p = i
      · subst hp
        rw [if_neg (by omega), if_neg (fun h4 => h h4.2.2)]
      · by_cases h3 : i + 1 ≤ p ∧ p < 8 ∧ g p = b
        · rw [if_pos h3, if_pos ⟨by omega, h3.2⟩]
        · rw [if_neg h3, if_neg (fun h4 => h3 ⟨by omega, h4.2⟩)]
theorem merge5 (g : Ar) (a b : Int32) : m_X4_mergeGroups g a b = some (mrg g a b) := by
  unfold m_X4_mergeGroups
  rw [i0, merge5_loop a b 8 0 (by omega) FU (by show _ < 4096; omega)]
  congr 1
  funext p
  simp [mrg]
/-- one pair more, of all NETS -/
theorem jnp5 {n : Nat} (hn : n ≤ 8) (nets xs ys g pd : Ar) :
    m_X4_joinNextPair g pd (nI n) nets xs ys = match PK (okC n nets g) (frF xs ys) 64 with
      | none => some (0, g, pd)
      | some j => some (1, mrg g (g (j / 8)) (g (j % 8)), upd pd (j / 8) (pd (j / 8) ||| (1 : Int32) <<< (nI (j % 8) &&& 31))) := by
  have h0 := jnp_outer hn nets xs ys g pd n 0 (by omega) FU (by show _ < 4096; omega)
  have e : PK (okC n nets g) (frF xs ys) 64 = PK (okC n nets g) (frF xs ys) (8 * n) := by
    refine PK_to (by omega) fun q h1 h2 => ?_
    have : ¬ (q / 8 < q % 8 ∧ q % 8 < n) := by omega
    simp only [okC, decide_eq_false_iff_not]
    exact fun h => this ⟨h.1, h.2.1⟩
  unfold m_X4_joinNextPair
  refine Eq.trans h0 ?_
  rw [e]
  obtain ⟨f, hf⟩ : ∃ f, FU - n = f + 1 := ⟨FU - n - 1, by show 4096 - n = 4096 - n - 1 + 1; omega⟩
  rw [hf]
  show B_X4_joinNextPair_10 _ _ _ _ _ _ _ _ _ _ _ = _
  unfold B_X4_joinNextPair_10
  rw [if_pos (by rw [leN (by omega) (by omega)]; omega)]
  cases hp : PK (okC n nets g) (frF xs ys) (8 * n) with
  | none => rw [if_neg (show ¬ 0 ≤ pv2 none by decide)]
  | some j =>
    have hj := PK_lt hp
    rw [if_pos (show 0 ≤ pv2 (some j) by show 0 ≤ nI (j / 8); rw [i0, leN (by omega) (by omega)]; omega)]
    show grd (gI (nI (j / 8)) 8) (grd (gI (nI (j / 8)) 8) (grd (gI (nI (j / 8)) 8) (grd (gI (nI (j % 8)) 8) (bd1 (m_X4_mergeGroups g (g (nI (j / 8)).toNatClampNeg) (g (nI (j % 8)).toNatClampNeg)) (fun z => some (1, z, upd pd (nI (j / 8)).toNatClampNeg (pd (nI (j / 8)).toNatClampNeg ||| (1 : Int32) <<< (nI (j % 8) &&& 31)))))))) = _
    simp (disch := omega) only [gN, grd_tt, cN, merge5, bd1_s]
