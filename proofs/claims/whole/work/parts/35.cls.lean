/-! ===== the list of tries ===== -/
def qT (P : Nat → Bool) (nets : Ar) (m : Nat) (j : Nat) : Bool := P j && decide (nets (j / 8) = nI m)
def uT (P : Nat → Bool) (nets xs : Ar) (m : Nat) : Nat → List (Nat × Nat)
  | 0 => []
  | i + 1 => uT P nets xs m i ++ (if qT P nets m i = true then [ordP xs (i / 8) (i % 8)] else [])
theorem uT_to {P : Nat → Bool} {nets xs : Ar} {m i j : Nat} (hij : i ≤ j) (h : ∀ q, i ≤ q → q < j → qT P nets m q = false) : uT P nets xs m j = uT P nets xs m i := by
  obtain ⟨k, rfl⟩ := Nat.exists_eq_add_of_le hij
  clear hij
  induction k with
  | zero => rfl
  | succ k ih =>
    show uT P nets xs m (i + k) ++ (if qT P nets m (i + k) = true then [ordP xs ((i + k) / 8) ((i + k) % 8)] else []) = _
    rw [h (i + k) (by omega) (by omega), ih (fun q h1 h2 => h q h1 (by omega))]
    simp
theorem uT_le {P : Nat → Bool} {nets xs : Ar} {m i j : Nat} (hij : i ≤ j) : (uT P nets xs m i).length ≤ (uT P nets xs m j).length := by
  obtain ⟨k, rfl⟩ := Nat.exists_eq_add_of_le hij
  clear hij
  induction k with
  | zero => exact Nat.le_refl _
  | succ k ih =>
    show _ ≤ (uT P nets xs m (i + k) ++ _).length
    rw [List.length_append]
    omega
theorem uT_ext {P P' : Nat → Bool} {nets xs : Ar} {m : Nat} : ∀ i, (∀ j, j < i → nets (j / 8) = nI m → P j = P' j) → uT P nets xs m i = uT P' nets xs m i := by
  intro i
  induction i with
  | zero => intro _; rfl
  | succ i ih =>
    intro h
    show uT P nets xs m i ++ _ = uT P' nets xs m i ++ _
    rw [ih (fun j hj => h j (by omega))]
    have : qT P nets m i = qT P' nets m i := by
      unfold qT
      by_cases h1 : nets (i / 8) = nI m
      · rw [h i (by omega) h1]
      · simp [h1]
    rw [this]
def TRS (P : Nat → Bool) (nets xs : Ar) : Nat → List (Nat × Nat)
  | 0 => []
  | m + 1 => TRS P nets xs m ++ uT P nets xs m 64
theorem TRS_le {P : Nat → Bool} {nets xs : Ar} {m m' : Nat} (h : m ≤ m') : (TRS P nets xs m).length ≤ (TRS P nets xs m').length := by
  obtain ⟨k, rfl⟩ := Nat.exists_eq_add_of_le h
  clear h
  induction k with
  | zero => exact Nat.le_refl _
  | succ k ih =>
    show _ ≤ (TRS P nets xs (m + k) ++ _).length
    rw [List.length_append]
    omega
/-! ===== the class: TRIES of TREES ===== -/
theorem at_inner {n : Nat} (hn : n ≤ 8) {nets xs pd : Ar} {P : Nat → Bool} (hRP : RP pd P) {m : Nat} (hm : m < 4) {pre : List (Nat × Nat)} (hlen : (pre ++ uT P nets xs m 64).length ≤ 10) (k9 k2 : Int32 → Int32 → Ar → Ar → Option (Int32 × Ar × Ar)) {a : Nat} (ha : a < n) :
    ∀ k b, b + k = n → a < b → ∀ f, k < f → ∀ left right, Lr (pre ++ uT P nets xs m (8 * a + b)) left right → ∃ left' right', L_X4_addTrees_22 pd (nI n) nets xs k9 k2 (nI m) (nI a) f (nI b) (nI (pre ++ uT P nets xs m (8 * a + b)).length) left right = k9 (nI a + 1) (nI (pre ++ uT P nets xs m (8 * a + n)).length) left' right' ∧ Lr (pre ++ uT P nets xs m (8 * a + n)) left' right' := by
  intro k
  induction k with
  | zero =>
    intro b hb hab f hf left right hL
    obtain ⟨f, rfl⟩ : ∃ f', f = f' + 1 := ⟨f - 1, by omega⟩
    have : b = n := by omega
    subst this
    refine ⟨left, right, ?_, hL⟩
    show B_X4_addTrees_22 _ _ _ _ _ _ _ _ (L_X4_addTrees_22 pd (nI b) nets xs k9 k2 (nI m) (nI a) f) _ _ _ _ = _
    unfold B_X4_addTrees_22
    rw [if_pos (by rw [leN (by omega) (by omega)]; omega)]
  | succ k ih =>
    intro b hb hab f hf left right hL
    obtain ⟨f, rfl⟩ : ∃ f', f = f' + 1 := ⟨f - 1, by omega⟩
    have hd : (8 * a + b) / 8 = a := by omega
    have hmd : (8 * a + b) % 8 = b := by omega
    have ih' := ih (b + 1) (by omega) (by omega) f (by omega)
    rw [show 8 * a + (b + 1) = 8 * a + b + 1 by omega] at ih'
    have hu : uT P nets xs m (8 * a + b + 1) = uT P nets xs m (8 * a + b) ++ (if qT P nets m (8 * a + b) = true then [ordP xs a b] else []) := by
      show uT P nets xs m (8 * a + b) ++ _ = _
      rw [hd, hmd]
    have e0 : L_X4_addTrees_22 pd (nI n) nets xs k9 k2 (nI m) (nI a) (f + 1) (nI b) (nI (pre ++ uT P nets xs m (8 * a + b)).length) left right = B_X4_addTrees_22 pd (nI n) nets xs k9 k2 (nI m) (nI a) (L_X4_addTrees_22 pd (nI n) nets xs k9 k2 (nI m) (nI a) f) (nI b) (nI (pre ++ uT P nets xs m (8 * a + b)).length) left right := rfl
    rw [e0]
    unfold B_X4_addTrees_22
    rw [if_neg (by rw [leN (by omega) (by omega)]; omega)]
    simp (disch := omega) only [gN, grd_tt, cN]
    by_cases h1 : nets a = nI m
    · rw [if_pos h1, isIn_eq _ (by omega), bd1_s, hRP a b (by omega) (by omega)]
      cases hP : P (8 * a + b) with
      | false =>
        rw [if_pos (show bi false = 0 from rfl)]
        have hq : qT P nets m (8 * a + b) = false := by simp [qT, hP]
        rw [hq] at hu
        simp only [Bool.false_eq_true, if_false, List.append_nil] at hu
        rw [hu] at ih'
        unfold J_X4_addTrees_63
        rw [i1, addN]
        exact ih' left right hL
      | true =>
        rw [if_neg (show ¬ bi true = 0 by decide)]
        have hq : qT P nets m (8 * a + b) = true := by simp [qT, hP, hd, h1]
        rw [hq] at hu
        simp only [if_true] at hu
        have hle := uT_le (P := P) (nets := nets) (xs := xs) (m := m) (i := 8 * a + b + 1) (j := 64) (by omega)
        have hlt : (pre ++ uT P nets xs m (8 * a + b)).length < 10 := by
          rw [hu, List.length_append] at hle
          rw [List.length_append] at hlen ⊢
          simp at hle
          omega
        rw [addTry5 xs hlt (by omega) (by omega), bd3_s]
        unfold J_X4_addTrees_63
        have e2 : (pre ++ uT P nets xs m (8 * a + b)).length + 1 = (pre ++ uT P nets xs m (8 * a + b + 1)).length := by rw [hu]; simp; omega
        have hL2 := Lr_push hL (ordP xs a b)
        rw [List.append_assoc, ← hu] at hL2
        rw [e2, i1, addN]
        exact ih' _ _ hL2
    · rw [if_neg h1]
      have hq : qT P nets m (8 * a + b) = false := by simp [qT, hd, h1]
      rw [hq] at hu
      simp only [Bool.false_eq_true, if_false, List.append_nil] at hu
      rw [hu] at ih'
      unfold J_X4_addTrees_63
      rw [i1, addN]
      exact ih' left right hL
/-- where pairs lie -/
def Pn (n : Nat) (P : Nat → Bool) : Prop := ∀ j, j < 64 → P j = true → j / 8 < j % 8 ∧ j % 8 < n
theorem qT_out {n : Nat} {P : Nat → Bool} (hP : Pn n P) {nets : Ar} {m j : Nat} (hj : j < 64) (h : ¬ (j / 8 < j % 8 ∧ j % 8 < n)) : qT P nets m j = false := by
  cases hp : P j with
  | false => simp [qT, hp]
  | true => exact absurd (hP j hj hp) h
theorem at_mid {n : Nat} (hn : n ≤ 8) {nets xs pd : Ar} {P : Nat → Bool} (hRP : RP pd P) (hPn : Pn n P) {m : Nat} (hm : m < 4) {pre : List (Nat × Nat)} (hlen : (pre ++ uT P nets xs m 64).length ≤ 10) (k2 : Int32 → Int32 → Ar → Ar → Option (Int32 × Ar × Ar)) :
    ∀ k a, a + k = n → ∀ f, k < f → ∀ left right, Lr (pre ++ uT P nets xs m (8 * a)) left right → ∃ left' right', L_X4_addTrees_9 pd (nI n) nets xs k2 (nI m) f (nI a) (nI (pre ++ uT P nets xs m (8 * a)).length) left right = k2 (nI m + 1) (nI (pre ++ uT P nets xs m 64).length) left' right' ∧ Lr (pre ++ uT P nets xs m 64) left' right' := by
  intro k
  induction k with
  | zero =>
    intro a ha f hf left right hL
    obtain ⟨f, rfl⟩ : ∃ f', f = f' + 1 := ⟨f - 1, by omega⟩
    have e : uT P nets xs m 64 = uT P nets xs m (8 * a) := uT_to (by omega) (fun q h1 h2 => qT_out hPn h2 (by omega))
    rw [e]
    refine ⟨left, right, ?_, hL⟩
    show B_X4_addTrees_9 _ _ _ _ _ _ (L_X4_addTrees_9 pd (nI n) nets xs k2 (nI m) f) _ _ _ _ = _
    unfold B_X4_addTrees_9
    rw [if_pos (by rw [leN (by omega) (by omega)]; omega)]
  | succ k ih =>
    intro a ha f hf left right hL
    obtain ⟨f, rfl⟩ : ∃ f', f = f' + 1 := ⟨f - 1, by omega⟩
    have e0 : L_X4_addTrees_9 pd (nI n) nets xs k2 (nI m) (f + 1) (nI a) (nI (pre ++ uT P nets xs m (8 * a)).length) left right = L_X4_addTrees_22 pd (nI n) nets xs (L_X4_addTrees_9 pd (nI n) nets xs k2 (nI m) f) k2 (nI m) (nI a) FU (nI a + 1) (nI (pre ++ uT P nets xs m (8 * a)).length) left right := by
      show B_X4_addTrees_9 _ _ _ _ _ _ (L_X4_addTrees_9 pd (nI n) nets xs k2 (nI m) f) _ _ _ _ = _
      unfold B_X4_addTrees_9
      rw [if_neg (by rw [leN (by omega) (by omega)]; omega)]
    have e1 : uT P nets xs m (8 * a) = uT P nets xs m (8 * a + (a + 1)) := (uT_to (by omega) (fun q h1 h2 => qT_out hPn (by omega) (by omega))).symm
    have e2 : uT P nets xs m (8 * (a + 1)) = uT P nets xs m (8 * a + n) := uT_to (by omega) (fun q h1 h2 => qT_out hPn (by omega) (by omega))
    rw [e1] at hL e0
    obtain ⟨l1, r1, h1, h2⟩ := at_inner hn hRP hm hlen (L_X4_addTrees_9 pd (nI n) nets xs k2 (nI m) f) k2 (by omega : a < n) (n - (a + 1)) (a + 1) (by omega) (by omega) FU (by show _ < 4096; omega) left right hL
    have e3 : nI a + 1 = nI (a + 1) := by rw [i1, addN]
    rw [e1, e0, e3, h1, e3, ← e2]
    rw [← e2] at h2
    exact ih (a + 1) (by omega) f (by omega) l1 r1 h2
theorem at_top {n : Nat} (hn : n ≤ 8) {nets xs pd : Ar} {P : Nat → Bool} (hRP : RP pd P) (hPn : Pn n P) (hlen : (TRS P nets xs 4).length ≤ 10) :
    ∀ k m, m + k = 4 → ∀ f, k < f → ∀ left right, Lr (TRS P nets xs m) left right → ∃ left' right', L_X4_addTrees_2 pd (nI n) nets xs f (nI m) (nI (TRS P nets xs m).length) left right = some (nI (TRS P nets xs 4).length, left', right') ∧ Lr (TRS P nets xs 4) left' right' := by
  intro k
  induction k with
  | zero =>
    intro m hm f hf left right hL
    obtain ⟨f, rfl⟩ : ∃ f', f = f' + 1 := ⟨f - 1, by omega⟩
    have : m = 4 := by omega
    subst this
    refine ⟨left, right, ?_, hL⟩
    have e0 : L_X4_addTrees_2 pd (nI n) nets xs (f + 1) (nI 4) (nI (TRS P nets xs 4).length) left right = B_X4_addTrees_2 pd (nI n) nets xs (L_X4_addTrees_2 pd (nI n) nets xs f) (nI 4) (nI (TRS P nets xs 4).length) left right := rfl
    rw [e0]
    unfold B_X4_addTrees_2
    rw [if_pos (by decide)]
  | succ k ih =>
    intro m hm f hf left right hL
    obtain ⟨f, rfl⟩ : ∃ f', f = f' + 1 := ⟨f - 1, by omega⟩
    have hb : (TRS P nets xs m ++ uT P nets xs m 64).length ≤ 10 := Nat.le_trans (TRS_le (P := P) (nets := nets) (xs := xs) (show m + 1 ≤ 4 by omega)) hlen
    have hL' : Lr (TRS P nets xs m ++ uT P nets xs m (8 * 0)) left right := by
      show Lr (TRS P nets xs m ++ []) left right
      rw [List.append_nil]
      exact hL
    obtain ⟨l1, r1, h1, h2⟩ := at_mid hn hRP hPn (by omega : m < 4) hb (L_X4_addTrees_2 pd (nI n) nets xs f) n 0 (by omega) FU (by show _ < 4096; omega) left right hL'
    have e0 : L_X4_addTrees_2 pd (nI n) nets xs (f + 1) (nI m) (nI (TRS P nets xs m).length) left right = L_X4_addTrees_9 pd (nI n) nets xs (L_X4_addTrees_2 pd (nI n) nets xs f) (nI m) FU 0 (nI (TRS P nets xs m).length) left right := by
      show B_X4_addTrees_2 _ _ _ _ (L_X4_addTrees_2 pd (nI n) nets xs f) _ _ _ _ = _
      unfold B_X4_addTrees_2
      rw [if_neg (by rw [i4, leN (by omega) (by omega)]; omega)]
    have e1 : (TRS P nets xs m ++ uT P nets xs m (8 * 0)).length = (TRS P nets xs m).length := by show (TRS P nets xs m ++ []).length = _; rw [List.append_nil]
    rw [e1] at h1
    have e3 : nI m + 1 = nI (m + 1) := by rw [i1, addN]
    rw [e3] at h1
    rw [e0, i0, h1]
    exact ih (m + 1) (by omega) f (by omega) l1 r1 h2
theorem addTrees5 {n : Nat} (hn : n ≤ 8) {nets xs pd : Ar} {P : Nat → Bool} (hRP : RP pd P) (hPn : Pn n P) (hlen : (TRS P nets xs 4).length ≤ 10) (left right : Ar) : ∃ left' right', m_X4_addTrees 0 left right pd (nI n) nets xs = some (nI (TRS P nets xs 4).length, left', right') ∧ Lr (TRS P nets xs 4) left' right' := by
  unfold m_X4_addTrees
  exact at_top hn hRP hPn hlen 4 0 (by omega) FU (by show _ < 4096; omega) left right (fun i q h => by simp [TRS] at h)
/-! ===== the class: TRIES of NEIGHBOURS ===== -/
def ok5 (n : Nat) (nets : Ar) (lo hi : Int32) (near : Int32) (fr : Nat → Int32) (j : Nat) : Bool := decide ((j / 8 < n ∧ j % 8 < n) ∧ nets (j / 8) = lo ∧ nets (j % 8) = hi ∧ ¬ near < fr j)
def ok6 (n : Nat) (nets : Ar) (lo hi : Int32) (j : Nat) : Bool := decide ((j / 8 < n ∧ j % 8 < n) ∧ nets (j / 8) = lo ∧ nets (j % 8) = hi)
theorem nb_eq (n : Nat) (nets : Ar) (lo hi near : Int32) (fr : Nat → Int32) : PK (ok5 n nets lo hi near fr) fr 64 = (match PK (ok6 n nets lo hi) fr 64 with | none => none | some j => if near < fr j then none else some j) := by
  have hsub : ∀ i, ok5 n nets lo hi near fr i = true → ok6 n nets lo hi i = true ∧ ¬ near < fr i := by
    intro i h
    simp only [ok5, decide_eq_true_eq] at h
    simp only [ok6, decide_eq_true_eq]
    exact ⟨⟨h.1, h.2.1, h.2.2.1⟩, h.2.2.2⟩
  cases hp : PK (ok6 n nets lo hi) fr 64 with
  | none =>
    refine PK_none fun i hi2 => ?_
    cases ho : ok5 n nets lo hi near fr i with
    | false => rfl
    | true =>
      have := (PK_spec 64).1 hp i hi2
      rw [(hsub i ho).1] at this
      cases this
  | some j =>
    obtain ⟨h1, h2, h3⟩ := (PK_spec 64).2 j hp
    by_cases hlt : near < fr j
    · simp only [hlt, if_true]
      refine PK_none fun i hi2 => ?_
      cases ho : ok5 n nets lo hi near fr i with
      | false => rfl
      | true =>
        have a1 := hsub i ho
        have a2 := (h3 i hi2 a1.1).1
        have a3 := a1.2
        rw [ltI] at a3 hlt
        omega
    · simp only [hlt, if_false]
      refine PK_of ⟨h1, ?_, fun i hi2 ho => h3 i hi2 (hsub i ho).1⟩
      simp only [ok6, decide_eq_true_eq] at h2
      simp only [ok5, decide_eq_true_eq]
      exact ⟨h2.1, h2.2.1, h2.2.2, hlt⟩
theorem an_inner {n : Nat} (hn : n ≤ 8) (nets xs ys tl tr : Ar) (tt near lo hi : Int32) (k12 : Int32 → Int32 → Int32 → Int32 → Option (Int32 × Ar × Ar)) {a : Nat} (ha : a < n) :
    ∀ k b, b + k = n → ∀ f, k < f → L_X4_addNearestPair_24 tt tl tr (nI n) near nets xs ys k12 lo hi (nI a) f (pv2 (PK (ok5 n nets lo hi near (frF xs ys)) (frF xs ys) (8 * a + b))) (pv3 (PK (ok5 n nets lo hi near (frF xs ys)) (frF xs ys) (8 * a + b))) (pv4 (frF xs ys) (PK (ok5 n nets lo hi near (frF xs ys)) (frF xs ys) (8 * a + b))) (nI b)
      = k12 (pv2 (PK (ok5 n nets lo hi near (frF xs ys)) (frF xs ys) (8 * a + n))) (pv3 (PK (ok5 n nets lo hi near (frF xs ys)) (frF xs ys) (8 * a + n))) (pv4 (frF xs ys) (PK (ok5 n nets lo hi near (frF xs ys)) (frF xs ys) (8 * a + n))) (nI a + 1) := by
  intro k
  induction k with
  | zero =>
    intro b hb f hf
    obtain ⟨f, rfl⟩ : ∃ f', f = f' + 1 := ⟨f - 1, by omega⟩
    have : b = n := by omega
    subst this
    show B_X4_addNearestPair_24 _ _ _ _ _ _ _ _ _ _ _ _ (L_X4_addNearestPair_24 tt tl tr (nI b) near nets xs ys k12 lo hi (nI a) f) _ _ _ _ = _
    unfold B_X4_addNearestPair_24
    rw [if_pos (by rw [leN (by omega) (by omega)]; omega)]
  | succ k ih =>
    intro b hb f hf
    obtain ⟨f, rfl⟩ : ∃ f', f = f' + 1 := ⟨f - 1, by omega⟩
    have hd : (8 * a + b) / 8 = a := by omega
    have hm : (8 * a + b) % 8 = b := by omega
    have ih' := ih (b + 1) (by omega) f (by omega)
    rw [show 8 * a + (b + 1) = 8 * a + b + 1 by omega] at ih'
    have hfr : frF xs ys (8 * a + b) = frd xs ys a b := by simp only [frF, hd, hm]
    have hskip : ¬ (nets a = lo ∧ nets b = hi ∧ ¬ near < frd xs ys a b) → PK (ok5 n nets lo hi near (frF xs ys)) (frF xs ys) (8 * a + b + 1) = PK (ok5 n nets lo hi near (frF xs ys)) (frF xs ys) (8 * a + b) := by
      intro h
      rw [PK, if_neg]
      simp only [ok5, hd, hm, hfr, decide_eq_true_eq]
      exact fun h2 => h h2.2
    show B_X4_addNearestPair_24 _ _ _ _ _ _ _ _ _ _ _ _ (L_X4_addNearestPair_24 tt tl tr (nI n) near nets xs ys k12 lo hi (nI a) f) _ _ _ _ = _
    unfold B_X4_addNearestPair_24
    rw [if_neg (by rw [leN (by omega) (by omega)]; omega)]
    simp (disch := omega) only [gN, grd_tt, cN]
    by_cases h1 : nets a = lo
    · rw [if_pos h1]
      by_cases h2 : nets b = hi
      · rw [if_pos h2, dist5 xs ys (by omega) (by omega), bd1_s]
        by_cases h3 : near < frd xs ys a b
        · rw [if_pos h3]
          rw [hskip (fun h => h.2.2 h3)] at ih'
          unfold J_X4_addNearestPair_98
          rw [i1, addN]
          exact ih'
        · rw [if_neg h3]
          have ho : ok5 n nets lo hi near (frF xs ys) (8 * a + b) = true := by
            simp only [ok5, hd, hm, hfr, decide_eq_true_eq]
            exact ⟨⟨ha, by omega⟩, h1, h2, h3⟩
          have e : PK (ok5 n nets lo hi near (frF xs ys)) (frF xs ys) (8 * a + b + 1) = (match PK (ok5 n nets lo hi near (frF xs ys)) (frF xs ys) (8 * a + b) with | none => some (8 * a + b) | some j => if frF xs ys (8 * a + b) < frF xs ys j then some (8 * a + b) else some j) := by
            rw [PK, if_pos ho]
            rfl
          have e2 : pv2 (some (8 * a + b)) = nI a := by simp only [pv2, hd]
          have e3 : pv3 (some (8 * a + b)) = nI b := by simp only [pv3, hm]
          have e4 : pv4 (frF xs ys) (some (8 * a + b)) = frd xs ys a b := by simp only [pv4, hfr]
          cases hp : PK (ok5 n nets lo hi near (frF xs ys)) (frF xs ys) (8 * a + b) with
          | none =>
            rw [hp] at e
            simp only at e
            rw [e, e2, e3, e4] at ih'
            rw [if_pos (show pv2 none < 0 by decide)]
            unfold J_X4_addNearestPair_86 J_X4_addNearestPair_98
            rw [i1, addN]
            exact ih'
          | some j =>
            have hj := PK_lt hp
            rw [hp] at e
            simp only at e
            rw [if_neg (show ¬ pv2 (some j) < 0 from nneg (by omega))]
            by_cases hlt : frF xs ys (8 * a + b) < frF xs ys j
            · rw [if_pos hlt] at e
              rw [e, e2, e3, e4] at ih'
              rw [if_neg (show ¬ pv4 (frF xs ys) (some j) ≤ frd xs ys a b by show ¬ frF xs ys j ≤ _; rw [leI]; rw [ltI, hfr] at hlt; omega)]
              unfold J_X4_addNearestPair_86 J_X4_addNearestPair_98
              rw [i1, addN]
              exact ih'
            · rw [if_neg hlt] at e
              rw [e] at ih'
              rw [if_pos (show pv4 (frF xs ys) (some j) ≤ frd xs ys a b by show frF xs ys j ≤ _; rw [leI]; rw [ltI, hfr] at hlt; omega)]
              unfold J_X4_addNearestPair_98
              rw [i1, addN]
              exact ih'
      · rw [if_neg h2]
        rw [hskip (fun h => h2 h.2.1)] at ih'
        unfold J_X4_addNearestPair_98
        rw [i1, addN]
        exact ih'
    · rw [if_neg h1]
      rw [hskip (fun h => h1 h.1)] at ih'
      unfold J_X4_addNearestPair_98
      rw [i1, addN]
      exact ih'
theorem an_outer {n : Nat} (hn : n ≤ 8) (nets xs ys tl tr : Ar) (tt near lo hi : Int32) :
    ∀ k a, a + k = n → ∀ f, k < f → L_X4_addNearestPair_12 tt tl tr (nI n) near nets xs ys lo hi f (pv2 (PK (ok5 n nets lo hi near (frF xs ys)) (frF xs ys) (8 * a))) (pv3 (PK (ok5 n nets lo hi near (frF xs ys)) (frF xs ys) (8 * a))) (pv4 (frF xs ys) (PK (ok5 n nets lo hi near (frF xs ys)) (frF xs ys) (8 * a))) (nI a)
      = (match PK (ok5 n nets lo hi near (frF xs ys)) (frF xs ys) 64 with | none => some (tt, tl, tr) | some j => bd3 (m_X4_addTry tt tl tr xs (nI (j / 8)) (nI (j % 8))) (fun x y z => some (x, y, z))) := by
  intro k
  induction k with
  | zero =>
    intro a ha f hf
    obtain ⟨f, rfl⟩ : ∃ f', f = f' + 1 := ⟨f - 1, by omega⟩
    have e : PK (ok5 n nets lo hi near (frF xs ys)) (frF xs ys) 64 = PK (ok5 n nets lo hi near (frF xs ys)) (frF xs ys) (8 * a) := by
      refine PK_to (by omega) fun q h1 h2 => ?_
      have : ¬ q / 8 < n := by omega
      simp [ok5, this]
    rw [e]
    show B_X4_addNearestPair_12 _ _ _ _ _ _ _ _ _ _ (L_X4_addNearestPair_12 tt tl tr (nI n) near nets xs ys lo hi f) _ _ _ _ = _
    unfold B_X4_addNearestPair_12
    rw [if_pos (by rw [leN (by omega) (by omega)]; omega)]
    cases hp : PK (ok5 n nets lo hi near (frF xs ys)) (frF xs ys) (8 * a) with
    | none => rw [if_pos (show pv2 none < 0 by decide)]
    | some j =>
      have hj := PK_lt hp
      rw [if_neg (show ¬ pv2 (some j) < 0 from nneg (by omega))]
      rfl
  | succ k ih =>
    intro a ha f hf
    obtain ⟨f, rfl⟩ : ∃ f', f = f' + 1 := ⟨f - 1, by omega⟩
    show B_X4_addNearestPair_12 _ _ _ _ _ _ _ _ _ _ (L_X4_addNearestPair_12 tt tl tr (nI n) near nets xs ys lo hi f) _ _ _ _ = _
    unfold B_X4_addNearestPair_12
    rw [if_neg (by rw [leN (by omega) (by omega)]; omega)]
    have e2 : PK (ok5 n nets lo hi near (frF xs ys)) (frF xs ys) (8 * (a + 1)) = PK (ok5 n nets lo hi near (frF xs ys)) (frF xs ys) (8 * a + n) := by
      refine PK_to (by omega) fun q h1 h2 => ?_
      have : ¬ q % 8 < n := by omega
      simp [ok5, this]
    have h9 := an_inner hn nets xs ys tl tr tt near lo hi (L_X4_addNearestPair_12 tt tl tr (nI n) near nets xs ys lo hi f) (by omega : a < n) n 0 (by omega) FU (by show _ < 4096; omega)
    rw [Nat.add_zero, ← e2, i1, addN] at h9
    rw [i0, h9, ih (a + 1) (by omega) f (by omega)]
theorem addNearest5 {n : Nat} (hn : n ≤ 8) (nets xs ys tl tr : Ar) (tt near lo hi : Int32) : m_X4_addNearestPair tt tl tr (nI n) near nets xs ys lo hi = (match PK (ok5 n nets lo hi near (frF xs ys)) (frF xs ys) 64 with | none => some (tt, tl, tr) | some j => bd3 (m_X4_addTry tt tl tr xs (nI (j / 8)) (nI (j % 8))) (fun x y z => some (x, y, z))) := by
  unfold m_X4_addNearestPair
  exact an_outer hn nets xs ys tl tr tt near lo hi n 0 (by omega) FU (by show _ < 4096; omega)
