/-! ===== the reference's ORDERS ===== -/
theorem xx_can (a b : Nat) : a ^^^ (a ^^^ b) = b := by rw [← Nat.xor_assoc, Nat.xor_self, Nat.zero_xor]
theorem lb_outer {st left right rest : Ar} {lp : Nat → Nat → Int32} {T : Nat} (hT : T ≤ 10) (hB : lpB lp T) (hM : TmR st left right lp T) (hO : RsOk rest lp T 0) (h10 : rest 10 = TV lp T (FUL T) 0) :
    ∀ k i, i + k = T → ∀ f, k < f → ∀ order : Ar, (∀ j, j < i → order j = nI (nx (pkB lp T) T j)) → ∃ order', L_X6_layBest_11 (nI T) st left right rest f (nI (FUL T ^^^ (sq (pkB lp T) T i).2)) (nI (lcN (sq (pkB lp T) T i).1)) (nI i) order = some (order', rest) ∧ ∀ j, j < T → order' j = nI (nx (pkB lp T) T j) := by
  have h1024 := pow_le hT
  intro k
  induction k with
  | zero =>
    intro i hi f hf order ho
    obtain ⟨f, rfl⟩ : ∃ f', f = f' + 1 := ⟨f - 1, by omega⟩
    have : i = T := by omega
    subst this
    refine ⟨order, ?_, ho⟩
    have e0 : ∀ a b c, L_X6_layBest_11 (nI i) st left right rest (f + 1) a b c order = B_X6_layBest_11 (nI i) st left right rest (L_X6_layBest_11 (nI i) st left right rest f) a b c order := fun _ _ _ => rfl
    rw [e0]
    unfold B_X6_layBest_11
    rw [if_pos (by rw [leN (by omega) (by omega)]; omega)]
  | succ k ih =>
    intro i hi f hf order ho
    obtain ⟨f, rfl⟩ : ∃ f', f = f' + 1 := ⟨f - 1, by omega⟩
    obtain ⟨a1, a2, -⟩ := sq_ok (pkB_ok (lp := lp) (T := T)) i (by omega)
    obtain ⟨b1, b2⟩ := nx_ok (pkB_ok (lp := lp) (T := T)) (show i < T by omega)
    have hne := sq_ne (pkB_ok (lp := lp) (T := T)) (show i < T by omega)
    have e0 : ∀ a b c, L_X6_layBest_11 (nI T) st left right rest (f + 1) a b c order = B_X6_layBest_11 (nI T) st left right rest (L_X6_layBest_11 (nI T) st left right rest f) a b c order := fun _ _ _ => rfl
    have hD : FUL T ^^^ (sq (pkB lp T) T i).2 < 2 ^ T := ful_lt a2
    have hcur : rest (11 * (FUL T ^^^ (sq (pkB lp T) T i).2) + lcN (sq (pkB lp T) T i).1) = TV lp T (FUL T ^^^ (FUL T ^^^ (sq (pkB lp T) T i).2)) (sq (pkB lp T) T i).1 := by
      rw [xx_can]
      cases i with
      | zero =>
        show rest (11 * (FUL T ^^^ FUL T) + 10) = TV lp T (FUL T) 0
        rw [Nat.xor_self]
        exact h10
      | succ i =>
        obtain ⟨c1, c2⟩ := nx_ok (pkB_ok (lp := lp) (T := T)) (show i < T by omega)
        have hs1 : (sq (pkB lp T) T (i + 1)).1 = nx (pkB lp T) T i + 1 := rfl
        have hs2 : (sq (pkB lp T) T (i + 1)).2 = (sq (pkB lp T) T i).2 ^^^ 2 ^ (nx (pkB lp T) T i) := rfl
        rw [hs1]
        show rest (11 * (FUL T ^^^ (sq (pkB lp T) T (i + 1)).2) + nx (pkB lp T) T i) = _
        rw [hO (FUL T ^^^ (sq (pkB lp T) T (i + 1)).2) (Nat.zero_le _) hD (nx (pkB lp T) T i) c1 (by rw [ful_bit c1, hs2, tb_xor, c2]; simp), xx_can]
    obtain ⟨j, hj, hj2, hj3⟩ := PK_ne a2 hne (vl lp T (sq (pkB lp T) T i).2 (sq (pkB lp T) T i).1)
    have hnx : nx (pkB lp T) T i = j := by
      show (PK (fun k => (sq (pkB lp T) T i).2.testBit k) (vl lp T (sq (pkB lp T) T i).2 (sq (pkB lp T) T i).1) T).getD 0 = j
      rw [hj]; rfl
    have hfind := lb_find (order := order) hT hM a1 hD hO hcur (L_X6_layBest_11 (nI T) st left right rest f) (show i < 16 by omega) (by rw [xx_can]; exact hj) T hj2 (Nat.le_refl _) FU (by show _ < 4096; omega) (-6)
    have hDb : (FUL T ^^^ (sq (pkB lp T) T i).2).testBit j = false := by rw [ful_bit hj2, hj3]; rfl
    rw [or_bit (by omega) hDb, ← ful_xor] at hfind
    rw [e0]
    unfold B_X6_layBest_11
    rw [if_neg (by rw [leN (by omega) (by omega)]; omega), hfind]
    have hs1 : (sq (pkB lp T) T (i + 1)).1 = j + 1 := by rw [← hnx]; rfl
    have hs2 : (sq (pkB lp T) T (i + 1)).2 = (sq (pkB lp T) T i).2 ^^^ 2 ^ j := by rw [← hnx]; rfl
    have ih' := ih (i + 1) (by omega) f (by omega) (upd order i (nI j)) (by
      intro q hq
      by_cases hqi : q = i
      · subst hqi; rw [upd_s, hnx]
      · rw [upd_n _ _ hqi]; exact ho q (by omega))
    rw [hs1, hs2] at ih'
    exact ih'
theorem layBest6 {st left right : Ar} {lp : Nat → Nat → Int32} {T : Nat} (hT : T ≤ 10) (hB : lpB lp T) (hM : TmR st left right lp T) (order rest : Ar) : ∃ order' rest', m_X6_layBest (nI T) st left right order rest = some (order', rest') ∧ ∀ j, j < T → order' j = nI (nx (pkB lp T) T j) := by
  obtain ⟨r, h1, h2, h3⟩ := layRest6 hT hB hM rest
  obtain ⟨o, g1, g2⟩ := lb_outer hT hB hM h2 h3 T 0 (by omega) FU (by show _ < 4096; omega) order (fun j h => by omega)
  refine ⟨o, r, ?_, g2⟩
  unfold m_X6_layBest
  rw [h1, bd1_s]
  have e : FUL T ^^^ (sq (pkB lp T) T 0).2 = 0 := Nat.xor_self _
  rw [e] at g1
  exact g1
/-! the TIME of an ORDER -/
def sto (o : Nat → Nat) (i : Nat) : Nat := match i with | 0 => 0 | k + 1 => o k + 1
def smO (lp : Nat → Nat → Int32) (o : Nat → Nat) : Nat → Int32
  | 0 => 0
  | i + 1 => smO lp o i + lp (sto o i) (o i)
theorem sto_sq (pick : Nat → Nat → Nat) (T i : Nat) : (sq pick T i).1 = sto (nx pick T) i := by cases i <;> rfl
theorem smI_O (lp : Nat → Nat → Int32) (pick : Nat → Nat → Nat) (T : Nat) : ∀ i, smI lp pick T i = smO lp (nx pick T) i := by
  intro i
  induction i with
  | zero => rfl
  | succ i ih => rw [smI, smO, ih, sto_sq]
theorem too_loop {st left right order : Ar} {lp : Nat → Nat → Int32} {T : Nat} (hT : T ≤ 10) (hM : TmR st left right lp T) {o : Nat → Nat} (ho : ∀ j, j < T → order j = nI (o j) ∧ o j < T) :
    ∀ k i, i + k = T → ∀ f, k < f → L_X6_timeOfOrder_4 (nI T) st left right order f (smO lp o i) (nI i) = some (smO lp o T) := by
  intro k
  induction k with
  | zero =>
    intro i hi f hf
    obtain ⟨f, rfl⟩ : ∃ f', f = f' + 1 := ⟨f - 1, by omega⟩
    have : i = T := by omega
    subst this
    have e0 : ∀ a b, L_X6_timeOfOrder_4 (nI i) st left right order (f + 1) a b = B_X6_timeOfOrder_4 (nI i) st left right order (L_X6_timeOfOrder_4 (nI i) st left right order f) a b := fun _ _ => rfl
    rw [e0]
    unfold B_X6_timeOfOrder_4
    rw [if_pos (by rw [leN (by omega) (by omega)]; omega)]
  | succ k ih =>
    intro i hi f hf
    obtain ⟨f, rfl⟩ : ∃ f', f = f' + 1 := ⟨f - 1, by omega⟩
    have e0 : ∀ a b, L_X6_timeOfOrder_4 (nI T) st left right order (f + 1) a b = B_X6_timeOfOrder_4 (nI T) st left right order (L_X6_timeOfOrder_4 (nI T) st left right order f) a b := fun _ _ => rfl
    have ih' := ih (i + 1) (by omega) f (by omega)
    obtain ⟨o1, o2⟩ := ho i (by omega)
    have hJ : J_X6_timeOfOrder_30 (nI T) st left right order (L_X6_timeOfOrder_4 (nI T) st left right order f) (frI (sto o i)) (smO lp o i) (nI i) = some (smO lp o T) := by
      unfold J_X6_timeOfOrder_30
      have hs : sto o i ≤ T := by
        cases i with
        | zero => exact Nat.zero_le _
        | succ i => have := (ho i (by omega)).2; show o i + 1 ≤ T; omega
      rw [gN (by omega) (by omega), grd_tt, cN (by omega), o1, hM _ _ hs o2, bd1_s, i1, addN]
      exact ih'
    rw [e0]
    unfold B_X6_timeOfOrder_4
    rw [if_neg (by rw [leN (by omega) (by omega)]; omega)]
    cases i with
    | zero =>
      rw [if_pos (show nI 0 = 0 from rfl)]
      exact hJ
    | succ i =>
      rw [if_neg (show ¬ nI (i + 1) = 0 by rw [i0, eqN (by omega) (by omega)]; omega), predS, gN (by omega) (by omega), grd_tt, cN (by omega), (ho i (by omega)).1]
      exact hJ
theorem timeOO6 {st left right order : Ar} {lp : Nat → Nat → Int32} {T : Nat} (hT : T ≤ 10) (hM : TmR st left right lp T) {o : Nat → Nat} (ho : ∀ j, j < T → order j = nI (o j) ∧ o j < T) : m_X6_timeOfOrder (nI T) st left right order = some (smO lp o T) := too_loop hT hM ho T 0 (by omega) FU (by show _ < 4096; omega)
/-- what both tell of an ORDER -/
def ordAns (lp : Nat → Nat → Int32) (o : Nat → Nat) (T : Nat) (i : Int32) : Int32 := if i = -1 then smO lp o T else if (T : Int) ≤ i.toInt then -6 else nI (o i.toNatClampNeg)
theorem i_cases {i : Int32} {T : Nat} (hT : T ≤ 10) (hi : -1 ≤ i) : i = -1 ∨ (T : Int) ≤ i.toInt ∨ ∃ j, j < T ∧ i = nI j := by
  rw [leI, show (-1 : Int32).toInt = -1 from rfl] at hi
  rcases Int.lt_or_le i.toInt T with h | h
  · rcases Int.lt_or_le i.toInt 0 with h2 | h2
    · left; rw [eqI, show (-1 : Int32).toInt = -1 from rfl]; omega
    · right; right
      obtain ⟨j, hj, e1, e2⟩ := nN i h2 (by omega)
      exact ⟨j, by omega, e2⟩
  · right; left; exact h
theorem ne_m1 {i : Int32} (h : 0 ≤ i.toInt) : ¬ i = -1 := by rw [eqI, show (-1 : Int32).toInt = -1 from rfl]; omega
theorem orderAt6 {st left right order : Ar} {lp : Nat → Nat → Int32} {T : Nat} (hT : T ≤ 10) (hM : TmR st left right lp T) {o : Nat → Nat} (ho : ∀ j, j < T → order j = nI (o j) ∧ o j < T) {i : Int32} (hi : -1 ≤ i) : m_X6_orderAt (nI T) st left right order i = some (ordAns lp o T i) := by
  unfold m_X6_orderAt ordAns
  rw [timeOO6 hT hM ho, bd1_s]
  rcases i_cases hT hi with h | h | ⟨j, h1, h2⟩
  · rw [if_pos h, if_pos h]
  · rw [if_neg (ne_m1 (by omega)), if_neg (ne_m1 (by omega)), if_pos (by rw [leI, tN (by omega)]; exact h), if_pos h]
  · subst h2
    rw [if_neg (ne_m1 (by rw [tN (by omega)]; omega)), if_neg (ne_m1 (by rw [tN (by omega)]; omega)), if_neg (by rw [leN (by omega) (by omega)]; omega), if_neg (by rw [tN (by omega)]; omega), gN (by omega) (by omega), grd_tt, cN (by omega), (ho j h1).1]
theorem tell5 {tr : Ar} {lp : Nat → Nat → Int32} {T : Nat} (hT : T ≤ 10) {o : Nat → Nat} (ho : ∀ j, j < T → tr j = nI (o j)) {i : Int32} (hi : -1 ≤ i) : m_X2_tell (nI T) (smO lp o T) tr i = some (ordAns lp o T i) := by
  unfold m_X2_tell ordAns
  have z0 : (0 : Int32).toInt = 0 := rfl
  rcases i_cases hT hi with h | h | ⟨j, h1, h2⟩
  · rw [if_pos h, if_pos h]
  · rw [if_neg (ne_m1 (by omega)), if_neg (ne_m1 (by omega)), if_neg (by rw [ltI, z0]; omega), if_pos (by rw [leI, tN (by omega)]; exact h), if_pos h]
  · subst h2
    rw [if_neg (ne_m1 (by rw [tN (by omega)]; omega)), if_neg (ne_m1 (by rw [tN (by omega)]; omega)), if_neg (nneg (by omega)), if_neg (by rw [leN (by omega) (by omega)]; omega), if_neg (by rw [tN (by omega)]; omega), gN (by omega) (by omega), grd_tt, cN (by omega), ho j h1]
/-! the reference's NEAREST -/
theorem nr_inner {st left right ap gr pr order : Ar} {lp : Nat → Nat → Int32} {T : Nat} (hT : T ≤ 10) (hM : TmR st left right lp T) {s : Nat} (hs : s ≤ T) {S : Nat} (hS : S < 2 ^ T) (h0 : S ≠ 0) (k16 : Int32 → Int32 → Ar → Option (Int32 × Int32 × Ar × Ar × Ar × Ar × Ar × Ar)) (p : Int32) {q : Nat} (hq : q < 16) :
    ∀ k i, i + k = T → ∀ f, k < f → L_X6_nearest_49 (nI T) st left right ap gr pr order k16 p (nI (FUL T ^^^ S)) (nI q) (frI s) f (pvf (PK (fun i => S.testBit i) (lp s) i)) (nI i) = k16 (nI (FUL T ^^^ (S ^^^ 2 ^ (pkN lp T s S)))) (nI (q + 1)) (upd order q (nI (pkN lp T s S))) := by
  have h1024 := pow_le hT
  have hD := ful_lt hS
  intro k
  induction k with
  | zero =>
    intro i hi f hf
    obtain ⟨f, rfl⟩ : ∃ f', f = f' + 1 := ⟨f - 1, by omega⟩
    have : i = T := by omega
    subst this
    have e0 : ∀ a b, L_X6_nearest_49 (nI i) st left right ap gr pr order k16 p (nI (FUL i ^^^ S)) (nI q) (frI s) (f + 1) a b = B_X6_nearest_49 (nI i) st left right ap gr pr order k16 p (nI (FUL i ^^^ S)) (nI q) (frI s) (L_X6_nearest_49 (nI i) st left right ap gr pr order k16 p (nI (FUL i ^^^ S)) (nI q) (frI s) f) a b := fun _ _ => rfl
    rw [e0]
    unfold B_X6_nearest_49
    obtain ⟨j, hj, hj2, hj3⟩ := PK_ne hS h0 (lp s)
    have e1 : pkN lp i s S = j := by unfold pkN; rw [hj]; rfl
    have e2 : pvf (some j) = nI j := rfl
    rw [if_pos (by rw [leN (by omega) (by omega)]; omega), hj, e1, e2, gN hq (by omega), grd_tt, cN (by omega), or_bit (by omega) (by rw [ful_bit hj2, hj3]; rfl), ful_xor, i1, addN]
  | succ k ih =>
    intro i hi f hf
    obtain ⟨f, rfl⟩ : ∃ f', f = f' + 1 := ⟨f - 1, by omega⟩
    have ih' := ih (i + 1) (by omega) f (by omega)
    have e0 : ∀ a b, L_X6_nearest_49 (nI T) st left right ap gr pr order k16 p (nI (FUL T ^^^ S)) (nI q) (frI s) (f + 1) a b = B_X6_nearest_49 (nI T) st left right ap gr pr order k16 p (nI (FUL T ^^^ S)) (nI q) (frI s) (L_X6_nearest_49 (nI T) st left right ap gr pr order k16 p (nI (FUL T ^^^ S)) (nI q) (frI s) f) a b := fun _ _ => rfl
    rw [e0]
    unfold B_X6_nearest_49 J_X6_nearest_91 J_X6_nearest_95 J_X6_nearest_96 J_X6_nearest_110
    rw [if_neg (by rw [leN (by omega) (by omega)]; omega), shr1 _ (by omega), bt_nI (by omega), ful_bit (by omega), i1, addN, ← i1, if_pos (show (0 : Int32) = 0 from rfl), if_neg (show ¬ (1 : Int32) = 0 by decide)]
    cases hb : S.testBit i with
    | false =>
      rw [if_neg (show ¬ bi (!false) = 0 by decide)]
      have e : PK (fun i => S.testBit i) (lp s) (i + 1) = PK (fun i => S.testBit i) (lp s) i := by rw [PK, if_neg (by rw [hb]; decide)]
      rw [e] at ih'
      exact ih'
    | true =>
      rw [if_pos (show bi (!true) = 0 from rfl)]
      have e : PK (fun i => S.testBit i) (lp s) (i + 1) = (match PK (fun i => S.testBit i) (lp s) i with | none => some i | some j => if lp s i < lp s j then some i else some j) := by
        rw [PK, if_pos hb]
        rfl
      cases hp : PK (fun i => S.testBit i) (lp s) i with
      | none =>
        rw [hp] at e
        simp only at e
        rw [e] at ih'
        rw [if_pos (show pvf none < 0 by decide)]
        exact ih'
      | some j =>
        have h9 := ((PK_spec i).2 j hp).1
        rw [hp] at e
        simp only at e
        have e2 : pvf (some j) = nI j := rfl
        rw [e2, if_neg (nneg (by omega)), hM s i hs (by omega), bd1_s, hM s j hs (by omega), bd1_s]
        by_cases hlt2 : lp s i < lp s j
        · rw [if_pos hlt2] at e
          rw [e] at ih'
          rw [if_neg (show ¬ lp s j ≤ lp s i by rw [leI]; rw [ltI] at hlt2; omega)]
          exact ih'
        · rw [if_neg hlt2] at e
          rw [e] at ih'
          rw [if_pos (show lp s j ≤ lp s i by rw [leI]; rw [ltI] at hlt2; omega)]
          exact ih'
theorem nr_outer {st left right ap gr pr : Ar} {lp : Nat → Nat → Int32} {T : Nat} (hT : T ≤ 10) (hM : TmR st left right lp T) {p : Int32} (hp : -1 ≤ p) :
    ∀ k i, i + k = T → ∀ f, k < f → ∀ order : Ar, (∀ j, j < i → order j = nI (nx (pkN lp T) T j)) → ∃ order', L_X6_nearest_16 (nI T) st left right ap gr pr p f (nI (FUL T ^^^ (sq (pkN lp T) T i).2)) (nI i) order = some (ordAns lp (nx (pkN lp T) T) T p, nI T, left, right, ap, gr, pr, order') := by
  have h1024 := pow_le hT
  intro k
  induction k with
  | zero =>
    intro i hi f hf order ho
    obtain ⟨f, rfl⟩ : ∃ f', f = f' + 1 := ⟨f - 1, by omega⟩
    have : i = T := by omega
    subst this
    refine ⟨order, ?_⟩
    have e0 : ∀ a b, L_X6_nearest_16 (nI i) st left right ap gr pr p (f + 1) a b order = B_X6_nearest_16 (nI i) st left right ap gr pr p (L_X6_nearest_16 (nI i) st left right ap gr pr p f) a b order := fun _ _ => rfl
    rw [e0]
    unfold B_X6_nearest_16
    rw [if_pos (by rw [leN (by omega) (by omega)]; omega), orderAt6 hT hM (fun j hj => ⟨ho j hj, (nx_ok pkN_ok hj).1⟩) hp, bd1_s]
  | succ k ih =>
    intro i hi f hf order ho
    obtain ⟨f, rfl⟩ : ∃ f', f = f' + 1 := ⟨f - 1, by omega⟩
    obtain ⟨a1, a2, -⟩ := sq_ok (pkN_ok (lp := lp) (T := T)) i (by omega)
    have hne := sq_ne (pkN_ok (lp := lp) (T := T)) (show i < T by omega)
    have e0 : ∀ a b, L_X6_nearest_16 (nI T) st left right ap gr pr p (f + 1) a b order = B_X6_nearest_16 (nI T) st left right ap gr pr p (L_X6_nearest_16 (nI T) st left right ap gr pr p f) a b order := fun _ _ => rfl
    have hin := nr_inner (ap := ap) (gr := gr) (pr := pr) (order := order) hT hM a1 a2 hne (L_X6_nearest_16 (nI T) st left right ap gr pr p f) p (show i < 16 by omega) T 0 (by omega) FU (by show _ < 4096; omega)
    have ih' := ih (i + 1) (by omega) f (by omega) (upd order i (nI (nx (pkN lp T) T i))) (by
      intro q hq
      by_cases hqi : q = i
      · subst hqi; rw [upd_s]
      · rw [upd_n _ _ hqi]; exact ho q (by omega))
    have hJ : J_X6_nearest_40 (nI T) st left right ap gr pr order (L_X6_nearest_16 (nI T) st left right ap gr pr p f) (frI (sq (pkN lp T) T i).1) p (nI (FUL T ^^^ (sq (pkN lp T) T i).2)) (nI i) = L_X6_nearest_16 (nI T) st left right ap gr pr p f (nI (FUL T ^^^ (sq (pkN lp T) T (i + 1)).2)) (nI (i + 1)) (upd order i (nI (nx (pkN lp T) T i))) := hin
    rw [e0]
    unfold B_X6_nearest_16
    rw [if_neg (by rw [leN (by omega) (by omega)]; omega)]
    cases i with
    | zero =>
      rw [if_pos (show nI 0 = 0 from rfl)]
      have hJ' : J_X6_nearest_40 (nI T) st left right ap gr pr order (L_X6_nearest_16 (nI T) st left right ap gr pr p f) (-1) p (nI (FUL T ^^^ (sq (pkN lp T) T 0).2)) (nI 0) = _ := hJ
      rw [hJ']
      exact ih'
    | succ i =>
      rw [if_neg (show ¬ nI (i + 1) = 0 by rw [i0, eqN (by omega) (by omega)]; omega), predS, gN (by omega) (by omega), grd_tt, cN (by omega), ho i (by omega)]
      have hJ' : J_X6_nearest_40 (nI T) st left right ap gr pr order (L_X6_nearest_16 (nI T) st left right ap gr pr p f) (nI (nx (pkN lp T) T i)) p (nI (FUL T ^^^ (sq (pkN lp T) T (i + 1)).2)) (nI (i + 1)) = _ := hJ
      rw [hJ']
      exact ih'
theorem nearest6 {st left right ap gr pr : Ar} {lp : Nat → Nat → Int32} {T : Nat} (hT : T ≤ 10) (hM : TmR st left right lp T) {p : Int32} (hp : -1 ≤ p) (order : Ar) : ∃ order', L_X6_nearest_16 (nI T) st left right ap gr pr p FU 0 0 order = some (ordAns lp (nx (pkN lp T) T) T p, nI T, left, right, ap, gr, pr, order') := by
  obtain ⟨o, h⟩ := nr_outer (ap := ap) (gr := gr) (pr := pr) hT hM hp T 0 (by omega) FU (by show _ < 4096; omega) order (fun j h => by omega)
  have e : FUL T ^^^ (sq (pkN lp T) T 0).2 = 0 := Nat.xor_self _
  rw [e] at h
  exact ⟨o, h⟩
