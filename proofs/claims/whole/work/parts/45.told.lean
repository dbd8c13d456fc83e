/-! ===== told ===== -/
def okd (d : Int32) (T : Nat) : Bool := decide (0 ≤ d.toInt ∧ d.toInt < T)
theorem okd_n {d : Int32} {T : Nat} (hT : T ≤ 10) (h : okd d T = true) : d = nI d.toNatClampNeg ∧ d.toNatClampNeg < T := by
  have h2 := of_decide_eq_true h
  obtain ⟨j, hj, e1, e2⟩ := nN d h2.1 (by omega)
  rw [e2, cN hj]
  exact ⟨rfl, by omega⟩
def oN (sg : Ar) (i : Nat) : Nat := (sg i - 97).toNatClampNeg
def tkB (sg : Ar) (T : Nat) : Nat → Nat → Nat → Bool
  | 0, _, _ => true
  | k + 1, i, M => okd (sg i - 97) T && (!M.testBit (oN sg i) && tkB sg T k (i + 1) (M ||| 2 ^ (oN sg i)))
theorem tkB_ok {sg : Ar} {T : Nat} : ∀ k i M, tkB sg T k i M = true → ∀ j, i ≤ j → j < i + k → okd (sg j - 97) T = true := by
  intro k
  induction k with
  | zero => intro i M _ j h1 h2; omega
  | succ k ih =>
    intro i M h j h1 h2
    simp only [tkB, Bool.and_eq_true] at h
    by_cases hj : j = i
    · subst hj; exact h.1
    · exact ih (i + 1) _ h.2.2 j (by omega) (by omega)
theorem or_bit2 (M : Nat) {j : Nat} (hj : j < 16) : nI M ||| (1 : Int32) <<< (nI j &&& 31) = nI (M ||| 2 ^ j) := by rw [shl_nI j hj, orN]
theorem too_cls {sg : Ar} {T : Nat} (hT : T ≤ 10) :
    ∀ k i, i + k = T → ∀ f, k < f → ∀ M, L_X3_tellsOrderOf_14 (nI T) sg (nI T) f (nI M) (nI i) = some (bi (tkB sg T k i M)) := by
  intro k
  induction k with
  | zero =>
    intro i hi f hf M
    obtain ⟨f, rfl⟩ : ∃ f', f = f' + 1 := ⟨f - 1, by omega⟩
    have e0 : ∀ a b, L_X3_tellsOrderOf_14 (nI T) sg (nI T) (f + 1) a b = B_X3_tellsOrderOf_14 (nI T) sg (nI T) (L_X3_tellsOrderOf_14 (nI T) sg (nI T) f) a b := fun _ _ => rfl
    rw [e0]
    unfold B_X3_tellsOrderOf_14
    rw [if_pos (by rw [leN (by omega) (by omega)]; omega)]
    rfl
  | succ k ih =>
    intro i hi f hf M
    obtain ⟨f, rfl⟩ : ∃ f', f = f' + 1 := ⟨f - 1, by omega⟩
    have e0 : ∀ a b, L_X3_tellsOrderOf_14 (nI T) sg (nI T) (f + 1) a b = B_X3_tellsOrderOf_14 (nI T) sg (nI T) (L_X3_tellsOrderOf_14 (nI T) sg (nI T) f) a b := fun _ _ => rfl
    rw [e0]
    unfold B_X3_tellsOrderOf_14 m_X3_tryAt
    rw [if_neg (by rw [leN (by omega) (by omega)]; omega), gN (by omega) (by omega), grd_tt, cN (by omega), bd1_s]
    have z0 : (0 : Int32).toInt = 0 := rfl
    cases hd : okd (sg i - 97) T with
    | false =>
      have e : tkB sg T (k + 1) i M = false := by simp [tkB, hd]
      rw [e]
      have h9 := of_decide_eq_false hd
      by_cases h1 : sg i - 97 < 0
      · rw [if_pos h1]; rfl
      · rw [if_neg h1]
        rw [ltI, z0] at h1
        rw [if_pos (by rw [leI, tN (by omega)]; omega)]
        rfl
    | true =>
      obtain ⟨h1, h2⟩ := okd_n hT hd
      have e : tkB sg T (k + 1) i M = (!M.testBit (oN sg i) && tkB sg T k (i + 1) (M ||| 2 ^ (oN sg i))) := by simp [tkB, hd]
      have h3 : oN sg i < T := h2
      have h4 : sg i - 97 = nI (oN sg i) := h1
      rw [e, h4, if_neg (nneg (by omega)), if_neg (by rw [leN (by omega) (by omega)]; omega), isIn_eq _ (by omega), bd1_s, bt_nI (by omega), or_bit2 M (by omega), i1, addN]
      cases hb : M.testBit (oN sg i) with
      | true => rw [if_neg (show ¬ bi true = 0 by decide)]; rfl
      | false =>
        rw [if_pos (show bi false = 0 from rfl), ih (i + 1) (by omega) f (by omega)]
        rfl
theorem told_sum {leaps sg : Ar} {lp : Nat → Nat → Int32} {T : Nat} (hT : T ≤ 10) (hL : ∀ s t, s ≤ T → t < T → leaps (s * 10 + t) = lp s t) (hok : ∀ j, j < T → okd (sg j - 97) T = true) (tt : Int32) :
    ∀ k i, i + k = T → ∀ f, k < f → L_X5_told_26 tt leaps (nI T) sg f (smO lp (oN sg) i) (nI (sto (oN sg) i)) (nI i) = some (smO lp (oN sg) T) := by
  intro k
  induction k with
  | zero =>
    intro i hi f hf
    obtain ⟨f, rfl⟩ : ∃ f', f = f' + 1 := ⟨f - 1, by omega⟩
    have : i = T := by omega
    subst this
    have e0 : ∀ a b c, L_X5_told_26 tt leaps (nI i) sg (f + 1) a b c = B_X5_told_26 tt leaps (nI i) sg (L_X5_told_26 tt leaps (nI i) sg f) a b c := fun _ _ _ => rfl
    rw [e0]
    unfold B_X5_told_26
    rw [if_pos (by rw [leN (by omega) (by omega)]; omega)]
  | succ k ih =>
    intro i hi f hf
    obtain ⟨f, rfl⟩ : ∃ f', f = f' + 1 := ⟨f - 1, by omega⟩
    have e0 : ∀ a b c, L_X5_told_26 tt leaps (nI T) sg (f + 1) a b c = B_X5_told_26 tt leaps (nI T) sg (L_X5_told_26 tt leaps (nI T) sg f) a b c := fun _ _ _ => rfl
    obtain ⟨h1, h2⟩ := okd_n hT (hok i (by omega))
    have h3 : oN sg i < T := h2
    have h4 : sg i - 97 = nI (oN sg i) := h1
    have hs : sto (oN sg) i ≤ T := by
      cases i with
      | zero => exact Nat.zero_le _
      | succ i => have h9 : oN sg i < T := (okd_n hT (hok i (by omega))).2; show oN sg i + 1 ≤ T; omega
    rw [e0]
    unfold B_X5_told_26 m_X3_tryAt
    rw [if_neg (by rw [leN (by omega) (by omega)]; omega), gN (by omega) (by omega), grd_tt, cN (by omega), bd1_s, h4]
    have hlp : m_X1_leap leaps (nI (sto (oN sg) i)) (nI (oN sg i)) = some (lp (sto (oN sg) i) (oN sg i)) := by
      unfold m_X1_leap
      simp (disch := omega) only [i10, mulN, addN, gN, grd_tt, cN]
      rw [hL _ _ hs h3]
    rw [hlp, bd1_s, i1, addN, addN]
    exact ih (i + 1) (by omega) f (by omega)
def tldA (lp : Nat → Nat → Int32) (sg : Ar) (T len : Nat) : Int32 := if len = T ∧ tkB sg T T 0 0 = true then smO lp (oN sg) T else -7
theorem told5 {leaps sg : Ar} {lp : Nat → Nat → Int32} {T len : Nat} (hT : T ≤ 10) (hlen : len ≤ 24) (hL : ∀ s t, s ≤ T → t < T → leaps (s * 10 + t) = lp s t) : m_X5_told (nI T) leaps (nI len) sg = some (tldA lp sg T len) := by
  unfold m_X5_told m_X3_tellsOrderOf tldA
  by_cases hl : len = T
  · subst hl
    have h := too_cls (sg := sg) hT len 0 (by omega) FU (by show _ < 4096; omega) 0
    have h' : L_X3_tellsOrderOf_14 (nI len) sg (nI len) FU 0 0 = some (bi (tkB sg len len 0 0)) := h
    rw [if_pos rfl, h', bd1_s]
    cases hk : tkB sg len len 0 0 with
    | false => rw [if_pos (show bi false = 0 from rfl), if_neg (by simp)]
    | true =>
      rw [if_neg (show ¬ bi true = 0 by decide), if_pos ⟨rfl, rfl⟩]
      exact told_sum hT hL (fun j hj => tkB_ok len 0 0 hk j (by omega) (by omega)) (nI len) len 0 (by omega) FU (by show _ < 4096; omega)
  · rw [if_neg (by rw [eqN (by omega) (by omega)]; exact hl), bd1_s, if_pos rfl, if_neg (fun h => hl h.1)]
theorem told_ref {st pad left right ap g ip : Ar} {lp : Nat → Nat → Int32} {T : Nat} (hT : T ≤ 10) (hM : TmR st left right lp T) :
    ∀ k i, i + k = T → ∀ f, k < f → ∀ M (order : Ar), (∀ j, j < i → order j = nI (oN pad j) ∧ oN pad j < T) → ∃ order', L_X6_told_22 (nI T) (nI T) st pad left right ap g ip f (nI M) (nI i) order = some (if tkB pad T k i M = true then smO lp (oN pad) T else -7, nI T, left, right, ap, g, ip, order') := by
  intro k
  induction k with
  | zero =>
    intro i hi f hf M order ho
    obtain ⟨f, rfl⟩ : ∃ f', f = f' + 1 := ⟨f - 1, by omega⟩
    have : i = T := by omega
    subst this
    refine ⟨order, ?_⟩
    have e0 : ∀ a b c, L_X6_told_22 (nI i) (nI i) st pad left right ap g ip (f + 1) a b c = B_X6_told_22 (nI i) (nI i) st pad left right ap g ip (L_X6_told_22 (nI i) (nI i) st pad left right ap g ip f) a b c := fun _ _ _ => rfl
    rw [e0]
    unfold B_X6_told_22
    rw [if_pos (by rw [leN (by omega) (by omega)]; omega), timeOO6 hT hM ho, bd1_s, if_pos (show tkB pad i 0 i M = true from rfl)]
  | succ k ih =>
    intro i hi f hf M order ho
    obtain ⟨f, rfl⟩ : ∃ f', f = f' + 1 := ⟨f - 1, by omega⟩
    have e0 : ∀ a b c, L_X6_told_22 (nI T) (nI T) st pad left right ap g ip (f + 1) a b c = B_X6_told_22 (nI T) (nI T) st pad left right ap g ip (L_X6_told_22 (nI T) (nI T) st pad left right ap g ip f) a b c := fun _ _ _ => rfl
    rw [e0]
    unfold B_X6_told_22
    rw [if_neg (by rw [leN (by omega) (by omega)]; omega), gN (show i < 24 by omega) (by omega), gN (show i < 16 by omega) (by omega)]
    simp only [grd_tt]
    rw [cN (show i < 100000 by omega), upd_s, isTry6 (by omega), bd1_s]
    cases hd : okd (pad i - 97) T with
    | false =>
      have e : tkB pad T (k + 1) i M = false := by simp [tkB, hd]
      rw [e, show decide (0 ≤ (pad i - 97).toInt ∧ (pad i - 97).toInt < (T : Int)) = false from hd, if_pos (show bi false = 0 from rfl), if_neg (by decide)]
      exact ⟨_, rfl⟩
    | true =>
      obtain ⟨h1, h2⟩ := okd_n hT hd
      have e : tkB pad T (k + 1) i M = (!M.testBit (oN pad i) && tkB pad T k (i + 1) (M ||| 2 ^ (oN pad i))) := by simp [tkB, hd]
      have h3 : oN pad i < T := h2
      have h4 : pad i - 97 = nI (oN pad i) := h1
      rw [e, show decide (0 ≤ (pad i - 97).toInt ∧ (pad i - 97).toInt < (T : Int)) = true from hd, if_neg (show ¬ bi true = 0 by decide), h4, shr1 _ (by omega), bt_nI (by omega), or_bit2 M (by omega), bd1_s, i1, addN]
      cases hb : M.testBit (oN pad i) with
      | true =>
        rw [if_pos (show bi true = nI 1 from rfl), if_neg (by simp)]
        exact ⟨_, rfl⟩
      | false =>
        rw [if_neg (show ¬ bi false = nI 1 by decide)]
        have ih' := ih (i + 1) (by omega) f (by omega) (M ||| 2 ^ (oN pad i)) (upd order i (nI (oN pad i))) (by
          intro j hj
          by_cases hji : j = i
          · subst hji; rw [upd_s]; exact ⟨rfl, h3⟩
          · rw [upd_n _ _ hji]; exact ho j (by omega))
        obtain ⟨o', h9⟩ := ih'
        refine ⟨o', ?_⟩
        rw [h9]
        simp
theorem told6 {st pad left right ap g ip : Ar} {lp : Nat → Nat → Int32} {T : Nat} (hT : T ≤ 10) (hM : TmR st left right lp T) (order : Ar) : ∃ order', L_X6_told_22 (nI T) (nI T) st pad left right ap g ip FU 0 0 order = some (tldA lp pad T T, nI T, left, right, ap, g, ip, order') := by
  obtain ⟨o', h⟩ := told_ref (st := st) (pad := pad) (ap := ap) (g := g) (ip := ip) hT hM T 0 (by omega) FU (by show _ < 4096; omega) 0 order (fun j h => by omega)
  refine ⟨o', Eq.trans h ?_⟩
  unfold tldA
  by_cases hk : tkB pad T T 0 0 = true
  · rw [if_pos hk, if_pos ⟨rfl, hk⟩]
  · rw [if_neg hk, if_neg (fun h => hk h.2)]
/-- signs that are the same tell the same -/
theorem tkB_ext {sg sg' : Ar} {T : Nat} : ∀ k i M, (∀ j, i ≤ j → j < i + k → sg j = sg' j) → tkB sg T k i M = tkB sg' T k i M := by
  intro k
  induction k with
  | zero => intro i M _; rfl
  | succ k ih =>
    intro i M h
    have e := h i (by omega) (by omega)
    simp only [tkB, oN, e]
    rw [ih (i + 1) _ (fun j h1 h2 => h j (by omega) (by omega))]
theorem smO_ext {lp : Nat → Nat → Int32} {o o' : Nat → Nat} : ∀ i, (∀ j, j < i → o j = o' j) → smO lp o i = smO lp o' i := by
  intro i
  induction i with
  | zero => intro _; rfl
  | succ i ih =>
    intro h
    have e : sto o i = sto o' i := by
      cases i with
      | zero => rfl
      | succ i => show o i + 1 = o' i + 1; rw [h i (by omega)]
    rw [smO, smO, ih (fun j hj => h j (by omega)), e, h i (by omega)]
theorem tldA_ext {lp : Nat → Nat → Int32} {sg sg' : Ar} {T len : Nat} (h : ∀ j, j < len → sg j = sg' j) : tldA lp sg T len = tldA lp sg' T len := by
  unfold tldA
  by_cases hl : len = T
  · subst hl
    rw [tkB_ext len 0 0 (fun j h1 h2 => h j (by omega)), smO_ext (o' := oN sg') len (fun j hj => by unfold oN; rw [h j hj])]
  · rw [if_neg (fun h => hl h.1), if_neg (fun h => hl h.1)]
