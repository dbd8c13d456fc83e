/-! ===== the class: the first of the best, the nearest ===== -/
theorem m1N (k : Nat) : nI k + (-1) = nI k - 1 := by rw [Int32.sub_eq_add_neg]
theorem predS (k : Nat) : nI (k + 1) - 1 = nI k := nI_pred k
theorem fb_keep {leaps on : Ar} {lp : Nat → Nat → Int32} {T : Nat} (hT : T ≤ 10) {s : Nat} (hs : s ≤ T) (hL : ∀ t, t < T → leaps (s * 10 + t) = lp s t) {S : Nat} (hS : S < 2 ^ T) (hO : OnOk on lp T S) (tt : Int32) {w : Int32} :
    ∀ i, i ≤ T → (∀ k, k < i → S.testBit k = true → ¬ vl lp T S s k = w) → ∀ f, i < f → ∀ v, L_X1_firstOfBest_18 tt leaps on (nI s) (nI S) w f v (nI i - 1) = some v := by
  have h1024 := pow_le hT
  intro i
  induction i with
  | zero =>
    intro _ _ f hf v
    obtain ⟨f, rfl⟩ : ∃ f', f = f' + 1 := ⟨f - 1, by omega⟩
    have e0 : ∀ q, L_X1_firstOfBest_18 tt leaps on (nI s) (nI S) w (f + 1) v q = B_X1_firstOfBest_18 tt leaps on (nI s) (nI S) w (L_X1_firstOfBest_18 tt leaps on (nI s) (nI S) w f) v q := fun _ => rfl
    rw [e0]
    unfold B_X1_firstOfBest_18
    rw [if_pos (by decide)]
  | succ i ih =>
    intro hi h f hf v
    obtain ⟨f, rfl⟩ : ∃ f', f = f' + 1 := ⟨f - 1, by omega⟩
    have e0 : ∀ q, L_X1_firstOfBest_18 tt leaps on (nI s) (nI S) w (f + 1) v q = B_X1_firstOfBest_18 tt leaps on (nI s) (nI S) w (L_X1_firstOfBest_18 tt leaps on (nI s) (nI S) w f) v q := fun _ => rfl
    have ih' := ih (by omega) (fun k hk => h k (by omega)) f (by omega) v
    rw [predS, e0]
    unfold B_X1_firstOfBest_18 J_X1_firstOfBest_68
    rw [if_neg (nneg (by omega)), m1N]
    cases hb : S.testBit i with
    | false =>
      rw [if_pos (by rw [clr_same (by omega)]; exact hb)]
      exact ih'
    | true =>
      have hlt := xor_lt (S := S) (by omega) (by omega) hb
      have hon := hO (S ^^^ 2 ^ i) hlt (xor_lt2 hS (by omega)) i (by omega) (by rw [tb_xor, hb]; simp)
      have hlp : m_X1_leap leaps (nI s) (nI i) = some (lp s i) := by
        unfold m_X1_leap
        simp (disch := omega) only [i10, mulN, addN, gN, grd_tt, cN]
        rw [hL i (by omega)]
      rw [if_neg (by rw [clr_same (by omega), hb]; decide), hlp, bd1_s, clr_bit (by omega) hb]
      simp (disch := omega) only [i10, mulN, addN, gN, grd_tt, cN]
      rw [hon, if_neg (show ¬ lp s i + TV lp T (S ^^^ 2 ^ i) (i + 1) = w from h i (by omega) hb)]
      exact ih'
theorem fb_find {leaps on : Ar} {lp : Nat → Nat → Int32} {T : Nat} (hT : T ≤ 10) {s : Nat} (hs : s ≤ T) (hL : ∀ t, t < T → leaps (s * 10 + t) = lp s t) {S : Nat} (hS : S < 2 ^ T) (hO : OnOk on lp T S) (tt : Int32) {j : Nat} (hj : PK (fun i => S.testBit i) (vl lp T S s) T = some j) :
    ∀ i, j < i → i ≤ T → ∀ f, i < f → ∀ v, L_X1_firstOfBest_18 tt leaps on (nI s) (nI S) (vl lp T S s j) f v (nI i - 1) = some (nI j) := by
  have h1024 := pow_le hT
  have hsp := (PK_spec T).2 j hj
  intro i
  induction i with
  | zero => intro h; omega
  | succ i ih =>
    intro hji hi f hf v
    obtain ⟨f, rfl⟩ : ∃ f', f = f' + 1 := ⟨f - 1, by omega⟩
    have e0 : ∀ q, L_X1_firstOfBest_18 tt leaps on (nI s) (nI S) (vl lp T S s j) (f + 1) v q = B_X1_firstOfBest_18 tt leaps on (nI s) (nI S) (vl lp T S s j) (L_X1_firstOfBest_18 tt leaps on (nI s) (nI S) (vl lp T S s j) f) v q := fun _ => rfl
    have hkeep : i = j → L_X1_firstOfBest_18 tt leaps on (nI s) (nI S) (vl lp T S s j) f (nI j) (nI i - 1) = some (nI j) := by
      intro e
      subst e
      refine fb_keep hT hs hL hS hO tt i (by omega) ?_ f (by omega) (nI i)
      intro k hk hb
      have := (hsp.2.2 k (by omega) hb).2 hk
      rw [eqI]
      omega
    rw [predS, e0]
    unfold B_X1_firstOfBest_18 J_X1_firstOfBest_68
    rw [if_neg (nneg (by omega)), m1N]
    cases hb : S.testBit i with
    | false =>
      rw [if_pos (by rw [clr_same (by omega)]; exact hb)]
      have hij : i ≠ j := fun e => by
        subst e
        have h9 : S.testBit i = true := hsp.2.1
        rw [hb] at h9
        cases h9
      exact ih (by omega) (by omega) f (by omega) v
    | true =>
      have hlt := xor_lt (S := S) (by omega) (by omega) hb
      have hon := hO (S ^^^ 2 ^ i) hlt (xor_lt2 hS (by omega)) i (by omega) (by rw [tb_xor, hb]; simp)
      have hlp : m_X1_leap leaps (nI s) (nI i) = some (lp s i) := by
        unfold m_X1_leap
        simp (disch := omega) only [i10, mulN, addN, gN, grd_tt, cN]
        rw [hL i (by omega)]
      rw [if_neg (by rw [clr_same (by omega), hb]; decide), hlp, bd1_s, clr_bit (by omega) hb]
      simp (disch := omega) only [i10, mulN, addN, gN, grd_tt, cN]
      rw [hon]
      by_cases hij : i = j
      · subst hij
        rw [if_pos (show lp s i + TV lp T (S ^^^ 2 ^ i) (i + 1) = vl lp T S s i from rfl)]
        exact hkeep rfl
      · by_cases hv : lp s i + TV lp T (S ^^^ 2 ^ i) (i + 1) = vl lp T S s j
        · rw [if_pos hv]
          exact ih (by omega) (by omega) f (by omega) _
        · rw [if_neg hv]
          exact ih (by omega) (by omega) f (by omega) _
def pkB (lp : Nat → Nat → Int32) (T s S : Nat) : Nat := (PK (fun i => S.testBit i) (vl lp T S s) T).getD 0
def pkN (lp : Nat → Nat → Int32) (T s S : Nat) : Nat := (PK (fun i => S.testBit i) (lp s) T).getD 0
theorem first5 {leaps on : Ar} {lp : Nat → Nat → Int32} {T : Nat} (hT : T ≤ 10) (hB : lpB lp T) {s : Nat} (hs : s ≤ T) (hL : ∀ t, t < T → leaps (s * 10 + t) = lp s t) {S : Nat} (hS : S < 2 ^ T) (h0 : S ≠ 0) (hO : OnOk on lp T S) : m_X1_firstOfBest (nI T) leaps on (nI s) (nI S) = some (nI (pkB lp T s S)) := by
  unfold m_X1_firstOfBest
  obtain ⟨j, hj, hj2, -⟩ := PK_ne hS h0 (vl lp T S s)
  have e : TV lp T S s = vl lp T S s j := by rw [TV_eq hT hS s, hj]
  have e2 : pkB lp T s S = j := by unfold pkB; rw [hj]; rfl
  rw [least5 hT hB hs hL hS h0 hO, bd1_s, e, e2]
  exact fb_find hT hs hL hS hO (nI T) hj T hj2 (Nat.le_refl _) FU (by show _ < 4096; omega) 0
def pvN (a : Option Nat) : Int32 := match a with | none => 0 | some j => nI j
theorem no_loop {leaps : Ar} {lp : Nat → Nat → Int32} {T : Nat} (hT : T ≤ 10) (hB : lpB lp T) {s : Nat} (hs : s ≤ T) (hL : ∀ t, t < T → leaps (s * 10 + t) = lp s t) {S : Nat} (hS : S < 2 ^ T) :
    ∀ k i, i + k = T → ∀ f, k < f → L_X1_nearestOf_10 (nI T) leaps (nI s) (nI S) f (pvN (PK (fun i => S.testBit i) (lp s) i)) (pvM (lp s) (PK (fun i => S.testBit i) (lp s) i)) (nI i) = some (pvN (PK (fun i => S.testBit i) (lp s) T)) := by
  have h1024 := pow_le hT
  intro k
  induction k with
  | zero =>
    intro i hi f hf
    obtain ⟨f, rfl⟩ : ∃ f', f = f' + 1 := ⟨f - 1, by omega⟩
    have : i = T := by omega
    subst this
    show B_X1_nearestOf_10 (nI i) leaps (nI s) (nI S) (L_X1_nearestOf_10 (nI i) leaps (nI s) (nI S) f) _ _ _ = _
    unfold B_X1_nearestOf_10
    rw [if_pos (by rw [leN (by omega) (by omega)]; omega)]
  | succ k ih =>
    intro i hi f hf
    obtain ⟨f, rfl⟩ : ∃ f', f = f' + 1 := ⟨f - 1, by omega⟩
    have ih' := ih (i + 1) (by omega) f (by omega)
    show B_X1_nearestOf_10 (nI T) leaps (nI s) (nI S) (L_X1_nearestOf_10 (nI T) leaps (nI s) (nI S) f) _ _ _ = _
    unfold B_X1_nearestOf_10 J_X1_nearestOf_52
    have hlp : m_X1_leap leaps (nI s) (nI i) = some (lp s i) := by
      unfold m_X1_leap
      simp (disch := omega) only [i10, mulN, addN, gN, grd_tt, cN]
      rw [hL i (by omega)]
    rw [if_neg (by rw [leN (by omega) (by omega)]; omega), isIn_eq _ (by omega), bd1_s, bt_nI (by omega), hlp, bd1_s, i1, addN, bd1_s]
    cases hb : S.testBit i with
    | false =>
      rw [if_pos (show bi false = 0 from rfl)]
      have e : PK (fun i => S.testBit i) (lp s) (i + 1) = PK (fun i => S.testBit i) (lp s) i := by rw [PK, if_neg (by rw [hb]; decide)]
      rw [e] at ih'
      exact ih'
    | true =>
      rw [if_neg (show ¬ bi true = 0 by decide)]
      have hvb := hB s i hs (by omega)
      have e : PK (fun i => S.testBit i) (lp s) (i + 1) = (match PK (fun i => S.testBit i) (lp s) i with | none => some i | some j => if lp s i < lp s j then some i else some j) := by
        rw [PK, if_pos hb]
        rfl
      cases hp : PK (fun i => S.testBit i) (lp s) i with
      | none =>
        rw [hp] at e
        simp only at e
        rw [e] at ih'
        rw [if_neg (show ¬ pvM (lp s) none ≤ lp s i by show ¬ (201 : Int32) ≤ _; rw [leI, show (201 : Int32).toInt = 201 from rfl]; omega)]
        exact ih'
      | some j =>
        rw [hp] at e
        simp only at e
        by_cases hlt2 : lp s i < lp s j
        · rw [if_pos hlt2] at e
          rw [e] at ih'
          rw [if_neg (show ¬ pvM (lp s) (some j) ≤ lp s i by show ¬ lp s j ≤ _; rw [leI]; rw [ltI] at hlt2; omega)]
          exact ih'
        · rw [if_neg hlt2] at e
          rw [e] at ih'
          rw [if_pos (show pvM (lp s) (some j) ≤ lp s i by show lp s j ≤ _; rw [leI]; rw [ltI] at hlt2; omega)]
          exact ih'
theorem nearest5 {leaps : Ar} {lp : Nat → Nat → Int32} {T : Nat} (hT : T ≤ 10) (hB : lpB lp T) {s : Nat} (hs : s ≤ T) (hL : ∀ t, t < T → leaps (s * 10 + t) = lp s t) {S : Nat} (hS : S < 2 ^ T) (h0 : S ≠ 0) : m_X1_nearestOf (nI T) leaps (nI s) (nI S) = some (nI (pkN lp T s S)) := by
  have h := no_loop hT hB hs hL hS T 0 (by omega) FU (by show _ < 4096; omega)
  unfold m_X1_nearestOf
  refine Eq.trans h ?_
  obtain ⟨j, hj, hj2, -⟩ := PK_ne hS h0 (lp s)
  unfold pkN
  rw [hj]
  rfl
/-! ===== an ORDER, step by step ===== -/
def sq (pick : Nat → Nat → Nat) (T : Nat) : Nat → Nat × Nat
  | 0 => (0, 2 ^ T - 1)
  | i + 1 => (pick (sq pick T i).1 (sq pick T i).2 + 1, (sq pick T i).2 ^^^ 2 ^ (pick (sq pick T i).1 (sq pick T i).2))
def nx (pick : Nat → Nat → Nat) (T i : Nat) : Nat := pick (sq pick T i).1 (sq pick T i).2
def smI (lp : Nat → Nat → Int32) (pick : Nat → Nat → Nat) (T : Nat) : Nat → Int32
  | 0 => 0
  | i + 1 => smI lp pick T i + lp (sq pick T i).1 (nx pick T i)
/-- a choice is of the set -/
def pkOk (pick : Nat → Nat → Nat) (T : Nat) : Prop := ∀ s S, S < 2 ^ T → S ≠ 0 → pick s S < T ∧ S.testBit (pick s S) = true
theorem pkB_ok {lp : Nat → Nat → Int32} {T : Nat} : pkOk (pkB lp T) T := by
  intro s S hS h0
  obtain ⟨j, hj, hj2, hj3⟩ := PK_ne hS h0 (vl lp T S s)
  unfold pkB
  rw [hj]
  exact ⟨hj2, hj3⟩
theorem pkN_ok {lp : Nat → Nat → Int32} {T : Nat} : pkOk (pkN lp T) T := by
  intro s S hS h0
  obtain ⟨j, hj, hj2, hj3⟩ := PK_ne hS h0 (lp s)
  unfold pkN
  rw [hj]
  exact ⟨hj2, hj3⟩
theorem sq_ok {pick : Nat → Nat → Nat} {T : Nat} (hp : pkOk pick T) : ∀ i, i ≤ T → (sq pick T i).1 ≤ T ∧ (sq pick T i).2 < 2 ^ T ∧ cnt (fun k => (sq pick T i).2.testBit k) T + i = T := by
  intro i
  induction i with
  | zero =>
    intro _
    refine ⟨Nat.zero_le _, ?_, ?_⟩
    · show 2 ^ T - 1 < 2 ^ T
      have : 1 ≤ 2 ^ T := Nat.one_le_two_pow
      omega
    · have : ∀ k, k ≤ T → cnt (fun k => (2 ^ T - 1).testBit k) k = k := by
        intro k
        induction k with
        | zero => intro _; rfl
        | succ k ih => intro hk; rw [cnt, ih (by omega), tb_full, decide_eq_true (by omega)]; rfl
      show cnt (fun k => (2 ^ T - 1).testBit k) T + 0 = T
      rw [this T (Nat.le_refl _)]
      rfl
  | succ i ih =>
    intro hi
    obtain ⟨h1, h2, h3⟩ := ih (by omega)
    have h0 : (sq pick T i).2 ≠ 0 := by
      intro e
      rw [e, cnt_zero T (fun k _ => by simp)] at h3
      omega
    obtain ⟨h4, h5⟩ := hp (sq pick T i).1 (sq pick T i).2 h2 h0
    refine ⟨h4, xor_lt2 h2 h4, ?_⟩
    have h6 := cnt_add (f := fun k => ((sq pick T i).2 ^^^ 2 ^ (nx pick T i)).testBit k) (g := fun k => (sq pick T i).2.testBit k) (j := nx pick T i) T h4 (by
      show ((sq pick T i).2 ^^^ 2 ^ (nx pick T i)).testBit (nx pick T i) = false
      rw [tb_xor, show (sq pick T i).2.testBit (nx pick T i) = true from h5]
      simp) (fun k _ => by
      show (sq pick T i).2.testBit k = (decide (k = nx pick T i) || ((sq pick T i).2 ^^^ 2 ^ (nx pick T i)).testBit k)
      rw [tb_xor]
      by_cases hk : k = nx pick T i
      · subst hk; rw [show (sq pick T i).2.testBit (nx pick T i) = true from h5]; simp
      · have : ¬ nx pick T i = k := fun e => hk e.symm
        simp [hk, this])
    show cnt (fun k => ((sq pick T i).2 ^^^ 2 ^ (nx pick T i)).testBit k) T + (i + 1) = T
    omega
theorem sq_ne {pick : Nat → Nat → Nat} {T : Nat} (hp : pkOk pick T) {i : Nat} (hi : i < T) : (sq pick T i).2 ≠ 0 := by
  obtain ⟨h1, h2, h3⟩ := sq_ok hp i (by omega)
  intro e
  rw [e, cnt_zero T (fun k _ => by simp)] at h3
  omega
theorem nx_ok {pick : Nat → Nat → Nat} {T : Nat} (hp : pkOk pick T) {i : Nat} (hi : i < T) : nx pick T i < T ∧ (sq pick T i).2.testBit (nx pick T i) = true := hp _ _ (sq_ok hp i (by omega)).2.1 (sq_ne hp hi)
theorem pn_loop {leaps on : Ar} {lp : Nat → Nat → Int32} {T : Nat} (hT : T ≤ 10) (hB : lpB lp T) (hL : ∀ s t, s ≤ T → t < T → leaps (s * 10 + t) = lp s t) :
    ∀ k i, i + k = T → ∀ f, k < f → ∀ tr : Ar, (∀ j, j < i → tr j = nI (nx (pkN lp T) T j)) → ∃ tr', L_X1_plan_nn_15 (nI T) leaps on 0 f (nI (sq (pkN lp T) T i).1) (nI (sq (pkN lp T) T i).2) (nI i) (nI i) (smI lp (pkN lp T) T i) tr = some (nI T, smI lp (pkN lp T) T T, tr') ∧ ∀ j, j < T → tr' j = nI (nx (pkN lp T) T j) := by
  have h1024 := pow_le hT
  intro k
  induction k with
  | zero =>
    intro i hi f hf tr htr
    obtain ⟨f, rfl⟩ : ∃ f', f = f' + 1 := ⟨f - 1, by omega⟩
    have : i = T := by omega
    subst this
    refine ⟨tr, ?_, htr⟩
    show B_X1_plan_nn_15 (nI i) leaps on 0 (L_X1_plan_nn_15 (nI i) leaps on 0 f) _ _ _ _ _ _ = _
    unfold B_X1_plan_nn_15
    rw [if_pos (by rw [leN (by omega) (by omega)]; omega)]
  | succ k ih =>
    intro i hi f hf tr htr
    obtain ⟨f, rfl⟩ : ∃ f', f = f' + 1 := ⟨f - 1, by omega⟩
    obtain ⟨a1, a2, -⟩ := sq_ok (pkN_ok (lp := lp) (T := T)) i (by omega)
    obtain ⟨b1, b2⟩ := nx_ok (pkN_ok (lp := lp) (T := T)) (show i < T by omega)
    have hlp : m_X1_leap leaps (nI (sq (pkN lp T) T i).1) (nI (nx (pkN lp T) T i)) = some (lp (sq (pkN lp T) T i).1 (nx (pkN lp T) T i)) := by
      unfold m_X1_leap
      simp (disch := omega) only [i10, mulN, addN, gN, grd_tt, cN]
      rw [hL _ _ a1 b1]
    have e0 : L_X1_plan_nn_15 (nI T) leaps on 0 (f + 1) (nI (sq (pkN lp T) T i).1) (nI (sq (pkN lp T) T i).2) (nI i) (nI i) (smI lp (pkN lp T) T i) tr = L_X1_plan_nn_15 (nI T) leaps on 0 f (nI (sq (pkN lp T) T (i + 1)).1) (nI (sq (pkN lp T) T (i + 1)).2) (nI (i + 1)) (nI (i + 1)) (smI lp (pkN lp T) T (i + 1)) (upd tr i (nI (nx (pkN lp T) T i))) := by
      show B_X1_plan_nn_15 (nI T) leaps on 0 (L_X1_plan_nn_15 (nI T) leaps on 0 f) _ _ _ _ _ _ = _
      unfold B_X1_plan_nn_15 J_X1_plan_nn_45
      rw [if_neg (by rw [leN (by omega) (by omega)]; omega), if_pos rfl, nearest5 hT hB a1 (fun t ht => hL _ t a1 ht) a2 (sq_ne pkN_ok (by omega)), bd1_s]
      show bd1 (m_X1_leap leaps (nI (sq (pkN lp T) T i).1) (nI (nx (pkN lp T) T i))) _ = _
      rw [hlp, bd1_s]
      unfold m_X2_append
      rw [if_pos (by rw [i10, ltN (by omega) (by omega)]; omega), gN (by omega) (by omega), grd_tt, bd3_s, cN (by omega)]
      show L_X1_plan_nn_15 (nI T) leaps on 0 f (nI (nx (pkN lp T) T i) + 1) (nI (sq (pkN lp T) T i).2 &&& ((1 : Int32) <<< (nI (nx (pkN lp T) T i) &&& 31) ^^^ (-1))) (nI i + 1) (nI i + 1) (smI lp (pkN lp T) T i + lp (sq (pkN lp T) T i).1 (nx (pkN lp T) T i)) (upd tr i (nI (nx (pkN lp T) T i))) = _
      rw [clr_bit (by omega) b2, i1, addN, addN]
      rfl
    rw [e0]
    refine ih (i + 1) (by omega) f (by omega) _ ?_
    intro j hj
    by_cases hji : j = i
    · subst hji; rw [upd_s]
    · rw [upd_n _ _ hji]; exact htr j (by omega)
theorem pb_loop {leaps on : Ar} {lp : Nat → Nat → Int32} {T : Nat} (hT : T ≤ 10) (hB : lpB lp T) (hL : ∀ s t, s ≤ T → t < T → leaps (s * 10 + t) = lp s t) (hO : OnOk on lp T (2 ^ T)) :
    ∀ k i, i + k = T → ∀ f, k < f → ∀ tr : Ar, (∀ j, j < i → tr j = nI (nx (pkB lp T) T j)) → ∃ tr', L_X1_plan_nb_15 (nI T) leaps on 1 f (nI (sq (pkB lp T) T i).1) (nI (sq (pkB lp T) T i).2) (nI i) (nI i) (smI lp (pkB lp T) T i) tr = some (nI T, smI lp (pkB lp T) T T, tr') ∧ ∀ j, j < T → tr' j = nI (nx (pkB lp T) T j) := by
  have h1024 := pow_le hT
  intro k
  induction k with
  | zero =>
    intro i hi f hf tr htr
    obtain ⟨f, rfl⟩ : ∃ f', f = f' + 1 := ⟨f - 1, by omega⟩
    have : i = T := by omega
    subst this
    refine ⟨tr, ?_, htr⟩
    show B_X1_plan_nb_15 (nI i) leaps on 1 (L_X1_plan_nb_15 (nI i) leaps on 1 f) _ _ _ _ _ _ = _
    unfold B_X1_plan_nb_15
    rw [if_pos (by rw [leN (by omega) (by omega)]; omega)]
  | succ k ih =>
    intro i hi f hf tr htr
    obtain ⟨f, rfl⟩ : ∃ f', f = f' + 1 := ⟨f - 1, by omega⟩
    obtain ⟨a1, a2, -⟩ := sq_ok (pkB_ok (lp := lp) (T := T)) i (by omega)
    obtain ⟨b1, b2⟩ := nx_ok (pkB_ok (lp := lp) (T := T)) (show i < T by omega)
    have hlp : m_X1_leap leaps (nI (sq (pkB lp T) T i).1) (nI (nx (pkB lp T) T i)) = some (lp (sq (pkB lp T) T i).1 (nx (pkB lp T) T i)) := by
      unfold m_X1_leap
      simp (disch := omega) only [i10, mulN, addN, gN, grd_tt, cN]
      rw [hL _ _ a1 b1]
    have e0 : L_X1_plan_nb_15 (nI T) leaps on 1 (f + 1) (nI (sq (pkB lp T) T i).1) (nI (sq (pkB lp T) T i).2) (nI i) (nI i) (smI lp (pkB lp T) T i) tr = L_X1_plan_nb_15 (nI T) leaps on 1 f (nI (sq (pkB lp T) T (i + 1)).1) (nI (sq (pkB lp T) T (i + 1)).2) (nI (i + 1)) (nI (i + 1)) (smI lp (pkB lp T) T (i + 1)) (upd tr i (nI (nx (pkB lp T) T i))) := by
      show B_X1_plan_nb_15 (nI T) leaps on 1 (L_X1_plan_nb_15 (nI T) leaps on 1 f) _ _ _ _ _ _ = _
      unfold B_X1_plan_nb_15 J_X1_plan_nb_45
      rw [if_neg (by rw [leN (by omega) (by omega)]; omega), if_neg (by decide), first5 hT hB a1 (fun t ht => hL _ t a1 ht) a2 (sq_ne pkB_ok (by omega)) (fun S' h1 h2 => hO S' h2 h2), bd1_s]
      show bd1 (m_X1_leap leaps (nI (sq (pkB lp T) T i).1) (nI (nx (pkB lp T) T i))) _ = _
      rw [hlp, bd1_s]
      unfold m_X2_append
      rw [if_pos (by rw [i10, ltN (by omega) (by omega)]; omega), gN (by omega) (by omega), grd_tt, bd3_s, cN (by omega)]
      show L_X1_plan_nb_15 (nI T) leaps on 1 f (nI (nx (pkB lp T) T i) + 1) (nI (sq (pkB lp T) T i).2 &&& ((1 : Int32) <<< (nI (nx (pkB lp T) T i) &&& 31) ^^^ (-1))) (nI i + 1) (nI i + 1) (smI lp (pkB lp T) T i + lp (sq (pkB lp T) T i).1 (nx (pkB lp T) T i)) (upd tr i (nI (nx (pkB lp T) T i))) = _
      rw [clr_bit (by omega) b2, i1, addN, addN]
      rfl
    rw [e0]
    refine ih (i + 1) (by omega) f (by omega) _ ?_
    intro j hj
    by_cases hji : j = i
    · subst hji; rw [upd_s]
    · rw [upd_n _ _ hji]; exact htr j (by omega)
theorem planNearest5 {leaps : Ar} {lp : Nat → Nat → Int32} {T : Nat} (hT : T ≤ 10) (hB : lpB lp T) (hL : ∀ s t, s ≤ T → t < T → leaps (s * 10 + t) = lp s t) (on : Ar) (ln sm : Int32) (tr : Ar) : ∃ tr', m_X1_planNearest (nI T) leaps on ln sm tr = some (nI T, smI lp (pkN lp T) T T, tr') ∧ ∀ j, j < T → tr' j = nI (nx (pkN lp T) T j) := by
  obtain ⟨tr', h1, h2⟩ := pn_loop hT hB hL (on := on) T 0 (by omega) FU (by show _ < 4096; omega) tr (fun j hj => by omega)
  refine ⟨tr', ?_, h2⟩
  unfold m_X1_planNearest m_X1_plan_nn m_X2_clear
  rw [bd2_s, all_tries T hT, bd1_s]
  have h3 : L_X1_plan_nn_15 (nI T) leaps on 0 FU 0 (nI (2 ^ T - 1)) 0 0 0 tr = some (nI T, smI lp (pkN lp T) T T, tr') := h1
  rw [h3, bd3_s]
theorem planBest5 {leaps : Ar} {lp : Nat → Nat → Int32} {T : Nat} (hT : T ≤ 10) (hB : lpB lp T) (hL : ∀ s t, s ≤ T → t < T → leaps (s * 10 + t) = lp s t) (on : Ar) (hz : ∀ u, u < 10 → on u = 0) (ln sm : Int32) (tr : Ar) : ∃ on' tr', m_X1_planBest (nI T) 0 leaps on ln sm tr = some (1, on', nI T, smI lp (pkB lp T) T T, tr') ∧ (∀ u, u < 10 → on' u = 0) ∧ ∀ j, j < T → tr' j = nI (nx (pkB lp T) T j) := by
  obtain ⟨on', g1, g2, g3⟩ := weigh5 hT hB hL on hz
  obtain ⟨tr', h1, h2⟩ := pb_loop hT hB hL g2 T 0 (by omega) FU (by show _ < 4096; omega) tr (fun j hj => by omega)
  refine ⟨on', tr', ?_, g3, h2⟩
  unfold m_X1_planBest m_X1_plan_nb m_X2_clear
  rw [if_pos rfl, g1, bd1_s, bd2_s, all_tries T hT, bd1_s]
  have h3 : L_X1_plan_nb_15 (nI T) leaps on' 1 FU 0 (nI (2 ^ T - 1)) 0 0 0 tr = some (nI T, smI lp (pkB lp T) T T, tr') := h1
  rw [h3, bd3_s]
