/-! ===== the least TIME through a set ===== -/
def TVf (lp : Nat → Nat → Int32) (T : Nat) : Nat → Nat → Nat → Int32
  | 0, _, _ => 0
  | k + 1, S, s => match PK (fun i => S.testBit i) (fun i => lp s i + TVf lp T k (S ^^^ 2 ^ i) (i + 1)) T with
    | none => 0
    | some j => lp s j + TVf lp T k (S ^^^ 2 ^ j) (j + 1)
theorem TVf_0 {lp : Nat → Nat → Int32} {T : Nat} : ∀ k s, TVf lp T k 0 s = 0 := by
  intro k s
  cases k with
  | zero => rfl
  | succ k =>
    have : PK (fun i => (0 : Nat).testBit i) (fun i => lp s i + TVf lp T k (0 ^^^ 2 ^ i) (i + 1)) T = none := PK_none fun i _ => by simp
    show (match PK (fun i => (0 : Nat).testBit i) (fun i => lp s i + TVf lp T k (0 ^^^ 2 ^ i) (i + 1)) T with | none => (0 : Int32) | some j => lp s j + TVf lp T k (0 ^^^ 2 ^ j) (j + 1)) = 0
    rw [this]
theorem TVf_ind {lp : Nat → Nat → Int32} {T : Nat} (hT : T ≤ 10) : ∀ b S, S ≤ b → S < 2 ^ T → ∀ k k' s, S ≤ k → S ≤ k' → TVf lp T k S s = TVf lp T k' S s := by
  have h1024 := pow_le hT
  intro b
  induction b with
  | zero =>
    intro S hb hS k k' s _ _
    have : S = 0 := by omega
    subst this
    rw [TVf_0, TVf_0]
  | succ b ih =>
    intro S hb hS k k' s hk hk'
    rcases Nat.eq_zero_or_pos S with h0 | h0
    · subst h0; rw [TVf_0, TVf_0]
    · obtain ⟨k, rfl⟩ : ∃ q, k = q + 1 := ⟨k - 1, by omega⟩
      obtain ⟨k', rfl⟩ : ∃ q, k' = q + 1 := ⟨k' - 1, by omega⟩
      have hv : ∀ i, i < T → S.testBit i = true → TVf lp T k (S ^^^ 2 ^ i) (i + 1) = TVf lp T k' (S ^^^ 2 ^ i) (i + 1) := by
        intro i hi hb2
        have hlt := xor_lt (by omega) (by omega) hb2
        exact ih (S ^^^ 2 ^ i) (by omega) (xor_lt2 hS hi) k k' (i + 1) (by omega) (by omega)
      have e : PK (fun i => S.testBit i) (fun i => lp s i + TVf lp T k (S ^^^ 2 ^ i) (i + 1)) T = PK (fun i => S.testBit i) (fun i => lp s i + TVf lp T k' (S ^^^ 2 ^ i) (i + 1)) T := PK_ext2 T (fun j hj ho => by rw [hv j hj ho])
      show (match PK (fun i => S.testBit i) (fun i => lp s i + TVf lp T k (S ^^^ 2 ^ i) (i + 1)) T with | none => (0 : Int32) | some j => lp s j + TVf lp T k (S ^^^ 2 ^ j) (j + 1)) = (match PK (fun i => S.testBit i) (fun i => lp s i + TVf lp T k' (S ^^^ 2 ^ i) (i + 1)) T with | none => (0 : Int32) | some j => lp s j + TVf lp T k' (S ^^^ 2 ^ j) (j + 1))
      rw [e]
      cases hp : PK (fun i => S.testBit i) (fun i => lp s i + TVf lp T k' (S ^^^ 2 ^ i) (i + 1)) T with
      | none => rfl
      | some j =>
        have hs := (PK_spec T).2 j hp
        simp only
        rw [hv j hs.1 hs.2.1]
def TV (lp : Nat → Nat → Int32) (T S s : Nat) : Int32 := TVf lp T S S s
def vl (lp : Nat → Nat → Int32) (T S s i : Nat) : Int32 := lp s i + TV lp T (S ^^^ 2 ^ i) (i + 1)
theorem TV_0 {lp : Nat → Nat → Int32} {T s : Nat} : TV lp T 0 s = 0 := rfl
theorem TV_eq {lp : Nat → Nat → Int32} {T : Nat} (hT : T ≤ 10) {S : Nat} (hS : S < 2 ^ T) (s : Nat) : TV lp T S s = match PK (fun i => S.testBit i) (vl lp T S s) T with
    | none => 0
    | some j => vl lp T S s j := by
  have h1024 := pow_le hT
  rcases Nat.eq_zero_or_pos S with h0 | h0
  · subst h0
    have : PK (fun i => (0 : Nat).testBit i) (vl lp T 0 s) T = none := PK_none fun i _ => by simp
    rw [this]
    rfl
  · obtain ⟨k, hk⟩ : ∃ q, S = q + 1 := ⟨S - 1, by omega⟩
    have hv : ∀ i, i < T → S.testBit i = true → TVf lp T k (S ^^^ 2 ^ i) (i + 1) = TV lp T (S ^^^ 2 ^ i) (i + 1) := by
      intro i hi hb2
      have hlt := xor_lt (by omega) (by omega) hb2
      exact TVf_ind hT (S ^^^ 2 ^ i) (S ^^^ 2 ^ i) (Nat.le_refl _) (xor_lt2 hS hi) k (S ^^^ 2 ^ i) (i + 1) (by omega) (Nat.le_refl _)
    have e : PK (fun i => S.testBit i) (fun i => lp s i + TVf lp T k (S ^^^ 2 ^ i) (i + 1)) T = PK (fun i => S.testBit i) (vl lp T S s) T := PK_ext2 T (fun j hj ho => by rw [hv j hj ho]; rfl)
    have e2 : TV lp T S s = (match PK (fun i => S.testBit i) (fun i => lp s i + TVf lp T k (S ^^^ 2 ^ i) (i + 1)) T with | none => (0 : Int32) | some j => lp s j + TVf lp T k (S ^^^ 2 ^ j) (j + 1)) := by
      unfold TV
      rw [show TVf lp T S S s = TVf lp T (k + 1) S s by rw [← hk]]
      rfl
    rw [e2, e]
    cases hp : PK (fun i => S.testBit i) (vl lp T S s) T with
    | none => rfl
    | some j =>
      have hs := (PK_spec T).2 j hp
      simp only
      rw [hv j hs.1 hs.2.1]
      rfl
def lpB (lp : Nat → Nat → Int32) (T : Nat) : Prop := ∀ s t, s ≤ T → t < T → 0 ≤ (lp s t).toInt ∧ (lp s t).toInt ≤ 20
theorem add_b {a b : Int32} {c d : Int} (hc : c < 100000) (hd : d < 100000) (ha : 0 ≤ a.toInt ∧ a.toInt ≤ c) (hb : 0 ≤ b.toInt ∧ b.toInt ≤ d) : (a + b).toInt = a.toInt + b.toInt := by
  rw [Int32.toInt_add, show (2 ^ 32 : Nat) = 4294967296 from rfl, bm_small (by omega) (by omega)]
theorem TV_b {lp : Nat → Nat → Int32} {T : Nat} (hT : T ≤ 10) (hB : lpB lp T) : ∀ b S, S ≤ b → S < 2 ^ T → ∀ s, s ≤ T → 0 ≤ (TV lp T S s).toInt ∧ (TV lp T S s).toInt ≤ 20 * (S : Int) := by
  have h1024 := pow_le hT
  intro b
  induction b with
  | zero =>
    intro S hb hS s hs
    have : S = 0 := by omega
    subst this
    rw [TV_0]
    exact ⟨by decide, by decide⟩
  | succ b ih =>
    intro S hb hS s hs
    rw [TV_eq hT hS s]
    cases hp : PK (fun i => S.testBit i) (vl lp T S s) T with
    | none => exact ⟨(show 0 ≤ (0 : Int32).toInt by decide), by show (0 : Int32).toInt ≤ _; rw [show (0 : Int32).toInt = 0 from rfl]; omega⟩
    | some j =>
      have h9 := (PK_spec T).2 j hp
      have hlt := xor_lt (S := S) (by omega) (by have := h9.1; omega) h9.2.1
      have h1 := hB s j hs h9.1
      have h2 := ih (S ^^^ 2 ^ j) (by omega) (xor_lt2 hS h9.1) (j + 1) (by have := h9.1; omega)
      show 0 ≤ (lp s j + TV lp T (S ^^^ 2 ^ j) (j + 1)).toInt ∧ (lp s j + TV lp T (S ^^^ 2 ^ j) (j + 1)).toInt ≤ _
      rw [add_b (c := 20) (d := 20 * ((S ^^^ 2 ^ j : Nat) : Int)) (by omega) (by omega) h1 h2]
      omega
theorem vl_b {lp : Nat → Nat → Int32} {T : Nat} (hT : T ≤ 10) (hB : lpB lp T) {S : Nat} (hS : S < 2 ^ T) {s i : Nat} (hs : s ≤ T) (hi : i < T) (hb : S.testBit i = true) : 0 ≤ (vl lp T S s i).toInt ∧ (vl lp T S s i).toInt ≤ 20 * (S : Int) := by
  have h1024 := pow_le hT
  have hlt := xor_lt (S := S) (by omega) (by omega) hb
  have h1 := hB s i hs hi
  have h2 := TV_b hT hB (S ^^^ 2 ^ i) (S ^^^ 2 ^ i) (Nat.le_refl _) (xor_lt2 hS hi) (i + 1) (by omega)
  unfold vl
  rw [add_b (c := 20) (d := 20 * ((S ^^^ 2 ^ i : Nat) : Int)) (by omega) (by omega) h1 h2]
  omega
/-! a set's members, counted: a way through all of them takes at most 20 for each -/
def cb (S : Nat) : Nat → Nat
  | 0 => 0
  | i + 1 => cb S i + (if S.testBit i = true then 1 else 0)
theorem cb_le (S : Nat) : ∀ T, cb S T ≤ T := by
  intro T
  induction T with
  | zero => exact Nat.le_refl _
  | succ T ih =>
    show cb S T + (if S.testBit T = true then 1 else 0) ≤ T + 1
    split <;> omega
theorem cb_hi (S j : Nat) : ∀ T, T ≤ j → cb (S ^^^ 2 ^ j) T = cb S T := by
  intro T
  induction T with
  | zero => intro _; rfl
  | succ T ih =>
    intro h
    have e : (S ^^^ 2 ^ j).testBit T = S.testBit T := by
      rw [tb_xor, show decide (j = T) = false from decide_eq_false (by omega)]
      simp
    show cb (S ^^^ 2 ^ j) T + (if (S ^^^ 2 ^ j).testBit T = true then 1 else 0) = cb S T + (if S.testBit T = true then 1 else 0)
    rw [ih (by omega), e]
theorem cb_xor {S j : Nat} (hb : S.testBit j = true) : ∀ T, j < T → cb (S ^^^ 2 ^ j) T + 1 = cb S T := by
  intro T
  induction T with
  | zero => intro h; omega
  | succ T ih =>
    intro h
    show cb (S ^^^ 2 ^ j) T + (if (S ^^^ 2 ^ j).testBit T = true then 1 else 0) + 1 = cb S T + (if S.testBit T = true then 1 else 0)
    by_cases hj : j = T
    · subst hj
      have e : (S ^^^ 2 ^ j).testBit j = false := by rw [tb_xor, hb]; simp
      rw [cb_hi S j j (Nat.le_refl _), e, hb]
      rfl
    · have e : (S ^^^ 2 ^ j).testBit T = S.testBit T := by
        rw [tb_xor, show decide (j = T) = false from decide_eq_false hj]
        simp
      have := ih (by omega)
      rw [e]
      omega
theorem TV_c {lp : Nat → Nat → Int32} {T : Nat} (hT : T ≤ 10) (hB : lpB lp T) : ∀ b S, S ≤ b → S < 2 ^ T → ∀ s, s ≤ T → 0 ≤ (TV lp T S s).toInt ∧ (TV lp T S s).toInt ≤ 20 * ((cb S T : Nat) : Int) := by
  have h1024 := pow_le hT
  intro b
  induction b with
  | zero =>
    intro S hb hS s hs
    have : S = 0 := by omega
    subst this
    rw [TV_0]
    exact ⟨by decide, by rw [show (0 : Int32).toInt = 0 from rfl]; omega⟩
  | succ b ih =>
    intro S hb hS s hs
    rw [TV_eq hT hS s]
    cases hp : PK (fun i => S.testBit i) (vl lp T S s) T with
    | none => exact ⟨(show 0 ≤ (0 : Int32).toInt by decide), by show (0 : Int32).toInt ≤ _; rw [show (0 : Int32).toInt = 0 from rfl]; omega⟩
    | some j =>
      have h9 := (PK_spec T).2 j hp
      have hlt := xor_lt (S := S) (by omega) (by have := h9.1; omega) h9.2.1
      have hcx := cb_xor (S := S) (j := j) h9.2.1 T h9.1
      have hcl := cb_le S T
      have h1 := hB s j hs h9.1
      have h2 := ih (S ^^^ 2 ^ j) (by omega) (xor_lt2 hS h9.1) (j + 1) (by have := h9.1; omega)
      show 0 ≤ (lp s j + TV lp T (S ^^^ 2 ^ j) (j + 1)).toInt ∧ (lp s j + TV lp T (S ^^^ 2 ^ j) (j + 1)).toInt ≤ _
      rw [add_b (c := 20) (d := 20 * ((cb (S ^^^ 2 ^ j) T : Nat) : Int)) (by omega) (by omega) h1 h2]
      omega
theorem vl_c {lp : Nat → Nat → Int32} {T : Nat} (hT : T ≤ 10) (hB : lpB lp T) {S : Nat} (hS : S < 2 ^ T) {s i : Nat} (hs : s ≤ T) (hi : i < T) (hb : S.testBit i = true) : 0 ≤ (vl lp T S s i).toInt ∧ (vl lp T S s i).toInt ≤ 200 := by
  have h1024 := pow_le hT
  have hcx := cb_xor hb T hi
  have hcl := cb_le S T
  have h1 := hB s i hs hi
  have h2 := TV_c hT hB (S ^^^ 2 ^ i) (S ^^^ 2 ^ i) (Nat.le_refl _) (xor_lt2 hS hi) (i + 1) (by omega)
  unfold vl
  rw [add_b (c := 20) (d := 20 * ((cb (S ^^^ 2 ^ i) T : Nat) : Int)) (by omega) (by omega) h1 h2]
  omega
/-- what is known of the class's table -/
def OnOk (on : Ar) (lp : Nat → Nat → Int32) (T b : Nat) : Prop := ∀ S, S < b → S < 2 ^ T → ∀ t, t < T → S.testBit t = false → on (S * 10 + t) = TV lp T S (t + 1)
def pvM (fr : Nat → Int32) (a : Option Nat) : Int32 := match a with | none => 201 | some j => fr j
theorem lt5_loop {leaps on : Ar} {lp : Nat → Nat → Int32} {T : Nat} (hT : T ≤ 10) (hB : lpB lp T) {s : Nat} (hs : s ≤ T) (hL : ∀ t, t < T → leaps (s * 10 + t) = lp s t) {S : Nat} (hS : S < 2 ^ T) (hO : OnOk on lp T S) :
    ∀ k i, i + k = T → ∀ f, k < f → L_X1_leastThrough_7 (nI T) leaps on (nI s) (nI S) f (pvM (vl lp T S s) (PK (fun i => S.testBit i) (vl lp T S s) i)) (nI i) = some (pvM (vl lp T S s) (PK (fun i => S.testBit i) (vl lp T S s) T)) := by
  have h1024 := pow_le hT
  intro k
  induction k with
  | zero =>
    intro i hi f hf
    obtain ⟨f, rfl⟩ : ∃ f', f = f' + 1 := ⟨f - 1, by omega⟩
    have : i = T := by omega
    subst this
    show B_X1_leastThrough_7 (nI i) leaps on (nI s) (nI S) (L_X1_leastThrough_7 (nI i) leaps on (nI s) (nI S) f) _ _ = _
    unfold B_X1_leastThrough_7
    rw [if_pos (by rw [leN (by omega) (by omega)]; omega)]
  | succ k ih =>
    intro i hi f hf
    obtain ⟨f, rfl⟩ : ∃ f', f = f' + 1 := ⟨f - 1, by omega⟩
    have ih' := ih (i + 1) (by omega) f (by omega)
    show B_X1_leastThrough_7 (nI T) leaps on (nI s) (nI S) (L_X1_leastThrough_7 (nI T) leaps on (nI s) (nI S) f) _ _ = _
    unfold B_X1_leastThrough_7
    rw [if_neg (by rw [leN (by omega) (by omega)]; omega)]
    by_cases hb : S.testBit i = false
    · rw [if_pos (by rw [and_bit S (by omega)]; exact hb)]
      have e : PK (fun i => S.testBit i) (vl lp T S s) (i + 1) = PK (fun i => S.testBit i) (vl lp T S s) i := by rw [PK, if_neg (by rw [hb]; decide)]
      rw [e] at ih'
      unfold J_X1_leastThrough_68
      rw [i1, addN]
      exact ih'
    · have hb' : S.testBit i = true := by simpa using hb
      have hlt := xor_lt (S := S) (by omega) (by omega) hb'
      have hx2 := xor_lt2 hS (show i < T by omega)
      rw [if_neg (by rw [and_bit S (by omega)]; exact hb), xor_bit S (by omega)]
      have hon := hO (S ^^^ 2 ^ i) hlt hx2 i (by omega) (by rw [tb_xor, hb']; simp)
      simp (disch := omega) only [i10, mulN, addN, gN, grd_tt, cN]
      rw [hL i (by omega), hon, bd1_s]
      show (if pvM (vl lp T S s) (PK (fun i => S.testBit i) (vl lp T S s) i) ≤ vl lp T S s i then _ else J_X1_leastThrough_68 _ _ _ _ _ _ (vl lp T S s i) _) = _
      have hvb := vl_c hT hB hS hs (show i < T by omega) hb'
      have e : PK (fun i => S.testBit i) (vl lp T S s) (i + 1) = (match PK (fun i => S.testBit i) (vl lp T S s) i with | none => some i | some j => if vl lp T S s i < vl lp T S s j then some i else some j) := by
        rw [PK, if_pos hb']
        rfl
      unfold J_X1_leastThrough_68
      rw [i1, addN]
      cases hp : PK (fun i => S.testBit i) (vl lp T S s) i with
      | none =>
        rw [hp] at e
        simp only at e
        rw [e] at ih'
        rw [if_neg (show ¬ pvM (vl lp T S s) none ≤ vl lp T S s i by show ¬ (201 : Int32) ≤ _; rw [leI, show (201 : Int32).toInt = 201 from rfl]; omega)]
        exact ih'
      | some j =>
        rw [hp] at e
        simp only at e
        by_cases hlt2 : vl lp T S s i < vl lp T S s j
        · rw [if_pos hlt2] at e
          rw [e] at ih'
          rw [if_neg (show ¬ pvM (vl lp T S s) (some j) ≤ vl lp T S s i by show ¬ vl lp T S s j ≤ _; rw [leI]; rw [ltI] at hlt2; omega)]
          exact ih'
        · rw [if_neg hlt2] at e
          rw [e] at ih'
          rw [if_pos (show pvM (vl lp T S s) (some j) ≤ vl lp T S s i by show vl lp T S s j ≤ _; rw [leI]; rw [ltI] at hlt2; omega)]
          exact ih'
theorem PK_ne {S T : Nat} (hS : S < 2 ^ T) (h0 : S ≠ 0) (fr : Nat → Int32) : ∃ j, PK (fun i => S.testBit i) fr T = some j ∧ j < T ∧ S.testBit j = true := by
  cases hp : PK (fun i => S.testBit i) fr T with
  | none =>
    obtain ⟨i, hi, hb⟩ := ex_bit hS h0
    have h9 : S.testBit i = false := (PK_spec T).1 hp i hi
    rw [hb] at h9
    cases h9
  | some j => exact ⟨j, rfl, ((PK_spec T).2 j hp).1, ((PK_spec T).2 j hp).2.1⟩
theorem least5 {leaps on : Ar} {lp : Nat → Nat → Int32} {T : Nat} (hT : T ≤ 10) (hB : lpB lp T) {s : Nat} (hs : s ≤ T) (hL : ∀ t, t < T → leaps (s * 10 + t) = lp s t) {S : Nat} (hS : S < 2 ^ T) (h0 : S ≠ 0) (hO : OnOk on lp T S) : m_X1_leastThrough (nI T) leaps on (nI s) (nI S) = some (TV lp T S s) := by
  have h := lt5_loop hT hB hs hL hS hO T 0 (by omega) FU (by show _ < 4096; omega)
  unfold m_X1_leastThrough
  refine Eq.trans h ?_
  obtain ⟨j, hj, -⟩ := PK_ne hS h0 (vl lp T S s)
  rw [TV_eq hT hS s, hj]
  rfl
/-! the class lays its table -/
theorem wo_inner {leaps : Ar} {lp : Nat → Nat → Int32} {T : Nat} (hT : T ≤ 10) (hB : lpB lp T) (hL : ∀ s t, s ≤ T → t < T → leaps (s * 10 + t) = lp s t) (k2 : Int32 → Ar → Option Ar) (w : Int32) {S : Nat} (hS : S < 2 ^ T) (h0 : S ≠ 0) :
    ∀ k t, t + k = T → ∀ f, k < f → ∀ on : Ar, OnOk on lp T S → (∀ u, u < t → S.testBit u = false → on (S * 10 + u) = TV lp T S (u + 1)) → (∀ u, u < 10 → on u = 0) → ∃ on', L_X1_weighOnward_14 (nI T) leaps k2 w (nI S) f (nI t) on = k2 (nI (S + 1)) on' ∧ OnOk on' lp T (S + 1) ∧ (∀ u, u < 10 → on' u = 0) := by
  have h1024 := pow_le hT
  intro k
  induction k with
  | zero =>
    intro t ht f hf on hO hu hz
    obtain ⟨f, rfl⟩ : ∃ f', f = f' + 1 := ⟨f - 1, by omega⟩
    refine ⟨on, ?_, ?_, hz⟩
    · show B_X1_weighOnward_14 (nI T) leaps k2 w (nI S) (L_X1_weighOnward_14 (nI T) leaps k2 w (nI S) f) _ _ = _
      unfold B_X1_weighOnward_14
      rw [if_pos (by rw [leN (by omega) (by omega)]; omega), i1, addN]
    · intro S' h1 h2 u h3 h4
      by_cases hSS : S' = S
      · subst hSS; exact hu u (by omega) h4
      · exact hO S' (by omega) h2 u h3 h4
  | succ k ih =>
    intro t ht f hf on hO hu hz
    obtain ⟨f, rfl⟩ : ∃ f', f = f' + 1 := ⟨f - 1, by omega⟩
    have e0 : L_X1_weighOnward_14 (nI T) leaps k2 w (nI S) (f + 1) (nI t) on = B_X1_weighOnward_14 (nI T) leaps k2 w (nI S) (L_X1_weighOnward_14 (nI T) leaps k2 w (nI S) f) (nI t) on := rfl
    rw [e0]
    unfold B_X1_weighOnward_14 J_X1_weighOnward_49
    rw [if_neg (by rw [leN (by omega) (by omega)]; omega), isIn_eq _ (by omega), bd1_s, bt_nI (by omega)]
    cases hb : S.testBit t with
    | true =>
      rw [if_neg (show ¬ bi true = 0 by decide), i1, addN]
      refine ih (t + 1) (by omega) f (by omega) on hO ?_ hz
      intro u h1 h2
      by_cases hut : u = t
      · subst hut; rw [hb] at h2; cases h2
      · exact hu u (by omega) h2
    | false =>
      rw [if_pos (show bi false = 0 from rfl), i1, addN, least5 hT hB (show t + 1 ≤ T by omega) (fun u hu => hL (t + 1) u (by omega) hu) hS h0 hO, bd1_s, i10, mulN, addN, gN (by omega) (by omega), grd_tt, cN (by omega)]
      refine ih (t + 1) (by omega) f (by omega) _ ?_ ?_ ?_
      · intro S' h1 h2 u h3 h4
        rw [upd_n _ _ (by omega)]
        exact hO S' h1 h2 u h3 h4
      · intro u h1 h2
        by_cases hut : u = t
        · subst hut; rw [upd_s]
        · rw [upd_n _ _ (by omega)]
          exact hu u (by omega) h2
      · intro u h1
        rw [upd_n _ _ (by omega)]
        exact hz u h1
theorem wo_outer {leaps : Ar} {lp : Nat → Nat → Int32} {T : Nat} (hT : T ≤ 10) (hB : lpB lp T) (hL : ∀ s t, s ≤ T → t < T → leaps (s * 10 + t) = lp s t) :
    ∀ k S, S + k = 2 ^ T → 1 ≤ S → ∀ f, k < f → ∀ on : Ar, OnOk on lp T S → (∀ u, u < 10 → on u = 0) → ∃ on', L_X1_weighOnward_7 (nI T) leaps (nI (2 ^ T - 1)) f (nI S) on = some on' ∧ OnOk on' lp T (2 ^ T) ∧ (∀ u, u < 10 → on' u = 0) := by
  have h1024 := pow_le hT
  intro k
  induction k with
  | zero =>
    intro S hk h1 f hf on hO hz
    obtain ⟨f, rfl⟩ : ∃ f', f = f' + 1 := ⟨f - 1, by omega⟩
    refine ⟨on, ?_, by rw [show 2 ^ T = S by omega]; exact hO, hz⟩
    show B_X1_weighOnward_7 (nI T) leaps (nI (2 ^ T - 1)) (L_X1_weighOnward_7 (nI T) leaps (nI (2 ^ T - 1)) f) _ _ = _
    unfold B_X1_weighOnward_7
    rw [if_pos (by rw [ltN (by omega) (by omega)]; omega)]
  | succ k ih =>
    intro S hk h1 f hf on hO hz
    obtain ⟨f, rfl⟩ : ∃ f', f = f' + 1 := ⟨f - 1, by omega⟩
    have e0 : L_X1_weighOnward_7 (nI T) leaps (nI (2 ^ T - 1)) (f + 1) (nI S) on = L_X1_weighOnward_14 (nI T) leaps (L_X1_weighOnward_7 (nI T) leaps (nI (2 ^ T - 1)) f) (nI (2 ^ T - 1)) (nI S) FU (nI 0) on := by
      show B_X1_weighOnward_7 (nI T) leaps (nI (2 ^ T - 1)) (L_X1_weighOnward_7 (nI T) leaps (nI (2 ^ T - 1)) f) _ _ = _
      unfold B_X1_weighOnward_7
      rw [if_neg (by rw [ltN (by omega) (by omega)]; omega)]
      rfl
    obtain ⟨on1, a1, a2, a3⟩ := wo_inner hT hB hL (L_X1_weighOnward_7 (nI T) leaps (nI (2 ^ T - 1)) f) (nI (2 ^ T - 1)) (show S < 2 ^ T by omega) (by omega) T 0 (by omega) FU (by show _ < 4096; omega) on hO (fun u h => by omega) hz
    rw [e0, a1]
    exact ih (S + 1) (by omega) (by omega) f (by omega) on1 a2 a3
theorem weigh5 {leaps : Ar} {lp : Nat → Nat → Int32} {T : Nat} (hT : T ≤ 10) (hB : lpB lp T) (hL : ∀ s t, s ≤ T → t < T → leaps (s * 10 + t) = lp s t) (on : Ar) (hz : ∀ u, u < 10 → on u = 0) : ∃ on', m_X1_weighOnward (nI T) leaps on = some on' ∧ OnOk on' lp T (2 ^ T) ∧ (∀ u, u < 10 → on' u = 0) := by
  have h1024 := pow_le hT
  have h1 : 1 ≤ 2 ^ T := Nat.one_le_two_pow
  unfold m_X1_weighOnward
  rw [all_tries T hT, bd1_s]
  refine wo_outer hT hB hL (2 ^ T - 1) 1 (by omega) (by omega) FU (by show _ < 4096; omega) on ?_ hz
  intro S h1 h2 t h3 h4
  have : S = 0 := by omega
  subst this
  rw [show 0 * 10 + t = t by omega, hz t (by omega), TV_0]
