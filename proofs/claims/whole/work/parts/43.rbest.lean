/-! ===== the reference: the rest of a TIME ===== -/
def lcN (s : Nat) : Nat := match s with | 0 => 10 | t + 1 => t
def FUL (T : Nat) : Nat := 2 ^ T - 1
theorem ful_bit {T D i : Nat} (hi : i < T) : (FUL T ^^^ D).testBit i = !D.testBit i := by
  rw [Nat.testBit_xor, FUL, tb_full, decide_eq_true hi]
  cases D.testBit i <;> rfl
theorem ful_xor (T D i : Nat) : FUL T ^^^ (D ^^^ 2 ^ i) = (FUL T ^^^ D) ^^^ 2 ^ i := (Nat.xor_assoc _ _ _).symm
theorem ful_lt {T D : Nat} (hD : D < 2 ^ T) : FUL T ^^^ D < 2 ^ T := Nat.xor_lt_two_pow (by unfold FUL; have : 1 ≤ 2 ^ T := Nat.one_le_two_pow; omega) hD
theorem ful_eq {T : Nat} (hT : T ≤ 10) : (1 : Int32) <<< (nI T &&& 31) - 1 = nI (FUL T) := Option.some.inj (all_tries T hT)
def pvR (fr : Nat → Int32) (a : Option Nat) : Int32 := match a with | none => -6 | some j => fr j
/-- what the reference tells of times -/
def TmR (st left right : Ar) (lp : Nat → Nat → Int32) (T : Nat) : Prop := ∀ s t, s ≤ T → t < T → m_X6_timeOf st left right (frI s) (nI t) = some (lp s t)
theorem rf_loop {st left right rest : Ar} {lp : Nat → Nat → Int32} {T : Nat} (hT : T ≤ 10) (hB : lpB lp T) (hM : TmR st left right lp T) {s : Nat} (hs : s ≤ T) {D : Nat} (hD : D < 2 ^ T) (hO : ∀ t, t < T → D.testBit t = false → rest (11 * (D ^^^ 2 ^ t) + t) = TV lp T ((FUL T ^^^ D) ^^^ 2 ^ t) (t + 1)) :
    ∀ k i, i + k = T → ∀ f, k < f → L_X6_restFrom_6 (nI T) st left right rest (nI D) (nI (lcN s)) f (pvR (vl lp T (FUL T ^^^ D) s) (PK (fun i => (FUL T ^^^ D).testBit i) (vl lp T (FUL T ^^^ D) s) i)) (nI i) = some (TV lp T (FUL T ^^^ D) s) := by
  have h1024 := pow_le hT
  have hS := ful_lt hD
  intro k
  induction k with
  | zero =>
    intro i hi f hf
    obtain ⟨f, rfl⟩ : ∃ f', f = f' + 1 := ⟨f - 1, by omega⟩
    have : i = T := by omega
    subst this
    show B_X6_restFrom_6 (nI i) st left right rest (nI D) (nI (lcN s)) (L_X6_restFrom_6 (nI i) st left right rest (nI D) (nI (lcN s)) f) _ _ = _
    unfold B_X6_restFrom_6
    rw [if_pos (by rw [leN (by omega) (by omega)]; omega), TV_eq hT hS s]
    cases hp : PK (fun k => (FUL i ^^^ D).testBit k) (vl lp i (FUL i ^^^ D) s) i with
    | none => rw [if_neg (show ¬ 0 ≤ pvR (vl lp i (FUL i ^^^ D) s) none by show ¬ (0 : Int32) ≤ -6; decide)]
    | some j =>
      have h9 := (PK_spec i).2 j hp
      have hvb := vl_b hT hB hS hs h9.1 h9.2.1
      rw [if_pos (show 0 ≤ pvR (vl lp i (FUL i ^^^ D) s) (some j) by show 0 ≤ vl lp i (FUL i ^^^ D) s j; rw [leI]; exact hvb.1)]
      rfl
  | succ k ih =>
    intro i hi f hf
    obtain ⟨f, rfl⟩ : ∃ f', f = f' + 1 := ⟨f - 1, by omega⟩
    have ih' := ih (i + 1) (by omega) f (by omega)
    have e9 : ∀ v, B_X6_restFrom_6 (nI T) st left right rest (nI D) (nI (lcN s)) (L_X6_restFrom_6 (nI T) st left right rest (nI D) (nI (lcN s)) f) v (nI i) = if bi (D.testBit i) = 0 then J_X6_restFrom_36 (nI T) st left right rest (L_X6_restFrom_6 (nI T) st left right rest (nI D) (nI (lcN s)) f) (frI s) (nI D) (nI (lcN s)) v (nI i) else J_X6_restFrom_78 (nI T) st left right rest (L_X6_restFrom_6 (nI T) st left right rest (nI D) (nI (lcN s)) f) (nI D) (nI (lcN s)) v (nI i) := by
      intro v
      unfold B_X6_restFrom_6
      rw [if_neg (by rw [leN (by omega) (by omega)]; omega), shr1 _ (by omega), bt_nI (by omega)]
      cases s with
      | zero => rw [if_pos (show nI (lcN 0) = 10 from rfl)]; rfl
      | succ s => rw [if_neg (show ¬ nI (lcN (s + 1)) = 10 by show ¬ nI s = 10; rw [i10, eqN (by omega) (by omega)]; omega)]; rfl
    show B_X6_restFrom_6 (nI T) st left right rest (nI D) (nI (lcN s)) (L_X6_restFrom_6 (nI T) st left right rest (nI D) (nI (lcN s)) f) _ _ = _
    rw [e9]
    cases hb : D.testBit i with
    | true =>
      rw [if_neg (show ¬ bi true = 0 by decide)]
      have e : PK (fun i => (FUL T ^^^ D).testBit i) (vl lp T (FUL T ^^^ D) s) (i + 1) = PK (fun i => (FUL T ^^^ D).testBit i) (vl lp T (FUL T ^^^ D) s) i := by rw [PK, if_neg (by rw [ful_bit (by omega), hb]; decide)]
      rw [e] at ih'
      unfold J_X6_restFrom_78
      rw [i1, addN]
      exact ih'
    | false =>
      have hb' : (FUL T ^^^ D).testBit i = true := by rw [ful_bit (by omega), hb]; rfl
      have hx2 := xor_lt2 hD (show i < T by omega)
      rw [if_pos (show bi false = 0 from rfl)]
      unfold J_X6_restFrom_36 J_X6_restFrom_71 J_X6_restFrom_77 J_X6_restFrom_78
      rw [hM s i hs (by omega), bd1_s, or_bit (by omega) hb]
      simp (disch := omega) only [i11, mulN, addN, gN, grd_tt, cN, i1]
      rw [hO i (by omega) hb, bd1_s]
      show (if pvR (vl lp T (FUL T ^^^ D) s) (PK (fun i => (FUL T ^^^ D).testBit i) (vl lp T (FUL T ^^^ D) s) i) < 0 then L_X6_restFrom_6 (nI T) st left right rest (nI D) (nI (lcN s)) f (vl lp T (FUL T ^^^ D) s i) (nI (i + 1)) else if pvR (vl lp T (FUL T ^^^ D) s) (PK (fun i => (FUL T ^^^ D).testBit i) (vl lp T (FUL T ^^^ D) s) i) ≤ vl lp T (FUL T ^^^ D) s i then _ else L_X6_restFrom_6 (nI T) st left right rest (nI D) (nI (lcN s)) f (vl lp T (FUL T ^^^ D) s i) (nI (i + 1))) = _
      have e : PK (fun i => (FUL T ^^^ D).testBit i) (vl lp T (FUL T ^^^ D) s) (i + 1) = (match PK (fun i => (FUL T ^^^ D).testBit i) (vl lp T (FUL T ^^^ D) s) i with | none => some i | some j => if vl lp T (FUL T ^^^ D) s i < vl lp T (FUL T ^^^ D) s j then some i else some j) := by
        rw [PK, if_pos hb']
        rfl
      cases hp : PK (fun i => (FUL T ^^^ D).testBit i) (vl lp T (FUL T ^^^ D) s) i with
      | none =>
        rw [hp] at e
        simp only at e
        rw [e] at ih'
        rw [if_pos (show pvR (vl lp T (FUL T ^^^ D) s) none < 0 by show (-6 : Int32) < 0; decide)]
        exact ih'
      | some j =>
        have h9 := (PK_spec i).2 j hp
        have hvb := vl_b hT hB hS hs (show j < T by have := h9.1; omega) h9.2.1
        rw [hp] at e
        simp only at e
        rw [if_neg (show ¬ pvR (vl lp T (FUL T ^^^ D) s) (some j) < 0 by show ¬ vl lp T (FUL T ^^^ D) s j < 0; rw [ltI, show (0 : Int32).toInt = 0 from rfl]; omega)]
        by_cases hlt2 : vl lp T (FUL T ^^^ D) s i < vl lp T (FUL T ^^^ D) s j
        · rw [if_pos hlt2] at e
          rw [e] at ih'
          rw [if_neg (show ¬ pvR (vl lp T (FUL T ^^^ D) s) (some j) ≤ vl lp T (FUL T ^^^ D) s i by show ¬ vl lp T (FUL T ^^^ D) s j ≤ _; rw [leI]; rw [ltI] at hlt2; omega)]
          exact ih'
        · rw [if_neg hlt2] at e
          rw [e] at ih'
          rw [if_pos (show pvR (vl lp T (FUL T ^^^ D) s) (some j) ≤ vl lp T (FUL T ^^^ D) s i by show vl lp T (FUL T ^^^ D) s j ≤ _; rw [leI]; rw [ltI] at hlt2; omega)]
          exact ih'
theorem restFrom6 {st left right rest : Ar} {lp : Nat → Nat → Int32} {T : Nat} (hT : T ≤ 10) (hB : lpB lp T) (hM : TmR st left right lp T) {s : Nat} (hs : s ≤ T) {D : Nat} (hD : D < 2 ^ T) (hO : ∀ t, t < T → D.testBit t = false → rest (11 * (D ^^^ 2 ^ t) + t) = TV lp T ((FUL T ^^^ D) ^^^ 2 ^ t) (t + 1)) : m_X6_restFrom (nI T) st left right rest (nI D) (nI (lcN s)) = some (TV lp T (FUL T ^^^ D) s) := by
  unfold m_X6_restFrom
  exact rf_loop hT hB hM hs hD hO T 0 (by omega) FU (by show _ < 4096; omega)
def RsOk (rest : Ar) (lp : Nat → Nat → Int32) (T b : Nat) : Prop := ∀ D, b ≤ D → D < 2 ^ T → ∀ t, t < T → D.testBit t = true → rest (11 * D + t) = TV lp T (FUL T ^^^ D) (t + 1)
theorem or_gtD : ∀ D, D < 1024 → ∀ i, i < 10 → D.testBit i = false → D < D ^^^ 2 ^ i := by decide +kernel
theorem lr_inner {st left right : Ar} {lp : Nat → Nat → Int32} {T : Nat} (hT : T ≤ 10) (hB : lpB lp T) (hM : TmR st left right lp T) (k9 : Int32 → Ar → Option Ar) {D : Nat} (hD : D < 2 ^ T) :
    ∀ k l, l + k = 11 → ∀ f, k < f → ∀ rest : Ar, RsOk rest lp T (D + 1) → (∀ t, t < l → t < T → D.testBit t = true → rest (11 * D + t) = TV lp T (FUL T ^^^ D) (t + 1)) → (10 < l → D = 0 → rest 10 = TV lp T (FUL T) 0) → ∃ rest', L_X6_layRest_15 (nI T) st left right k9 (nI D) f (nI l) rest = k9 (nI D - 1) rest' ∧ RsOk rest' lp T D ∧ (D = 0 → rest' 10 = TV lp T (FUL T) 0) := by
  have h1024 := pow_le hT
  intro k
  induction k with
  | zero =>
    intro l hl f hf rest hO hu hz
    obtain ⟨f, rfl⟩ : ∃ f', f = f' + 1 := ⟨f - 1, by omega⟩
    refine ⟨rest, ?_, ?_, hz (by omega)⟩
    · show B_X6_layRest_15 (nI T) st left right k9 (nI D) (L_X6_layRest_15 (nI T) st left right k9 (nI D) f) _ _ = _
      unfold B_X6_layRest_15
      rw [if_pos (by rw [i11, leN (by omega) (by omega)]; omega), m1N]
    · intro D' h1 h2 t h3 h4
      by_cases hDD : D' = D
      · subst hDD; exact hu t (by omega) h3 h4
      · exact hO D' (by omega) h2 t h3 h4
  | succ k ih =>
    intro l hl f hf rest hO hu hz
    obtain ⟨f, rfl⟩ : ∃ f', f = f' + 1 := ⟨f - 1, by omega⟩
    have hO9 : ∀ t, t < T → D.testBit t = false → rest (11 * (D ^^^ 2 ^ t) + t) = TV lp T ((FUL T ^^^ D) ^^^ 2 ^ t) (t + 1) := by
      intro t ht hb
      have hgt := or_gtD D (by omega) t (by omega) hb
      rw [← ful_xor]
      exact hO (D ^^^ 2 ^ t) (by omega) (xor_lt2 hD ht) t ht (by rw [tb_xor, hb]; simp)
    have e0 : L_X6_layRest_15 (nI T) st left right k9 (nI D) (f + 1) (nI l) rest = B_X6_layRest_15 (nI T) st left right k9 (nI D) (L_X6_layRest_15 (nI T) st left right k9 (nI D) f) (nI l) rest := rfl
    rw [e0]
    unfold B_X6_layRest_15 J_X6_layRest_53 J_X6_layRest_75
    rw [if_neg (by rw [i11, leN (by omega) (by omega)]; omega)]
    by_cases hl10 : l = 10
    · subst hl10
      rw [if_pos (show nI 10 = 10 from rfl)]
      by_cases hD0 : D = 0
      · subst hD0
        have hr := restFrom6 hT hB hM (s := 0) (by omega) hD hO9
        rw [if_pos (show nI 0 = 0 from rfl), if_neg (show ¬ (1 : Int32) = 0 by decide), show nI 10 = nI (lcN 0) from rfl, hr, bd1_s]
        have e8 : (11 : Int32) * nI 0 + nI (lcN 0) = nI 10 := by decide
        rw [e8, gN (by omega) (by omega), grd_tt, cN (by omega), show FUL T ^^^ 0 = FUL T from Nat.xor_zero _]
        have e7 : nI (lcN 0) + 1 = nI (10 + 1) := by decide
        rw [e7]
        refine ih (10 + 1) (by omega) f (by omega) _ ?_ ?_ ?_
        · intro D' h1 h2 t h3 h4
          rw [upd_n _ _ (by omega)]
          exact hO D' h1 h2 t h3 h4
        · intro t h1 h2 h3
          rw [upd_n _ _ (by omega)]
          exact hu t (by omega) h2 h3
        · intro _ _
          rw [upd_s]
      · rw [if_neg (show ¬ nI D = 0 by rw [i0, eqN (by omega) (by omega)]; exact hD0), if_pos (show (0 : Int32) = 0 from rfl), show nI 10 + 1 = nI (10 + 1) from rfl]
        exact ih (10 + 1) (by omega) f (by omega) rest hO (fun t h1 h2 h3 => hu t (by omega) h2 h3) (fun _ e => absurd e hD0)
    · rw [if_neg (show ¬ nI l = 10 by rw [i10, eqN (by omega) (by omega)]; exact hl10), shr1 _ (by omega), bt_nI (by omega)]
      cases hb : D.testBit l with
      | true =>
        have hlT : l < T := by
          rcases Nat.lt_or_ge l T with h | h
          · exact h
          · rw [tb_lt hD h] at hb; cases hb
        have hr := restFrom6 hT hB hM (s := l + 1) (by omega) hD hO9
        rw [if_pos (show bi true = 1 from rfl), if_neg (by decide), show m_X6_restFrom (nI T) st left right rest (nI D) (nI l) = some (TV lp T (FUL T ^^^ D) (l + 1)) from hr, bd1_s, i11, mulN, addN, gN (by omega) (by omega), grd_tt, cN (by omega), i1, addN]
        refine ih (l + 1) (by omega) f (by omega) _ ?_ ?_ (fun h => by omega)
        · intro D' h1 h2 t h3 h4
          rw [upd_n _ _ (by omega)]
          exact hO D' h1 h2 t h3 h4
        · intro t h1 h2 h3
          by_cases htl : t = l
          · subst htl; rw [upd_s]
          · rw [upd_n _ _ (by omega)]
            exact hu t (by omega) h2 h3
      | false =>
        rw [if_neg (show ¬ bi false = 1 by decide), if_pos rfl, i1, addN]
        refine ih (l + 1) (by omega) f (by omega) rest hO ?_ (fun h => by omega)
        intro t h1 h2 h3
        by_cases htl : t = l
        · subst htl; rw [hb] at h3; cases h3
        · exact hu t (by omega) h2 h3
theorem lr_outer {st left right : Ar} {lp : Nat → Nat → Int32} {T : Nat} (hT : T ≤ 10) (hB : lpB lp T) (hM : TmR st left right lp T) :
    ∀ b, b ≤ 2 ^ T → ∀ f, b < f → ∀ rest : Ar, RsOk rest lp T b → (b = 0 → rest 10 = TV lp T (FUL T) 0) → ∃ rest', L_X6_layRest_9 (nI T) st left right f (nI b - 1) rest = some rest' ∧ RsOk rest' lp T 0 ∧ rest' 10 = TV lp T (FUL T) 0 := by
  have h1024 := pow_le hT
  intro b
  induction b with
  | zero =>
    intro _ f hf rest hO hz
    obtain ⟨f, rfl⟩ : ∃ f', f = f' + 1 := ⟨f - 1, by omega⟩
    refine ⟨rest, ?_, hO, hz rfl⟩
    have e0 : ∀ q, L_X6_layRest_9 (nI T) st left right (f + 1) q rest = B_X6_layRest_9 (nI T) st left right (L_X6_layRest_9 (nI T) st left right f) q rest := fun _ => rfl
    rw [e0]
    unfold B_X6_layRest_9
    rw [if_pos (by decide)]
  | succ b ih =>
    intro hb f hf rest hO hz
    obtain ⟨f, rfl⟩ : ∃ f', f = f' + 1 := ⟨f - 1, by omega⟩
    have e0 : ∀ q, L_X6_layRest_9 (nI T) st left right (f + 1) q rest = B_X6_layRest_9 (nI T) st left right (L_X6_layRest_9 (nI T) st left right f) q rest := fun _ => rfl
    rw [predS, e0]
    unfold B_X6_layRest_9
    rw [if_neg (nneg (by omega))]
    obtain ⟨r1, a1, a2, a3⟩ := lr_inner hT hB hM (L_X6_layRest_9 (nI T) st left right f) (show b < 2 ^ T by omega) 11 0 (by omega) FU (by show _ < 4096; omega) rest hO (fun t h => by omega) (fun h => by omega)
    have e1 : L_X6_layRest_15 (nI T) st left right (L_X6_layRest_9 (nI T) st left right f) (nI b) FU 0 rest = L_X6_layRest_9 (nI T) st left right f (nI b - 1) r1 := a1
    rw [e1]
    exact ih (by omega) f (by omega) r1 a2 a3
theorem layRest6 {st left right : Ar} {lp : Nat → Nat → Int32} {T : Nat} (hT : T ≤ 10) (hB : lpB lp T) (hM : TmR st left right lp T) (rest : Ar) : ∃ rest', m_X6_layRest (nI T) st left right rest = some rest' ∧ RsOk rest' lp T 0 ∧ rest' 10 = TV lp T (FUL T) 0 := by
  have h1024 := pow_le hT
  have h1 : 1 ≤ 2 ^ T := Nat.one_le_two_pow
  unfold m_X6_layRest
  have h := lr_outer hT hB hM (2 ^ T) (Nat.le_refl _) FU (by show _ < 4096; omega) rest (fun D h1 h2 => by omega) (fun h => by omega)
  have e : (1 : Int32) <<< (nI T &&& 31) - 1 = nI (2 ^ T) - 1 := by
    rw [ful_eq hT]
    obtain ⟨q, hq⟩ : ∃ q, 2 ^ T = q + 1 := ⟨2 ^ T - 1, by omega⟩
    rw [hq, predS]
    congr 1
    unfold FUL
    omega
  rw [e]
  exact h
/-! the reference's BEST -/
theorem lb_keep {st left right order rest : Ar} {lp : Nat → Nat → Int32} {T : Nat} (hT : T ≤ 10) (hM : TmR st left right lp T) {s : Nat} (hs : s ≤ T) {D : Nat} (hD : D < 2 ^ T) (hO : RsOk rest lp T 0) (hcur : rest (11 * D + lcN s) = TV lp T (FUL T ^^^ D) s) (k11 : Int32 → Int32 → Int32 → Ar → Option (Ar × Ar)) {p : Nat} (hp : p < 16) :
    ∀ i, i ≤ T → (∀ k, k < i → D.testBit k = false → ¬ vl lp T (FUL T ^^^ D) s k = TV lp T (FUL T ^^^ D) s) → ∀ f, i < f → ∀ j, j < 16 → L_X6_layBest_31 (nI T) st left right order rest k11 (nI D) (nI (lcN s)) (nI p) f (nI j) (nI i - 1) = k11 (nI D ||| (1 : Int32) <<< (nI j &&& 31)) (nI j) (nI (p + 1)) (upd order p (nI j)) := by
  have h1024 := pow_le hT
  intro i
  induction i with
  | zero =>
    intro _ _ f hf j hj
    obtain ⟨f, rfl⟩ : ∃ f', f = f' + 1 := ⟨f - 1, by omega⟩
    have e0 : ∀ v q, L_X6_layBest_31 (nI T) st left right order rest k11 (nI D) (nI (lcN s)) (nI p) (f + 1) v q = B_X6_layBest_31 (nI T) st left right order rest k11 (nI D) (nI (lcN s)) (nI p) (L_X6_layBest_31 (nI T) st left right order rest k11 (nI D) (nI (lcN s)) (nI p) f) v q := fun _ _ => rfl
    rw [e0]
    unfold B_X6_layBest_31
    rw [if_pos (by decide), gN hp (by omega), grd_tt, cN (by omega), show nI p + 1 = nI (p + 1) by rw [i1, addN]]
  | succ i ih =>
    intro hi h f hf j hj
    obtain ⟨f, rfl⟩ : ∃ f', f = f' + 1 := ⟨f - 1, by omega⟩
    have e0 : ∀ v q, L_X6_layBest_31 (nI T) st left right order rest k11 (nI D) (nI (lcN s)) (nI p) (f + 1) v q = B_X6_layBest_31 (nI T) st left right order rest k11 (nI D) (nI (lcN s)) (nI p) (L_X6_layBest_31 (nI T) st left right order rest k11 (nI D) (nI (lcN s)) (nI p) f) v q := fun _ _ => rfl
    have ih' := ih (by omega) (fun k hk => h k (by omega)) f (by omega) j hj
    have hcI : (if nI (lcN s) = 10 then J_X6_layBest_57 (nI T) st left right order rest (L_X6_layBest_31 (nI T) st left right order rest k11 (nI D) (nI (lcN s)) (nI p) f) k11 (-1) (nI D) (nI (lcN s)) (nI p) (nI j) (nI i) else J_X6_layBest_57 (nI T) st left right order rest (L_X6_layBest_31 (nI T) st left right order rest k11 (nI D) (nI (lcN s)) (nI p) f) k11 (nI (lcN s)) (nI D) (nI (lcN s)) (nI p) (nI j) (nI i)) = J_X6_layBest_57 (nI T) st left right order rest (L_X6_layBest_31 (nI T) st left right order rest k11 (nI D) (nI (lcN s)) (nI p) f) k11 (frI s) (nI D) (nI (lcN s)) (nI p) (nI j) (nI i) := by
      cases s with
      | zero => rw [if_pos (show nI (lcN 0) = 10 from rfl)]; rfl
      | succ s => rw [if_neg (show ¬ nI (lcN (s + 1)) = 10 by show ¬ nI s = 10; rw [i10, eqN (by omega) (by omega)]; omega)]; rfl
    rw [predS, e0]
    unfold B_X6_layBest_31
    rw [if_neg (nneg (by omega)), shr1 _ (by omega), bt_nI (by omega), hcI]
    unfold J_X6_layBest_98 J_X6_layBest_99 J_X6_layBest_113
    rw [m1N, if_pos (show (0 : Int32) = 0 from rfl)]
    cases hb : D.testBit i with
    | true =>
      rw [if_neg (show ¬ bi true = 0 by decide)]
      exact ih'
    | false =>
      have hx2 := xor_lt2 hD (show i < T by omega)
      have hl10 : lcN s ≤ 10 := by
        cases s with
        | zero => exact Nat.le_refl _
        | succ s => show s ≤ 10; omega
      have hon : rest (11 * (D ^^^ 2 ^ i) + i) = TV lp T ((FUL T ^^^ D) ^^^ 2 ^ i) (i + 1) := by
        rw [← ful_xor]
        exact hO (D ^^^ 2 ^ i) (Nat.zero_le _) hx2 i (by omega) (by rw [tb_xor, hb]; simp)
      rw [if_pos (show bi false = 0 from rfl)]
      unfold J_X6_layBest_57
      rw [hM s i hs (by omega), bd1_s, or_bit (by omega) hb]
      simp (disch := omega) only [i11, mulN, addN, gN, grd_tt, cN]
      rw [hon, hcur, if_neg (show ¬ lp s i + TV lp T ((FUL T ^^^ D) ^^^ 2 ^ i) (i + 1) = TV lp T (FUL T ^^^ D) s from h i (by omega) hb)]
      unfold J_X6_layBest_98 J_X6_layBest_99 J_X6_layBest_113
      rw [m1N, if_pos (show (0 : Int32) = 0 from rfl)]
      exact ih'
theorem lb_find {st left right order rest : Ar} {lp : Nat → Nat → Int32} {T : Nat} (hT : T ≤ 10) (hM : TmR st left right lp T) {s : Nat} (hs : s ≤ T) {D : Nat} (hD : D < 2 ^ T) (hO : RsOk rest lp T 0) (hcur : rest (11 * D + lcN s) = TV lp T (FUL T ^^^ D) s) (k11 : Int32 → Int32 → Int32 → Ar → Option (Ar × Ar)) {p : Nat} (hp : p < 16) {j : Nat} (hj : PK (fun i => (FUL T ^^^ D).testBit i) (vl lp T (FUL T ^^^ D) s) T = some j) :
    ∀ i, j < i → i ≤ T → ∀ f, i < f → ∀ v, L_X6_layBest_31 (nI T) st left right order rest k11 (nI D) (nI (lcN s)) (nI p) f v (nI i - 1) = k11 (nI D ||| (1 : Int32) <<< (nI j &&& 31)) (nI j) (nI (p + 1)) (upd order p (nI j)) := by
  have h1024 := pow_le hT
  have hS := ful_lt hD
  have hsp := (PK_spec T).2 j hj
  have hjb : (FUL T ^^^ D).testBit j = true := hsp.2.1
  have hTV : TV lp T (FUL T ^^^ D) s = vl lp T (FUL T ^^^ D) s j := by rw [TV_eq hT hS s, hj]
  intro i
  induction i with
  | zero => intro h; omega
  | succ i ih =>
    intro hji hi f hf v
    obtain ⟨f, rfl⟩ : ∃ f', f = f' + 1 := ⟨f - 1, by omega⟩
    have e0 : ∀ v q, L_X6_layBest_31 (nI T) st left right order rest k11 (nI D) (nI (lcN s)) (nI p) (f + 1) v q = B_X6_layBest_31 (nI T) st left right order rest k11 (nI D) (nI (lcN s)) (nI p) (L_X6_layBest_31 (nI T) st left right order rest k11 (nI D) (nI (lcN s)) (nI p) f) v q := fun _ _ => rfl
    have hcI : (if nI (lcN s) = 10 then J_X6_layBest_57 (nI T) st left right order rest (L_X6_layBest_31 (nI T) st left right order rest k11 (nI D) (nI (lcN s)) (nI p) f) k11 (-1) (nI D) (nI (lcN s)) (nI p) v (nI i) else J_X6_layBest_57 (nI T) st left right order rest (L_X6_layBest_31 (nI T) st left right order rest k11 (nI D) (nI (lcN s)) (nI p) f) k11 (nI (lcN s)) (nI D) (nI (lcN s)) (nI p) v (nI i)) = J_X6_layBest_57 (nI T) st left right order rest (L_X6_layBest_31 (nI T) st left right order rest k11 (nI D) (nI (lcN s)) (nI p) f) k11 (frI s) (nI D) (nI (lcN s)) (nI p) v (nI i) := by
      cases s with
      | zero => rw [if_pos (show nI (lcN 0) = 10 from rfl)]; rfl
      | succ s => rw [if_neg (show ¬ nI (lcN (s + 1)) = 10 by show ¬ nI s = 10; rw [i10, eqN (by omega) (by omega)]; omega)]; rfl
    rw [predS, e0]
    unfold B_X6_layBest_31
    rw [if_neg (nneg (by omega)), shr1 _ (by omega), bt_nI (by omega), hcI]
    cases hb : D.testBit i with
    | true =>
      rw [if_neg (show ¬ bi true = 0 by decide)]
      unfold J_X6_layBest_98 J_X6_layBest_99 J_X6_layBest_113
      rw [m1N, if_pos (show (0 : Int32) = 0 from rfl)]
      have hij : i ≠ j := fun e => by
        subst e
        rw [ful_bit (by omega), hb] at hjb
        cases hjb
      exact ih (by omega) (by omega) f (by omega) v
    | false =>
      have hx2 := xor_lt2 hD (show i < T by omega)
      have hl10 : lcN s ≤ 10 := by
        cases s with
        | zero => exact Nat.le_refl _
        | succ s => show s ≤ 10; omega
      have hon : rest (11 * (D ^^^ 2 ^ i) + i) = TV lp T ((FUL T ^^^ D) ^^^ 2 ^ i) (i + 1) := by
        rw [← ful_xor]
        exact hO (D ^^^ 2 ^ i) (Nat.zero_le _) hx2 i (by omega) (by rw [tb_xor, hb]; simp)
      rw [if_pos (show bi false = 0 from rfl)]
      unfold J_X6_layBest_57
      rw [hM s i hs (by omega), bd1_s, or_bit (by omega) hb]
      simp (disch := omega) only [i11, mulN, addN, gN, grd_tt, cN]
      rw [hon, hcur]
      by_cases hij : i = j
      · subst hij
        rw [if_pos (show lp s i + TV lp T ((FUL T ^^^ D) ^^^ 2 ^ i) (i + 1) = TV lp T (FUL T ^^^ D) s from hTV.symm)]
        unfold J_X6_layBest_99 J_X6_layBest_113
        rw [m1N, if_neg (show ¬ (1 : Int32) = 0 by decide)]
        refine lb_keep hT hM hs hD hO hcur k11 hp i (by omega) ?_ f (by omega) i (by omega)
        intro k hk hb2
        have hb3 : (FUL T ^^^ D).testBit k = true := by rw [ful_bit (by omega), hb2]; rfl
        have := (hsp.2.2 k (by omega) hb3).2 hk
        rw [hTV, eqI]
        omega
      · by_cases hv : lp s i + TV lp T ((FUL T ^^^ D) ^^^ 2 ^ i) (i + 1) = TV lp T (FUL T ^^^ D) s
        · rw [if_pos hv]
          unfold J_X6_layBest_99 J_X6_layBest_113
          rw [m1N, if_neg (show ¬ (1 : Int32) = 0 by decide)]
          exact ih (by omega) (by omega) f (by omega) _
        · rw [if_neg hv]
          unfold J_X6_layBest_98 J_X6_layBest_99 J_X6_layBest_113
          rw [m1N, if_pos (show (0 : Int32) = 0 from rfl)]
          exact ih (by omega) (by omega) f (by omega) _
