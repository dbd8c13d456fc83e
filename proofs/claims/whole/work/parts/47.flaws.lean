/-! ===== copies ===== -/
def cpF (i n : Nat) (src a : Ar) : Ar := fun p => if i ≤ p ∧ p < n then src p else a p
theorem cpF_step {i n : Nat} {src a : Ar} {x : Int32} (h : i < n) (hx : x = src i) : cpF (i + 1) n src (upd a i x) = cpF i n src a := by
  funext p
  unfold cpF
  by_cases hp : p = i
  · subst hp
    rw [if_neg (by omega), upd_s, if_pos (by omega), hx]
  · rw [upd_n _ _ hp]
    by_cases h2 : i + 1 ≤ p ∧ p < n
    · rw [if_pos h2, if_pos (by omega)]
    · rw [if_neg h2, if_neg (by omega)]
theorem cpF_end (n : Nat) (src a : Ar) : cpF n n src a = a := by
  funext p
  unfold cpF
  rw [if_neg (by omega)]
theorem cpF_in {i n p : Nat} {src a : Ar} (h : i ≤ p) (h2 : p < n) : cpF i n src a p = src p := if_pos ⟨h, h2⟩
theorem cpF_out {i n p : Nat} {src a : Ar} (h : ¬ (i ≤ p ∧ p < n)) : cpF i n src a p = a p := if_neg h
/-! ===== the reference: what a single flaw makes SEEN ===== -/
theorem sb2 {st left right ap one : Ar} (tt v : Int32) : ∀ k i, i + k = 40 → ∀ f, k < f → ∀ asd : Ar, L_X6_seenBy_2 tt st left right ap one v f (nI i) asd = L_X6_seenBy_28 tt left right ap one (cpF i 40 st asd) v FU 0 st := by
  intro k
  induction k with
  | zero =>
    intro i hi f hf asd
    obtain ⟨f, rfl⟩ : ∃ f', f = f' + 1 := ⟨f - 1, by omega⟩
    have e0 : ∀ a b, L_X6_seenBy_2 tt st left right ap one v (f + 1) a b = B_X6_seenBy_2 tt st left right ap one v (L_X6_seenBy_2 tt st left right ap one v f) a b := fun _ _ => rfl
    have : i = 40 := by omega
    subst this
    rw [e0, cpF_end]
    unfold B_X6_seenBy_2
    rw [if_pos (by decide)]
  | succ k ih =>
    intro i hi f hf asd
    obtain ⟨f, rfl⟩ : ∃ f', f = f' + 1 := ⟨f - 1, by omega⟩
    have e0 : ∀ a b, L_X6_seenBy_2 tt st left right ap one v (f + 1) a b = B_X6_seenBy_2 tt st left right ap one v (L_X6_seenBy_2 tt st left right ap one v f) a b := fun _ _ => rfl
    rw [e0]
    unfold B_X6_seenBy_2
    rw [if_neg (by rw [i40, leN (by omega) (by omega)]; omega), gN (by omega) (by omega), grd_tt, grd_tt, cN (by omega), i1, addN, ih (i + 1) (by omega) f (by omega), cpF_step (by omega) rfl]
def src28 (v : Int32) : Ar := fun p => bi (decide (v = nI (p - 25)))
def src61 (v : Int32) : Ar := fun p => bi (decide (v = nI (20 + (p - 34))))
theorem sb28 {left right ap one asd : Ar} (tt v : Int32) : ∀ k i, i + k = 8 → ∀ f, k < f → ∀ s : Ar, L_X6_seenBy_28 tt left right ap one asd v f (nI i) s = L_X6_seenBy_61 tt left right ap one asd v FU 0 (cpF (25 + i) 33 (src28 v) s) := by
  intro k
  induction k with
  | zero =>
    intro i hi f hf s
    obtain ⟨f, rfl⟩ : ∃ f', f = f' + 1 := ⟨f - 1, by omega⟩
    have e0 : ∀ a b, L_X6_seenBy_28 tt left right ap one asd v (f + 1) a b = B_X6_seenBy_28 tt left right ap one asd v (L_X6_seenBy_28 tt left right ap one asd v f) a b := fun _ _ => rfl
    have : i = 8 := by omega
    subst this
    rw [e0, cpF_end]
    unfold B_X6_seenBy_28
    rw [if_pos (by decide)]
  | succ k ih =>
    intro i hi f hf s
    obtain ⟨f, rfl⟩ : ∃ f', f = f' + 1 := ⟨f - 1, by omega⟩
    have e0 : ∀ a b, L_X6_seenBy_28 tt left right ap one asd v (f + 1) a b = B_X6_seenBy_28 tt left right ap one asd v (L_X6_seenBy_28 tt left right ap one asd v f) a b := fun _ _ => rfl
    rw [e0]
    unfold B_X6_seenBy_28 J_X6_seenBy_52
    rw [if_neg (by rw [i8, leN (by omega) (by omega)]; omega), i25, addN, gN (by omega) (by omega), grd_tt, grd_tt, cN (by omega), show nI i + 1 = nI (i + 1) by rw [i1, addN], ih (i + 1) (by omega) f (by omega), ih (i + 1) (by omega) f (by omega), show 25 + (i + 1) = 25 + i + 1 by omega]
    by_cases h : v = nI i
    · rw [if_pos h, cpF_step (by omega) (by show 1 = bi (decide (v = nI (25 + i - 25))); rw [show 25 + i - 25 = i by omega, decide_eq_true h]; rfl)]
    · rw [if_neg h, cpF_step (by omega) (by show 0 = bi (decide (v = nI (25 + i - 25))); rw [show 25 + i - 25 = i by omega, decide_eq_false h]; rfl)]
theorem sb61 {left right ap one asd : Ar} (tt v : Int32) : ∀ k i, i + k = 6 → ∀ f, k < f → ∀ s : Ar, L_X6_seenBy_61 tt left right ap one asd v f (nI i) s = bd2 (m_X6_seen tt (cpF (34 + i) 40 (src61 v) s) left right ap one) (fun r2 z => L_X6_seenBy_102 tt left right ap z asd r2 FU 0 (cpF (34 + i) 40 (src61 v) s)) := by
  intro k
  induction k with
  | zero =>
    intro i hi f hf s
    obtain ⟨f, rfl⟩ : ∃ f', f = f' + 1 := ⟨f - 1, by omega⟩
    have e0 : ∀ a b, L_X6_seenBy_61 tt left right ap one asd v (f + 1) a b = B_X6_seenBy_61 tt left right ap one asd v (L_X6_seenBy_61 tt left right ap one asd v f) a b := fun _ _ => rfl
    have : i = 6 := by omega
    subst this
    rw [e0, cpF_end]
    unfold B_X6_seenBy_61
    rw [if_pos (by decide)]
  | succ k ih =>
    intro i hi f hf s
    obtain ⟨f, rfl⟩ : ∃ f', f = f' + 1 := ⟨f - 1, by omega⟩
    have e0 : ∀ a b, L_X6_seenBy_61 tt left right ap one asd v (f + 1) a b = B_X6_seenBy_61 tt left right ap one asd v (L_X6_seenBy_61 tt left right ap one asd v f) a b := fun _ _ => rfl
    rw [e0]
    unfold B_X6_seenBy_61 J_X6_seenBy_88
    rw [if_neg (by rw [i6, leN (by omega) (by omega)]; omega), i34, addN, i20, addN, gN (by omega) (by omega), grd_tt, grd_tt, cN (by omega), show nI i + 1 = nI (i + 1) by rw [i1, addN], ih (i + 1) (by omega) f (by omega), ih (i + 1) (by omega) f (by omega), show 34 + (i + 1) = 34 + i + 1 by omega]
    by_cases h : v = nI (20 + i)
    · rw [if_pos h, cpF_step (by omega) (by show 1 = bi (decide (v = nI (20 + (34 + i - 34)))); rw [show 34 + i - 34 = i by omega, decide_eq_true h]; rfl)]
    · rw [if_neg h, cpF_step (by omega) (by show 0 = bi (decide (v = nI (20 + (34 + i - 34)))); rw [show 34 + i - 34 = i by omega, decide_eq_false h]; rfl)]
theorem sb102 {left right ap one asd : Ar} (tt v : Int32) : ∀ k i, i + k = 40 → ∀ f, k < f → ∀ s : Ar, L_X6_seenBy_102 tt left right ap one asd v f (nI i) s = some (v, cpF i 40 asd s, one, asd) := by
  intro k
  induction k with
  | zero =>
    intro i hi f hf s
    obtain ⟨f, rfl⟩ : ∃ f', f = f' + 1 := ⟨f - 1, by omega⟩
    have e0 : ∀ a b, L_X6_seenBy_102 tt left right ap one asd v (f + 1) a b = B_X6_seenBy_102 tt left right ap one asd v (L_X6_seenBy_102 tt left right ap one asd v f) a b := fun _ _ => rfl
    have : i = 40 := by omega
    subst this
    rw [e0, cpF_end]
    unfold B_X6_seenBy_102
    rw [if_pos (by decide)]
  | succ k ih =>
    intro i hi f hf s
    obtain ⟨f, rfl⟩ : ∃ f', f = f' + 1 := ⟨f - 1, by omega⟩
    have e0 : ∀ a b, L_X6_seenBy_102 tt left right ap one asd v (f + 1) a b = B_X6_seenBy_102 tt left right ap one asd v (L_X6_seenBy_102 tt left right ap one asd v f) a b := fun _ _ => rfl
    rw [e0]
    unfold B_X6_seenBy_102
    rw [if_neg (by rw [i40, leN (by omega) (by omega)]; omega), gN (by omega) (by omega), grd_tt, grd_tt, cN (by omega), i1, addN, ih (i + 1) (by omega) f (by omega), cpF_step (by omega) rfl]
def flL (c : Nat) : Nat := if c < 20 then 2 ^ c else 0
def flS (c : Nat) : Nat := if c < 20 then 0 else 2 ^ (c - 20)
theorem flS_lt {c : Nat} (hc : c < 26) : flS c < 64 := by
  unfold flS
  split
  · omega
  · exact Nat.pow_lt_pow_right (n := 6) (by omega) (by omega)
theorem flL_bit {c p : Nat} (hp : p < 8) : (flL c).testBit p = decide (c = p) := by
  unfold flL
  split
  · rw [Nat.testBit_two_pow]
  · rw [decide_eq_false (by omega)]; simp
theorem flS_bit {c j : Nat} : (flS c).testBit j = decide (c = 20 + j) := by
  unfold flS
  split
  · rw [decide_eq_false (by omega)]; simp
  · rw [Nat.testBit_two_pow]; exact decide_eq_decide.mpr (by omega)
theorem seenBy6 {st nets xs ys left right ap : Ar} {n : Nat} {near : Int32} (hR : Rb st n nets xs ys near) (hN : NetOk nets) {TR : List (Nat × Nat)} (hlen : TR.length ≤ 10) (hTn : ∀ q ∈ TR, q.1 < n ∧ q.2 < n) (hL : Lr TR left right) {O : Nat} (hA : apR ap O TR.length) {c : Nat} (hc : c < 26) (one asd : Ar) : ∃ one' asd', m_X6_seenBy (nI TR.length) st left right ap one asd (nI c) = some (nI (snM nets TR O (flL c) (flS c) TR.length), st, one', asd') := by
  obtain ⟨h0, hn, hp8, h33⟩ := hR
  let s1 : Ar := cpF 25 33 (src28 (nI c)) st
  let s2 : Ar := cpF 34 40 (src61 (nI c)) s1
  have hR2 : Rb s2 n nets xs ys near := by
    refine ⟨?_, hn, ?_, ?_⟩
    · show cpF 34 40 _ s1 0 = _
      rw [cpF_out (by omega)]
      show cpF 25 33 _ st 0 = _
      rw [cpF_out (by omega)]
      exact h0
    · intro p hp
      refine ⟨?_, ?_, ?_⟩
      · show cpF 34 40 _ s1 _ = _
        rw [cpF_out (by omega)]
        show cpF 25 33 _ st _ = _
        rw [cpF_out (by omega)]
        exact (hp8 p hp).1
      · show cpF 34 40 _ s1 _ = _
        rw [cpF_out (by omega)]
        show cpF 25 33 _ st _ = _
        rw [cpF_out (by omega)]
        exact (hp8 p hp).2.1
      · show cpF 34 40 _ s1 _ = _
        rw [cpF_out (by omega)]
        show cpF 25 33 _ st _ = _
        rw [cpF_out (by omega)]
        exact (hp8 p hp).2.2
    · show cpF 34 40 _ s1 _ = _
      rw [cpF_out (by omega)]
      show cpF 25 33 _ st _ = _
      rw [cpF_out (by omega)]
      exact h33
  have hF2 : Fl s2 n (flL c) (flS c) := by
    refine ⟨?_, ?_⟩
    · intro p hp
      show cpF 34 40 _ s1 _ = _
      rw [cpF_out (by omega)]
      show cpF 25 33 _ st _ = _
      rw [cpF_in (by omega) (by omega), flL_bit (by omega)]
      show bi (decide (nI c = nI (25 + p - 25))) = _
      rw [show 25 + p - 25 = p by omega]
      congr 1
      exact decide_eq_decide.mpr (by rw [eqN (by omega) (by omega)])
    · intro j hj
      show cpF 34 40 _ s1 _ = _
      rw [cpF_in (by omega) (by omega), flS_bit]
      show bi (decide (nI c = nI (20 + (34 + j - 34)))) = _
      rw [show 34 + j - 34 = j by omega]
      congr 1
      exact decide_eq_decide.mpr (by rw [eqN (by omega) (by omega)])
  obtain ⟨o', g1, g2⟩ := seen6 hR2 hN hlen hTn hL hA (flS_lt hc) hF2 one
  refine ⟨o', cpF 0 40 st asd, ?_⟩
  unfold m_X6_seenBy
  have a1 := sb2 (st := st) (left := left) (right := right) (ap := ap) (one := one) (nI TR.length) (nI c) 40 0 (by omega) FU (by show _ < 4096; omega) asd
  have a2 := sb28 (left := left) (right := right) (ap := ap) (one := one) (asd := cpF 0 40 st asd) (nI TR.length) (nI c) 8 0 (by omega) FU (by show _ < 4096; omega) st
  have a3 := sb61 (left := left) (right := right) (ap := ap) (one := one) (asd := cpF 0 40 st asd) (nI TR.length) (nI c) 6 0 (by omega) FU (by show _ < 4096; omega) s1
  have a4 := sb102 (left := left) (right := right) (ap := ap) (one := o') (asd := cpF 0 40 st asd) (nI TR.length) (nI (snM nets TR O (flL c) (flS c) TR.length)) 40 0 (by omega) FU (by show _ < 4096; omega) s2
  refine Eq.trans a1 (Eq.trans a2 (Eq.trans a3 ?_))
  show bd2 (m_X6_seen (nI TR.length) s2 left right ap one) _ = _
  rw [g1, bd2_s]
  refine Eq.trans a4 ?_
  have e : cpF 0 40 (cpF 0 40 st asd) s2 = st := by
    funext p
    rcases Nat.lt_or_ge p 40 with h | h
    · rw [cpF_in (by omega) h, cpF_in (by omega) h]
    · rw [cpF_out (by omega)]
      show cpF 34 40 _ s1 _ = _
      rw [cpF_out (by omega)]
      show cpF 25 33 _ st _ = _
      rw [cpF_out (by omega)]
  rw [e]
/-! ===== single flaws ===== -/
def flw (n c : Nat) : Bool := decide (c < n ∨ 20 ≤ c)
theorem isFlaw5 {n c : Nat} (hn : n ≤ 8) (hc : c < 26) : m_X5_isFlaw (nI n) (nI c) = some (bi (flw n c)) := by
  unfold m_X5_isFlaw J_X5_isFlaw_17 flw
  rw [hasPoint5 (by omega), bd1_s, tN (by omega)]
  by_cases h : c < n
  · rw [decide_eq_true (show 0 ≤ (c : Int) ∧ (c : Int) < n by omega), if_neg (show ¬ bi true = 0 by decide), decide_eq_true (by omega)]; rfl
  · rw [decide_eq_false (show ¬ (0 ≤ (c : Int) ∧ (c : Int) < n) by omega), if_pos (show bi false = 0 from rfl)]
    by_cases h2 : c < 20
    · rw [if_pos (by rw [i20, ltN (by omega) (by omega)]; exact h2), decide_eq_false (by omega)]; rfl
    · rw [if_neg (by rw [i20, ltN (by omega) (by omega)]; exact h2), decide_eq_true (by omega)]; rfl
theorem isSingle6 {st : Ar} {n c : Nat} (hn : n ≤ 8) (h0 : st 0 = nI n) (hc : c < 26) : m_X6_isSingle st (nI c) = some (bi (flw n c)) := by
  unfold m_X6_isSingle J_X6_isSingle_19 flw
  rw [isPoint6 (by omega) h0, bd1_s, in6, bd1_s, tN (by omega)]
  by_cases h : c < n
  · rw [decide_eq_true (show 0 ≤ (c : Int) ∧ (c : Int) < n by omega), if_neg (show ¬ bi true = 0 by decide), decide_eq_true (by omega)]; rfl
  · rw [decide_eq_false (show ¬ (0 ≤ (c : Int) ∧ (c : Int) < n) by omega), if_pos (show bi false = 0 from rfl), show (20 : Int32).toInt = 20 from rfl, show (25 : Int32).toInt = 25 from rfl]
    by_cases h2 : c < 20
    · rw [decide_eq_false (show ¬ (20 ≤ (c : Int) ∧ (c : Int) ≤ 25) by omega), if_pos (show bi false = 0 from rfl), decide_eq_false (by omega)]; rfl
    · rw [decide_eq_true (show 20 ≤ (c : Int) ∧ (c : Int) ≤ 25 by omega), if_neg (show ¬ bi true = 0 by decide), decide_eq_true (by omega)]; rfl
theorem seenFlaw5 {nets left right : Ar} (hN : NetOk nets) {TR : List (Nat × Nat)} (hT : TRok TR) (hL : Lr TR left right) {O : Nat} (hO : O ≤ TR.length) {n c : Nat} (hn : n ≤ 8) (hc : c < 26) (hf : flw n c = true) : m_X5_seenOfFlaw nets (nI TR.length) (nI O) left right (nI c) = some (nI (snM nets TR O (flL c) (flS c) TR.length)) := by
  have hf2 := of_decide_eq_true hf
  have hs := seen5 hN hT hL hO (flL c) (flS_lt hc)
  unfold m_X5_seenOfFlaw
  by_cases h : c < 20
  · have e1 : flL c = 2 ^ c := if_pos h
    have e2 : flS c = 0 := if_pos h
    rw [e1, e2] at hs
    have hs' : m_X4_seenSet (nI TR.length) (nI O) left right nets (nI (2 ^ c)) 0 = some (nI (snM nets TR O (2 ^ c) 0 TR.length)) := hs
    rw [if_pos (by rw [i20, ltN (by omega) (by omega)]; exact h), shl_nI c (by omega), hs', bd1_s, e1, e2]
  · have e1 : flL c = 0 := if_neg h
    have e2 : flS c = 2 ^ (c - 20) := if_neg h
    rw [e1, e2] at hs
    have hs' : m_X4_seenSet (nI TR.length) (nI O) left right nets 0 (nI (2 ^ (c - 20))) = some (nI (snM nets TR O 0 (2 ^ (c - 20)) TR.length)) := hs
    rw [if_neg (by rw [i20, ltN (by omega) (by omega)]; exact h), i20, subN (by omega), shl_nI (c - 20) (by omega), hs', bd1_s, e1, e2]
def hitB (n : Nat) (nets : Ar) (TR : List (Nat × Nat)) (O : Nat) (w : Int32) (c : Nat) : Bool := flw n c && decide (nI (snM nets TR O (flL c) (flS c) TR.length) = w)
def fsA (hit : Nat → Bool) (want : Int32) : Nat → Nat → Int32 → Int32
  | 0, _, c => if want = -1 then c else -6
  | k + 1, i, c => if hit i = true then (if c = want then nI i else fsA hit want k (i + 1) (c + 1)) else fsA hit want k (i + 1) c
theorem fsa5_loop {nets left right : Ar} (hN : NetOk nets) {TR : List (Nat × Nat)} (hT : TRok TR) (hL : Lr TR left right) {O : Nat} (hO : O ≤ TR.length) {n : Nat} (hn : n ≤ 8) (w want : Int32) :
    ∀ k i, i + k = 26 → ∀ f, k < f → ∀ c, L_X5_flawSeenAs_5 (nI n) nets (nI TR.length) (nI O) left right w want f c (nI i) = some (fsA (hitB n nets TR O w) want k i c) := by
  intro k
  induction k with
  | zero =>
    intro i hi f hf c
    obtain ⟨f, rfl⟩ : ∃ f', f = f' + 1 := ⟨f - 1, by omega⟩
    have e0 : ∀ a b, L_X5_flawSeenAs_5 (nI n) nets (nI TR.length) (nI O) left right w want (f + 1) a b = B_X5_flawSeenAs_5 (nI n) nets (nI TR.length) (nI O) left right w want (L_X5_flawSeenAs_5 (nI n) nets (nI TR.length) (nI O) left right w want f) a b := fun _ _ => rfl
    rw [e0]
    unfold B_X5_flawSeenAs_5
    rw [if_pos (by rw [i26, leN (by omega) (by omega)]; omega), fsA]
    split <;> rfl
  | succ k ih =>
    intro i hi f hf c
    obtain ⟨f, rfl⟩ : ∃ f', f = f' + 1 := ⟨f - 1, by omega⟩
    have e0 : ∀ a b, L_X5_flawSeenAs_5 (nI n) nets (nI TR.length) (nI O) left right w want (f + 1) a b = B_X5_flawSeenAs_5 (nI n) nets (nI TR.length) (nI O) left right w want (L_X5_flawSeenAs_5 (nI n) nets (nI TR.length) (nI O) left right w want f) a b := fun _ _ => rfl
    rw [e0]
    unfold B_X5_flawSeenAs_5 J_X5_flawSeenAs_42
    rw [if_neg (by rw [i26, leN (by omega) (by omega)]; omega), isFlaw5 hn (by omega), bd1_s, show nI i + 1 = nI (i + 1) by rw [i1, addN], ih (i + 1) (by omega) f (by omega), ih (i + 1) (by omega) f (by omega), fsA]
    cases hf : flw n i with
    | false =>
      rw [if_pos (show bi false = 0 from rfl), if_neg (by simp [hitB, hf])]
    | true =>
      rw [if_neg (show ¬ bi true = 0 by decide), seenFlaw5 hN hT hL hO hn (by omega) hf, bd1_s]
      by_cases hw : nI (snM nets TR O (flL i) (flS i) TR.length) = w
      · rw [if_pos hw, if_pos (show hitB n nets TR O w i = true by simp [hitB, hf, hw])]
        split <;> rfl
      · rw [if_neg hw, if_neg (show ¬ hitB n nets TR O w i = true by simp [hitB, hw])]
theorem fsa5 {nets left right : Ar} (hN : NetOk nets) {TR : List (Nat × Nat)} (hT : TRok TR) (hL : Lr TR left right) {O : Nat} (hO : O ≤ TR.length) {n : Nat} (hn : n ≤ 8) (w want : Int32) : m_X5_flawSeenAs (nI n) nets (nI TR.length) (nI O) left right w want = some (fsA (hitB n nets TR O w) want 26 0 0) := fsa5_loop hN hT hL hO hn w want 26 0 (by omega) FU (by show _ < 4096; omega) 0
theorem fits6_loop {st nets xs ys left right ap g ip : Ar} {n : Nat} {near : Int32} (hR : Rb st n nets xs ys near) (hN : NetOk nets) {TR : List (Nat × Nat)} (hlen : TR.length ≤ 10) (hTn : ∀ q ∈ TR, q.1 < n ∧ q.2 < n) (hL : Lr TR left right) {O : Nat} (hA : apR ap O TR.length) (want w : Int32) :
    ∀ k i, i + k = 26 → ∀ f, k < f → ∀ c (one asd : Ar), ∃ one' asd', L_X6_fits_14 (nI TR.length) left right ap g ip want w f c (nI i) st one asd = some (fsA (hitB n nets TR O w) want k i c, nI TR.length, st, left, right, ap, g, ip, one', asd') := by
  have h0 := hR.1
  have hn := hR.2.1
  intro k
  induction k with
  | zero =>
    intro i hi f hf c one asd
    obtain ⟨f, rfl⟩ : ∃ f', f = f' + 1 := ⟨f - 1, by omega⟩
    have e0 : ∀ a b s o z, L_X6_fits_14 (nI TR.length) left right ap g ip want w (f + 1) a b s o z = B_X6_fits_14 (nI TR.length) left right ap g ip want w (L_X6_fits_14 (nI TR.length) left right ap g ip want w f) a b s o z := fun _ _ _ _ _ => rfl
    refine ⟨one, asd, ?_⟩
    rw [e0]
    unfold B_X6_fits_14
    rw [if_pos (by rw [i26, leN (by omega) (by omega)]; omega), fsA]
    split <;> rfl
  | succ k ih =>
    intro i hi f hf c one asd
    obtain ⟨f, rfl⟩ : ∃ f', f = f' + 1 := ⟨f - 1, by omega⟩
    have e0 : ∀ a b s o z, L_X6_fits_14 (nI TR.length) left right ap g ip want w (f + 1) a b s o z = B_X6_fits_14 (nI TR.length) left right ap g ip want w (L_X6_fits_14 (nI TR.length) left right ap g ip want w f) a b s o z := fun _ _ _ _ _ => rfl
    rw [e0]
    unfold B_X6_fits_14 J_X6_fits_51
    rw [if_neg (by rw [i26, leN (by omega) (by omega)]; omega), isSingle6 hn h0 (by omega), bd1_s, show nI i + 1 = nI (i + 1) by rw [i1, addN], fsA]
    cases hf : flw n i with
    | false =>
      rw [if_pos (show bi false = 0 from rfl), if_neg (by simp [hitB, hf])]
      exact ih (i + 1) (by omega) f (by omega) c one asd
    | true =>
      obtain ⟨o1, a1, h1⟩ := seenBy6 hR hN hlen hTn hL hA (show i < 26 by omega) one asd
      rw [if_neg (show ¬ bi true = 0 by decide), h1, bd4_s]
      by_cases hw : nI (snM nets TR O (flL i) (flS i) TR.length) = w
      · rw [if_pos hw, if_pos (show hitB n nets TR O w i = true by simp [hitB, hf, hw])]
        by_cases hc : c = want
        · rw [if_pos hc, if_pos hc]
          exact ⟨o1, a1, rfl⟩
        · rw [if_neg hc, if_neg hc]
          exact ih (i + 1) (by omega) f (by omega) (c + 1) o1 a1
      · rw [if_neg hw, if_neg (show ¬ hitB n nets TR O w i = true by simp [hitB, hw])]
        exact ih (i + 1) (by omega) f (by omega) c o1 a1
/-! hidden -/
def cF (hit : Nat → Bool) : Nat → Nat → Nat
  | 0, _ => 0
  | k + 1, i => (if hit i = true then 1 else 0) + cF hit k (i + 1)
def fF (hit : Nat → Bool) : Nat → Nat → Int32
  | 0, _ => -6
  | k + 1, i => if hit i = true then nI i else fF hit k (i + 1)
theorem fsA_m1 {hit : Nat → Bool} : ∀ k i c, c + k < 100 → fsA hit (-1) k i (nI c) = nI (c + cF hit k i) := by
  intro k
  induction k with
  | zero => intro i c _; rw [fsA, if_pos rfl]; rfl
  | succ k ih =>
    intro i c hc
    rw [fsA, cF]
    by_cases h : hit i = true
    · rw [if_pos h, if_pos h, if_neg (ne_m1 (by rw [tN (by omega)]; omega)), show nI c + 1 = nI (c + 1) by rw [i1, addN], ih (i + 1) (c + 1) (by omega)]
      congr 1
      omega
    · rw [if_neg h, if_neg h, ih (i + 1) c (by omega)]
      congr 1
      omega
theorem fsA_0 {hit : Nat → Bool} : ∀ k i, fsA hit 0 k i 0 = fF hit k i := by
  intro k
  induction k with
  | zero => intro i; rw [fsA, if_neg (by decide)]; rfl
  | succ k ih =>
    intro i
    rw [fsA, fF]
    by_cases h : hit i = true
    · rw [if_pos h, if_pos h, if_pos rfl]
    · rw [if_neg h, if_neg h, ih]
theorem hid6_loop {st nets xs ys left right ap g ip : Ar} {n : Nat} {near : Int32} (hR : Rb st n nets xs ys near) (hN : NetOk nets) {TR : List (Nat × Nat)} (hlen : TR.length ≤ 10) (hTn : ∀ q ∈ TR, q.1 < n ∧ q.2 < n) (hL : Lr TR left right) {O : Nat} (hA : apR ap O TR.length) (v : Int32) :
    ∀ i k, i + k = 26 → ∀ f, i < f → ∀ (one asd : Ar), ∃ one' asd', L_X6_hidden_25 (nI TR.length) left right ap g ip v f (nI (cF (hitB n nets TR O 0) k i)) (fF (hitB n nets TR O 0) k i) (nI i - 1) st one asd = some (if v = 0 then nI (cF (hitB n nets TR O 0) 26 0) else fF (hitB n nets TR O 0) 26 0, nI TR.length, st, left, right, ap, g, ip, one', asd') := by
  have h0 := hR.1
  have hn := hR.2.1
  intro i
  induction i with
  | zero =>
    intro k hk f hf one asd
    obtain ⟨f, rfl⟩ : ∃ f', f = f' + 1 := ⟨f - 1, by omega⟩
    have e0 : ∀ a b c s o z, L_X6_hidden_25 (nI TR.length) left right ap g ip v (f + 1) a b c s o z = B_X6_hidden_25 (nI TR.length) left right ap g ip v (L_X6_hidden_25 (nI TR.length) left right ap g ip v f) a b c s o z := fun _ _ _ _ _ _ => rfl
    have : k = 26 := by omega
    subst this
    refine ⟨one, asd, ?_⟩
    rw [e0]
    unfold B_X6_hidden_25
    rw [if_pos (show nI 0 - 1 < 0 by decide)]
    split <;> rfl
  | succ i ih =>
    intro k hk f hf one asd
    obtain ⟨f, rfl⟩ : ∃ f', f = f' + 1 := ⟨f - 1, by omega⟩
    have e0 : ∀ a b c s o z, L_X6_hidden_25 (nI TR.length) left right ap g ip v (f + 1) a b c s o z = B_X6_hidden_25 (nI TR.length) left right ap g ip v (L_X6_hidden_25 (nI TR.length) left right ap g ip v f) a b c s o z := fun _ _ _ _ _ _ => rfl
    have ih' := ih (k + 1) (by omega) f (by omega)
    rw [cF, fF] at ih'
    rw [predS, e0]
    unfold B_X6_hidden_25 J_X6_hidden_54
    rw [if_neg (nneg (by omega)), isSingle6 hn h0 (by omega), bd1_s, m1N]
    cases hf : flw n i with
    | false =>
      rw [if_neg (show ¬ hitB n nets TR O 0 i = true by simp [hitB, hf]), if_neg (show ¬ hitB n nets TR O 0 i = true by simp [hitB, hf]), Nat.zero_add] at ih'
      rw [if_pos (show bi false = 0 from rfl)]
      exact ih' one asd
    | true =>
      obtain ⟨o1, a1, h1⟩ := seenBy6 hR hN hlen hTn hL hA (show i < 26 by omega) one asd
      rw [if_neg (show ¬ bi true = 0 by decide), h1, bd4_s]
      by_cases hw : nI (snM nets TR O (flL i) (flS i) TR.length) = 0
      · rw [if_pos (show hitB n nets TR O 0 i = true by simp [hitB, hf, hw]), if_pos (show hitB n nets TR O 0 i = true by simp [hitB, hf, hw]), Nat.add_comm] at ih'
        rw [if_pos hw, i1, addN]
        exact ih' o1 a1
      · rw [if_neg (show ¬ hitB n nets TR O 0 i = true by simp [hitB, hw]), if_neg (show ¬ hitB n nets TR O 0 i = true by simp [hitB, hw]), Nat.zero_add] at ih'
        rw [if_neg hw]
        exact ih' o1 a1
