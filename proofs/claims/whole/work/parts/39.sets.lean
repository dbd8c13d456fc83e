/-! ===== sets as numbers ===== -/
theorem bt_nI {S i : Nat} (hi : i < 32) : bt (nI S) i = S.testBit i := by
  show (BitVec.ofNat 32 S).getLsbD i = _
  rw [BitVec.getLsbD_ofNat]
  simp [hi]
theorem shl_nI : ∀ i, i < 16 → (1 : Int32) <<< (nI i &&& 31) = nI (2 ^ i) := by decide +kernel
theorem xorN (a b : Nat) : nI a ^^^ nI b = nI (a ^^^ b) := by
  apply b_ext
  intro i hi
  rw [b_xor, bt_nI hi, bt_nI hi, bt_nI hi, Nat.testBit_xor]
theorem andN (a b : Nat) : nI a &&& nI b = nI (a &&& b) := by
  apply b_ext
  intro i hi
  rw [b_and, bt_nI hi, bt_nI hi, bt_nI hi, Nat.testBit_and]
theorem orN (a b : Nat) : nI a ||| nI b = nI (a ||| b) := by
  apply b_ext
  intro i hi
  rw [b_or, bt_nI hi, bt_nI hi, bt_nI hi, Nat.testBit_or]
theorem tb_xor (S i k : Nat) : (S ^^^ 2 ^ i).testBit k = (S.testBit k ^^ decide (i = k)) := by
  rw [Nat.testBit_xor, Nat.testBit_two_pow]
theorem and_bit (S : Nat) {i : Nat} (hi : i < 16) : (nI S &&& (1 : Int32) <<< (nI i &&& 31) = 0) = (S.testBit i = false) := by
  refine propext ⟨fun h => ?_, fun h => ?_⟩
  · have h2 : bt (nI S &&& (1 : Int32) <<< (nI i &&& 31)) i = bt 0 i := by rw [h]
    rw [b_and, b_one (by omega) (by omega), b_0, bt_nI (by omega)] at h2
    simpa using h2
  · apply b_ext
    intro k hk
    rw [b_and, b_one (by omega) hk, b_0, bt_nI hk]
    by_cases hki : k = i
    · subst hki; rw [h]; rfl
    · simp [hki]
theorem xor_bit (S : Nat) {i : Nat} (hi : i < 16) : nI S ^^^ (1 : Int32) <<< (nI i &&& 31) = nI (S ^^^ 2 ^ i) := by rw [shl_nI i hi, xorN]
theorem clr_bit {S i : Nat} (hi : i < 16) (h : S.testBit i = true) : nI S &&& ((1 : Int32) <<< (nI i &&& 31) ^^^ (-1)) = nI (S ^^^ 2 ^ i) := by
  apply b_ext
  intro k hk
  rw [b_clr _ (by omega) hk, bt_nI hk, bt_nI hk, tb_xor]
  by_cases hki : k = i
  · subst hki; simp [h]
  · have : ¬ i = k := fun e => hki e.symm
    simp [hki, this]
theorem clr_same {S i : Nat} (hi : i < 16) : (nI S &&& ((1 : Int32) <<< (nI i &&& 31) ^^^ (-1)) = nI S) = (S.testBit i = false) := by
  refine propext ⟨fun h => ?_, fun h => ?_⟩
  · have h2 : bt (nI S &&& ((1 : Int32) <<< (nI i &&& 31) ^^^ (-1))) i = bt (nI S) i := by rw [h]
    rw [b_clr _ (by omega) (by omega), bt_nI (by omega)] at h2
    simpa using h2.symm
  · apply b_ext
    intro k hk
    rw [b_clr _ (by omega) hk, bt_nI hk]
    by_cases hki : k = i
    · subst hki; simp [h]
    · simp [hki]
theorem or_bit {S i : Nat} (hi : i < 16) (h : S.testBit i = false) : nI S ||| (1 : Int32) <<< (nI i &&& 31) = nI (S ^^^ 2 ^ i) := by
  apply b_ext
  intro k hk
  rw [b_set _ (by omega) hk, bt_nI hk, bt_nI hk, tb_xor]
  by_cases hki : k = i
  · subst hki; simp [h]
  · have : ¬ i = k := fun e => hki e.symm
    simp [hki, this]
theorem xor_ltD : ∀ S, S < 1024 → ∀ i, i < 10 → S.testBit i = true → S ^^^ 2 ^ i < S := by decide +kernel
theorem xor_lt {S i : Nat} (hS : S < 1024) (hi : i < 10) (h : S.testBit i = true) : S ^^^ 2 ^ i < S := xor_ltD S hS i hi h
theorem xor_lt2 {S i T : Nat} (hS : S < 2 ^ T) (hi : i < T) : S ^^^ 2 ^ i < 2 ^ T := Nat.xor_lt_two_pow hS (Nat.pow_lt_pow_right (by omega) hi)
theorem tb_lt {S T i : Nat} (hS : S < 2 ^ T) (hi : T ≤ i) : S.testBit i = false := Nat.testBit_lt_two_pow (Nat.lt_of_lt_of_le hS (Nat.pow_le_pow_right (by omega) hi))
theorem tb_full {T i : Nat} : (2 ^ T - 1).testBit i = decide (i < T) := Nat.testBit_two_pow_sub_one T i
theorem all_tries : ∀ T, T ≤ 10 → m_X1_allTries (nI T) = some (nI (2 ^ T - 1)) := by decide +kernel
theorem pow_le {T : Nat} (h : T ≤ 10) : 2 ^ T ≤ 1024 := Nat.pow_le_pow_right (n := 2) (j := 10) (by omega) h
theorem ex_bit {S T : Nat} (hS : S < 2 ^ T) (h : S ≠ 0) : ∃ i, i < T ∧ S.testBit i = true := by
  obtain ⟨i, hi⟩ := Nat.exists_testBit_of_ne_zero h
  refine ⟨i, ?_, hi⟩
  rcases Nat.lt_or_ge i T with h9 | h9
  · exact h9
  · rw [tb_lt hS h9] at hi; cases hi
theorem PK_ext2 {ok : Nat → Bool} {fr fr' : Nat → Int32} : ∀ n, (∀ j, j < n → ok j = true → fr j = fr' j) → PK ok fr n = PK ok fr' n := by
  intro n
  induction n with
  | zero => intro _; rfl
  | succ n ih =>
    intro h
    have e := ih (fun j hj => h j (by omega))
    rw [PK, PK, ← e]
    by_cases ho : ok n = true
    · rw [if_pos ho, if_pos ho]
      cases hp : PK ok fr n with
      | none => rfl
      | some j =>
        have hs := (PK_spec n).2 j hp
        simp only
        rw [h n (by omega) ho, h j (by have := hs.1; omega) hs.2.1]
    · rw [if_neg ho, if_neg ho]
