/-! ===== Int32 by its bits: bt x i ===== -/
def bt (x : Int32) (i : Nat) : Bool := x.toBitVec.getLsbD i
theorem b_ext {x y : Int32} (h : ∀ i, i < 32 → bt x i = bt y i) : x = y := Int32.toBitVec_inj.mp (BitVec.eq_of_getLsbD_eq (fun i hi => h i hi))
theorem b_or (x y : Int32) (i : Nat) : bt (x ||| y) i = (bt x i || bt y i) := by unfold bt; rw [Int32.toBitVec_or, BitVec.getLsbD_or]
theorem b_and (x y : Int32) (i : Nat) : bt (x &&& y) i = (bt x i && bt y i) := by unfold bt; rw [Int32.toBitVec_and, BitVec.getLsbD_and]
theorem b_xor (x y : Int32) (i : Nat) : bt (x ^^^ y) i = (bt x i ^^ bt y i) := by unfold bt; rw [Int32.toBitVec_xor, BitVec.getLsbD_xor]
theorem b_big {x : Int32} {i : Nat} (h : 32 ≤ i) : bt x i = false := BitVec.getLsbD_of_ge _ _ h
theorem b_255 (i : Nat) : bt 255 i = decide (i < 8) := by
  rcases Nat.lt_or_ge i 32 with h | h
  · exact (by decide +kernel : ∀ i, i < 32 → bt 255 i = decide (i < 8)) i h
  · rw [b_big h, decide_eq_false (by omega)]
theorem b_65535 (i : Nat) : bt 65535 i = decide (i < 16) := by
  rcases Nat.lt_or_ge i 32 with h | h
  · exact (by decide +kernel : ∀ i, i < 32 → bt 65535 i = decide (i < 16)) i h
  · rw [b_big h, decide_eq_false (by omega)]
theorem b_m1 : ∀ i, i < 32 → bt (-1) i = true := by decide +kernel
theorem b_0 (i : Nat) : bt 0 i = false := BitVec.getLsbD_zero
theorem s_l : ∀ n, n < 32 → ((nI n &&& 31).toBitVec.smod 32).toNat = n := by decide +kernel
theorem s_u : ∀ n, n < 32 → (((nI n).toUInt32 &&& Int32.toUInt32 31).toBitVec % 32).toNat = n := by decide +kernel
theorem b_shl (n : Nat) (hn : n < 32) (x : Int32) {i : Nat} (hi : i < 32) : bt (x <<< (nI n &&& 31)) i = (decide (n ≤ i) && bt x (i - n)) := by
  unfold bt
  rw [Int32.toBitVec_shiftLeft]
  show (x.toBitVec <<< ((nI n &&& 31).toBitVec.smod 32).toNat).getLsbD i = _
  rw [s_l n hn, BitVec.getLsbD_shiftLeft]
  rcases Nat.lt_or_ge i n with h | h
  · simp [h, Nat.not_le.mpr h]
  · simp [hi, h, Nat.not_lt.mpr h]
theorem b_ushr (n : Nat) (hn : n < 32) (x : Int32) (i : Nat) : bt ((x.toUInt32 >>> ((nI n).toUInt32 &&& Int32.toUInt32 31)).toInt32) i = bt x (n + i) := by
  show (x.toUInt32 >>> ((nI n).toUInt32 &&& Int32.toUInt32 31)).toBitVec.getLsbD i = x.toUInt32.toBitVec.getLsbD (n + i)
  rw [UInt32.toBitVec_shiftRight]
  show (x.toUInt32.toBitVec >>> (((nI n).toUInt32 &&& Int32.toUInt32 31).toBitVec % 32).toNat).getLsbD i = _
  rw [s_u n hn, BitVec.getLsbD_ushiftRight]
theorem b_sshr (n : Nat) (hn : n < 32) (x : Int32) {i : Nat} (hi : i < 32) : bt (x >>> (nI n &&& 31)) i = if n + i < 32 then bt x (n + i) else bt x 31 := by
  unfold bt
  rw [Int32.toBitVec_shiftRight]
  show (x.toBitVec.sshiftRight ((nI n &&& 31).toBitVec.smod 32).toNat).getLsbD i = _
  rw [s_l n hn, BitVec.getLsbD_sshiftRight, BitVec.msb_eq_getLsbD_last]
  simp [hi]
/-! ===== numbers ===== -/
theorem addN (a b : Nat) : nI a + nI b = nI (a + b) := by simp [nI]
theorem mulN (a b : Nat) : nI a * nI b = nI (a * b) := by simp [nI]
theorem cN {j : Nat} (h : j < 100000) : (nI j).toNatClampNeg = j := nI_clamp (by omega)
theorem tN {j : Nat} (h : j < 100000) : (nI j).toInt = (j : Int) := nI_toInt (by omega)
theorem gN {j n : Nat} (h : j < n) (hn : n < 100000) : gI (nI j) n = true := by
  unfold gI
  rw [tN (by omega)]
  simp
  omega
theorem leN {a b : Nat} (ha : a < 100000) (hb : b < 100000) : (nI a ≤ nI b) = (a ≤ b) := by
  rw [Int32.le_iff_toInt_le, tN ha, tN hb]
  exact propext (by omega)
theorem ltN {a b : Nat} (ha : a < 100000) (hb : b < 100000) : (nI a < nI b) = (a < b) := by
  rw [Int32.lt_iff_toInt_lt, tN ha, tN hb]
  exact propext (by omega)
theorem eqN {a b : Nat} (ha : a < 100000) (hb : b < 100000) : (nI a = nI b) = (a = b) := by
  refine propext ⟨fun h => ?_, fun h => by rw [h]⟩
  have := congrArg Int32.toInt h
  rw [tN ha, tN hb] at this
  omega
theorem eqI {x y : Int32} : (x = y) = (x.toInt = y.toInt) := propext ⟨fun h => by rw [h], fun h => Int32.toInt_inj.mp h⟩
theorem ltI {x y : Int32} : (x < y) = (x.toInt < y.toInt) := propext Int32.lt_iff_toInt_lt
theorem leI {x y : Int32} : (x ≤ y) = (x.toInt ≤ y.toInt) := propext Int32.le_iff_toInt_le
theorem subN {a b : Nat} (h : b ≤ a) : nI a - nI b = nI (a - b) := by
  have : nI a = nI (a - b) + nI b := by rw [addN]; congr 1; omega
  rw [this]
  simp
theorem i0 : (0 : Int32) = nI 0 := rfl
theorem i1 : (1 : Int32) = nI 1 := rfl
theorem i2 : (2 : Int32) = nI 2 := rfl
theorem i3 : (3 : Int32) = nI 3 := rfl
theorem i4 : (4 : Int32) = nI 4 := rfl
theorem i6 : (6 : Int32) = nI 6 := rfl
theorem i8 : (8 : Int32) = nI 8 := rfl
theorem i9 : (9 : Int32) = nI 9 := rfl
theorem i10 : (10 : Int32) = nI 10 := rfl
theorem i11 : (11 : Int32) = nI 11 := rfl
theorem i16 : (16 : Int32) = nI 16 := rfl
theorem i17 : (17 : Int32) = nI 17 := rfl
theorem i20 : (20 : Int32) = nI 20 := rfl
theorem i24 : (24 : Int32) = nI 24 := rfl
theorem i25 : (25 : Int32) = nI 25 := rfl
theorem i26 : (26 : Int32) = nI 26 := rfl
theorem i34 : (34 : Int32) = nI 34 := rfl
theorem i40 : (40 : Int32) = nI 40 := rfl
theorem i64 : (64 : Int32) = nI 64 := rfl
theorem of_gI {i : Int32} {n : Nat} (hn : n < 100000) (h : gI i n = true) : ∃ j, j < n ∧ i = nI j := vp_in_of (gI_in h) (by omega)
/-- every number is one from 0 on, or below 0 -/
theorem nN (x : Int32) (h : 0 ≤ x.toInt) (h2 : x.toInt < 100000) : ∃ j : Nat, j < 100000 ∧ (j : Int) = x.toInt ∧ x = nI j := by
  obtain ⟨j, hj, e⟩ := vp_in_of (n := 100000) (vp_in_iff.mpr ⟨h, by omega⟩) (by omega)
  exact ⟨j, hj, by rw [e, tN hj], e⟩
theorem grd_t {α : Type} {b : Bool} {k : Option α} (h : b = true) : grd b k = k := by rw [h]; rfl
theorem lp_s {T : Type} (bot : T) (B : T → T) (n : Nat) : lpG bot B (n + 1) = B (lpG bot B n) := rfl
def bi (c : Bool) : Int32 := if c then 1 else 0
theorem bi_t : bi true = 1 := rfl
theorem bi_f : bi false = 0 := rfl
theorem bi_eq0 (c : Bool) : (bi c = 0) = (c = false) := by cases c <;> simp [bi]
theorem bi_eq1 (c : Bool) : (bi c = 1) = (c = true) := by cases c <;> simp [bi]
theorem zb_bi (c : Bool) : zb (bi c) = true := by cases c <;> rfl
theorem bi_inj {a b : Bool} : (bi a = bi b) = (a = b) := by cases a <;> cases b <;> simp [bi]
theorem b_1 (i : Nat) : bt 1 i = decide (i = 0) := by
  rcases Nat.lt_or_ge i 32 with h | h
  · exact (by decide +kernel : ∀ i, i < 32 → bt 1 i = decide (i = 0)) i h
  · rw [b_big h, decide_eq_false (by omega)]
theorem and1 (x : Int32) : x &&& 1 = bi (bt x 0) := by
  apply b_ext
  intro i hi
  rw [b_and, b_1]
  by_cases h : i = 0
  · subst h
    cases bt x 0 <;> simp [bi, b_1, b_0]
  · have : bt (bi (bt x 0)) i = false := by cases bt x 0 <;> simp [bi, b_1, b_0, h]
    rw [this]
    simp [h]
theorem shr1 (w : Int32) {b : Nat} (hb : b < 32) : (w >>> (nI b &&& 31)) &&& 1 = bi (bt w b) := by
  rw [and1, b_sshr b hb w (by omega), if_pos (by omega)]
  rfl
theorem isIn_eq (w : Int32) {b : Nat} (hb : b < 32) : m_X5_isIn w (nI b) = some (bi (bt w b)) := by
  unfold m_X5_isIn
  rw [shr1 w hb]
  cases bt w b <;> rfl
theorem b_one {b i : Nat} (hb : b < 32) (hi : i < 32) : bt ((1 : Int32) <<< (nI b &&& 31)) i = decide (i = b) := by
  rw [b_shl b hb 1 hi, b_1]
  by_cases h : i = b
  · subst h; simp
  · by_cases h2 : b ≤ i
    · simp [h2, h]; omega
    · simp [h2, h]
theorem b_set (w : Int32) {b i : Nat} (hb : b < 32) (hi : i < 32) : bt (w ||| (1 : Int32) <<< (nI b &&& 31)) i = (decide (i = b) || bt w i) := by
  rw [b_or, b_one hb hi, Bool.or_comm]
theorem b_clr (w : Int32) {b i : Nat} (hb : b < 32) (hi : i < 32) : bt (w &&& ((1 : Int32) <<< (nI b &&& 31) ^^^ (-1))) i = (!decide (i = b) && bt w i) := by
  rw [b_and, b_xor, b_one hb hi, b_m1 i hi]
  cases decide (i = b) <;> cases bt w i <;> rfl
/-- number of the bits below n -/
def cnt (p : Nat → Bool) : Nat → Nat
  | 0 => 0
  | n + 1 => cnt p n + (if p n then 1 else 0)
theorem upd_s (f : Ar) (k : Nat) (v : Int32) : upd f k v k = v := by simp [upd]
theorem upd_n (f : Ar) {k j : Nat} (v : Int32) (h : j ≠ k) : upd f k v j = f j := by simp [upd, h]
theorem nar_bi (c : Bool) : vp_nar .boolean (bi c) = bi c := by cases c <;> rfl
theorem nar0 : vp_nar .boolean 0 = 0 := rfl
theorem nar1 : vp_nar .boolean 1 = 1 := rfl
theorem bd1_s {α β : Type} (a : α) (f : α → Option β) : bd1 (some a) f = f a := rfl
theorem bd2_s {α1 α2 β : Type} (a : α1) (b : α2) (f : α1 → α2 → Option β) : bd2 (some (a, b)) f = f a b := rfl
theorem bd3_s {α1 α2 α3 β : Type} (a : α1) (b : α2) (c : α3) (f : α1 → α2 → α3 → Option β) : bd3 (some (a, b, c)) f = f a b c := rfl
theorem bd4_s {α1 α2 α3 α4 β : Type} (a : α1) (b : α2) (c : α3) (d : α4) (f : α1 → α2 → α3 → α4 → Option β) : bd4 (some (a, b, c, d)) f = f a b c d := rfl
theorem bd6_s {α1 α2 α3 α4 α5 α6 β : Type} (a : α1) (b : α2) (c : α3) (d : α4) (e : α5) (g : α6) (f : α1 → α2 → α3 → α4 → α5 → α6 → Option β) : bd6 (some (a, b, c, d, e, g)) f = f a b c d e g := rfl
/-- tests of arguments -/
theorem isNet5 (x : Int32) : m_X5_isNet x = some (bi (decide (0 ≤ x.toInt ∧ x.toInt < 4))) := by
  unfold m_X5_isNet
  simp only [ltI, leI, show (0 : Int32).toInt = 0 from rfl, show (4 : Int32).toInt = 4 from rfl]
  by_cases h : x.toInt < 0
  · rw [if_pos h, decide_eq_false (by omega)]; rfl
  · rw [if_neg h]
    by_cases h2 : 4 ≤ x.toInt
    · rw [if_pos h2, decide_eq_false (by omega)]; rfl
    · rw [if_neg h2, decide_eq_true (by omega)]; rfl
theorem in6 (x a b : Int32) : m_X6_in x a b = some (bi (decide (a.toInt ≤ x.toInt ∧ x.toInt ≤ b.toInt))) := by
  unfold m_X6_in
  simp only [ltI]
  by_cases h : x.toInt < a.toInt
  · rw [if_pos h, decide_eq_false (by omega)]; rfl
  · rw [if_neg h]
    by_cases h2 : b.toInt < x.toInt
    · rw [if_pos h2, decide_eq_false (by omega)]; rfl
    · rw [if_neg h2, decide_eq_true (by omega)]; rfl
theorem isNet6 (x : Int32) : m_X6_isNet x = some (bi (decide (0 ≤ x.toInt ∧ x.toInt < 4))) := by
  unfold m_X6_isNet
  rw [in6, bd1_s, zb_bi, grd_t rfl]
  congr 2
  simp only [show (0 : Int32).toInt = 0 from rfl, show (3 : Int32).toInt = 3 from rfl]
  exact decide_eq_decide.mpr (by omega)
theorem isHere6 (x y : Int32) : m_X6_isHere x y = some (bi (decide ((0 ≤ x.toInt ∧ x.toInt ≤ 20) ∧ (0 ≤ y.toInt ∧ y.toInt ≤ 20)))) := by
  unfold m_X6_isHere
  simp only [in6, bd1_s, bi_eq0, show (0 : Int32).toInt = 0 from rfl, show (20 : Int32).toInt = 20 from rfl, decide_eq_false_iff_not]
  by_cases h : 0 ≤ x.toInt ∧ x.toInt ≤ 20
  · by_cases h2 : 0 ≤ y.toInt ∧ y.toInt ≤ 20
    · simp [h, h2, bi]
    · simp [h, h2, bi]
  · simp [h, bi]
theorem isOnBoard5 (x y : Int32) : m_X5_isOnBoard x y = some (bi (decide ((0 ≤ x.toInt ∧ x.toInt ≤ 20) ∧ (0 ≤ y.toInt ∧ y.toInt ≤ 20)))) := by
  unfold m_X5_isOnBoard
  simp only [ltI, show (0 : Int32).toInt = 0 from rfl, show (20 : Int32).toInt = 20 from rfl]
  by_cases h1 : x.toInt < 0
  · rw [if_pos h1, decide_eq_false (by omega)]; rfl
  rw [if_neg h1]
  by_cases h2 : 20 < x.toInt
  · rw [if_pos h2, decide_eq_false (by omega)]; rfl
  rw [if_neg h2]
  by_cases h3 : y.toInt < 0
  · rw [if_pos h3, decide_eq_false (by omega)]; rfl
  rw [if_neg h3]
  by_cases h4 : 20 < y.toInt
  · rw [if_pos h4, decide_eq_false (by omega)]; rfl
  rw [if_neg h4, decide_eq_true (by omega)]; rfl
theorem isSwitch5 (x : Int32) : m_X5_isSwitch x = some (bi (decide (0 ≤ x.toInt ∧ x.toInt ≤ 1))) := by
  unfold m_X5_isSwitch J_X5_isSwitch_9
  simp only [eqI, show (0 : Int32).toInt = 0 from rfl, show (1 : Int32).toInt = 1 from rfl]
  by_cases h1 : x.toInt = 0
  · rw [if_pos h1, decide_eq_true (by omega)]; rfl
  rw [if_neg h1]
  by_cases h2 : x.toInt = 1
  · rw [if_pos h2, decide_eq_true (by omega)]; rfl
  rw [if_neg h2, decide_eq_false (by omega)]; rfl
theorem isImage5 (x : Int32) : m_X5_isImage x = some (bi (decide (0 ≤ x.toInt ∧ x.toInt ≤ 1))) := by
  unfold m_X5_isImage
  simp only [ltI, leI, show (0 : Int32).toInt = 0 from rfl, show (2 : Int32).toInt = 2 from rfl]
  by_cases h : x.toInt < 0
  · rw [if_pos h, decide_eq_false (by omega)]; rfl
  · rw [if_neg h]
    by_cases h2 : 2 ≤ x.toInt
    · rw [if_pos h2, decide_eq_false (by omega)]; rfl
    · rw [if_neg h2, decide_eq_true (by omega)]; rfl
theorem hasPoint5 {n : Nat} (hn : n < 100000) (x : Int32) : m_X0_hasPoint (nI n) x = some (bi (decide (0 ≤ x.toInt ∧ x.toInt < n))) := by
  unfold m_X0_hasPoint
  simp only [ltI, leI, show (0 : Int32).toInt = 0 from rfl, tN hn]
  by_cases h : x.toInt < 0
  · rw [if_pos h, decide_eq_false (by omega)]; rfl
  · rw [if_neg h]
    by_cases h2 : (n : Int) ≤ x.toInt
    · rw [if_pos h2, decide_eq_false (by omega)]; rfl
    · rw [if_neg h2, decide_eq_true (by omega)]; rfl
theorem hasTry5 {n : Nat} (hn : n < 100000) (x : Int32) : m_X4_hasTry (nI n) x = some (bi (decide (0 ≤ x.toInt ∧ x.toInt < n))) := hasPoint5 hn x
theorem predN {n : Nat} (hn : n < 100000) : (nI n - 1).toInt = (n : Int) - 1 := by
  rw [Int32.toInt_sub, tN hn, show (1 : Int32).toInt = 1 from rfl, show (2 ^ 32 : Nat) = 4294967296 from rfl, bm_small (by omega) (by omega)]
theorem isPoint6 {m_state : Ar} {n : Nat} (hn : n < 100000) (h0 : m_state 0 = nI n) (x : Int32) : m_X6_isPoint m_state x = some (bi (decide (0 ≤ x.toInt ∧ x.toInt < n))) := by
  unfold m_X6_isPoint
  rw [in6, bd1_s, zb_bi, grd_t rfl, h0, predN hn, show (0 : Int32).toInt = 0 from rfl]
  congr 2
  exact decide_eq_decide.mpr (by omega)
theorem isTry6 {n : Nat} (hn : n < 100000) (x : Int32) : m_X6_isTry (nI n) x = some (bi (decide (0 ≤ x.toInt ∧ x.toInt < n))) := by
  unfold m_X6_isTry
  rw [in6, bd1_s, zb_bi, grd_t rfl, predN hn, show (0 : Int32).toInt = 0 from rfl]
  congr 2
  exact decide_eq_decide.mpr (by omega)
