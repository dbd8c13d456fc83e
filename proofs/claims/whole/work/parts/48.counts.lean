/-! ===== halves ===== -/
def oth (a j : Nat) : Nat := if a ≤ j then j + 1 else j
theorem oth_lt {a j : Nat} (hj : j < 3) : oth a j < 4 := by unfold oth; split <;> omega
def xH (ws a j : Nat) : Bool := (oneT ws a).testBit (oth a j)
def hvA (ws a : Nat) (h : Int32) : Int32 := if h = 0 then (if xH ws a 0 then 2 else 3) else (if xH ws a 0 then nI (oth a 0) else if xH ws a 1 then nI (oth a 1) else if xH ws a 2 then nI (oth a 2) else -6)
theorem hv5_all : ∀ ws, ws < 64 → ∀ a, a < 4 → m_X5_halves (nI ws) (nI a) 0 = some (hvA ws a 0) ∧ m_X5_halves (nI ws) (nI a) 1 = some (hvA ws a 1) := by decide +kernel
theorem hv27 {st one : Ar} {a : Nat} (ha : a < 4) (h : Int32) : ∀ k i, i + k = 3 → ∀ f, k < f → ∀ o : Ar, L_X6_halves_27 st one (nI a) h f (nI i) o = L_X6_halves_64 st one (cpF i 3 (fun j => nI (oth a j)) o) (nI a) h FU 0 3 0 := by
  intro k
  induction k with
  | zero =>
    intro i hi f hf o
    obtain ⟨f, rfl⟩ : ∃ f', f = f' + 1 := ⟨f - 1, by omega⟩
    have e0 : ∀ x y, L_X6_halves_27 st one (nI a) h (f + 1) x y = B_X6_halves_27 st one (nI a) h (L_X6_halves_27 st one (nI a) h f) x y := fun _ _ => rfl
    have : i = 3 := by omega
    subst this
    rw [e0, cpF_end]
    unfold B_X6_halves_27
    rw [if_pos (by decide)]
  | succ k ih =>
    intro i hi f hf o
    obtain ⟨f, rfl⟩ : ∃ f', f = f' + 1 := ⟨f - 1, by omega⟩
    have e0 : ∀ x y, L_X6_halves_27 st one (nI a) h (f + 1) x y = B_X6_halves_27 st one (nI a) h (L_X6_halves_27 st one (nI a) h f) x y := fun _ _ => rfl
    rw [e0]
    unfold B_X6_halves_27 J_X6_halves_49
    rw [if_neg (by rw [i3, leN (by omega) (by omega)]; omega), gN (by omega) (by omega), grd_tt, grd_tt, cN (by omega), i1, addN, ih (i + 1) (by omega) f (by omega), ih (i + 1) (by omega) f (by omega)]
    by_cases hc : a ≤ i
    · rw [if_pos (by rw [leN (by omega) (by omega)]; exact hc), cpF_step (by omega) (by show nI (i + 1) = nI (oth a i); unfold oth; rw [if_pos hc])]
    · rw [if_neg (by rw [leN (by omega) (by omega)]; exact hc), cpF_step (by omega) (by show nI i = nI (oth a i); unfold oth; rw [if_neg hc])]
theorem any1 {one o : Ar} {a j : Nat} {x : Bool} (ha : a < 4) (hj : j < 3) (ho : o j = nI (oth a j)) (hx : one (4 * a + oth a j) = bi x) : m_X6_isAnyOne one o (nI a) (nI j) (nI (j + 1)) = some (bi x) := by
  have hlt := oth_lt (a := a) hj
  have e0 : ∀ f p q, L_X6_isAnyOne_6 one o (nI a) (nI (j + 1)) (f + 1) p q = B_X6_isAnyOne_6 one o (nI a) (nI (j + 1)) (L_X6_isAnyOne_6 one o (nI a) (nI (j + 1)) f) p q := fun _ _ _ => rfl
  unfold m_X6_isAnyOne
  rw [show FU = 4094 + 1 + 1 from rfl, e0]
  unfold B_X6_isAnyOne_6 J_X6_isAnyOne_36 J_X6_isAnyOne_41
  rw [if_neg (by rw [leN (by omega) (by omega)]; omega), if_pos rfl, gN (by omega) (by omega), grd_tt, cN (by omega), ho, i4, mulN, addN, gN (by omega) (by omega), grd_tt, cN (by omega), hx, show nI j + 1 = nI (j + 1) by rw [i1, addN]]
  cases x with
  | true =>
    rw [if_neg (show ¬ bi true = 0 by decide), e0]
    unfold B_X6_isAnyOne_6
    rw [if_pos (by rw [leN (by omega) (by omega)]; omega)]
    rfl
  | false =>
    rw [if_pos (show bi false = 0 from rfl), e0]
    unfold B_X6_isAnyOne_6
    rw [if_pos (by rw [leN (by omega) (by omega)]; omega)]
    rfl
theorem hv64 {st one o : Ar} {a ws : Nat} (ha : a < 4) (hO : On4 one ws) (ho : ∀ j, j < 3 → o j = nI (oth a j)) {h : Int32} : L_X6_halves_64 st one o (nI a) h FU 0 3 0 = some (hvA ws a h, one, o) := by
  have hx : ∀ j, j < 3 → one (4 * a + oth a j) = bi (xH ws a j) := fun j hj => hO a (oth a j) ha (oth_lt hj)
  have e0 : ∀ f p q r, L_X6_halves_64 st one o (nI a) h (f + 1) p q r = B_X6_halves_64 st one o (nI a) h (L_X6_halves_64 st one o (nI a) h f) p q r := fun _ _ _ _ => rfl
  have hend : ∀ (f j : Nat) (r : Int32), j < 3 → L_X6_halves_64 st one o (nI a) h (f + 1) (nI j) (nI (j + 1)) r = some (if h = 0 then r + 1 else if xH ws a j then nI (oth a j) else -6, one, o) := by
    intro f j r hj
    have hlt := oth_lt (a := a) hj
    rw [e0]
    unfold B_X6_halves_64
    rw [subN (by omega), show j + 1 - j = 1 by omega, if_pos (show nI 1 ≤ 1 by decide), gN hj (by omega), grd_tt, grd_tt, cN (by omega), ho j hj, i4, mulN, addN, gN (by omega) (by omega), grd_tt, cN (by omega), hx j hj]
    by_cases hh : h = 0
    · rw [if_pos hh, if_pos hh]
    · rw [if_neg hh, if_neg hh]
      cases xH ws a j <;> rfl
  rw [show FU = 4093 + 1 + 1 + 1 from rfl, e0]
  unfold B_X6_halves_64 J_X6_halves_106
  rw [if_neg (by decide)]
  have a1 := any1 ha (show 0 < 3 by omega) (ho 0 (by omega)) (hx 0 (by omega))
  have a1' : m_X6_isAnyOne one o (nI a) 0 (0 + (3 - 0) / 2) = some (bi (xH ws a 0)) := a1
  rw [a1', bd1_s]
  have a2 := any1 ha (show 1 < 3 by omega) (ho 1 (by omega)) (hx 1 (by omega))
  unfold hvA
  cases h0 : xH ws a 0 with
  | true =>
    rw [if_neg (show ¬ bi true = 0 by decide)]
    have := hend (4093 + 1) 0 1 (by omega)
    refine Eq.trans this ?_
    rw [h0]
    rfl
  | false =>
    rw [if_pos (show bi false = 0 from rfl), e0]
    unfold B_X6_halves_64 J_X6_halves_106
    rw [if_neg (by decide)]
    have a2' : m_X6_isAnyOne one o (nI a) (0 + (3 - 0) / 2) (0 + (3 - 0) / 2 + (3 - (0 + (3 - 0) / 2)) / 2) = some (bi (xH ws a 1)) := a2
    rw [a2', bd1_s]
    cases h1 : xH ws a 1 with
    | true =>
      rw [if_neg (show ¬ bi true = 0 by decide)]
      have := hend 4093 1 2 (by omega)
      refine Eq.trans this ?_
      rw [h1]
      rfl
    | false =>
      rw [if_pos (show bi false = 0 from rfl)]
      have := hend 4093 2 2 (by omega)
      refine Eq.trans this ?_
      rfl
/-! ===== counts ===== -/
theorem bc_all : ∀ w, w < 256 → m_J6_bitCount_0f7a4 (nI w) = some (nI (cnt (fun i => w.testBit i) 8)) := by decide +kernel
theorem cnt_to {f : Nat → Bool} {n : Nat} : ∀ k, (∀ p, n ≤ p → p < n + k → f p = false) → cnt f (n + k) = cnt f n := by
  intro k
  induction k with
  | zero => intro _; rfl
  | succ k ih =>
    intro h
    rw [show n + (k + 1) = n + k + 1 by omega, cnt, h (n + k) (by omega) (by omega), ih (fun p h1 h2 => h p h1 (by omega))]
    rfl
theorem bc5 {w n : Nat} (hn : n ≤ 8) (hw : w < 2 ^ n) : m_J6_bitCount_0f7a4 (nI w) = some (nI (cnt (fun i => w.testBit i) n)) := by
  have h256 : 2 ^ n ≤ 256 := Nat.pow_le_pow_right (n := 2) (j := 8) (by omega) hn
  rw [bc_all w (by omega)]
  have e := cnt_to (f := fun i => w.testBit i) (n := n) (8 - n) (fun p h1 _ => tb_lt hw h1)
  rw [show n + (8 - n) = 8 by omega] at e
  rw [e]
theorem biN (c : Bool) : bi c = nI (if c = true then 1 else 0) := by cases c <;> rfl
theorem lm_loop {st : Ar} {n wl : Nat} (hn : n ≤ 8) (h0 : st 0 = nI n) (hF : ∀ p, p < n → st (25 + p) = bi (wl.testBit p)) :
    ∀ k i, i + k = n → ∀ f, k < f → L_X6_looseMany_4 st f (nI (cnt (fun i => wl.testBit i) i)) (nI i) = some (nI (cnt (fun i => wl.testBit i) n)) := by
  intro k
  induction k with
  | zero =>
    intro i hi f hf
    obtain ⟨f, rfl⟩ : ∃ f', f = f' + 1 := ⟨f - 1, by omega⟩
    have e0 : ∀ a b, L_X6_looseMany_4 st (f + 1) a b = B_X6_looseMany_4 st (L_X6_looseMany_4 st f) a b := fun _ _ => rfl
    rw [e0]
    unfold B_X6_looseMany_4
    rw [h0, if_pos (by rw [leN (by omega) (by omega)]; omega), show i = n by omega]
  | succ k ih =>
    intro i hi f hf
    obtain ⟨f, rfl⟩ : ∃ f', f = f' + 1 := ⟨f - 1, by omega⟩
    have e0 : ∀ a b, L_X6_looseMany_4 st (f + 1) a b = B_X6_looseMany_4 st (L_X6_looseMany_4 st f) a b := fun _ _ => rfl
    have ih' := ih (i + 1) (by omega) f (by omega)
    rw [e0]
    unfold B_X6_looseMany_4
    rw [h0, if_neg (by rw [leN (by omega) (by omega)]; omega), i25, addN, gN (by omega) (by omega), grd_tt, cN (by omega), hF i (by omega), biN, addN, i1, addN]
    exact ih'
theorem loose6 {st : Ar} {n wl : Nat} (hn : n ≤ 8) (h0 : st 0 = nI n) (hF : ∀ p, p < n → st (25 + p) = bi (wl.testBit p)) : m_X6_looseMany st = some (nI (cnt (fun i => wl.testBit i) n)) := lm_loop hn h0 hF n 0 (by omega) FU (by show _ < 4096; omega)
theorem sm_loop {st : Ar} {ws : Nat} (hF : ∀ j, j < 6 → st (34 + j) = bi (ws.testBit j)) :
    ∀ k i, i + k = 6 → ∀ f, k < f → L_X6_shortMany_4 st f (nI (cnt (fun i => ws.testBit i) i)) (nI i) = some (nI (cnt (fun i => ws.testBit i) 6)) := by
  intro k
  induction k with
  | zero =>
    intro i hi f hf
    obtain ⟨f, rfl⟩ : ∃ f', f = f' + 1 := ⟨f - 1, by omega⟩
    have e0 : ∀ a b, L_X6_shortMany_4 st (f + 1) a b = B_X6_shortMany_4 st (L_X6_shortMany_4 st f) a b := fun _ _ => rfl
    rw [e0]
    unfold B_X6_shortMany_4
    rw [if_pos (by rw [i6, leN (by omega) (by omega)]; omega), show i = 6 by omega]
  | succ k ih =>
    intro i hi f hf
    obtain ⟨f, rfl⟩ : ∃ f', f = f' + 1 := ⟨f - 1, by omega⟩
    have e0 : ∀ a b, L_X6_shortMany_4 st (f + 1) a b = B_X6_shortMany_4 st (L_X6_shortMany_4 st f) a b := fun _ _ => rfl
    have ih' := ih (i + 1) (by omega) f (by omega)
    rw [e0]
    unfold B_X6_shortMany_4
    rw [if_neg (by rw [i6, leN (by omega) (by omega)]; omega), i34, addN, gN (by omega) (by omega), grd_tt, cN (by omega), hF i (by omega), biN, addN, i1, addN]
    exact ih'
theorem short6 {st : Ar} {ws : Nat} (hF : ∀ j, j < 6 → st (34 + j) = bi (ws.testBit j)) : m_X6_shortMany st = some (nI (cnt (fun i => ws.testBit i) 6)) := sm_loop hF 6 0 (by omega) FU (by show _ < 4096; omega)
theorem am_loop {ap : Ar} {O T : Nat} (hT : T ≤ 10) (hA : apR ap O T) :
    ∀ k i, i + k = T → ∀ f, k < f → L_X6_apartMany_4 (nI T) ap f (nI (i - O)) (nI i) = some (nI (T - O)) := by
  intro k
  induction k with
  | zero =>
    intro i hi f hf
    obtain ⟨f, rfl⟩ : ∃ f', f = f' + 1 := ⟨f - 1, by omega⟩
    have e0 : ∀ a b, L_X6_apartMany_4 (nI T) ap (f + 1) a b = B_X6_apartMany_4 (nI T) ap (L_X6_apartMany_4 (nI T) ap f) a b := fun _ _ => rfl
    rw [e0]
    unfold B_X6_apartMany_4
    rw [if_pos (by rw [leN (by omega) (by omega)]; omega), show i = T by omega]
  | succ k ih =>
    intro i hi f hf
    obtain ⟨f, rfl⟩ : ∃ f', f = f' + 1 := ⟨f - 1, by omega⟩
    have e0 : ∀ a b, L_X6_apartMany_4 (nI T) ap (f + 1) a b = B_X6_apartMany_4 (nI T) ap (L_X6_apartMany_4 (nI T) ap f) a b := fun _ _ => rfl
    have ih' := ih (i + 1) (by omega) f (by omega)
    rw [e0]
    unfold B_X6_apartMany_4 J_X6_apartMany_27
    rw [if_neg (by rw [leN (by omega) (by omega)]; omega), gN (by omega) (by omega), grd_tt, cN (by omega), hA i (by omega), show nI i + 1 = nI (i + 1) by rw [i1, addN], show nI (i - O) + 1 = nI (i - O + 1) by rw [i1, addN], show nI (i - O) + 0 = nI (i - O) by rw [i0, addN]; rfl]
    by_cases h : O ≤ i
    · rw [decide_eq_true h, if_neg (show ¬ bi true = 0 by decide), show i - O + 1 = i + 1 - O by omega]
      exact ih'
    · rw [decide_eq_false h, if_pos (show bi false = 0 from rfl), show i - O = i + 1 - O by omega]
      exact ih'
theorem apart6 {ap : Ar} {O T : Nat} (hT : T ≤ 10) (hA : apR ap O T) : m_X6_apartMany (nI T) ap = some (nI (T - O)) := by
  have h := am_loop hT hA T 0 (by omega) FU (by show _ < 4096; omega)
  rw [Nat.zero_sub] at h
  exact h
def nuM (nets : Ar) : Nat → Nat
  | 0 => 0
  | i + 1 => nuM nets i ||| 2 ^ (ntN nets i)
theorem nuM_lt {nets : Ar} (hN : NetOk nets) : ∀ i, i ≤ 8 → nuM nets i < 2 ^ 4 := by
  intro i
  induction i with
  | zero => intro _; show 0 < 2 ^ 4; omega
  | succ i ih =>
    intro hi
    exact Nat.or_lt_two_pow (ih (by omega)) (Nat.pow_lt_pow_right (by omega) (nt_eq hN (by omega)).2)
theorem nu6_all : ∀ M, M < 16 → (((nI M &&& 1) + ((nI M >>> ((1 : Int32) &&& 31)) &&& 1)) + ((nI M >>> ((2 : Int32) &&& 31)) &&& 1)) + ((nI M >>> ((3 : Int32) &&& 31)) &&& 1) = nI (cnt (fun i => M.testBit i) 4) := by decide +kernel
theorem cn5_loop {nets : Ar} (hN : NetOk nets) {n : Nat} (hn : n ≤ 8) :
    ∀ k i, i + k = n → ∀ f, k < f → L_X0_countNetsWithPoints_4 (nI n) nets f (nI (nuM nets i)) (nI i) = some (nI (cnt (fun i => (nuM nets n).testBit i) 4)) := by
  intro k
  induction k with
  | zero =>
    intro i hi f hf
    obtain ⟨f, rfl⟩ : ∃ f', f = f' + 1 := ⟨f - 1, by omega⟩
    have e0 : ∀ a b, L_X0_countNetsWithPoints_4 (nI n) nets (f + 1) a b = B_X0_countNetsWithPoints_4 (nI n) nets (L_X0_countNetsWithPoints_4 (nI n) nets f) a b := fun _ _ => rfl
    rw [e0]
    unfold B_X0_countNetsWithPoints_4
    rw [if_pos (by rw [leN (by omega) (by omega)]; omega), show i = n by omega, bc5 (n := 4) (by omega) (nuM_lt hN n hn), bd1_s]
  | succ k ih =>
    intro i hi f hf
    obtain ⟨f, rfl⟩ : ∃ f', f = f' + 1 := ⟨f - 1, by omega⟩
    have e0 : ∀ a b, L_X0_countNetsWithPoints_4 (nI n) nets (f + 1) a b = B_X0_countNetsWithPoints_4 (nI n) nets (L_X0_countNetsWithPoints_4 (nI n) nets f) a b := fun _ _ => rfl
    have ih' := ih (i + 1) (by omega) f (by omega)
    obtain ⟨n1, n2⟩ := nt_eq hN (show i < 8 by omega)
    rw [e0]
    unfold B_X0_countNetsWithPoints_4
    rw [if_neg (by rw [leN (by omega) (by omega)]; omega), gN (by omega) (by omega), grd_tt, cN (by omega), n1, or_bit2 _ (by omega), i1, addN]
    exact ih'
theorem countNets5 {nets : Ar} (hN : NetOk nets) {n : Nat} (hn : n ≤ 8) : m_X0_countNetsWithPoints (nI n) nets = some (nI (cnt (fun i => (nuM nets n).testBit i) 4)) := cn5_loop hN hn n 0 (by omega) FU (by show _ < 4096; omega)
theorem nu6_loop {st nets xs ys : Ar} {n : Nat} {near : Int32} (hR : Rb st n nets xs ys near) (hN : NetOk nets) :
    ∀ k i, i + k = n → ∀ f, k < f → L_X6_netsUsed_4 st f (nI (nuM nets i)) (nI i) = some (nI (cnt (fun i => (nuM nets n).testBit i) 4)) := by
  obtain ⟨h0, hn, hp8, -⟩ := hR
  intro k
  induction k with
  | zero =>
    intro i hi f hf
    obtain ⟨f, rfl⟩ : ∃ f', f = f' + 1 := ⟨f - 1, by omega⟩
    have e0 : ∀ a b, L_X6_netsUsed_4 st (f + 1) a b = B_X6_netsUsed_4 st (L_X6_netsUsed_4 st f) a b := fun _ _ => rfl
    rw [e0]
    unfold B_X6_netsUsed_4
    rw [h0, if_pos (by rw [leN (by omega) (by omega)]; omega), show i = n by omega, nu6_all _ (nuM_lt hN n hn)]
  | succ k ih =>
    intro i hi f hf
    obtain ⟨f, rfl⟩ : ∃ f', f = f' + 1 := ⟨f - 1, by omega⟩
    have e0 : ∀ a b, L_X6_netsUsed_4 st (f + 1) a b = B_X6_netsUsed_4 st (L_X6_netsUsed_4 st f) a b := fun _ _ => rfl
    have ih' := ih (i + 1) (by omega) f (by omega)
    obtain ⟨n1, n2⟩ := nt_eq hN (show i < 8 by omega)
    rw [e0]
    unfold B_X6_netsUsed_4
    rw [h0, if_neg (by rw [leN (by omega) (by omega)]; omega), show (1 : Int32) + nI i = nI (1 + i) by rw [i1, addN], gN (by omega) (by omega), grd_tt, cN (by omega), (hp8 i (by omega)).1, n1, or_bit2 _ (by omega), bd1_s, i1, addN]
    exact ih'
theorem netsUsed6 {st nets xs ys : Ar} {n : Nat} {near : Int32} (hR : Rb st n nets xs ys near) (hN : NetOk nets) : m_X6_netsUsed st = some (nI (cnt (fun i => (nuM nets n).testBit i) 4)) := by
  have hn := hR.2.1
  exact nu6_loop hR hN n 0 (by omega) FU (by show _ < 4096; omega)
/-! ===== members ===== -/
theorem wm5 {w m i : Nat} (hm : m ≤ 10) (hw : w < 2 ^ m) (hi : i < m) (b : Bool) : ∃ w', m_X5_withMember (nI w) (nI i) (bi b) = some (nI w') ∧ w' < 2 ^ m ∧ ∀ k, w'.testBit k = if k = i then b else w.testBit k := by
  unfold m_X5_withMember
  cases b with
  | true =>
    rw [if_pos (show bi true = 1 from rfl)]
    refine ⟨w ||| 2 ^ i, by rw [or_bit2 _ (by omega)], Nat.or_lt_two_pow hw (Nat.pow_lt_pow_right (by omega) hi), ?_⟩
    intro k
    rw [Nat.testBit_or, Nat.testBit_two_pow]
    by_cases hk : k = i
    · subst hk; simp
    · have : ¬ i = k := fun e => hk e.symm
      simp [hk, this]
  | false =>
    rw [if_neg (show ¬ bi false = 1 by decide)]
    cases hb : w.testBit i with
    | true =>
      refine ⟨w ^^^ 2 ^ i, by rw [clr_bit (by omega) hb], xor_lt2 hw hi, ?_⟩
      intro k
      rw [tb_xor]
      by_cases hk : k = i
      · subst hk; simp [hb]
      · have : ¬ i = k := fun e => hk e.symm
        simp [hk, this]
    | false =>
      refine ⟨w, by rw [(clr_same (S := w) (i := i) (by omega)).mpr hb], hw, ?_⟩
      intro k
      by_cases hk : k = i
      · subst hk; simp [hb]
      · simp [hk]
theorem sw_bi {x : Int32} (h : 0 ≤ x.toInt ∧ x.toInt ≤ 1) : ∃ b, x = bi b := by
  by_cases h1 : x.toInt = 1
  · exact ⟨true, by rw [eqI]; exact h1⟩
  · exact ⟨false, by rw [eqI]; show x.toInt = 0; omega⟩
theorem lt_of_bits {w n : Nat} (h : ∀ k, n ≤ k → w.testBit k = false) : w < 2 ^ n := Nat.lt_pow_two_of_testBit w h
/-! ===== copies of a board ===== -/
theorem cf5_loop (bp bn bl bs cp cn cl cs : Int32) {cnets cxs cys : Ar} :
    ∀ k i, i + k = 8 → ∀ f, k < f → ∀ nets xs ys : Ar, L_X0_copyFrom_2 bp bn bl bs cp cn cl cs cnets cxs cys f (nI i) nets xs ys = some (cp, cn, cl, cs, cpF i 8 cnets nets, cpF i 8 cxs xs, cpF i 8 cys ys) := by
  intro k
  induction k with
  | zero =>
    intro i hi f hf nets xs ys
    obtain ⟨f, rfl⟩ : ∃ f', f = f' + 1 := ⟨f - 1, by omega⟩
    have e0 : ∀ a b c d, L_X0_copyFrom_2 bp bn bl bs cp cn cl cs cnets cxs cys (f + 1) a b c d = B_X0_copyFrom_2 bp bn bl bs cp cn cl cs cnets cxs cys (L_X0_copyFrom_2 bp bn bl bs cp cn cl cs cnets cxs cys f) a b c d := fun _ _ _ _ => rfl
    have : i = 8 := by omega
    subst this
    rw [e0, cpF_end, cpF_end, cpF_end]
    unfold B_X0_copyFrom_2
    rw [if_pos (by decide)]
  | succ k ih =>
    intro i hi f hf nets xs ys
    obtain ⟨f, rfl⟩ : ∃ f', f = f' + 1 := ⟨f - 1, by omega⟩
    have e0 : ∀ a b c d, L_X0_copyFrom_2 bp bn bl bs cp cn cl cs cnets cxs cys (f + 1) a b c d = B_X0_copyFrom_2 bp bn bl bs cp cn cl cs cnets cxs cys (L_X0_copyFrom_2 bp bn bl bs cp cn cl cs cnets cxs cys f) a b c d := fun _ _ _ _ => rfl
    rw [e0]
    unfold B_X0_copyFrom_2
    rw [if_neg (by rw [i8, leN (by omega) (by omega)]; omega), gN (by omega) (by omega)]
    simp only [grd_tt]
    rw [cN (by omega), i1, addN, ih (i + 1) (by omega) f (by omega), cpF_step (by omega) rfl, cpF_step (by omega) rfl, cpF_step (by omega) rfl]
theorem copy5 (bp bn bl bs cp cn cl cs : Int32) (nets xs ys cnets cxs cys : Ar) : m_X0_copyFrom bp bn bl bs nets xs ys cp cn cl cs cnets cxs cys = some (cp, cn, cl, cs, cpF 0 8 cnets nets, cpF 0 8 cxs xs, cpF 0 8 cys ys) := cf5_loop bp bn bl bs cp cn cl cs 8 0 (by omega) FU (by show _ < 4096; omega) nets xs ys
theorem im6_loop {st kept : Ar} {j : Nat} (hj : j < 2) :
    ∀ k i, i + k = 40 → ∀ f, k < f → ∀ im : Ar, L_X6_image_14 st kept (nI j) f (nI i) im = some (1, cpF (40 * j + i) (40 * j + 40) (fun p => st (p - 40 * j)) im, upd kept j 1) := by
  intro k
  induction k with
  | zero =>
    intro i hi f hf im
    obtain ⟨f, rfl⟩ : ∃ f', f = f' + 1 := ⟨f - 1, by omega⟩
    have e0 : ∀ a b, L_X6_image_14 st kept (nI j) (f + 1) a b = B_X6_image_14 st kept (nI j) (L_X6_image_14 st kept (nI j) f) a b := fun _ _ => rfl
    have : i = 40 := by omega
    subst this
    rw [e0, cpF_end]
    unfold B_X6_image_14
    rw [if_pos (by decide), gN hj (by omega), grd_tt, cN (by omega)]
  | succ k ih =>
    intro i hi f hf im
    obtain ⟨f, rfl⟩ : ∃ f', f = f' + 1 := ⟨f - 1, by omega⟩
    have e0 : ∀ a b, L_X6_image_14 st kept (nI j) (f + 1) a b = B_X6_image_14 st kept (nI j) (L_X6_image_14 st kept (nI j) f) a b := fun _ _ => rfl
    rw [e0]
    unfold B_X6_image_14
    rw [if_neg (by rw [i40, leN (by omega) (by omega)]; omega), gN (by omega) (by omega), grd_tt, i40, mulN, addN, gN (by omega) (by omega), grd_tt, cN (by omega), cN (by omega), show nI i + 1 = nI (i + 1) by rw [i1, addN], ih (i + 1) (by omega) f (by omega), show 40 * j + (i + 1) = 40 * j + i + 1 by omega, cpF_step (by omega) (by show st i = st (40 * j + i - 40 * j); rw [show 40 * j + i - 40 * j = i by omega])]
theorem re6_loop {im kept : Ar} {j : Nat} (hj : j < 2) :
    ∀ k i, i + k = 40 → ∀ f, k < f → ∀ st : Ar, L_X6_restore_26 im kept (nI j) f (nI i) st = some (1, cpF i 40 (fun p => im (40 * j + p)) st) := by
  intro k
  induction k with
  | zero =>
    intro i hi f hf st
    obtain ⟨f, rfl⟩ : ∃ f', f = f' + 1 := ⟨f - 1, by omega⟩
    have e0 : ∀ a b, L_X6_restore_26 im kept (nI j) (f + 1) a b = B_X6_restore_26 im kept (nI j) (L_X6_restore_26 im kept (nI j) f) a b := fun _ _ => rfl
    have : i = 40 := by omega
    subst this
    rw [e0, cpF_end]
    unfold B_X6_restore_26
    rw [if_pos (by decide)]
  | succ k ih =>
    intro i hi f hf st
    obtain ⟨f, rfl⟩ : ∃ f', f = f' + 1 := ⟨f - 1, by omega⟩
    have e0 : ∀ a b, L_X6_restore_26 im kept (nI j) (f + 1) a b = B_X6_restore_26 im kept (nI j) (L_X6_restore_26 im kept (nI j) f) a b := fun _ _ => rfl
    rw [e0]
    unfold B_X6_restore_26
    rw [if_neg (by rw [i40, leN (by omega) (by omega)]; omega), i40, mulN, addN, gN (by omega) (by omega), grd_tt, gN (by omega) (by omega), grd_tt, cN (by omega), cN (by omega), show nI i + 1 = nI (i + 1) by rw [i1, addN], ih (i + 1) (by omega) f (by omega), cpF_step (by omega) rfl]
