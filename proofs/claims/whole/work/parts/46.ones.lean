/-! ===== NETS that are one ===== -/
def prN (a b : Nat) : Nat := ((m_X6_pairOf (nI a) (nI b)).getD 0).toNatClampNeg
theorem pr_all : ∀ a, a < 4 → ∀ b, b < 4 → a ≠ b → m_X6_pairOf (nI a) (nI b) = some (nI (prN a b)) ∧ prN a b < 6 ∧ m_X5_pairOfNets (nI a) (nI b) = some (nI (prN a b)) := by decide +kernel
def oneT (ws a : Nat) : Nat := ((m_X5_netsOneWith (nI a) (nI ws)).getD 0).toNatClampNeg
theorem one_all : ∀ ws, ws < 64 → ∀ a, a < 4 → m_X5_netsOneWith (nI a) (nI ws) = some (nI (oneT ws a)) := by decide +kernel
def obB (ws v : Nat) : Bool := decide (v / 4 = v % 4) || ws.testBit (prN (v / 4) (v % 4))
def obM (ws : Nat) : Nat := (List.range 16).foldl (fun m v => if obB ws v then m + 2 ^ v else m) 0
def w1 (k v M : Nat) : Nat := if M.testBit v || (M.testBit (4 * (v / 4) + k) && M.testBit (4 * k + v % 4)) then M ||| 2 ^ v else M
def w64 (k : Nat) : Nat → Nat → Nat
  | 0, M => M
  | i + 1, M => w1 k i (w64 k i M)
def w57 : Nat → Nat → Nat
  | 0, M => M
  | k + 1, M => w64 k 16 (w57 k M)
theorem ob_all : ∀ ws, ws < 64 → ∀ v, v < 16 → (obM ws).testBit v = obB ws v := by decide +kernel
theorem ow_all : ∀ ws, ws < 64 → ∀ a, a < 4 → ∀ b, b < 4 → (w57 4 (obM ws)).testBit (4 * a + b) = (oneT ws a).testBit b := by decide +kernel
theorem w1_bit (k v M u : Nat) : (w1 k v M).testBit u = if u = v then (M.testBit v || (M.testBit (4 * (v / 4) + k) && M.testBit (4 * k + v % 4))) else M.testBit u := by
  unfold w1
  by_cases hc : (M.testBit v || (M.testBit (4 * (v / 4) + k) && M.testBit (4 * k + v % 4))) = true
  · rw [if_pos hc, Nat.testBit_or, Nat.testBit_two_pow]
    by_cases hu : u = v
    · subst hu; rw [if_pos rfl, hc]; simp
    · have : ¬ v = u := fun e => hu e.symm
      rw [if_neg hu]; simp [this]
  · rw [if_neg hc]
    by_cases hu : u = v
    · subst hu
      rw [if_pos rfl]
      have h2 : (M.testBit u || (M.testBit (4 * (u / 4) + k) && M.testBit (4 * k + u % 4))) = false := by simpa using hc
      rw [h2]
      simp at h2
      exact h2.1
    · rw [if_neg hu]
theorem div4 : ∀ j, j < 16 → nI j / 4 = nI (j / 4) := by decide +kernel
theorem mod4 : ∀ j, j < 16 → nI j - nI j / 4 * 4 = nI (j % 4) := by decide +kernel
theorem lo_in {st : Ar} (k57 : Int32 → Ar → Option Ar) {k : Nat} (hk : k < 4) (M : Nat) :
    ∀ c v, v + c = 16 → ∀ f, c < f → ∀ A : Ar, (∀ u, u < 16 → A u = bi ((w64 k v M).testBit u)) → ∃ A', L_X6_layOnes_64 st k57 (nI k) f (nI v) A = k57 (nI (k + 1)) A' ∧ ∀ u, u < 16 → A' u = bi ((w64 k 16 M).testBit u) := by
  intro c
  induction c with
  | zero =>
    intro v hv f hf A hA
    obtain ⟨f, rfl⟩ : ∃ f', f = f' + 1 := ⟨f - 1, by omega⟩
    have : v = 16 := by omega
    subst this
    refine ⟨A, ?_, hA⟩
    have e0 : ∀ a, L_X6_layOnes_64 st k57 (nI k) (f + 1) a A = B_X6_layOnes_64 st k57 (nI k) (L_X6_layOnes_64 st k57 (nI k) f) a A := fun _ => rfl
    rw [e0]
    unfold B_X6_layOnes_64
    rw [if_pos (by decide), i1, addN]
  | succ c ih =>
    intro v hv f hf A hA
    obtain ⟨f, rfl⟩ : ∃ f', f = f' + 1 := ⟨f - 1, by omega⟩
    have e0 : ∀ a, L_X6_layOnes_64 st k57 (nI k) (f + 1) a A = B_X6_layOnes_64 st k57 (nI k) (L_X6_layOnes_64 st k57 (nI k) f) a A := fun _ => rfl
    have hb : ∀ u, (w64 k (v + 1) M).testBit u = if u = v then ((w64 k v M).testBit v || ((w64 k v M).testBit (4 * (v / 4) + k) && (w64 k v M).testBit (4 * k + v % 4))) else (w64 k v M).testBit u := fun u => w1_bit k v (w64 k v M) u
    have ih' := fun x (hx : x = bi ((w64 k v M).testBit v || ((w64 k v M).testBit (4 * (v / 4) + k) && (w64 k v M).testBit (4 * k + v % 4)))) => ih (v + 1) (by omega) f (by omega) (upd A v x) (by
      intro u hu
      rw [hb u]
      by_cases huv : u = v
      · subst huv; rw [upd_s, if_pos rfl, hx]
      · rw [upd_n _ _ huv, if_neg huv]; exact hA u hu)
    rw [e0]
    unfold B_X6_layOnes_64 J_X6_layOnes_118 J_X6_layOnes_114 J_X6_layOnes_119
    rw [if_neg (by rw [i16, leN (by omega) (by omega)]; omega), div4 v (by omega), show nI v - nI (v / 4) * 4 = nI (v % 4) by rw [← div4 v (by omega)]; exact mod4 v (by omega), i4, mulN, mulN, addN, addN, gN (show v < 16 by omega) (by omega), gN (show 4 * (v / 4) + k < 16 by omega) (by omega), gN (show 4 * k + v % 4 < 16 by omega) (by omega)]
    simp only [grd_tt]
    rw [cN (show v < 100000 by omega), cN (show 4 * (v / 4) + k < 100000 by omega), cN (show 4 * k + v % 4 < 100000 by omega), hA v (by omega), hA (4 * (v / 4) + k) (by omega), hA (4 * k + v % 4) (by omega), show nI v + 1 = nI (v + 1) by rw [i1, addN], nar0, nar1]
    cases h1 : (w64 k v M).testBit v with
    | true =>
      rw [if_neg (show ¬ bi true = 0 by decide)]
      exact ih' 1 (by rw [h1]; rfl)
    | false =>
      rw [if_pos (show bi false = 0 from rfl)]
      cases h2 : (w64 k v M).testBit (4 * (v / 4) + k) with
      | false =>
        rw [if_pos (show bi false = 0 from rfl)]
        exact ih' 0 (by rw [h1, h2]; rfl)
      | true =>
        rw [if_neg (show ¬ bi true = 0 by decide)]
        cases h3 : (w64 k v M).testBit (4 * k + v % 4) with
        | false =>
          rw [if_pos (show bi false = 0 from rfl)]
          exact ih' 0 (by rw [h1, h2, h3]; rfl)
        | true =>
          rw [if_neg (show ¬ bi true = 0 by decide)]
          exact ih' 1 (by rw [h1, h2, h3]; rfl)
theorem lo_mid {st : Ar} (M : Nat) :
    ∀ c k, k + c = 4 → ∀ f, c < f → ∀ A : Ar, (∀ u, u < 16 → A u = bi ((w57 k M).testBit u)) → ∃ A', L_X6_layOnes_57 st f (nI k) A = some A' ∧ ∀ u, u < 16 → A' u = bi ((w57 4 M).testBit u) := by
  intro c
  induction c with
  | zero =>
    intro k hk f hf A hA
    obtain ⟨f, rfl⟩ : ∃ f', f = f' + 1 := ⟨f - 1, by omega⟩
    have : k = 4 := by omega
    subst this
    refine ⟨A, ?_, hA⟩
    have e0 : ∀ a, L_X6_layOnes_57 st (f + 1) a A = B_X6_layOnes_57 st (L_X6_layOnes_57 st f) a A := fun _ => rfl
    rw [e0]
    unfold B_X6_layOnes_57
    rw [if_pos (by decide)]
  | succ c ih =>
    intro k hk f hf A hA
    obtain ⟨f, rfl⟩ : ∃ f', f = f' + 1 := ⟨f - 1, by omega⟩
    have e0 : ∀ a, L_X6_layOnes_57 st (f + 1) a A = B_X6_layOnes_57 st (L_X6_layOnes_57 st f) a A := fun _ => rfl
    obtain ⟨A1, h1, h2⟩ := lo_in (st := st) (L_X6_layOnes_57 st f) (show k < 4 by omega) (w57 k M) 16 0 (by omega) FU (by show _ < 4096; omega) A hA
    have h1' : L_X6_layOnes_64 st (L_X6_layOnes_57 st f) (nI k) FU 0 A = L_X6_layOnes_57 st f (nI (k + 1)) A1 := h1
    rw [e0]
    unfold B_X6_layOnes_57
    rw [if_neg (by rw [i4, leN (by omega) (by omega)]; omega), h1']
    exact ih (k + 1) (by omega) f (by omega) A1 h2
theorem lo_top {st : Ar} {ws : Nat} (hws : ws < 64) (hst : ∀ j, j < 6 → st (34 + j) = bi (ws.testBit j)) :
    ∀ c v, v + c = 16 → ∀ f, c < f → ∀ A : Ar, (∀ u, u < v → A u = bi (obB ws u)) → ∃ A', L_X6_layOnes_2 st f (nI v) A = L_X6_layOnes_57 st FU 0 A' ∧ ∀ u, u < 16 → A' u = bi ((obM ws).testBit u) := by
  intro c
  induction c with
  | zero =>
    intro v hv f hf A hA
    obtain ⟨f, rfl⟩ : ∃ f', f = f' + 1 := ⟨f - 1, by omega⟩
    have : v = 16 := by omega
    subst this
    refine ⟨A, ?_, fun u hu => by rw [ob_all ws hws u hu]; exact hA u hu⟩
    have e0 : ∀ a, L_X6_layOnes_2 st (f + 1) a A = B_X6_layOnes_2 st (L_X6_layOnes_2 st f) a A := fun _ => rfl
    rw [e0]
    unfold B_X6_layOnes_2
    rw [if_pos (by decide)]
  | succ c ih =>
    intro v hv f hf A hA
    obtain ⟨f, rfl⟩ : ∃ f', f = f' + 1 := ⟨f - 1, by omega⟩
    have e0 : ∀ a, L_X6_layOnes_2 st (f + 1) a A = B_X6_layOnes_2 st (L_X6_layOnes_2 st f) a A := fun _ => rfl
    have ih' := fun x (hx : x = bi (obB ws v)) => ih (v + 1) (by omega) f (by omega) (upd A v x) (by
      intro u hu
      by_cases huv : u = v
      · subst huv; rw [upd_s, hx]
      · rw [upd_n _ _ huv]; exact hA u (by omega))
    rw [e0]
    unfold B_X6_layOnes_2 J_X6_layOnes_43 J_X6_layOnes_48
    rw [if_neg (by rw [i16, leN (by omega) (by omega)]; omega), div4 v (by omega), show nI v - nI (v / 4) * 4 = nI (v % 4) by rw [← div4 v (by omega)]; exact mod4 v (by omega), gN (show v < 16 by omega) (by omega)]
    simp only [grd_tt]
    rw [cN (show v < 100000 by omega), show nI v + 1 = nI (v + 1) by rw [i1, addN], nar0, nar1]
    by_cases hd : v / 4 = v % 4
    · rw [if_pos (show nI (v / 4) = nI (v % 4) by rw [hd])]
      exact ih' 1 (by simp [obB, hd, bi])
    · obtain ⟨p1, p2, -⟩ := pr_all (v / 4) (by omega) (v % 4) (by omega) hd
      rw [if_neg (show ¬ nI (v / 4) = nI (v % 4) by rw [eqN (by omega) (by omega)]; exact hd), p1, bd1_s, i34, addN, gN (by omega) (by omega), grd_tt, cN (by omega), hst _ p2]
      have e : obB ws v = ws.testBit (prN (v / 4) (v % 4)) := by simp [obB, hd]
      cases hb : ws.testBit (prN (v / 4) (v % 4)) with
      | true => rw [if_pos (show bi true = 1 from rfl)]; exact ih' 1 (by rw [e, hb]; rfl)
      | false => rw [if_neg (show ¬ bi false = 1 by decide)]; exact ih' 0 (by rw [e, hb]; rfl)
def On4 (one : Ar) (ws : Nat) : Prop := ∀ a b, a < 4 → b < 4 → one (4 * a + b) = bi ((oneT ws a).testBit b)
theorem layOnes6 {st : Ar} {ws : Nat} (hws : ws < 64) (hst : ∀ j, j < 6 → st (34 + j) = bi (ws.testBit j)) (one : Ar) : ∃ one', m_X6_layOnes st one = some one' ∧ On4 one' ws := by
  obtain ⟨A1, h1, h2⟩ := lo_top hws hst 16 0 (by omega) FU (by show _ < 4096; omega) one (fun u h => by omega)
  obtain ⟨A2, h3, h4⟩ := lo_mid (st := st) (obM ws) 4 0 (by omega) FU (by show _ < 4096; omega) A1 h2
  refine ⟨A2, ?_, fun a b ha hb => by rw [h4 _ (by omega), ow_all ws hws a ha b hb]⟩
  unfold m_X6_layOnes
  exact Eq.trans h1 h3
/-! ===== what a TRY conducts ===== -/
def ntN (nets : Ar) (p : Nat) : Nat := (nets p).toNatClampNeg
def NetOk (nets : Ar) : Prop := ∀ p, p < 8 → ∃ m, m < 4 ∧ nets p = nI m
theorem nt_eq {nets : Ar} (h : NetOk nets) {p : Nat} (hp : p < 8) : nets p = nI (ntN nets p) ∧ ntN nets p < 4 := by
  obtain ⟨m, h1, h2⟩ := h p hp
  unfold ntN
  rw [h2, cN (by omega)]
  exact ⟨rfl, h1⟩
def cdB (nets : Ar) (TR : List (Nat × Nat)) (wl ws t : Nat) : Bool := !wl.testBit (TR.getD t (0, 0)).1 && (!wl.testBit (TR.getD t (0, 0)).2 && (oneT ws (ntN nets (TR.getD t (0, 0)).1)).testBit (ntN nets (TR.getD t (0, 0)).2))
theorem conducts5 {nets left right : Ar} (hN : NetOk nets) {TR : List (Nat × Nat)} (hT : TRok TR) (hL : Lr TR left right) (wl : Nat) {ws : Nat} (hws : ws < 64) {t : Nat} (ht : t < TR.length) : m_X4_conducts left right nets (nI t) (nI wl) (nI ws) = some (bi (cdB nets TR wl ws t)) := by
  have h10 := hT.1
  obtain ⟨g1, g2⟩ := TR_at hT ht
  obtain ⟨e1, e2⟩ := Lr_at hL ht
  obtain ⟨n1, n2⟩ := nt_eq hN g1
  obtain ⟨m1, m2⟩ := nt_eq hN g2
  unfold m_X4_conducts cdB
  rw [gN (by omega) (by omega), grd_tt, grd_tt, cN (by omega), e1, e2, isIn_eq _ (by omega), bd1_s, isIn_eq _ (by omega), bd1_s, bt_nI (by omega), bt_nI (by omega), gN g1 (by omega), gN g2 (by omega), grd_tt, cN (by omega), cN (by omega), n1, m1, one_all ws hws _ n2, bd1_s, grd_tt, isIn_eq _ (by omega), bd1_s, zb_bi, grd_tt, bt_nI (by omega)]
  cases wl.testBit (TR.getD t (0, 0)).1 with
  | true => rw [if_neg (show ¬ bi true = 0 by decide)]; rfl
  | false =>
    rw [if_pos (show bi false = 0 from rfl)]
    cases wl.testBit (TR.getD t (0, 0)).2 with
    | true => rw [if_neg (show ¬ bi true = 0 by decide)]; rfl
    | false =>
      rw [if_pos (show bi false = 0 from rfl)]
      rfl
/-- the reference's row holds the flaws -/
def Fl (st : Ar) (n wl ws : Nat) : Prop := (∀ p, p < n → st (25 + p) = bi (wl.testBit p)) ∧ (∀ j, j < 6 → st (34 + j) = bi (ws.testBit j))
theorem conducts6 {st nets xs ys left right one : Ar} {n : Nat} {near : Int32} (hR : Rb st n nets xs ys near) (hN : NetOk nets) {TR : List (Nat × Nat)} (hlen : TR.length ≤ 10) (hTn : ∀ q ∈ TR, q.1 < n ∧ q.2 < n) (hL : Lr TR left right) {wl ws : Nat} (hF : Fl st n wl ws) (hO : On4 one ws) {t : Nat} (ht : t < TR.length) : m_X6_conducts st left right one (nI t) = some (bi (cdB nets TR wl ws t)) := by
  obtain ⟨-, hn, hp8, -⟩ := hR
  have hq : (TR.getD t (0, 0)).1 < n ∧ (TR.getD t (0, 0)).2 < n := by
    refine hTn _ ?_
    rw [List.getD_eq_getElem?_getD, List.getElem?_eq_getElem ht]
    exact List.getElem_mem ht
  obtain ⟨g1, g2⟩ := hq
  obtain ⟨e1, e2⟩ := Lr_at hL ht
  obtain ⟨n1, n2⟩ := nt_eq hN (show (TR.getD t (0, 0)).1 < 8 by omega)
  obtain ⟨m1, m2⟩ := nt_eq hN (show (TR.getD t (0, 0)).2 < 8 by omega)
  unfold m_X6_conducts cdB
  rw [gN (by omega) (by omega), grd_tt, grd_tt, cN (show t < 100000 by omega), e1, e2]
  simp (disch := omega) only [i25, i1, addN, gN, grd_tt, cN]
  rw [hF.1 _ g1, hF.1 _ g2, (hp8 _ (show (TR.getD t (0, 0)).1 < 8 by omega)).1, (hp8 _ (show (TR.getD t (0, 0)).2 < 8 by omega)).1, n1, m1, i4, mulN, addN, gN (by omega) (by omega), grd_tt, cN (by omega), hO _ _ n2 m2]
  cases wl.testBit (TR.getD t (0, 0)).1 with
  | true => rw [if_neg (show ¬ bi true = 0 by decide)]; rfl
  | false =>
    rw [if_pos (show bi false = 0 from rfl)]
    cases wl.testBit (TR.getD t (0, 0)).2 with
    | true => rw [if_neg (show ¬ bi true = 0 by decide)]; rfl
    | false =>
      rw [if_pos (show bi false = 0 from rfl)]
      cases (oneT ws (ntN nets (TR.getD t (0, 0)).1)).testBit (ntN nets (TR.getD t (0, 0)).2) <;> rfl
/-! ===== what is SEEN ===== -/
def snM (nets : Ar) (TR : List (Nat × Nat)) (O wl ws : Nat) : Nat → Nat
  | 0 => 0
  | i + 1 => if cdB nets TR wl ws i = decide (O ≤ i) then snM nets TR O wl ws i ||| 2 ^ i else snM nets TR O wl ws i
theorem seen5_loop {nets left right : Ar} (hN : NetOk nets) {TR : List (Nat × Nat)} (hT : TRok TR) (hL : Lr TR left right) {O : Nat} (hO : O ≤ TR.length) (wl : Nat) {ws : Nat} (hws : ws < 64) :
    ∀ k i, i + k = TR.length → ∀ f, k < f → L_X4_seenSet_6 (nI TR.length) (nI O) left right nets (nI wl) (nI ws) f (nI (snM nets TR O wl ws i)) (nI i) = some (nI (snM nets TR O wl ws TR.length)) := by
  have h10 := hT.1
  intro k
  induction k with
  | zero =>
    intro i hi f hf
    obtain ⟨f, rfl⟩ : ∃ f', f = f' + 1 := ⟨f - 1, by omega⟩
    have e0 : ∀ a b, L_X4_seenSet_6 (nI TR.length) (nI O) left right nets (nI wl) (nI ws) (f + 1) a b = B_X4_seenSet_6 (nI TR.length) (nI O) left right nets (nI wl) (nI ws) (L_X4_seenSet_6 (nI TR.length) (nI O) left right nets (nI wl) (nI ws) f) a b := fun _ _ => rfl
    rw [e0]
    unfold B_X4_seenSet_6
    rw [if_pos (by rw [leN (by omega) (by omega)]; omega), show i = TR.length by omega]
  | succ k ih =>
    intro i hi f hf
    obtain ⟨f, rfl⟩ : ∃ f', f = f' + 1 := ⟨f - 1, by omega⟩
    have e0 : ∀ a b, L_X4_seenSet_6 (nI TR.length) (nI O) left right nets (nI wl) (nI ws) (f + 1) a b = B_X4_seenSet_6 (nI TR.length) (nI O) left right nets (nI wl) (nI ws) (L_X4_seenSet_6 (nI TR.length) (nI O) left right nets (nI wl) (nI ws) f) a b := fun _ _ => rfl
    have ih' := ih (i + 1) (by omega) f (by omega)
    have hnb : m_X4_isOfNeighbours (nI O) (nI i) = some (bi (decide (O ≤ i))) := by
      unfold m_X4_isOfNeighbours
      by_cases h : i < O
      · rw [if_pos (by rw [ltN (by omega) (by omega)]; exact h), decide_eq_false (by omega)]; rfl
      · rw [if_neg (by rw [ltN (by omega) (by omega)]; exact h), decide_eq_true (by omega)]; rfl
    rw [e0]
    unfold B_X4_seenSet_6 J_X4_seenSet_42
    rw [if_neg (by rw [leN (by omega) (by omega)]; omega), conducts5 hN hT hL wl hws (by omega), bd1_s, hnb, bd1_s, or_bit2 _ (by omega), show nI i + 1 = nI (i + 1) by rw [i1, addN]]
    by_cases hc : cdB nets TR wl ws i = decide (O ≤ i)
    · rw [if_pos (by rw [bi_inj]; exact hc)]
      rw [snM, if_pos hc] at ih'
      exact ih'
    · rw [if_neg (by rw [bi_inj]; exact hc)]
      rw [snM, if_neg hc] at ih'
      exact ih'
theorem seen5 {nets left right : Ar} (hN : NetOk nets) {TR : List (Nat × Nat)} (hT : TRok TR) (hL : Lr TR left right) {O : Nat} (hO : O ≤ TR.length) (wl : Nat) {ws : Nat} (hws : ws < 64) : m_X4_seenSet (nI TR.length) (nI O) left right nets (nI wl) (nI ws) = some (nI (snM nets TR O wl ws TR.length)) := by
  have h10 := hT.1
  exact seen5_loop hN hT hL hO wl hws TR.length 0 (by omega) FU (by show _ < 4096; omega)
theorem seen6_loop {st nets xs ys left right ap one : Ar} {n : Nat} {near : Int32} (hR : Rb st n nets xs ys near) (hN : NetOk nets) {TR : List (Nat × Nat)} (hlen : TR.length ≤ 10) (hTn : ∀ q ∈ TR, q.1 < n ∧ q.2 < n) (hL : Lr TR left right) {O : Nat} (hA : apR ap O TR.length) {wl ws : Nat} (hF : Fl st n wl ws) (hO : On4 one ws) :
    ∀ k i, i + k = TR.length → ∀ f, k < f → L_X6_seen_8 (nI TR.length) st left right ap one f (nI (snM nets TR O wl ws i)) (nI i) = some (nI (snM nets TR O wl ws TR.length), one) := by
  intro k
  induction k with
  | zero =>
    intro i hi f hf
    obtain ⟨f, rfl⟩ : ∃ f', f = f' + 1 := ⟨f - 1, by omega⟩
    have e0 : ∀ a b, L_X6_seen_8 (nI TR.length) st left right ap one (f + 1) a b = B_X6_seen_8 (nI TR.length) st left right ap one (L_X6_seen_8 (nI TR.length) st left right ap one f) a b := fun _ _ => rfl
    rw [e0]
    unfold B_X6_seen_8
    rw [if_pos (by rw [leN (by omega) (by omega)]; omega), show i = TR.length by omega]
  | succ k ih =>
    intro i hi f hf
    obtain ⟨f, rfl⟩ : ∃ f', f = f' + 1 := ⟨f - 1, by omega⟩
    have e0 : ∀ a b, L_X6_seen_8 (nI TR.length) st left right ap one (f + 1) a b = B_X6_seen_8 (nI TR.length) st left right ap one (L_X6_seen_8 (nI TR.length) st left right ap one f) a b := fun _ _ => rfl
    have ih' := ih (i + 1) (by omega) f (by omega)
    rw [e0]
    unfold B_X6_seen_8 J_X6_seen_38
    rw [if_neg (by rw [leN (by omega) (by omega)]; omega), conducts6 hR hN hlen hTn hL hF hO (by omega), bd1_s, gN (by omega) (by omega), grd_tt, cN (by omega), hA i (by omega), or_bit2 _ (by omega), show nI i + 1 = nI (i + 1) by rw [i1, addN], show nI (snM nets TR O wl ws i) ||| 0 = nI (snM nets TR O wl ws i) by rw [i0, orN, Nat.or_zero]]
    by_cases hc : cdB nets TR wl ws i = decide (O ≤ i)
    · rw [if_pos (by rw [bi_inj]; exact hc)]
      rw [snM, if_pos hc] at ih'
      exact ih'
    · rw [if_neg (by rw [bi_inj]; exact hc)]
      rw [snM, if_neg hc] at ih'
      exact ih'
theorem seen6 {st nets xs ys left right ap : Ar} {n : Nat} {near : Int32} (hR : Rb st n nets xs ys near) (hN : NetOk nets) {TR : List (Nat × Nat)} (hlen : TR.length ≤ 10) (hTn : ∀ q ∈ TR, q.1 < n ∧ q.2 < n) (hL : Lr TR left right) {O : Nat} (hA : apR ap O TR.length) {wl ws : Nat} (hws : ws < 64) (hF : Fl st n wl ws) (one : Ar) : ∃ one', m_X6_seen (nI TR.length) st left right ap one = some (nI (snM nets TR O wl ws TR.length), one') ∧ On4 one' ws := by
  obtain ⟨o', h1, h2⟩ := layOnes6 hws hF.2 one
  refine ⟨o', ?_, h2⟩
  unfold m_X6_seen
  rw [h1, bd1_s]
  exact seen6_loop hR hN hlen hTn hL hA hF h2 TR.length 0 (by omega) FU (by show _ < 4096; omega)
