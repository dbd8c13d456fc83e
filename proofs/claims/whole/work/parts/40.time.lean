/-! ===== TIME ===== -/
def mxI (a b : Int32) : Int32 := if a < b then b else a
def abI (v : Int32) : Int32 := if 0 ≤ v then v else 0 - v
def lgI (x y : Int32) : Int32 := mxI (abI x) (abI y)
/-- the needles' places at a stand: 0 where they stand at first, t + 1 at TRY t -/
def stdP (xs ys : Ar) (TR : List (Nat × Nat)) (s : Nat) : Int32 × Int32 × Int32 × Int32 := match s with
  | 0 => (0, 0, 20, 0)
  | t + 1 => (xs (TR.getD t (0, 0)).1, ys (TR.getD t (0, 0)).1, xs (TR.getD t (0, 0)).2, ys (TR.getD t (0, 0)).2)
def LpT (xs ys : Ar) (TR : List (Nat × Nat)) (s t : Nat) : Int32 :=
  mxI (lgI (xs (TR.getD t (0, 0)).1 - (stdP xs ys TR s).1) (ys (TR.getD t (0, 0)).1 - (stdP xs ys TR s).2.1)) (lgI (xs (TR.getD t (0, 0)).2 - (stdP xs ys TR s).2.2.1) (ys (TR.getD t (0, 0)).2 - (stdP xs ys TR s).2.2.2))
def TRok (TR : List (Nat × Nat)) : Prop := TR.length ≤ 10 ∧ ∀ q ∈ TR, q.1 < 8 ∧ q.2 < 8
theorem TR_at {TR : List (Nat × Nat)} (h : TRok TR) {t : Nat} (ht : t < TR.length) : (TR.getD t (0, 0)).1 < 8 ∧ (TR.getD t (0, 0)).2 < 8 := by
  refine h.2 _ ?_
  rw [List.getD_eq_getElem?_getD, List.getElem?_eq_getElem ht]
  exact List.getElem_mem ht
theorem Lr_at {TR : List (Nat × Nat)} {left right : Ar} (h : Lr TR left right) {t : Nat} (ht : t < TR.length) : left t = nI (TR.getD t (0, 0)).1 ∧ right t = nI (TR.getD t (0, 0)).2 := by
  refine h t _ ?_
  rw [List.getD_eq_getElem?_getD, List.getElem?_eq_getElem ht]
  rfl
theorem greater6 (a b : Int32) : m_X6_greater a b = some (mxI a b) := by
  unfold m_X6_greater mxI
  by_cases h : a < b
  · rw [if_pos h, if_pos (by rw [leI]; rw [ltI] at h; omega)]
  · rw [if_neg h]
    by_cases h2 : a ≤ b
    · rw [if_pos h2]
      congr 1
      rw [eqI]
      rw [ltI] at h
      rw [leI] at h2
      omega
    · rw [if_neg h2]
theorem size6 (v : Int32) : m_X6_size v = some (abI v) := by
  unfold m_X6_size abI
  by_cases h : 0 ≤ v
  · rw [if_pos h, if_pos h]
  · rw [if_neg h, if_neg h]
    simp
theorem longer5 (x y : Int32) : m_X1_longer x y = some (lgI x y) := rfl
theorem way5 (xs ys : Ar) {a b : Nat} (ha : a < 8) (hb : b < 8) : m_X1_way xs ys (nI a) (nI b) = some (lgI (xs b - xs a) (ys b - ys a)) := by
  unfold m_X1_way
  simp (disch := omega) only [gN, grd_tt, cN]
  rw [longer5, bd1_s]
theorem tof6 {st nets xs ys : Ar} {n : Nat} {near : Int32} (hR : Rb st n nets xs ys near) {TR : List (Nat × Nat)} (hT : TRok TR) {left right : Ar} (hL : Lr TR left right) {t : Nat} (ht : t < TR.length) (a b c d : Int32) : J_X6_timeOf_94 st left right d (nI t) a b c = some (mxI (lgI (xs (TR.getD t (0, 0)).1 - a) (ys (TR.getD t (0, 0)).1 - b)) (lgI (xs (TR.getD t (0, 0)).2 - c) (ys (TR.getD t (0, 0)).2 - d))) := by
  have hp8 := hR.2.2.1
  have h10 := hT.1
  obtain ⟨h1, h2⟩ := TR_at hT ht
  obtain ⟨e1, e2⟩ := Lr_at hL ht
  unfold J_X6_timeOf_94
  simp (disch := omega) only [gN, grd_tt, cN, e1, e2, i9, i17, addN, (hp8 _ h1).2.1, (hp8 _ h1).2.2, (hp8 _ h2).2.1, (hp8 _ h2).2.2, size6, greater6, bd1_s]
  rfl
theorem timeOf6 {st nets xs ys : Ar} {n : Nat} {near : Int32} (hR : Rb st n nets xs ys near) {TR : List (Nat × Nat)} (hT : TRok TR) {left right : Ar} (hL : Lr TR left right) {s t : Nat} (hs : s < TR.length) (ht : t < TR.length) : m_X6_timeOf st left right (nI s) (nI t) = some (LpT xs ys TR (s + 1) t) := by
  have hp8 := hR.2.2.1
  have h10 := hT.1
  obtain ⟨h1, h2⟩ := TR_at hT hs
  obtain ⟨e1, e2⟩ := Lr_at hL hs
  have hpos : 0 ≤ nI s := by rw [i0, leN (by omega) (by omega)]; omega
  unfold m_X6_timeOf J_X6_timeOf_22 J_X6_timeOf_45 J_X6_timeOf_70
  rw [if_pos hpos]
  simp only [if_pos hpos]
  have g1 : gI (nI s) 16 = true := gN (by omega) (by omega)
  have q1 : (9 : Int32) + nI (TR.getD s (0, 0)).1 = nI (9 + (TR.getD s (0, 0)).1) := by rw [i9, addN]
  have q2 : (17 : Int32) + nI (TR.getD s (0, 0)).1 = nI (17 + (TR.getD s (0, 0)).1) := by rw [i17, addN]
  have q3 : (9 : Int32) + nI (TR.getD s (0, 0)).2 = nI (9 + (TR.getD s (0, 0)).2) := by rw [i9, addN]
  have q4 : (17 : Int32) + nI (TR.getD s (0, 0)).2 = nI (17 + (TR.getD s (0, 0)).2) := by rw [i17, addN]
  rw [g1, grd_tt, cN (by omega), e1, e2, q1, q2, q3, q4, gN (by omega) (by omega), grd_tt, grd_tt, gN (by omega) (by omega), grd_tt, grd_tt, gN (by omega) (by omega), grd_tt, grd_tt, gN (by omega) (by omega), grd_tt, cN (by omega), cN (by omega), cN (by omega), cN (by omega), (hp8 _ h1).2.1, (hp8 _ h1).2.2, (hp8 _ h2).2.1, (hp8 _ h2).2.2, tof6 hR hT hL ht]
  rfl
theorem timeOf6n {st nets xs ys : Ar} {n : Nat} {near : Int32} (hR : Rb st n nets xs ys near) {TR : List (Nat × Nat)} (hT : TRok TR) {left right : Ar} (hL : Lr TR left right) {t : Nat} (ht : t < TR.length) : m_X6_timeOf st left right (-1) (nI t) = some (LpT xs ys TR 0 t) := by
  have hneg : ¬ (0 : Int32) ≤ -1 := by decide
  unfold m_X6_timeOf J_X6_timeOf_22 J_X6_timeOf_45 J_X6_timeOf_70
  rw [if_neg hneg]
  simp only [if_neg hneg]
  rw [tof6 hR hT hL ht]
  rfl
/-- one stand's TIME to a TRY, as the reference tells it -/
def frI (s : Nat) : Int32 := match s with | 0 => -1 | t + 1 => nI t
theorem timeOf6s {st nets xs ys : Ar} {n : Nat} {near : Int32} (hR : Rb st n nets xs ys near) {TR : List (Nat × Nat)} (hT : TRok TR) {left right : Ar} (hL : Lr TR left right) {s t : Nat} (hs : s ≤ TR.length) (ht : t < TR.length) : m_X6_timeOf st left right (frI s) (nI t) = some (LpT xs ys TR s t) := by
  cases s with
  | zero => exact timeOf6n hR hT hL ht
  | succ s => exact timeOf6 hR hT hL (by omega) ht
/-! the class's table of leaps -/
def LPc (leaps xs ys : Ar) (TR : List (Nat × Nat)) : Prop := ∀ s t, s ≤ TR.length → t < TR.length → leaps (s * 10 + t) = LpT xs ys TR s t
theorem leap5 {leaps xs ys : Ar} {TR : List (Nat × Nat)} (hT : TRok TR) (h : LPc leaps xs ys TR) {s t : Nat} (hs : s ≤ TR.length) (ht : t < TR.length) : m_X1_leap leaps (nI s) (nI t) = some (LpT xs ys TR s t) := by
  have h10 := hT.1
  unfold m_X1_leap
  simp (disch := omega) only [i10, mulN, addN, gN, grd_tt, cN]
  rw [h s t hs ht]
theorem ms_inner {xs ys left right : Ar} {TR : List (Nat × Nat)} (hT : TRok TR) (hL : Lr TR left right) (tt np : Int32) (k15 : Int32 → Ar → Option (Int32 × Int32 × Ar)) {t : Nat} (ht : t < TR.length) :
    ∀ k j, j + k = TR.length → ∀ f, k < f → ∀ lp : Ar, (∀ s u, s ≤ TR.length → u < t → lp (s * 10 + u) = LpT xs ys TR s u) → (∀ s, s ≤ j → lp (s * 10 + t) = LpT xs ys TR s t) → ∃ lp', L_X1_measure_88 (nI TR.length) np xs ys tt left right k15 (nI t) (nI (TR.getD t (0, 0)).1) (nI (TR.getD t (0, 0)).2) f (nI j) lp = k15 (nI (t + 1)) lp' ∧ ∀ s u, s ≤ TR.length → u < t + 1 → lp' (s * 10 + u) = LpT xs ys TR s u := by
  have h10 := hT.1
  obtain ⟨h1, h2⟩ := TR_at hT ht
  intro k
  induction k with
  | zero =>
    intro j hj f hf lp ha hb
    obtain ⟨f, rfl⟩ : ∃ f', f = f' + 1 := ⟨f - 1, by omega⟩
    refine ⟨lp, ?_, ?_⟩
    · have e0 : L_X1_measure_88 (nI TR.length) np xs ys tt left right k15 (nI t) (nI (TR.getD t (0, 0)).1) (nI (TR.getD t (0, 0)).2) (f + 1) (nI j) lp = B_X1_measure_88 (nI TR.length) np xs ys tt left right k15 (nI t) (nI (TR.getD t (0, 0)).1) (nI (TR.getD t (0, 0)).2) (L_X1_measure_88 (nI TR.length) np xs ys tt left right k15 (nI t) (nI (TR.getD t (0, 0)).1) (nI (TR.getD t (0, 0)).2) f) (nI j) lp := rfl
      rw [e0]
      unfold B_X1_measure_88
      rw [if_pos (by rw [leN (by omega) (by omega)]; omega), i1, addN]
    · intro s u hs hu
      by_cases hut : u = t
      · subst hut; exact hb s (by omega)
      · exact ha s u hs (by omega)
  | succ k ih =>
    intro j hj f hf lp ha hb
    obtain ⟨f, rfl⟩ : ∃ f', f = f' + 1 := ⟨f - 1, by omega⟩
    obtain ⟨g1, g2⟩ := TR_at hT (show j < TR.length by omega)
    obtain ⟨e1, e2⟩ := Lr_at hL (show j < TR.length by omega)
    have e0 : L_X1_measure_88 (nI TR.length) np xs ys tt left right k15 (nI t) (nI (TR.getD t (0, 0)).1) (nI (TR.getD t (0, 0)).2) (f + 1) (nI j) lp = L_X1_measure_88 (nI TR.length) np xs ys tt left right k15 (nI t) (nI (TR.getD t (0, 0)).1) (nI (TR.getD t (0, 0)).2) f (nI (j + 1)) (upd lp ((j + 1) * 10 + t) (LpT xs ys TR (j + 1) t)) := by
      show B_X1_measure_88 (nI TR.length) np xs ys tt left right k15 (nI t) (nI (TR.getD t (0, 0)).1) (nI (TR.getD t (0, 0)).2) (L_X1_measure_88 (nI TR.length) np xs ys tt left right k15 (nI t) (nI (TR.getD t (0, 0)).1) (nI (TR.getD t (0, 0)).2) f) _ _ = _
      unfold B_X1_measure_88
      rw [if_neg (by rw [leN (by omega) (by omega)]; omega)]
      simp (disch := omega) only [gN, grd_tt, cN, e1, e2, way5, bd1_s, i1, i10, addN, mulN]
      rfl
    rw [e0]
    refine ih (j + 1) (by omega) f (by omega) _ ?_ ?_
    · intro s u hs hu
      rw [upd_n _ _ (by omega)]
      exact ha s u hs hu
    · intro s hs
      by_cases hsj : s = j + 1
      · subst hsj; rw [upd_s]
      · rw [upd_n _ _ (by omega)]
        exact hb s (by omega)
theorem ms_outer {xs ys left right : Ar} {TR : List (Nat × Nat)} (hT : TRok TR) (hL : Lr TR left right) (tt np : Int32) :
    ∀ k t, t + k = TR.length → ∀ f, k < f → ∀ lp : Ar, (∀ s u, s ≤ TR.length → u < t → lp (s * 10 + u) = LpT xs ys TR s u) → ∃ lp', L_X1_measure_15 (nI TR.length) np xs ys tt left right f (nI t) lp = some (nI TR.length, np, lp') ∧ LPc lp' xs ys TR := by
  have h10 := hT.1
  intro k
  induction k with
  | zero =>
    intro t ht f hf lp ha
    obtain ⟨f, rfl⟩ : ∃ f', f = f' + 1 := ⟨f - 1, by omega⟩
    refine ⟨lp, ?_, fun s u hs hu => ha s u hs (by omega)⟩
    show B_X1_measure_15 (nI TR.length) np xs ys tt left right (L_X1_measure_15 (nI TR.length) np xs ys tt left right f) _ _ = _
    unfold B_X1_measure_15
    rw [if_pos (by rw [leN (by omega) (by omega)]; omega)]
  | succ k ih =>
    intro t ht f hf lp ha
    obtain ⟨f, rfl⟩ : ∃ f', f = f' + 1 := ⟨f - 1, by omega⟩
    obtain ⟨g1, g2⟩ := TR_at hT (show t < TR.length by omega)
    obtain ⟨e1, e2⟩ := Lr_at hL (show t < TR.length by omega)
    have e0 : L_X1_measure_15 (nI TR.length) np xs ys tt left right (f + 1) (nI t) lp = L_X1_measure_88 (nI TR.length) np xs ys tt left right (L_X1_measure_15 (nI TR.length) np xs ys tt left right f) (nI t) (nI (TR.getD t (0, 0)).1) (nI (TR.getD t (0, 0)).2) FU (nI 0) (upd lp t (LpT xs ys TR 0 t)) := by
      show B_X1_measure_15 (nI TR.length) np xs ys tt left right (L_X1_measure_15 (nI TR.length) np xs ys tt left right f) _ _ = _
      unfold B_X1_measure_15
      rw [if_neg (by rw [leN (by omega) (by omega)]; omega)]
      simp (disch := omega) only [gN, grd_tt, cN, e1, e2, longer5, bd1_s]
      have z : LpT xs ys TR 0 t = mxI (lgI (xs (TR.getD t (0, 0)).1) (ys (TR.getD t (0, 0)).1)) (lgI (xs (TR.getD t (0, 0)).2 - 20) (ys (TR.getD t (0, 0)).2)) := by
        show mxI (lgI (xs (TR.getD t (0, 0)).1 - 0) (ys (TR.getD t (0, 0)).1 - 0)) (lgI (xs (TR.getD t (0, 0)).2 - 20) (ys (TR.getD t (0, 0)).2 - 0)) = _
        simp
      rw [z]
      rfl
    obtain ⟨l1, h1, h2⟩ := ms_inner (xs := xs) (ys := ys) hT hL tt np (L_X1_measure_15 (nI TR.length) np xs ys tt left right f) (show t < TR.length by omega) TR.length 0 (by omega) FU (by show _ < 4096; omega) (upd lp t (LpT xs ys TR 0 t)) (fun s u hs hu => by rw [upd_n _ _ (by omega)]; exact ha s u hs hu) (fun s hs => by
      have : s = 0 := by omega
      subst this
      rw [show 0 * 10 + t = t by omega, upd_s])
    rw [e0, h1]
    exact ih (t + 1) (by omega) f (by omega) l1 h2
theorem measure5 {xs ys left right : Ar} {TR : List (Nat × Nat)} (hT : TRok TR) (hL : Lr TR left right) (nt np : Int32) (lp : Ar) : ∃ lp', m_X1_measure nt np lp xs ys (nI TR.length) left right = some (nI TR.length, 0, lp') ∧ LPc lp' xs ys TR := by
  have h10 := hT.1
  unfold m_X1_measure
  exact ms_outer hT hL (nI TR.length) 0 TR.length 0 (by omega) FU (by show _ < 4096; omega) lp (fun s u _ hu => by omega)
/-! bounds -/
theorem abI_b {v : Int32} {c : Int} (hc : 0 ≤ c) (hc2 : c < 1000) (h1 : -c ≤ v.toInt) (h2 : v.toInt ≤ c) : 0 ≤ (abI v).toInt ∧ (abI v).toInt ≤ c := by
  unfold abI
  by_cases h : 0 ≤ v
  · rw [if_pos h]
    rw [leI, show (0 : Int32).toInt = 0 from rfl] at h
    omega
  · rw [if_neg h]
    rw [leI, show (0 : Int32).toInt = 0 from rfl] at h
    rw [Int32.toInt_sub, show (0 : Int32).toInt = 0 from rfl, show (2 ^ 32 : Nat) = 4294967296 from rfl, bm_small (by omega) (by omega)]
    omega
theorem mxI_b {a b : Int32} {c : Int} (ha : 0 ≤ a.toInt ∧ a.toInt ≤ c) (hb : 0 ≤ b.toInt ∧ b.toInt ≤ c) : 0 ≤ (mxI a b).toInt ∧ (mxI a b).toInt ≤ c := by
  unfold mxI
  split
  · exact hb
  · exact ha
def inB (xs ys : Ar) : Prop := ∀ p, p < 8 → (0 ≤ (xs p).toInt ∧ (xs p).toInt ≤ 20) ∧ (0 ≤ (ys p).toInt ∧ (ys p).toInt ≤ 20)
theorem sub_b {a b : Int32} (ha : 0 ≤ a.toInt ∧ a.toInt ≤ 20) (hb : 0 ≤ b.toInt ∧ b.toInt ≤ 20) : -20 ≤ (a - b).toInt ∧ (a - b).toInt ≤ 20 := by
  rw [Int32.toInt_sub, show (2 ^ 32 : Nat) = 4294967296 from rfl, bm_small (by omega) (by omega)]
  omega
theorem LpT_b {xs ys : Ar} (hB : inB xs ys) {TR : List (Nat × Nat)} (hT : TRok TR) {s t : Nat} (hs : s ≤ TR.length) (ht : t < TR.length) : 0 ≤ (LpT xs ys TR s t).toInt ∧ (LpT xs ys TR s t).toInt ≤ 20 := by
  obtain ⟨h1, h2⟩ := TR_at hT ht
  have hst : (0 ≤ (stdP xs ys TR s).1.toInt ∧ (stdP xs ys TR s).1.toInt ≤ 20) ∧ (0 ≤ (stdP xs ys TR s).2.1.toInt ∧ (stdP xs ys TR s).2.1.toInt ≤ 20) ∧ (0 ≤ (stdP xs ys TR s).2.2.1.toInt ∧ (stdP xs ys TR s).2.2.1.toInt ≤ 20) ∧ (0 ≤ (stdP xs ys TR s).2.2.2.toInt ∧ (stdP xs ys TR s).2.2.2.toInt ≤ 20) := by
    cases s with
    | zero => exact ⟨(show 0 ≤ (0 : Int32).toInt ∧ (0 : Int32).toInt ≤ 20 by decide), (show 0 ≤ (0 : Int32).toInt ∧ (0 : Int32).toInt ≤ 20 by decide), (show 0 ≤ (20 : Int32).toInt ∧ (20 : Int32).toInt ≤ 20 by decide), (show 0 ≤ (0 : Int32).toInt ∧ (0 : Int32).toInt ≤ 20 by decide)⟩
    | succ s =>
      obtain ⟨g1, g2⟩ := TR_at hT (show s < TR.length by omega)
      exact ⟨(hB _ g1).1, (hB _ g1).2, (hB _ g2).1, (hB _ g2).2⟩
  obtain ⟨a1, a2, a3, a4⟩ := hst
  unfold LpT
  have b1 := sub_b (hB _ h1).1 a1
  have b2 := sub_b (hB _ h1).2 a2
  have b3 := sub_b (hB _ h2).1 a3
  have b4 := sub_b (hB _ h2).2 a4
  exact mxI_b (mxI_b (abI_b (by omega) (by omega) b1.1 b1.2) (abI_b (by omega) (by omega) b2.1 b2.2)) (mxI_b (abI_b (by omega) (by omega) b3.1 b3.2) (abI_b (by omega) (by omega) b4.1 b4.2))
