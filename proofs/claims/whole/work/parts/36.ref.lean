/-! ===== NEIGHBOURS, as a list ===== -/
def nbP (n : Nat) (nets xs ys : Ar) (near : Int32) (k : Nat) : Option Nat := PK (ok5 n nets (LNf k) (GNf k) near (frF xs ys)) (frF xs ys) 64
def NL (n : Nat) (nets xs ys : Ar) (near : Int32) : Nat → List (Nat × Nat)
  | 0 => []
  | k + 1 => NL n nets xs ys near k ++ (match nbP n nets xs ys near k with | none => [] | some j => [ordP xs (j / 8) (j % 8)])
theorem NL_le {n : Nat} {nets xs ys : Ar} {near : Int32} {i j : Nat} (hij : i ≤ j) : (NL n nets xs ys near i).length ≤ (NL n nets xs ys near j).length := by
  obtain ⟨k, rfl⟩ := Nat.exists_eq_add_of_le hij
  clear hij
  induction k with
  | zero => exact Nat.le_refl _
  | succ k ih =>
    show _ ≤ (NL n nets xs ys near (i + k) ++ _).length
    rw [List.length_append]
    omega
theorem nbP_lt {n : Nat} {nets xs ys : Ar} {near : Int32} {k j : Nat} (h : nbP n nets xs ys near k = some j) : j < 64 := PK_lt h
theorem addNeigh5_loop {n : Nat} (hn : n ≤ 8) (nets xs ys : Ar) (near : Int32) {T : List (Nat × Nat)} (hlen : (T ++ NL n nets xs ys near 6).length ≤ 10) :
    ∀ k i, i + k = 6 → ∀ f, k < f → ∀ left right, Lr (T ++ NL n nets xs ys near i) left right → ∃ left' right', L_X4_addNeighbours_2 (nI n) near nets xs ys f (nI i) (nI (T ++ NL n nets xs ys near i).length) left right = some (nI (T ++ NL n nets xs ys near 6).length, left', right') ∧ Lr (T ++ NL n nets xs ys near 6) left' right' := by
  intro k
  induction k with
  | zero =>
    intro i hi f hf left right hL
    obtain ⟨f, rfl⟩ : ∃ f', f = f' + 1 := ⟨f - 1, by omega⟩
    have e0 : L_X4_addNeighbours_2 (nI n) near nets xs ys (f + 1) (nI i) (nI (T ++ NL n nets xs ys near i).length) left right = some (nI (T ++ NL n nets xs ys near i).length, left, right) := by
      show B_X4_addNeighbours_2 _ _ _ _ _ (L_X4_addNeighbours_2 (nI n) near nets xs ys f) _ _ _ _ = _
      unfold B_X4_addNeighbours_2
      rw [if_pos (by rw [i6, leN (by omega) (by omega)]; omega)]
    have : i = 6 := by omega
    subst this
    exact ⟨left, right, e0, hL⟩
  | succ k ih =>
    intro i hi f hf left right hL
    obtain ⟨f, rfl⟩ : ∃ f', f = f' + 1 := ⟨f - 1, by omega⟩
    have e0 : L_X4_addNeighbours_2 (nI n) near nets xs ys (f + 1) (nI i) (nI (T ++ NL n nets xs ys near i).length) left right = bd3 (m_X4_addNearestPair (nI (T ++ NL n nets xs ys near i).length) left right (nI n) near nets xs ys (LNf i) (GNf i)) (fun x y z => L_X4_addNeighbours_2 (nI n) near nets xs ys f (nI i + 1) x y z) := by
      show B_X4_addNeighbours_2 _ _ _ _ _ (L_X4_addNeighbours_2 (nI n) near nets xs ys f) _ _ _ _ = _
      unfold B_X4_addNeighbours_2
      rw [if_neg (by rw [i6, leN (by omega) (by omega)]; omega)]
      simp (disch := omega) only [gN, grd_tt, cN]
    have ih' := ih (i + 1) (by omega) f (by omega)
    have e3 : nI i + 1 = nI (i + 1) := by rw [i1, addN]
    rw [e0, addNearest5 hn]
    have hu : NL n nets xs ys near (i + 1) = NL n nets xs ys near i ++ (match nbP n nets xs ys near i with | none => [] | some j => [ordP xs (j / 8) (j % 8)]) := rfl
    cases hp : nbP n nets xs ys near i with
    | none =>
      have hp' : PK (ok5 n nets (LNf i) (GNf i) near (frF xs ys)) (frF xs ys) 64 = none := hp
      rw [hp'] 
      rw [hp] at hu
      simp only [List.append_nil] at hu
      rw [hu] at ih'
      simp only [bd3_s]
      rw [e3]
      exact ih' left right hL
    | some j =>
      have hp' : PK (ok5 n nets (LNf i) (GNf i) near (frF xs ys)) (frF xs ys) 64 = some j := hp
      have hj := nbP_lt hp
      rw [hp']
      rw [hp] at hu
      simp only at hu
      have hle := NL_le (n := n) (nets := nets) (xs := xs) (ys := ys) (near := near) (i := i + 1) (j := 6) (by omega)
      have hlt : (T ++ NL n nets xs ys near i).length < 10 := by
        rw [hu, List.length_append] at hle
        rw [List.length_append] at hlen ⊢
        simp at hle
        omega
      simp only
      rw [addTry5 xs hlt (by omega) (by omega)]
      simp only [bd3_s]
      have e2 : (T ++ NL n nets xs ys near i).length + 1 = (T ++ NL n nets xs ys near (i + 1)).length := by rw [hu]; simp; omega
      have hL2 := Lr_push hL (ordP xs (j / 8) (j % 8))
      rw [List.append_assoc, ← hu] at hL2
      rw [e2, e3]
      exact ih' _ _ hL2
theorem addNeigh5 {n : Nat} (hn : n ≤ 8) (nets xs ys : Ar) (near : Int32) {T : List (Nat × Nat)} (hlen : (T ++ NL n nets xs ys near 6).length ≤ 10) {left right : Ar} (hL : Lr T left right) : ∃ left' right', m_X4_addNeighbours (nI T.length) left right (nI n) near nets xs ys = some (nI (T ++ NL n nets xs ys near 6).length, left', right') ∧ Lr (T ++ NL n nets xs ys near 6) left' right' := by
  unfold m_X4_addNeighbours
  have hL' : Lr (T ++ NL n nets xs ys near 0) left right := by show Lr (T ++ []) left right; rw [List.append_nil]; exact hL
  have h := addNeigh5_loop hn nets xs ys near hlen 6 0 (by omega) FU (by show _ < 4096; omega) left right hL'
  have e : (T ++ NL n nets xs ys near 0).length = T.length := by show (T ++ []).length = _; rw [List.append_nil]
  rw [e] at h
  exact h
/-! ===== the reference ===== -/
def apR (ap : Ar) (o len : Nat) : Prop := ∀ i, i < len → ap i = bi (decide (o ≤ i))
theorem apR_push {ap : Ar} {o len : Nat} (h : apR ap o len) : apR (upd ap len (bi (decide (o ≤ len)))) o (len + 1) := by
  intro i hi
  by_cases hil : i = len
  · subst hil; rw [upd_s]
  · rw [upd_n _ _ hil]; exact h i (by omega)
theorem ln_inner {st nets xs ys : Ar} {n : Nat} {near : Int32} (hR : Rb st n nets xs ys near) (lo hi tt : Int32) (tl tr ap : Ar) (k6 : Int32 → Int32 → Option (Int32 × Ar × Ar × Ar)) {a : Nat} (ha : a < n) :
    ∀ k b, b + k = n → ∀ f, k < f → L_X6_layNeighbours_20 tt st tl tr ap k6 lo hi (nI a) f (pvf (PK (ok6 n nets lo hi) (frF xs ys) (8 * a + b))) (nI b) = k6 (pvf (PK (ok6 n nets lo hi) (frF xs ys) (8 * a + n))) (nI a + 1) := by
  have hn : n ≤ 8 := hR.2.1
  have h0 : st 0 = nI n := hR.1
  have hp8 := hR.2.2.1
  intro k
  induction k with
  | zero =>
    intro b hb f hf
    obtain ⟨f, rfl⟩ : ∃ f', f = f' + 1 := ⟨f - 1, by omega⟩
    have : b = n := by omega
    subst this
    show B_X6_layNeighbours_20 _ _ _ _ _ _ _ _ _ (L_X6_layNeighbours_20 tt st tl tr ap k6 lo hi (nI a) f) _ _ = _
    unfold B_X6_layNeighbours_20
    rw [h0, if_pos (by rw [leN (by omega) (by omega)]; omega)]
  | succ k ih =>
    intro b hb f hf
    obtain ⟨f, rfl⟩ : ∃ f', f = f' + 1 := ⟨f - 1, by omega⟩
    have hd : (8 * a + b) / 8 = a := by omega
    have hm : (8 * a + b) % 8 = b := by omega
    have ih' := ih (b + 1) (by omega) f (by omega)
    rw [show 8 * a + (b + 1) = 8 * a + b + 1 by omega] at ih'
    have hfr : frF xs ys (8 * a + b) = frd xs ys a b := by simp only [frF, hd, hm]
    have hskip : ¬ (nets a = lo ∧ nets b = hi) → PK (ok6 n nets lo hi) (frF xs ys) (8 * a + b + 1) = PK (ok6 n nets lo hi) (frF xs ys) (8 * a + b) := by
      intro h
      rw [PK, if_neg]
      simp only [ok6, hd, hm, decide_eq_true_eq]
      exact fun h2 => h h2.2
    have e2 : pvf (some (8 * a + b)) = (8 : Int32) * nI a + nI b := by
      show nI (8 * a + b) = _
      rw [i8, mulN, addN]
    show B_X6_layNeighbours_20 _ _ _ _ _ _ _ _ _ (L_X6_layNeighbours_20 tt st tl tr ap k6 lo hi (nI a) f) _ _ = _
    unfold B_X6_layNeighbours_20 J_X6_layNeighbours_61
    have e10 : ¬ (1 : Int32) = 0 := by decide
    have q1 : ((1 : Int32) + nI a) = nI (1 + a) := by rw [i1, addN]
    have q2 : ((1 : Int32) + nI b) = nI (1 + b) := by rw [i1, addN]
    rw [h0, if_neg (by rw [leN (by omega) (by omega)]; omega), q1, q2]
    simp (disch := omega) only [gN, grd_tt, cN]
    rw [(hp8 a (by omega)).1, (hp8 b (by omega)).1]
    by_cases h1 : nets a = lo
    · rw [if_pos h1]
      by_cases h2 : nets b = hi
      · rw [if_pos h2]
        unfold J_X6_layNeighbours_62
        rw [if_neg e10]
        have ho : ok6 n nets lo hi (8 * a + b) = true := by
          simp only [ok6, hd, hm, decide_eq_true_eq]
          exact ⟨⟨ha, by omega⟩, h1, h2⟩
        have e : PK (ok6 n nets lo hi) (frF xs ys) (8 * a + b + 1) = (match PK (ok6 n nets lo hi) (frF xs ys) (8 * a + b) with | none => some (8 * a + b) | some j => if frF xs ys (8 * a + b) < frF xs ys j then some (8 * a + b) else some j) := by
          rw [PK, if_pos ho]
          rfl
        cases hp : PK (ok6 n nets lo hi) (frF xs ys) (8 * a + b) with
        | none =>
          rw [hp] at e
          simp only at e
          rw [e, e2] at ih'
          rw [if_pos (show pvf none < 0 by decide)]
          unfold J_X6_layNeighbours_96 J_X6_layNeighbours_105
          rw [i1, addN]
          exact ih'
        | some j =>
          have hj := PK_lt hp
          rw [hp] at e
          simp only at e
          rw [if_neg (show ¬ pvf (some j) < 0 from nneg (by omega)), farOf6 hR (by omega) (by omega), bd1_s]
          show bd1 (m_X6_farOf st (nI j / 8) (nI j - nI j / 8 * 8)) _ = _
          rw [div8 j (by omega), show nI j - nI (j / 8) * 8 = nI (j % 8) by rw [← div8 j (by omega)]; exact mod8 j (by omega), farOf6 hR (by omega) (by omega), bd1_s]
          by_cases hlt : frF xs ys (8 * a + b) < frF xs ys j
          · rw [if_pos hlt] at e
            rw [e, e2] at ih'
            rw [if_neg (by rw [leI]; rw [ltI, hfr] at hlt; show ¬ (frF xs ys j).toInt ≤ _; omega)]
            unfold J_X6_layNeighbours_96 J_X6_layNeighbours_105
            rw [i1, addN]
            exact ih'
          · rw [if_neg hlt] at e
            rw [e] at ih'
            rw [if_pos (by rw [leI]; rw [ltI, hfr] at hlt; show (frF xs ys j).toInt ≤ _; omega)]
            unfold J_X6_layNeighbours_105
            rw [i1, addN]
            exact ih'
      · rw [if_neg h2]
        rw [hskip (fun h => h2 h.2)] at ih'
        unfold J_X6_layNeighbours_62 J_X6_layNeighbours_105
        rw [if_pos rfl, i1, addN]
        exact ih'
    · rw [if_neg h1]
      rw [hskip (fun h => h1 h.1)] at ih'
      unfold J_X6_layNeighbours_62 J_X6_layNeighbours_105
      rw [if_pos rfl, i1, addN]
      exact ih'
theorem ln_outer {st nets xs ys : Ar} {n : Nat} {near : Int32} (hR : Rb st n nets xs ys near) (lo hi tt : Int32) (tl tr ap : Ar) :
    ∀ k a, a + k = n → ∀ f, k < f → L_X6_layNeighbours_6 tt st tl tr ap lo hi f (pvf (PK (ok6 n nets lo hi) (frF xs ys) (8 * a))) (nI a)
      = (match PK (ok5 n nets lo hi near (frF xs ys)) (frF xs ys) 64 with | none => some (tt, tl, tr, ap) | some j => bd4 (m_X6_addTry tt st tl tr ap (nI (j / 8)) (nI (j % 8)) 1) (fun x y z w => some (x, y, z, w))) := by
  have hn : n ≤ 8 := hR.2.1
  have h0 : st 0 = nI n := hR.1
  have h33 : st 33 = near := hR.2.2.2
  intro k
  induction k with
  | zero =>
    intro a ha f hf
    obtain ⟨f, rfl⟩ : ∃ f', f = f' + 1 := ⟨f - 1, by omega⟩
    have e : PK (ok6 n nets lo hi) (frF xs ys) 64 = PK (ok6 n nets lo hi) (frF xs ys) (8 * a) := by
      refine PK_to (by omega) fun q h1 h2 => ?_
      have : ¬ q / 8 < n := by omega
      simp [ok6, this]
    rw [nb_eq, e]
    show B_X6_layNeighbours_6 _ _ _ _ _ _ _ (L_X6_layNeighbours_6 tt st tl tr ap lo hi f) _ _ = _
    unfold B_X6_layNeighbours_6
    rw [h0, if_pos (by rw [leN (by omega) (by omega)]; omega)]
    cases hp : PK (ok6 n nets lo hi) (frF xs ys) (8 * a) with
    | none => rw [if_pos (show pvf none < 0 by decide)]
    | some j =>
      have hj := PK_lt hp
      rw [if_neg (show ¬ pvf (some j) < 0 from nneg (by omega))]
      show bd1 (m_X6_farOf st (nI j / 8) (nI j - nI j / 8 * 8)) (fun r4 => if st 33 < r4 then some (tt, tl, tr, ap) else bd4 (m_X6_addTry tt st tl tr ap (nI j / 8) (nI j - nI j / 8 * 8) 1) (fun x y z w => some (x, y, z, w))) = _
      rw [div8 j (by omega), show nI j - nI (j / 8) * 8 = nI (j % 8) by rw [← div8 j (by omega)]; exact mod8 j (by omega), farOf6 hR (by omega) (by omega), bd1_s, h33]
      show (if near < frF xs ys j then _ else _) = _
      by_cases hlt : near < frF xs ys j
      · simp only [hlt, if_true]
      · simp only [hlt, if_false]
  | succ k ih =>
    intro a ha f hf
    obtain ⟨f, rfl⟩ : ∃ f', f = f' + 1 := ⟨f - 1, by omega⟩
    show B_X6_layNeighbours_6 _ _ _ _ _ _ _ (L_X6_layNeighbours_6 tt st tl tr ap lo hi f) _ _ = _
    unfold B_X6_layNeighbours_6
    rw [h0, if_neg (by rw [leN (by omega) (by omega)]; omega)]
    have e2 : PK (ok6 n nets lo hi) (frF xs ys) (8 * (a + 1)) = PK (ok6 n nets lo hi) (frF xs ys) (8 * a + n) := by
      refine PK_to (by omega) fun q h1 h2 => ?_
      have : ¬ q % 8 < n := by omega
      simp [ok6, this]
    have h9 := ln_inner hR lo hi tt tl tr ap (L_X6_layNeighbours_6 tt st tl tr ap lo hi f) (by omega : a < n) n 0 (by omega) FU (by show _ < 4096; omega)
    rw [Nat.add_zero, ← e2, i1, addN] at h9
    rw [i0, h9, ih (a + 1) (by omega) f (by omega)]
theorem layNeigh6 {st nets xs ys : Ar} {n : Nat} {near : Int32} (hR : Rb st n nets xs ys near) (lo hi tt : Int32) (tl tr ap : Ar) : m_X6_layNeighbours tt st tl tr ap lo hi = (match PK (ok5 n nets lo hi near (frF xs ys)) (frF xs ys) 64 with | none => some (tt, tl, tr, ap) | some j => bd4 (m_X6_addTry tt st tl tr ap (nI (j / 8)) (nI (j % 8)) 1) (fun x y z w => some (x, y, z, w))) := by
  unfold m_X6_layNeighbours
  exact ln_outer hR lo hi tt tl tr ap n 0 (by have := hR.2.1; omega) FU (by have := hR.2.1; show _ < 4096; omega)
