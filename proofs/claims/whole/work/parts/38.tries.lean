theorem lnb_step {st nets xs ys : Ar} {n : Nat} {near : Int32} (hR : Rb st n nets xs ys near) {T : List (Nat × Nat)} {k : Nat} (hk : k < 6) (hlen : (T ++ NL n nets xs ys near 6).length ≤ 10) {lo hi : Int32} (hlo : LNf k = lo) (hhi : GNf k = hi) {left right ap : Ar} (hL : Lr (T ++ NL n nets xs ys near k) left right) (hA : apR ap T.length (T ++ NL n nets xs ys near k).length) :
    ∃ left' right' ap', m_X6_layNeighbours (nI (T ++ NL n nets xs ys near k).length) st left right ap lo hi = some (nI (T ++ NL n nets xs ys near (k + 1)).length, left', right', ap') ∧ Lr (T ++ NL n nets xs ys near (k + 1)) left' right' ∧ apR ap' T.length (T ++ NL n nets xs ys near (k + 1)).length := by
  subst hlo
  subst hhi
  have hu : NL n nets xs ys near (k + 1) = NL n nets xs ys near k ++ (match nbP n nets xs ys near k with | none => [] | some j => [ordP xs (j / 8) (j % 8)]) := rfl
  rw [layNeigh6 hR]
  cases hp : nbP n nets xs ys near k with
  | none =>
    have hp' : PK (ok5 n nets (LNf k) (GNf k) near (frF xs ys)) (frF xs ys) 64 = none := hp
    rw [hp']
    rw [hp] at hu
    simp only [List.append_nil] at hu
    rw [hu]
    exact ⟨left, right, ap, rfl, hL, hA⟩
  | some j =>
    have hp' : PK (ok5 n nets (LNf k) (GNf k) near (frF xs ys)) (frF xs ys) 64 = some j := hp
    have hj := nbP_lt hp
    rw [hp']
    rw [hp] at hu
    simp only at hu
    have hle := NL_le (n := n) (nets := nets) (xs := xs) (ys := ys) (near := near) (i := k + 1) (j := 6) (by omega)
    have hlt : (T ++ NL n nets xs ys near k).length < 10 := by
      rw [hu, List.length_append] at hle
      rw [List.length_append] at hlen ⊢
      simp at hle
      omega
    have h9 := addTry6 hR (t := (T ++ NL n nets xs ys near k).length) (a := j / 8) (b := j % 8) (by omega) (by omega) (by omega) true left right ap
    rw [bi_t] at h9
    simp only
    rw [h9, bd4_s]
    have e2 : (T ++ NL n nets xs ys near k).length + 1 = (T ++ NL n nets xs ys near (k + 1)).length := by rw [hu]; simp; omega
    have hL2 := Lr_push hL (ordP xs (j / 8) (j % 8))
    rw [List.append_assoc, ← hu] at hL2
    have hA2 := apR_push hA
    rw [decide_eq_true (by rw [List.length_append]; omega), bi_t, e2] at hA2
    rw [e2]
    exact ⟨_, _, _, rfl, hL2, hA2⟩
theorem e67 (st g ip : Ar) (f : Nat) {v : Nat} (hv : v < 4) (t : Int32) (l r a : Ar) : L_X6_layTries_67 st g ip (f + 1) (nI v) t l r a = L_X6_layTries_76 st g ip (L_X6_layTries_67 st g ip f) (nI v) FU (nI (v + 1)) t l r a := by
  have e : L_X6_layTries_67 st g ip (f + 1) (nI v) t l r a = B_X6_layTries_67 st g ip (L_X6_layTries_67 st g ip f) (nI v) t l r a := rfl
  rw [e]
  unfold B_X6_layTries_67
  rw [if_neg (by rw [i4, leN (by omega) (by omega)]; omega), i1, addN]
theorem e67x (st g ip : Ar) (f : Nat) (t : Int32) (l r a : Ar) : L_X6_layTries_67 st g ip (f + 1) (nI 4) t l r a = some (t, l, r, a, g, ip) := by
  have e : L_X6_layTries_67 st g ip (f + 1) (nI 4) t l r a = B_X6_layTries_67 st g ip (L_X6_layTries_67 st g ip f) (nI 4) t l r a := rfl
  rw [e]
  unfold B_X6_layTries_67
  rw [if_pos (by decide)]
theorem e76 (st g ip : Ar) (k67 : Int32 → Int32 → Ar → Ar → Ar → Option (Int32 × Ar × Ar × Ar × Ar × Ar)) (v1 : Int32) (f : Nat) {v : Nat} (hv : v < 4) (t : Int32) (l r a : Ar) : L_X6_layTries_76 st g ip k67 v1 (f + 1) (nI v) t l r a = bd4 (m_X6_layNeighbours t st l r a v1 (nI v)) (fun x y z w => L_X6_layTries_76 st g ip k67 v1 f (nI (v + 1)) x y z w) := by
  have e : L_X6_layTries_76 st g ip k67 v1 (f + 1) (nI v) t l r a = B_X6_layTries_76 st g ip k67 v1 (L_X6_layTries_76 st g ip k67 v1 f) (nI v) t l r a := rfl
  rw [e]
  unfold B_X6_layTries_76
  rw [if_neg (by rw [i4, leN (by omega) (by omega)]; omega), i1, addN]
theorem e76x (st g ip : Ar) (k67 : Int32 → Int32 → Ar → Ar → Ar → Option (Int32 × Ar × Ar × Ar × Ar × Ar)) (v1 : Nat) (f : Nat) (t : Int32) (l r a : Ar) : L_X6_layTries_76 st g ip k67 (nI v1) (f + 1) (nI 4) t l r a = k67 (nI (v1 + 1)) t l r a := by
  have e : L_X6_layTries_76 st g ip k67 (nI v1) (f + 1) (nI 4) t l r a = B_X6_layTries_76 st g ip k67 (nI v1) (L_X6_layTries_76 st g ip k67 (nI v1) f) (nI 4) t l r a := rfl
  rw [e]
  unfold B_X6_layTries_76
  rw [if_pos (by decide), i1, addN]
theorem lnb_all {st nets xs ys : Ar} {n : Nat} {near : Int32} (hR : Rb st n nets xs ys near) {T : List (Nat × Nat)} (hlen : (T ++ NL n nets xs ys near 6).length ≤ 10) (g ip : Ar) {left right ap : Ar} (hL : Lr T left right) (hA : apR ap T.length T.length) :
    ∃ left' right' ap', L_X6_layTries_67 st g ip FU 0 (nI T.length) left right ap = some (nI (T ++ NL n nets xs ys near 6).length, left', right', ap', g, ip) ∧ Lr (T ++ NL n nets xs ys near 6) left' right' ∧ apR ap' T.length (T ++ NL n nets xs ys near 6).length := by
  have hL0 : Lr (T ++ NL n nets xs ys near 0) left right := by show Lr (T ++ []) left right; rw [List.append_nil]; exact hL
  have hA0 : apR ap T.length (T ++ NL n nets xs ys near 0).length := by show apR ap T.length (T ++ []).length; rw [List.append_nil]; exact hA
  have e0 : (T ++ NL n nets xs ys near 0).length = T.length := by show (T ++ []).length = _; rw [List.append_nil]
  obtain ⟨l1, r1, a1, h1, hL1, hA1⟩ := lnb_step hR (by omega : 0 < 6) hlen (lo := nI 0) (hi := nI 1) rfl rfl hL0 hA0
  obtain ⟨l2, r2, a2, h2, hL2, hA2⟩ := lnb_step hR (by omega : 1 < 6) hlen (lo := nI 0) (hi := nI 2) rfl rfl hL1 hA1
  obtain ⟨l3, r3, a3, h3, hL3, hA3⟩ := lnb_step hR (by omega : 2 < 6) hlen (lo := nI 0) (hi := nI 3) rfl rfl hL2 hA2
  obtain ⟨l4, r4, a4, h4, hL4, hA4⟩ := lnb_step hR (by omega : 3 < 6) hlen (lo := nI 1) (hi := nI 2) rfl rfl hL3 hA3
  obtain ⟨l5, r5, a5, h5, hL5, hA5⟩ := lnb_step hR (by omega : 4 < 6) hlen (lo := nI 1) (hi := nI 3) rfl rfl hL4 hA4
  obtain ⟨l6, r6, a6, h6, hL6, hA6⟩ := lnb_step hR (by omega : 5 < 6) hlen (lo := nI 2) (hi := nI 3) rfl rfl hL5 hA5
  refine ⟨l6, r6, a6, ?_, hL6, hA6⟩
  rw [e0] at h1
  have hF1 : FU = 4095 + 1 := rfl
  have hF2 : (4095 : Nat) = 4094 + 1 := rfl
  have hF3 : (4094 : Nat) = 4093 + 1 := rfl
  have hF4 : (4093 : Nat) = 4092 + 1 := rfl
  have hF5 : (4092 : Nat) = 4091 + 1 := rfl
  have q0 : L_X6_layTries_67 st g ip FU 0 (nI T.length) left right ap = L_X6_layTries_67 st g ip (4095 + 1) (nI 0) (nI T.length) left right ap := rfl
  have w1 : ∀ k t l r a, L_X6_layTries_76 st g ip k (nI 0) FU (nI (0 + 1)) t l r a = bd4 (m_X6_layNeighbours t st l r a (nI 0) (nI 1)) (fun x y z w => bd4 (m_X6_layNeighbours x st y z w (nI 0) (nI 2)) (fun x y z w => bd4 (m_X6_layNeighbours x st y z w (nI 0) (nI 3)) (fun x y z w => k (nI 1) x y z w))) := fun k t l r a => rfl
  have w2 : ∀ k t l r a, L_X6_layTries_76 st g ip k (nI 1) FU (nI (1 + 1)) t l r a = bd4 (m_X6_layNeighbours t st l r a (nI 1) (nI 2)) (fun x y z w => bd4 (m_X6_layNeighbours x st y z w (nI 1) (nI 3)) (fun x y z w => k (nI 2) x y z w)) := fun k t l r a => rfl
  have w3 : ∀ k t l r a, L_X6_layTries_76 st g ip k (nI 2) FU (nI (2 + 1)) t l r a = bd4 (m_X6_layNeighbours t st l r a (nI 2) (nI 3)) (fun x y z w => k (nI 3) x y z w) := fun k t l r a => rfl
  have w4 : ∀ k t l r a, L_X6_layTries_76 st g ip k (nI 3) FU (nI (3 + 1)) t l r a = k (nI 4) t l r a := fun k t l r a => e76x st g ip k 3 4095 t l r a
  rw [q0, e67 st g ip 4095 (by omega : 0 < 4), w1, h1, bd4_s, h2, bd4_s, h3, bd4_s, hF2, e67 st g ip 4094 (by omega : 1 < 4), w2, h4, bd4_s, h5, bd4_s, hF3, e67 st g ip 4093 (by omega : 2 < 4), w3, h6, bd4_s, hF4, e67 st g ip 4092 (by omega : 3 < 4), w4, hF5, e67x]
theorem lay_g {st : Ar} (tt : Int32) (tl tr ap ip : Ar) : ∀ k i, i + k = 8 → ∀ f, k < f → ∀ g, L_X6_layTries_7 tt st tl tr ap ip f (nI i) g = L_X6_layTries_28 tt st tl tr ap (fun p => if i ≤ p ∧ p < 8 then nI p else g p) FU 0 ip := by
  intro k
  induction k with
  | zero =>
    intro i hi f hf g
    obtain ⟨f, rfl⟩ : ∃ f', f = f' + 1 := ⟨f - 1, by omega⟩
    show B_X6_layTries_7 _ _ _ _ _ _ (L_X6_layTries_7 tt st tl tr ap ip f) _ _ = _
    unfold B_X6_layTries_7
    rw [if_pos (by rw [i8, leN (by omega) (by omega)]; omega)]
    congr 1
    funext p
    rw [if_neg (by omega)]
  | succ k ih =>
    intro i hi f hf g
    obtain ⟨f, rfl⟩ : ∃ f', f = f' + 1 := ⟨f - 1, by omega⟩
    show B_X6_layTries_7 _ _ _ _ _ _ (L_X6_layTries_7 tt st tl tr ap ip f) _ _ = _
    unfold B_X6_layTries_7
    rw [if_neg (by rw [i8, leN (by omega) (by omega)]; omega)]
    simp (disch := omega) only [gN, grd_tt, cN, i1, addN]
    rw [ih (i + 1) (by omega) f (by omega)]
    congr 1
    funext p
    by_cases hp : p = i
    · subst hp; rw [if_neg (by omega), upd_s, if_pos (by omega)]
    · rw [upd_n _ _ hp]
      by_cases h3 : i + 1 ≤ p ∧ p < 8
      · rw [if_pos h3, if_pos (by omega)]
      · rw [if_neg h3, if_neg (by omega)]
theorem lay_p {st : Ar} (tt : Int32) (tl tr ap g : Ar) : ∀ k i, i + k = 64 → ∀ f, k < f → ∀ ip, L_X6_layTries_28 tt st tl tr ap g f (nI i) ip = L_X6_layTries_49 st FU 0 tt tl tr ap g (fun p => if i ≤ p ∧ p < 64 then 0 else ip p) := by
  intro k
  induction k with
  | zero =>
    intro i hi f hf ip
    obtain ⟨f, rfl⟩ : ∃ f', f = f' + 1 := ⟨f - 1, by omega⟩
    show B_X6_layTries_28 _ _ _ _ _ _ (L_X6_layTries_28 tt st tl tr ap g f) _ _ = _
    unfold B_X6_layTries_28
    rw [if_pos (by rw [i64, leN (by omega) (by omega)]; omega)]
    congr 1
    funext p
    rw [if_neg (by omega)]
  | succ k ih =>
    intro i hi f hf ip
    obtain ⟨f, rfl⟩ : ∃ f', f = f' + 1 := ⟨f - 1, by omega⟩
    show B_X6_layTries_28 _ _ _ _ _ _ (L_X6_layTries_28 tt st tl tr ap g f) _ _ = _
    unfold B_X6_layTries_28
    rw [if_neg (by rw [i64, leN (by omega) (by omega)]; omega)]
    simp (disch := omega) only [gN, grd_tt, cN, i1, addN]
    rw [ih (i + 1) (by omega) f (by omega)]
    congr 1
    funext p
    by_cases hp : p = i
    · subst hp; rw [if_neg (by omega), upd_s, if_pos (by omega)]
    · rw [upd_n _ _ hp]
      by_cases h3 : i + 1 ≤ p ∧ p < 64
      · rw [if_pos h3, if_pos (by omega)]
      · rw [if_neg h3, if_neg (by omega)]
/-! ===== TRIES, of both ===== -/
/-- the list of tries of a board, and how many of them are of trees: as the class lays them, as the reference does -/
def Tri (n : Nat) (nets xs ys : Ar) (near : Int32) (TR : List (Nat × Nat)) (O : Nat) : Prop :=
  TR.length ≤ 10 ∧ O ≤ TR.length ∧ (∀ q ∈ TR, q.1 < n ∧ q.2 < n) ∧
  (∀ (tt oo : Int32) (left right g pd : Ar), ∃ left' right' g' pd', m_X4_layOut tt oo left right g pd (nI n) near nets xs ys = some (nI TR.length, nI O, left', right', g', pd') ∧ Lr TR left' right') ∧
  (∀ (st : Ar), Rb st n nets xs ys near → ∀ (tt : Int32) (left right ap g ip : Ar), ∃ left' right' ap' g' ip', m_X6_layTries tt st left right ap g ip = some (nI TR.length, left', right', ap', g', ip') ∧ Lr TR left' right' ∧ apR ap' O TR.length)
theorem ord_lt {xs : Ar} {a b n : Nat} (ha : a < n) (hb : b < n) : (ordP xs a b).1 < n ∧ (ordP xs a b).2 < n := by
  unfold ordP
  split <;> exact ⟨by assumption, by assumption⟩
theorem uT_lt {P : Nat → Bool} {nets xs : Ar} {n m : Nat} (hP : Pn n P) : ∀ i, i ≤ 64 → ∀ q ∈ uT P nets xs m i, q.1 < n ∧ q.2 < n := by
  intro i
  induction i with
  | zero => intro _ q h; simp [uT] at h
  | succ i ih =>
    intro hi q h
    rcases List.mem_append.mp (show q ∈ uT P nets xs m i ++ (if qT P nets m i = true then [ordP xs (i / 8) (i % 8)] else []) from h) with h | h
    · exact ih (by omega) q h
    · split at h
      · rename_i hq
        have h9 : i / 8 < i % 8 ∧ i % 8 < n := by
          rcases Decidable.em (i / 8 < i % 8 ∧ i % 8 < n) with h8 | h8
          · exact h8
          · rw [qT_out hP (by omega) h8] at hq; cases hq
        rw [List.mem_singleton.mp h]; exact ord_lt (by omega) (by omega)
      · cases h
theorem TRS_lt {P : Nat → Bool} {nets xs : Ar} {n : Nat} (hP : Pn n P) : ∀ m, ∀ q ∈ TRS P nets xs m, q.1 < n ∧ q.2 < n := by
  intro m
  induction m with
  | zero => intro q h; simp [TRS] at h
  | succ m ih =>
    intro q h
    rcases List.mem_append.mp (show q ∈ TRS P nets xs m ++ uT P nets xs m 64 from h) with h | h
    · exact ih q h
    · exact uT_lt hP 64 (Nat.le_refl _) q h
theorem NL_lt {n : Nat} {nets xs ys : Ar} {near : Int32} : ∀ k, ∀ q ∈ NL n nets xs ys near k, q.1 < n ∧ q.2 < n := by
  intro k
  induction k with
  | zero => intro q h; simp [NL] at h
  | succ k ih =>
    intro q h
    rcases List.mem_append.mp (show q ∈ NL n nets xs ys near k ++ (match nbP n nets xs ys near k with | none => [] | some j => [ordP xs (j / 8) (j % 8)]) from h) with h | h
    · exact ih q h
    · cases hp : nbP n nets xs ys near k with
      | none => rw [hp] at h; cases h
      | some j =>
        have hj := (PK_spec 64).2 j hp
        have hj2 := of_decide_eq_true (show decide ((j / 8 < n ∧ j % 8 < n) ∧ nets (j / 8) = LNf k ∧ nets (j % 8) = GNf k ∧ ¬ near < frF xs ys j) = true from hj.2.1)
        rw [hp] at h
        rw [List.mem_singleton.mp h]
        exact ord_lt hj2.1.1 hj2.1.2
theorem tri_ex {n : Nat} (hn : n ≤ 8) {nets xs ys : Ar} {near : Int32} (hnet : ∀ p, p < 8 → ∃ m, m < 4 ∧ nets p = nI m) : ∃ TR O, Tri n nets xs ys near TR O := by
  obtain ⟨_, _, t0, -, -, -, hK0, hP0⟩ := grow5 hn nets xs ys (fun _ => 0) (fun _ => 0)
  have hlen := ten (xs := xs) (ys := ys) (near := near) hn hnet hK0
  have hTl : (TRS (itr (okC n nets) (frF xs ys) n s0P t0).2 nets xs 4).length ≤ 10 := by rw [List.length_append] at hlen; omega
  have hIg0 : Ig n nets s0P.1 := (Ik_0 (n := n) (nets := nets) (s := s0P) (fun _ _ => rfl) (fun _ _ => rfl) hn).1
  refine ⟨TRS (itr (okC n nets) (frF xs ys) n s0P t0).2 nets xs 4 ++ NL n nets xs ys near 6, (TRS (itr (okC n nets) (frF xs ys) n s0P t0).2 nets xs 4).length, hlen, by rw [List.length_append]; omega, ?_, ?_, ?_⟩
  · intro q h
    rcases List.mem_append.mp h with h | h
    · exact TRS_lt (fun j hj hp => ⟨(hK0.2.2.1 j hj hp).1, (hK0.2.2.1 j hj hp).2.1⟩) 4 q h
    · exact NL_lt 6 q h
  · intro tt oo left right g pd
    obtain ⟨g', pd', t, h1, h2, h3, h4, h5⟩ := grow5 hn nets xs ys g pd
    have et := itr_end h5 hP0
    rw [et] at h2 h3 h4
    have hPn : Pn n (itr (okC n nets) (frF xs ys) n s0P t0).2 := fun j hj hp => ⟨(h4.2.2.1 j hj hp).1, (h4.2.2.1 j hj hp).2.1⟩
    obtain ⟨l1, r1, a1, a2⟩ := addTrees5 (nets := nets) (xs := xs) hn h3 hPn hTl left right
    obtain ⟨l2, r2, b1, b2⟩ := addNeigh5 hn nets xs ys near hlen a2
    refine ⟨l2, r2, g', pd', ?_, b2⟩
    unfold m_X4_layOut
    rw [h1, bd2_s, a1, bd3_s, b1, bd3_s]
  · intro st hR tt left right ap g ip
    have hsc := cls_fin hn hnet hIg0 hP0
    obtain ⟨l1, r1, p1, g1, ip1, a1, a2, a3⟩ := lt_nets hR hsc hTl 4 0 (by omega) FU (by show _ < 4096; omega) s0P left right ap (fun p => if 0 ≤ p ∧ p < 8 then nI p else g p) (fun p => if 0 ≤ p ∧ p < 64 then 0 else ip p) (Ik_0 (fun _ _ => rfl) (fun _ _ => rfl) hn) (fun m' h => by omega) (fun _ _ _ => E1.rf) (fun p hp => by show (if 0 ≤ p ∧ p < 8 then nI p else g p) = _; rw [if_pos (by omega)]; rfl) (fun j hj => by show (if 0 ≤ j ∧ j < 64 then 0 else ip j) = _; rw [if_pos (by omega)]; rfl) (fun i q h => by simp [TRS] at h) (fun i hi => by simp [TRS] at hi)
    obtain ⟨l2, r2, p2, b1, b2, b3⟩ := lnb_all hR hlen g1 ip1 a2 a3
    refine ⟨l2, r2, p2, g1, ip1, ?_, b2, b3⟩
    unfold m_X6_layTries
    refine Eq.trans (lay_g 0 left right ap ip 8 0 (by omega) FU (by show _ < 4096; omega) g) ?_
    refine Eq.trans (lay_p 0 left right ap _ 64 0 (by omega) FU (by show _ < 4096; omega) ip) ?_
    exact Eq.trans a1 b1
