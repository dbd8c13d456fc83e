/-! ===== the reference: a TREE ===== -/
def IPr (ip : Ar) (P : Nat → Bool) : Prop := ∀ j, j < 64 → ip j = bi (P j)
theorem itr_shift {ok : Ar → Nat → Bool} {fr : Nat → Int32} {n : Nat} {s : GP} : ∀ k, itr ok fr n s (k + 1) = itr ok fr n (stp ok fr n s) k := by
  intro k
  induction k with
  | zero => rfl
  | succ k ih =>
    show stp ok fr n (itr ok fr n s (k + 1)) = stp ok fr n (itr ok fr n (stp ok fr n s) k)
    rw [ih]
theorem okN_EA {n : Nat} {nets : Ar} {m : Nat} {s : GP} {g : Ar} (h : EA s g) {j : Nat} (hj : j < 64) : okN n nets m g j = okN n nets m s.1 j := by
  unfold okN
  rw [okC_EA h hj]
theorem mrgn_EA {n : Nat} {s : GP} {g : Ar} (h : EA s g) {j : Nat} (hj : j < 64) : EA (jn n s j) (mrgn n g (g (j / 8)) (g (j % 8))) := by
  intro p hp
  show (if p < n ∧ g p = g (j % 8) then g (j / 8) else g p) = (if p < n ∧ s.1 p = s.1 (j % 8) then s.1 (j / 8) else s.1 p)
  rw [h p hp, h (j / 8) (by omega), h (j % 8) (by omega)]
theorem IPr_set {ip : Ar} {P : Nat → Bool} (h : IPr ip P) {j : Nat} (hj : j < 64) : IPr (upd ip j 1) (fun i => decide (i = j) || P i) := by
  intro i hi
  by_cases hij : i = j
  · subst hij; rw [upd_s]; simp [bi]
  · rw [upd_n _ _ hij, h i hi]; simp [hij]
theorem lt_loop {st nets xs ys : Ar} {n : Nat} {near : Int32} (hR : Rb st n nets xs ys near) (m : Nat) (tt : Int32) (tl tr ap : Ar) :
    ∀ d (s : GP), ld n s.1 ≤ d → Ik n nets s → ∀ f, d < f → ∀ g ip, EA s g → IPr ip s.2 → ∃ g' ip' q, L_X6_layTree_6 tt st tl tr ap (nI m) f (pvf (PK (okN n nets m s.1) (frF xs ys) 64)) g ip = L_X6_layTree_40 st g' ip' (nI m) FU 0 tt tl tr ap ∧ EA (itr (okN n nets m) (frF xs ys) n s q) g' ∧ IPr ip' (itr (okN n nets m) (frF xs ys) n s q).2 ∧ Ik n nets (itr (okN n nets m) (frF xs ys) n s q) ∧ PK (okN n nets m (itr (okN n nets m) (frF xs ys) n s q).1) (frF xs ys) 64 = none := by
  have hn : n ≤ 8 := hR.2.1
  intro d
  induction d with
  | zero =>
    intro s hd hK f hf g ip hE hI
    obtain ⟨f, rfl⟩ : ∃ f', f = f' + 1 := ⟨f - 1, by omega⟩
    have hnone : PK (okN n nets m s.1) (frF xs ys) 64 = none := by
      refine PK_none fun j hj => ?_
      have := ld_one hn hK.1 (by omega) hj
      simp [okN, this]
    refine ⟨g, ip, 0, ?_, hE, hI, hK, hnone⟩
    have e0 : ∀ v, L_X6_layTree_6 tt st tl tr ap (nI m) (f + 1) v g ip = B_X6_layTree_6 tt st tl tr ap (nI m) (L_X6_layTree_6 tt st tl tr ap (nI m) f) v g ip := fun _ => rfl
    rw [hnone, e0]
    unfold B_X6_layTree_6
    rw [if_pos (show pvf none < 0 by decide)]
  | succ d ih =>
    intro s hd hK f hf g ip hE hI
    obtain ⟨f, rfl⟩ : ∃ f', f = f' + 1 := ⟨f - 1, by omega⟩
    have e0 : ∀ v, L_X6_layTree_6 tt st tl tr ap (nI m) (f + 1) v g ip = B_X6_layTree_6 tt st tl tr ap (nI m) (L_X6_layTree_6 tt st tl tr ap (nI m) f) v g ip := fun _ => rfl
    rw [e0]
    unfold B_X6_layTree_6
    cases hp : PK (okN n nets m s.1) (frF xs ys) 64 with
    | none =>
      refine ⟨g, ip, 0, ?_, hE, hI, hK, hp⟩
      rw [if_pos (show pvf none < 0 by decide)]
    | some j =>
      have hs := (PK_spec 64).2 j hp
      have hj := hs.1
      have hoc := (okN_okC hs.2.1).1
      obtain ⟨h1, h2, h3, h4⟩ := okC_of hoc
      rw [if_neg (show ¬ pvf (some j) < 0 from nneg (by omega))]
      show ∃ g' ip' q, grd (gI (nI j) 64) (bd1 (m_X6_join st g (nI j / 8) (nI j - nI j / 8 * 8)) (fun z => bd1 (m_X6_nextPair st z (nI m)) (fun r => L_X6_layTree_6 tt st tl tr ap (nI m) f r z (upd ip (nI j).toNatClampNeg 1)))) = _ ∧ _
      have hne : ¬ g (j / 8) = g (j % 8) := by rw [hE _ (by omega), hE _ (by omega)]; exact h4
      rw [gN hj (by omega), grd_tt, div8 j hj, show nI j - nI (j / 8) * 8 = nI (j % 8) by rw [← div8 j hj]; exact mod8 j hj, join6 hR g (by omega) (by omega) hne, bd1_s, nextPair6 hR, bd1_s, cN (by omega)]
      have hE2 := mrgn_EA (n := n) hE hj
      have e1 : stp (okN n nets m) (frF xs ys) n s = jn n s j := stp_some hp
      have hpk : PK (okN n nets m (mrgn n g (g (j / 8)) (g (j % 8)))) (frF xs ys) 64 = PK (okN n nets m (jn n s j).1) (frF xs ys) 64 := PK_ext 64 (fun i hi => okN_EA hE2 hi)
      rw [hpk]
      have hK2 := Ik_jn hn hK hj hoc
      have hld := ld_jn hn hK.1 hoc
      obtain ⟨g', ip', q, a1, a2, a3, a4, a5⟩ := ih (jn n s j) (by omega) hK2 f (by omega) _ _ hE2 (IPr_set hI hj)
      refine ⟨g', ip', q + 1, a1, ?_, ?_, ?_, ?_⟩
      · rw [itr_shift, e1]; exact a2
      · rw [itr_shift, e1]; exact a3
      · rw [itr_shift, e1]; exact a4
      · rw [itr_shift, e1]; exact a5
theorem lt_coll {st nets xs ys : Ar} {n : Nat} {near : Int32} (hR : Rb st n nets xs ys near) {m o : Nat} (hm : m < 4) {g ip : Ar} {P : Nat → Bool} (hI : IPr ip P) {pre : List (Nat × Nat)} (hlen : (pre ++ uT P nets xs m 64).length ≤ o) (ho : o ≤ 10) :
    ∀ k i, i + k = 64 → ∀ f, k < f → ∀ left right ap, Lr (pre ++ uT P nets xs m i) left right → apR ap o (pre ++ uT P nets xs m i).length → ∃ left' right' ap', L_X6_layTree_40 st g ip (nI m) f (nI i) (nI (pre ++ uT P nets xs m i).length) left right ap = some (nI (pre ++ uT P nets xs m 64).length, left', right', ap', g, ip) ∧ Lr (pre ++ uT P nets xs m 64) left' right' ∧ apR ap' o (pre ++ uT P nets xs m 64).length := by
  have hp8 := hR.2.2.1
  intro k
  induction k with
  | zero =>
    intro i hi f hf left right ap hL hA
    obtain ⟨f, rfl⟩ : ∃ f', f = f' + 1 := ⟨f - 1, by omega⟩
    have e0 : L_X6_layTree_40 st g ip (nI m) (f + 1) (nI i) (nI (pre ++ uT P nets xs m i).length) left right ap = some (nI (pre ++ uT P nets xs m i).length, left, right, ap, g, ip) := by
      show B_X6_layTree_40 _ _ _ _ (L_X6_layTree_40 st g ip (nI m) f) _ _ _ _ _ = _
      unfold B_X6_layTree_40
      rw [if_pos (by rw [i64, leN (by omega) (by omega)]; omega)]
    have : i = 64 := by omega
    subst this
    exact ⟨left, right, ap, e0, hL, hA⟩
  | succ k ih =>
    intro i hi f hf left right ap hL hA
    obtain ⟨f, rfl⟩ : ∃ f', f = f' + 1 := ⟨f - 1, by omega⟩
    have ih' := ih (i + 1) (by omega) f (by omega)
    have hu : uT P nets xs m (i + 1) = uT P nets xs m i ++ (if qT P nets m i = true then [ordP xs (i / 8) (i % 8)] else []) := rfl
    have e3 : nI i + 1 = nI (i + 1) := by rw [i1, addN]
    have e0 : ∀ v, L_X6_layTree_40 st g ip (nI m) (f + 1) (nI i) v left right ap = B_X6_layTree_40 st g ip (nI m) (L_X6_layTree_40 st g ip (nI m) f) (nI i) v left right ap := fun _ => rfl
    rw [e0]
    unfold B_X6_layTree_40 J_X6_layTree_83
    rw [if_neg (by rw [i64, leN (by omega) (by omega)]; omega), gN (by omega) (by omega), grd_tt, cN (by omega), hI i (by omega)]
    cases hP : P i with
    | false =>
      rw [if_pos (show bi false = 0 from rfl), e3]
      have hq : qT P nets m i = false := by simp [qT, hP]
      rw [hq] at hu
      simp only [Bool.false_eq_true, if_false, List.append_nil] at hu
      rw [hu] at ih'
      exact ih' left right ap hL hA
    | true =>
      rw [if_neg (show ¬ bi true = 0 by decide), div8 i (by omega), show nI i - nI (i / 8) * 8 = nI (i % 8) by rw [← div8 i (by omega)]; exact mod8 i (by omega), show (1 : Int32) + nI (i / 8) = nI (1 + i / 8) by rw [i1, addN], gN (by omega) (by omega), grd_tt, cN (by omega), (hp8 (i / 8) (by omega)).1]
      by_cases h1 : nets (i / 8) = nI m
      · rw [if_pos h1]
        have hq : qT P nets m i = true := by simp [qT, hP, h1]
        rw [hq] at hu
        simp only [if_true] at hu
        have hle := uT_le (P := P) (nets := nets) (xs := xs) (m := m) (i := i + 1) (j := 64) (by omega)
        have hlt : (pre ++ uT P nets xs m i).length < o := by
          rw [hu, List.length_append] at hle
          rw [List.length_append] at hlen ⊢
          simp at hle
          omega
        have h9 := addTry6 hR (t := (pre ++ uT P nets xs m i).length) (a := i / 8) (b := i % 8) (by omega) (by omega) (by omega) false left right ap
        rw [bi_f] at h9
        rw [h9, bd4_s, e3]
        have e2 : (pre ++ uT P nets xs m i).length + 1 = (pre ++ uT P nets xs m (i + 1)).length := by rw [hu]; simp; omega
        have hL2 := Lr_push hL (ordP xs (i / 8) (i % 8))
        rw [List.append_assoc, ← hu] at hL2
        have hA2 := apR_push hA
        rw [decide_eq_false (by omega), bi_f, e2] at hA2
        rw [e2]
        exact ih' _ _ _ hL2 hA2
      · rw [if_neg h1, e3]
        have hq : qT P nets m i = false := by simp [qT, h1]
        rw [hq] at hu
        simp only [Bool.false_eq_true, if_false, List.append_nil] at hu
        rw [hu] at ih'
        exact ih' left right ap hL hA
theorem itrN_other {n : Nat} (hn : n ≤ 8) {nets : Ar} {fr : Nat → Int32} {m m' : Nat} (hmm : ¬ nI m = nI m') {s : GP} (hI : Ig n nets s.1) : ∀ k, Ig n nets (itr (okN n nets m) fr n s k).1 ∧ E1 nets m' (itr (okN n nets m) fr n s k) s := by
  intro k
  induction k with
  | zero => exact ⟨hI, E1.rf⟩
  | succ k ih =>
    obtain ⟨h1, h2⟩ := ih
    refine ⟨Ig_stpN hn h1, ?_⟩
    show E1 nets m' (stp (okN n nets m) fr n (itr (okN n nets m) fr n s k)) s
    cases hp : PK (okN n nets m (itr (okN n nets m) fr n s k).1) fr 64 with
    | none => rw [stp_none hp]; exact h2
    | some j =>
      have hs := (PK_spec 64).2 j hp
      have ho := okN_okC hs.2.1
      rw [stp_some hp]
      exact (E1_other hn h1 hs.1 ho.1 (by rw [ho.2]; exact hmm)).trans h2
theorem itrN_E1 {n : Nat} (hn : n ≤ 8) {nets : Ar} {fr : Nat → Int32} {m : Nat} {s t : GP} (h : E1 nets m s t) : ∀ k, E1 nets m (itr (okN n nets m) fr n s k) (itr (okN n nets m) fr n t k) := by
  intro k
  induction k with
  | zero => exact h
  | succ k ih => exact E1_stp hn ih
theorem Fin.of {n : Nat} {nets : Ar} {fr : Nat → Int32} {s0 s t : GP} {m : Nat} (h : Fin n nets fr s0 m s) (he : E1 nets m t s) : Fin n nets fr s0 m t := by
  obtain ⟨k, h1, h2⟩ := h
  exact ⟨k, he.trans h1, h2⟩
/-- the reference's trees, all NETS -/
theorem lt_nets {st nets xs ys : Ar} {n : Nat} {near : Int32} (hR : Rb st n nets xs ys near) {sc : GP} (hsc : ∀ m, m < 4 → Fin n nets (frF xs ys) s0P m sc) (hO : (TRS sc.2 nets xs 4).length ≤ 10) :
    ∀ k m, m + k = 4 → ∀ f, k < f → ∀ (s : GP) left right ap g ip, Ik n nets s → (∀ m', m' < m → Fin n nets (frF xs ys) s0P m' s) → (∀ m', m ≤ m' → m' < 4 → E1 nets m' s s0P) → EA s g → IPr ip s.2 → Lr (TRS sc.2 nets xs m) left right → apR ap (TRS sc.2 nets xs 4).length (TRS sc.2 nets xs m).length →
      ∃ left' right' ap' g' ip', L_X6_layTries_49 st f (nI m) (nI (TRS sc.2 nets xs m).length) left right ap g ip = L_X6_layTries_67 st g' ip' FU 0 (nI (TRS sc.2 nets xs 4).length) left' right' ap' ∧ Lr (TRS sc.2 nets xs 4) left' right' ∧ apR ap' (TRS sc.2 nets xs 4).length (TRS sc.2 nets xs 4).length := by
  have hn : n ≤ 8 := hR.2.1
  intro k
  induction k with
  | zero =>
    intro m hm f hf s left right ap g ip hK hF hE hEA hI hL hA
    obtain ⟨f, rfl⟩ : ∃ f', f = f' + 1 := ⟨f - 1, by omega⟩
    have e0 : L_X6_layTries_49 st (f + 1) (nI m) (nI (TRS sc.2 nets xs m).length) left right ap g ip = L_X6_layTries_67 st g ip FU 0 (nI (TRS sc.2 nets xs m).length) left right ap := by
      show B_X6_layTries_49 _ (L_X6_layTries_49 st f) _ _ _ _ _ _ _ = _
      unfold B_X6_layTries_49
      rw [if_pos (by rw [i4, leN (by omega) (by omega)]; omega)]
    have : m = 4 := by omega
    subst this
    exact ⟨left, right, ap, g, ip, e0, hL, hA⟩
  | succ k ih =>
    intro m hm f hf s left right ap g ip hK hF hE hEA hI hL hA
    obtain ⟨f, rfl⟩ : ∃ f', f = f' + 1 := ⟨f - 1, by omega⟩
    have e0 : L_X6_layTries_49 st (f + 1) (nI m) (nI (TRS sc.2 nets xs m).length) left right ap g ip = bd6 (m_X6_layTree (nI (TRS sc.2 nets xs m).length) st left right ap g ip (nI m)) (fun a b c d e h => L_X6_layTries_49 st f (nI m + 1) a b c d e h) := by
      show B_X6_layTries_49 _ (L_X6_layTries_49 st f) _ _ _ _ _ _ _ = _
      unfold B_X6_layTries_49
      rw [if_neg (by rw [i4, leN (by omega) (by omega)]; omega)]
    have hpk : PK (okN n nets m g) (frF xs ys) 64 = PK (okN n nets m s.1) (frF xs ys) 64 := PK_ext 64 (fun j hj => okN_EA hEA hj)
    obtain ⟨g', ip', q, a1, a2, a3, a4, a5⟩ := lt_loop hR m (nI (TRS sc.2 nets xs m).length) left right ap (ld n s.1) s (Nat.le_refl _) hK FU (by have := cnt_le (fun p => decide (s.1 p = nI p)) n; show _ < 4096; unfold ld; omega) g ip hEA hI
    have hFm : Fin n nets (frF xs ys) s0P m (itr (okN n nets m) (frF xs ys) n s q) := by
      have h9 := itrN_E1 hn (fr := frF xs ys) (hE m (Nat.le_refl m) (by omega)) q
      refine ⟨q, h9, PK_none fun j hj => ?_⟩
      rw [← okN_E1 h9 hn hj]
      exact (PK_spec 64).1 a5 j hj
    have hEsc := hFm.eq (hsc m (by omega))
    have hu : uT (itr (okN n nets m) (frF xs ys) n s q).2 nets xs m 64 = uT sc.2 nets xs m 64 := uT_ext 64 (fun j hj hm2 => hEsc.2 j hj hm2)
    have hlen : (TRS sc.2 nets xs m ++ uT (itr (okN n nets m) (frF xs ys) n s q).2 nets xs m 64).length ≤ (TRS sc.2 nets xs 4).length := by
      rw [hu]
      exact TRS_le (P := sc.2) (nets := nets) (xs := xs) (show m + 1 ≤ 4 by omega)
    have hL0 : Lr (TRS sc.2 nets xs m ++ uT (itr (okN n nets m) (frF xs ys) n s q).2 nets xs m 0) left right := by show Lr (TRS sc.2 nets xs m ++ []) left right; rw [List.append_nil]; exact hL
    have hA0 : apR ap (TRS sc.2 nets xs 4).length (TRS sc.2 nets xs m ++ uT (itr (okN n nets m) (frF xs ys) n s q).2 nets xs m 0).length := by show apR ap _ (TRS sc.2 nets xs m ++ []).length; rw [List.append_nil]; exact hA
    obtain ⟨l1, r1, p1, b1, b2, b3⟩ := lt_coll hR (by omega : m < 4) (g := g') a3 hlen hO 64 0 (by omega) FU (by show _ < 4096; omega) left right ap hL0 hA0
    have el : (TRS sc.2 nets xs m ++ uT (itr (okN n nets m) (frF xs ys) n s q).2 nets xs m 0).length = (TRS sc.2 nets xs m).length := by show (TRS sc.2 nets xs m ++ []).length = _; rw [List.append_nil]
    rw [el] at b1
    rw [hu] at b1 b2 b3
    have hT : m_X6_layTree (nI (TRS sc.2 nets xs m).length) st left right ap g ip (nI m) = some (nI (TRS sc.2 nets xs (m + 1)).length, l1, r1, p1, g', ip') := by
      unfold m_X6_layTree
      rw [nextPair6 hR, bd1_s, hpk, a1]
      exact b1
    have e3 : nI m + 1 = nI (m + 1) := by rw [i1, addN]
    rw [e0, hT, bd6_s, e3]
    have hne : ∀ m', m' < 4 → m' ≠ m → ¬ nI m = nI m' := fun m' h1 h2 => by rw [eqN (by omega) (by omega)]; omega
    refine ih (m + 1) (by omega) f (by omega) (itr (okN n nets m) (frF xs ys) n s q) l1 r1 p1 g' ip' a4 ?_ ?_ a2 a3 b2 b3
    · intro m' hm'
      by_cases h9 : m' = m
      · subst h9; exact hFm
      · exact (hF m' (by omega)).of (itrN_other hn (hne m' (by omega) h9) hK.1 q).2
    · intro m' h1 h2
      exact (itrN_other hn (hne m' h2 (by omega)) hK.1 q).2.trans (hE m' (by omega) h2)
/-! ===== no more than ten ===== -/
theorem uT_len (P : Nat → Bool) (nets xs : Ar) (m : Nat) : ∀ i, (uT P nets xs m i).length = cnt (qT P nets m) i := by
  intro i
  induction i with
  | zero => rfl
  | succ i ih =>
    show (uT P nets xs m i ++ _).length = cnt (qT P nets m) i + _
    rw [List.length_append, ih]
    cases qT P nets m i <;> simp
theorem four {nets : Ar} {p : Nat} (h : ∃ m, m < 4 ∧ nets p = nI m) : nets p = nI 0 ∨ nets p = nI 1 ∨ nets p = nI 2 ∨ nets p = nI 3 := by
  obtain ⟨m, hm, e⟩ := h
  rcases (show m = 0 ∨ m = 1 ∨ m = 2 ∨ m = 3 by omega) with rfl | rfl | rfl | rfl
  · exact Or.inl e
  · exact Or.inr (Or.inl e)
  · exact Or.inr (Or.inr (Or.inl e))
  · exact Or.inr (Or.inr (Or.inr e))
theorem n01 : ¬ nI 0 = nI 1 ∧ ¬ nI 0 = nI 2 ∧ ¬ nI 0 = nI 3 ∧ ¬ nI 1 = nI 2 ∧ ¬ nI 1 = nI 3 ∧ ¬ nI 2 = nI 3 ∧ ¬ nI 1 = nI 0 ∧ ¬ nI 2 = nI 0 ∧ ¬ nI 3 = nI 0 ∧ ¬ nI 2 = nI 1 ∧ ¬ nI 3 = nI 1 ∧ ¬ nI 3 = nI 2 := by decide
theorem cnt_s (p : Nat → Bool) (n : Nat) : cnt p (n + 1) = cnt p n + (p n).toNat := by
  rw [cnt]
  cases p n <;> rfl
theorem cnt_four {nets : Ar} (f : Nat → Bool) (d : Nat → Nat) : ∀ n, (∀ p, p < n → ∃ m, m < 4 ∧ nets (d p) = nI m) → cnt f n = cnt (fun p => f p && decide (nets (d p) = nI 0)) n + cnt (fun p => f p && decide (nets (d p) = nI 1)) n + cnt (fun p => f p && decide (nets (d p) = nI 2)) n + cnt (fun p => f p && decide (nets (d p) = nI 3)) n := by
  intro n
  induction n with
  | zero => intro _; rfl
  | succ n ih =>
    intro h
    have := ih (fun p hp => h p (by omega))
    obtain ⟨x1, x2, x3, x4, x5, x6, x7, x8, x9, x10, x11, x12⟩ := n01
    rw [cnt_s, cnt_s, cnt_s, cnt_s, cnt_s]
    have e5 : (f n).toNat = (f n && decide (nets (d n) = nI 0)).toNat + (f n && decide (nets (d n) = nI 1)).toNat + (f n && decide (nets (d n) = nI 2)).toNat + (f n && decide (nets (d n) = nI 3)).toNat := by
      rcases four (nets := nets) (p := d n) (h n (by omega)) with e | e | e | e <;> simp [e, x1, x2, x3, x4, x5, x6, x7, x8, x9, x10, x11, x12]
    omega
def prB (n : Nat) (nets : Ar) (m : Nat) : Nat := if cnt (fun p => decide (nets p = nI m)) n = 0 then 0 else 1
theorem cnt_ex {f : Nat → Bool} : ∀ n, ¬ cnt f n = 0 → ∃ p, p < n ∧ f p = true := by
  intro n
  induction n with
  | zero => intro h; exact absurd rfl h
  | succ n ih =>
    intro h
    cases hf : f n with
    | true => exact ⟨n, by omega, hf⟩
    | false =>
      rw [cnt, hf] at h
      obtain ⟨p, h1, h2⟩ := ih (by simpa using h)
      exact ⟨p, by omega, h2⟩
theorem pr_ld {n : Nat} (hn : n ≤ 8) {nets g : Ar} (hI : Ig n nets g) (m : Nat) : prB n nets m ≤ cnt (fun p => decide (g p = nI p) && decide (nets p = nI m)) n := by
  unfold prB
  split
  · omega
  · rename_i h
    obtain ⟨p, h1, h2⟩ := cnt_ex n h
    obtain ⟨q, c1, c2, c3, c4, c5, -⟩ := hI p (by omega)
    refine cnt_pos n q (c5 h1) ?_
    have : nets p = nI m := by simpa using h2
    simp [c3, c4, this]
theorem ld_ge {n : Nat} (hn : n ≤ 8) {nets g : Ar} (hnet : ∀ p, p < 8 → ∃ m, m < 4 ∧ nets p = nI m) (hI : Ig n nets g) : prB n nets 0 + prB n nets 1 + prB n nets 2 + prB n nets 3 ≤ ld n g := by
  unfold ld
  rw [cnt_four (nets := nets) (fun p => decide (g p = nI p)) (fun p => p) n (fun p hp => hnet p (by omega))]
  have h0 := pr_ld hn hI 0
  have h1 := pr_ld hn hI 1
  have h2 := pr_ld hn hI 2
  have h3 := pr_ld hn hI 3
  omega
theorem TRS_len {P : Nat → Bool} {nets xs : Ar} (hnet : ∀ p, p < 8 → ∃ m, m < 4 ∧ nets p = nI m) : (TRS P nets xs 4).length = cnt P 64 := by
  rw [cnt_four (nets := nets) P (fun j => j / 8) 64 (fun p hp => hnet (p / 8) (by omega))]
  show ((([] ++ uT P nets xs 0 64) ++ uT P nets xs 1 64) ++ uT P nets xs 2 64 ++ uT P nets xs 3 64).length = _
  simp only [List.length_append, uT_len, List.nil_append]
  rfl
theorem nb_pr {n : Nat} {nets xs ys : Ar} {near : Int32} {k a b : Nat} (hl : LNf k = nI a) (hg : GNf k = nI b) : (match nbP n nets xs ys near k with | none => ([] : List (Nat × Nat)) | some j => [ordP xs (j / 8) (j % 8)]).length ≤ prB n nets a * prB n nets b := by
  cases hp : nbP n nets xs ys near k with
  | none => simp
  | some j =>
    have hs := (PK_spec 64).2 j hp
    have ho := hs.2.1
    simp only [ok5, decide_eq_true_eq] at ho
    obtain ⟨⟨h1, h2⟩, h3, h4, -⟩ := ho
    have e1 : prB n nets a = 1 := by
      unfold prB
      rw [if_neg]
      have := cnt_pos (f := fun p => decide (nets p = nI a)) n (j / 8) h1 (decide_eq_true (by rw [h3, hl]))
      omega
    have e2 : prB n nets b = 1 := by
      unfold prB
      rw [if_neg]
      have := cnt_pos (f := fun p => decide (nets p = nI b)) n (j % 8) h2 (decide_eq_true (by rw [h4, hg]))
      omega
    rw [e1, e2]
    simp
theorem NL_len {n : Nat} {nets xs ys : Ar} {near : Int32} : (NL n nets xs ys near 6).length ≤ prB n nets 0 * prB n nets 1 + prB n nets 0 * prB n nets 2 + prB n nets 0 * prB n nets 3 + prB n nets 1 * prB n nets 2 + prB n nets 1 * prB n nets 3 + prB n nets 2 * prB n nets 3 := by
  have h0 := nb_pr (n := n) (nets := nets) (xs := xs) (ys := ys) (near := near) (k := 0) (a := 0) (b := 1) rfl rfl
  have h1 := nb_pr (n := n) (nets := nets) (xs := xs) (ys := ys) (near := near) (k := 1) (a := 0) (b := 2) rfl rfl
  have h2 := nb_pr (n := n) (nets := nets) (xs := xs) (ys := ys) (near := near) (k := 2) (a := 0) (b := 3) rfl rfl
  have h3 := nb_pr (n := n) (nets := nets) (xs := xs) (ys := ys) (near := near) (k := 3) (a := 1) (b := 2) rfl rfl
  have h4 := nb_pr (n := n) (nets := nets) (xs := xs) (ys := ys) (near := near) (k := 4) (a := 1) (b := 3) rfl rfl
  have h5 := nb_pr (n := n) (nets := nets) (xs := xs) (ys := ys) (near := near) (k := 5) (a := 2) (b := 3) rfl rfl
  simp only [NL, List.length_append, List.length_nil, Nat.zero_add]
  exact Nat.add_le_add (Nat.add_le_add (Nat.add_le_add (Nat.add_le_add (Nat.add_le_add h0 h1) h2) h3) h4) h5
theorem ten {n : Nat} (hn : n ≤ 8) {nets xs ys : Ar} {near : Int32} (hnet : ∀ p, p < 8 → ∃ m, m < 4 ∧ nets p = nI m) {s : GP} (hK : Ik n nets s) : (TRS s.2 nets xs 4 ++ NL n nets xs ys near 6).length ≤ 10 := by
  rw [List.length_append, TRS_len hnet]
  have h1 := ld_ge hn hnet hK.1
  have h2 := hK.2.2.2
  have h3 := NL_len (n := n) (nets := nets) (xs := xs) (ys := ys) (near := near)
  have hb : ∀ m, prB n nets m = 0 ∨ prB n nets m = 1 := fun m => by unfold prB; split <;> simp
  rcases hb 0 with a | a <;> rcases hb 1 with b | b <;> rcases hb 2 with c | c <;> rcases hb 3 with d | d <;> rw [a, b, c, d] at h1 h3 <;> omega
