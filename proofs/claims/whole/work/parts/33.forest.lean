/-! ===== one process for all NETS, or one for each ===== -/
theorem okN_okC {n : Nat} {nets : Ar} {m : Nat} {g : Ar} {j : Nat} (h : okN n nets m g j = true) : okC n nets g j = true ∧ nets (j / 8) = nI m := by simpa [okN] using h
theorem stp_none {ok : Ar → Nat → Bool} {fr : Nat → Int32} {n : Nat} {s : GP} (h : PK (ok s.1) fr 64 = none) : stp ok fr n s = s := by
  unfold stp
  rw [h]
theorem stp_some {ok : Ar → Nat → Bool} {fr : Nat → Int32} {n : Nat} {s : GP} {j : Nat} (h : PK (ok s.1) fr 64 = some j) : stp ok fr n s = jn n s j := by
  unfold stp
  rw [h]
theorem Ig_stpC {n : Nat} (hn : n ≤ 8) {nets : Ar} {fr : Nat → Int32} {s : GP} (hI : Ig n nets s.1) : Ig n nets (stp (okC n nets) fr n s).1 := by
  cases hp : PK (okC n nets s.1) fr 64 with
  | none => rw [stp_none hp]; exact hI
  | some j => rw [stp_some hp]; exact Ig_jn hn hI ((PK_spec 64).2 j hp).2.1
theorem Ig_stpN {n : Nat} (hn : n ≤ 8) {nets : Ar} {fr : Nat → Int32} {m : Nat} {s : GP} (hI : Ig n nets s.1) : Ig n nets (stp (okN n nets m) fr n s).1 := by
  cases hp : PK (okN n nets m s.1) fr 64 with
  | none => rw [stp_none hp]; exact hI
  | some j => rw [stp_some hp]; exact Ig_jn hn hI (okN_okC ((PK_spec 64).2 j hp).2.1).1
theorem pkn_sub {n : Nat} {nets : Ar} {fr : Nat → Int32} {m : Nat} {g : Ar} {j : Nat} (h : PK (okC n nets g) fr 64 = some j) (hm : nets (j / 8) = nI m) : PK (okN n nets m g) fr 64 = some j := by
  obtain ⟨h1, h2, h3⟩ := (PK_spec 64).2 j h
  refine PK_of ⟨h1, by simp [okN, h2, hm], fun i hi ho => h3 i hi (okN_okC ho).1⟩
/-- a step of one NET's own process, on states that agree there -/
theorem E1_stp {n : Nat} (hn : n ≤ 8) {nets : Ar} {fr : Nat → Int32} {m : Nat} {s t : GP} (h : E1 nets m s t) : E1 nets m (stp (okN n nets m) fr n s) (stp (okN n nets m) fr n t) := by
  have e : PK (okN n nets m s.1) fr 64 = PK (okN n nets m t.1) fr 64 := PK_ext 64 (fun j hj => okN_E1 h hn hj)
  cases hp : PK (okN n nets m s.1) fr 64 with
  | none => rw [stp_none hp, stp_none (by rw [← e]; exact hp)]; exact h
  | some j =>
    rw [stp_some hp, stp_some (by rw [← e]; exact hp)]
    exact E1_jn h hn (PK_lt hp) ((PK_spec 64).2 j hp).2.1
theorem cls_sim {n : Nat} (hn : n ≤ 8) {nets : Ar} (hnet : ∀ p, p < 8 → ∃ m, m < 4 ∧ nets p = nI m) {fr : Nat → Int32} {s0 : GP} (hI0 : Ig n nets s0.1) : ∀ t, Ig n nets (itr (okC n nets) fr n s0 t).1 ∧ ∀ m, m < 4 → ∃ k, E1 nets m (itr (okC n nets) fr n s0 t) (itr (okN n nets m) fr n s0 k) := by
  intro t
  induction t with
  | zero => exact ⟨hI0, fun m _ => ⟨0, E1.rf⟩⟩
  | succ t ih =>
    obtain ⟨hI, hE⟩ := ih
    refine ⟨Ig_stpC hn hI, fun m hm => ?_⟩
    obtain ⟨k, hk⟩ := hE m hm
    show ∃ k, E1 nets m (stp (okC n nets) fr n (itr (okC n nets) fr n s0 t)) _
    cases hp : PK (okC n nets (itr (okC n nets) fr n s0 t).1) fr 64 with
    | none => rw [stp_none hp]; exact ⟨k, hk⟩
    | some j =>
      rw [stp_some hp]
      have hs := (PK_spec 64).2 j hp
      by_cases hj : nets (j / 8) = nI m
      · refine ⟨k + 1, ?_⟩
        have h2 := E1_stp (fr := fr) hn hk
        rw [stp_some (pkn_sub hp hj)] at h2
        exact h2
      · exact ⟨k, (E1_other hn hI hs.1 hs.2.1 hj).trans hk⟩
theorem itr_add {ok : Ar → Nat → Bool} {fr : Nat → Int32} {n : Nat} {s : GP} {k : Nat} (h : PK (ok (itr ok fr n s k).1) fr 64 = none) : ∀ d, itr ok fr n s (k + d) = itr ok fr n s k := by
  intro d
  induction d with
  | zero => rfl
  | succ d ih =>
    show stp ok fr n (itr ok fr n s (k + d)) = _
    rw [ih, stp_none h]
theorem itr_end {ok : Ar → Nat → Bool} {fr : Nat → Int32} {n : Nat} {s : GP} {k k' : Nat} (h : PK (ok (itr ok fr n s k).1) fr 64 = none) (h' : PK (ok (itr ok fr n s k').1) fr 64 = none) : itr ok fr n s k = itr ok fr n s k' := by
  rcases Nat.le_total k k' with hk | hk
  · obtain ⟨d, rfl⟩ := Nat.exists_eq_add_of_le hk
    exact (itr_add h d).symm
  · obtain ⟨d, rfl⟩ := Nat.exists_eq_add_of_le hk
    exact itr_add h' d
/-- the end of a process over all NETS, and the ends of those of each, agree -/
def Fin (n : Nat) (nets : Ar) (fr : Nat → Int32) (s0 : GP) (m : Nat) (s : GP) : Prop := ∃ k, E1 nets m s (itr (okN n nets m) fr n s0 k) ∧ PK (okN n nets m (itr (okN n nets m) fr n s0 k).1) fr 64 = none
theorem Fin.eq {n : Nat} {nets : Ar} {fr : Nat → Int32} {s0 : GP} {m : Nat} {s t : GP} (h : Fin n nets fr s0 m s) (h' : Fin n nets fr s0 m t) : E1 nets m s t := by
  obtain ⟨k, h1, h2⟩ := h
  obtain ⟨k', h3, h4⟩ := h'
  rw [itr_end h2 h4] at h1
  exact h1.trans h3.symm
theorem cls_fin {n : Nat} (hn : n ≤ 8) {nets : Ar} (hnet : ∀ p, p < 8 → ∃ m, m < 4 ∧ nets p = nI m) {fr : Nat → Int32} {s0 : GP} (hI0 : Ig n nets s0.1) {t : Nat} (h : PK (okC n nets (itr (okC n nets) fr n s0 t).1) fr 64 = none) : ∀ m, m < 4 → Fin n nets fr s0 m (itr (okC n nets) fr n s0 t) := by
  intro m hm
  obtain ⟨k, hk⟩ := (cls_sim hn hnet (fr := fr) hI0 t).2 m hm
  refine ⟨k, hk, PK_none fun i hi => ?_⟩
  rw [← okN_E1 hk hn hi]
  have := (PK_spec 64).1 h i hi
  simp [okN, this]
/-! ===== counting ===== -/
theorem cnt_ext {f g : Nat → Bool} : ∀ n, (∀ i, i < n → f i = g i) → cnt f n = cnt g n := by
  intro n
  induction n with
  | zero => intro _; rfl
  | succ n ih => intro h; rw [cnt, cnt, h n (by omega), ih (fun i hi => h i (by omega))]
theorem cnt_add {f g : Nat → Bool} {j : Nat} : ∀ n, j < n → f j = false → (∀ i, i < n → g i = (decide (i = j) || f i)) → cnt g n = cnt f n + 1 := by
  intro n
  induction n with
  | zero => intro h; omega
  | succ n ih =>
    intro hj hf h
    rw [cnt, cnt]
    by_cases hjn : j = n
    · subst hjn
      rw [cnt_ext (f := g) (g := f) j (fun i hi => by rw [h i (by omega), decide_eq_false (by omega)]; rfl), h j (by omega), hf]
      simp
    · rw [ih (by omega) hf (fun i hi => h i (by omega)), h n (by omega), decide_eq_false (fun e => hjn e.symm)]
      simp only [Bool.false_or]
      omega
theorem cnt_le (f : Nat → Bool) : ∀ n, cnt f n ≤ n := by
  intro n
  induction n with
  | zero => exact Nat.le_refl 0
  | succ n ih => rw [cnt]; split <;> omega
theorem cnt_pos {f : Nat → Bool} : ∀ n j, j < n → f j = true → 1 ≤ cnt f n := by
  intro n
  induction n with
  | zero => intro j h; omega
  | succ n ih =>
    intro j hj hf
    rw [cnt]
    by_cases h : j = n
    · subst h; rw [hf]; simp
    · have := ih j (by omega) hf; omega
theorem cnt_pos2 {f : Nat → Bool} : ∀ n i j, i < n → j < n → i ≠ j → f i = true → f j = true → 2 ≤ cnt f n := by
  intro n
  induction n with
  | zero => intro i j h; omega
  | succ n ih =>
    intro i j hi hj hij fi fj
    rw [cnt]
    by_cases h1 : i = n
    · subst h1
      have := cnt_pos i j (by omega) fj
      rw [fi]
      simp
      omega
    · by_cases h2 : j = n
      · subst h2
        have := cnt_pos j i (by omega) fi
        rw [fj]
        simp
        omega
      · have := ih i j (by omega) (by omega) hij fi fj
        omega
theorem cnt_zero {f : Nat → Bool} : ∀ n, (∀ i, i < n → f i = false) → cnt f n = 0 := by
  intro n
  induction n with
  | zero => intro _; rfl
  | succ n ih => intro h; rw [cnt, h n (by omega), ih (fun i hi => h i (by omega))]; rfl
/-- leaders -/
def ld (n : Nat) (g : Ar) : Nat := cnt (fun p => decide (g p = nI p)) n
def Ip (s : GP) : Prop := ∀ j, j < 64 → s.2 j = true → s.1 (j / 8) = s.1 (j % 8)
theorem ld_jn {n : Nat} (hn : n ≤ 8) {nets : Ar} {s : GP} (hI : Ig n nets s.1) {j : Nat} (ho : okC n nets s.1 j = true) : ld n (jn n s j).1 + 1 = ld n s.1 := by
  obtain ⟨h1, h2, h3, h4⟩ := okC_of ho
  obtain ⟨qa, ha1, ha2, ha3, ha4, ha5, -⟩ := hI (j / 8) (by omega)
  obtain ⟨qb, hb1, hb2, hb3, hb4, hb5, -⟩ := hI (j % 8) (by omega)
  have hab : ¬ qa = qb := fun e => h4 (by rw [ha2, hb2, e])
  have hqb := hb5 h2
  refine (cnt_add (j := qb) n hqb ?_ ?_).symm
  · show decide ((if qb < n ∧ s.1 qb = s.1 (j % 8) then s.1 (j / 8) else s.1 qb) = nI qb) = false
    rw [if_pos ⟨hqb, by rw [hb3, hb2]⟩, ha2]
    refine decide_eq_false ?_
    rw [eqN (by omega) (by omega)]
    exact hab
  · intro i hi
    show decide (s.1 i = nI i) = (decide (i = qb) || decide ((if i < n ∧ s.1 i = s.1 (j % 8) then s.1 (j / 8) else s.1 i) = nI i))
    by_cases hq : i = qb
    · subst hq
      rw [decide_eq_true hb3]
      simp
    · rw [decide_eq_false hq, Bool.false_or]
      by_cases hc : i < n ∧ s.1 i = s.1 (j % 8)
      · rw [if_pos hc, hc.2, hb2, ha2]
        have e1 : ¬ nI qb = nI i := by rw [eqN (by omega) (by omega)]; omega
        have e2 : ¬ nI qa = nI i := by
          rw [eqN (by omega) (by omega)]
          intro e
          subst e
          have := hc.2
          rw [ha3, hb2, eqN (by omega) (by omega)] at this
          exact hab this
        rw [decide_eq_false e1, decide_eq_false e2]
      · rw [if_neg hc]
theorem Ip_jn {n : Nat} (hn : n ≤ 8) {nets : Ar} {s : GP} (hP : Ip s) (hb8 : ∀ j, j < 64 → s.2 j = true → j / 8 < n ∧ j % 8 < n) {j : Nat} (ho : okC n nets s.1 j = true) : Ip (jn n s j) := by
  obtain ⟨h1, h2, h3, h4⟩ := okC_of ho
  intro i hi hs
  have hs' : (decide (i = j) || s.2 i) = true := hs
  show (if i / 8 < n ∧ s.1 (i / 8) = s.1 (j % 8) then s.1 (j / 8) else s.1 (i / 8)) = (if i % 8 < n ∧ s.1 (i % 8) = s.1 (j % 8) then s.1 (j / 8) else s.1 (i % 8))
  by_cases hij : i = j
  · subst hij
    rw [if_neg (fun h => h4 h.2), if_pos ⟨h2, rfl⟩]
  · rw [decide_eq_false hij, Bool.false_or] at hs'
    have e := hP i hi hs'
    have e2 := hb8 i hi hs'
    rw [e]
    by_cases hc : s.1 (i % 8) = s.1 (j % 8)
    · rw [if_pos ⟨e2.1, hc⟩, if_pos ⟨e2.2, hc⟩]
    · rw [if_neg (fun h => hc h.2), if_neg (fun h => hc h.2)]
/-- all that is kept while trees grow -/
def Ik (n : Nat) (nets : Ar) (s : GP) : Prop := Ig n nets s.1 ∧ Ip s ∧ (∀ j, j < 64 → s.2 j = true → j / 8 < j % 8 ∧ j % 8 < n ∧ nets (j / 8) = nets (j % 8)) ∧ cnt s.2 64 + ld n s.1 = n
theorem Ik_jn {n : Nat} (hn : n ≤ 8) {nets : Ar} {s : GP} (h : Ik n nets s) {j : Nat} (hj : j < 64) (ho : okC n nets s.1 j = true) : Ik n nets (jn n s j) := by
  obtain ⟨hI, hP, hQ, hC⟩ := h
  obtain ⟨h1, h2, h3, h4⟩ := okC_of ho
  refine ⟨Ig_jn hn hI ho, Ip_jn hn hP (fun i hi hs => ⟨by have := hQ i hi hs; omega, (hQ i hi hs).2.1⟩) ho, ?_, ?_⟩
  · intro i hi hs
    have hs' : (decide (i = j) || s.2 i) = true := hs
    by_cases hij : i = j
    · subst hij; exact ⟨h1, h2, h3⟩
    · rw [decide_eq_false hij, Bool.false_or] at hs'
      exact hQ i hi hs'
  · have hPj : s.2 j = false := by
      cases hs : s.2 j with
      | false => rfl
      | true => exact absurd (hP j hj hs) h4
    have e1 := cnt_add (f := s.2) (g := (jn n s j).2) 64 hj hPj (fun i _ => rfl)
    have e2 := ld_jn hn hI ho
    omega
/-- one leader alone: nothing is left to join -/
theorem ld_one {n : Nat} (hn : n ≤ 8) {nets g : Ar} (hI : Ig n nets g) (h : ld n g ≤ 1) {j : Nat} (hj : j < 64) : okC n nets g j = false := by
  cases ho : okC n nets g j with
  | false => rfl
  | true =>
    exfalso
    obtain ⟨h1, h2, h3, h4⟩ := okC_of ho
    obtain ⟨qa, ha1, ha2, ha3, ha4, ha5, -⟩ := hI (j / 8) (by omega)
    obtain ⟨qb, hb1, hb2, hb3, hb4, hb5, -⟩ := hI (j % 8) (by omega)
    have hab : qa ≠ qb := fun e => h4 (by rw [ha2, hb2, e])
    have := cnt_pos2 (f := fun p => decide (g p = nI p)) n qa qb (ha5 (by omega)) (hb5 h2) hab (decide_eq_true ha3) (decide_eq_true hb3)
    unfold ld at h
    omega
def s0P : GP := (fun p => nI p, fun _ => false)
theorem Ik_0 {n : Nat} {nets : Ar} {s : GP} (h1 : ∀ p, p < 8 → s.1 p = nI p) (h2 : ∀ j, j < 64 → s.2 j = false) (hn : n ≤ 8) : Ik n nets s := by
  refine ⟨fun p hp => ⟨p, hp, h1 p hp, h1 p hp, rfl, id, fun _ => rfl⟩, fun j hj hs => ?_, fun j hj hs => ?_, ?_⟩
  · rw [h2 j hj] at hs; cases hs
  · rw [h2 j hj] at hs; cases hs
  · rw [cnt_zero 64 (fun i hi => h2 i hi)]
    have : ∀ k, k ≤ n → cnt (fun p => decide (s.1 p = nI p)) k = k := by
      intro k
      induction k with
      | zero => intro _; rfl
      | succ k ih => intro hk; rw [cnt, ih (by omega), decide_eq_true (h1 k (by omega))]; rfl
    show 0 + cnt _ n = n
    rw [this n (Nat.le_refl n)]
    omega
