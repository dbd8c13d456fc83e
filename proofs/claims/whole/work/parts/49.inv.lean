/-! ===== what holds between two calls ===== -/
theorem bd5_s {α1 α2 α3 α4 α5 β : Type} (a : α1) (b : α2) (c : α3) (d : α4) (e : α5) (f : α1 → α2 → α3 → α4 → α5 → Option β) : bd5 (some (a, b, c, d, e)) f = f a b c d e := rfl
theorem bd7_s {α1 α2 α3 α4 α5 α6 α7 β : Type} (a : α1) (b : α2) (c : α3) (d : α4) (e : α5) (g : α6) (h : α7) (f : α1 → α2 → α3 → α4 → α5 → α6 → α7 → Option β) : bd7 (some (a, b, c, d, e, g, h)) f = f a b c d e g h := rfl
theorem bd9_s {α1 α2 α3 α4 α5 α6 α7 α8 α9 β : Type} (a : α1) (b : α2) (c : α3) (d : α4) (e : α5) (g : α6) (h : α7) (i : α8) (j : α9) (f : α1 → α2 → α3 → α4 → α5 → α6 → α7 → α8 → α9 → Option β) : bd9 (some (a, b, c, d, e, g, h, i, j)) f = f a b c d e g h i j := rfl
def BRn (n : Nat) (points near loose short : Int32) (nets xs ys st : Ar) : Prop := points = nI n ∧ Rb st n nets xs ys near ∧ NetOk nets ∧ inB xs ys ∧ ∃ wl ws, loose = nI wl ∧ wl < 2 ^ n ∧ short = nI ws ∧ ws < 64 ∧ Fl st n wl ws
def PLn (xs ys : Ar) (TR : List (Nat × Nat)) (ln sm : Int32) (tr : Ar) : Prop := ln = nI TR.length ∧ sm = smO (LpT xs ys TR) (nx (pkB (LpT xs ys TR) TR.length) TR.length) TR.length ∧ ∀ j, j < TR.length → tr j = nI (nx (pkB (LpT xs ys TR) TR.length) TR.length j)
def TRn (n : Nat) (near : Int32) (nets xs ys : Ar) (tt oo : Int32) (left right : Ar) (nt np : Int32) (leaps onward : Ar) (ln sm : Int32) (tr : Ar) : Prop := ∃ TR O, Tri n nets xs ys near TR O ∧ tt = nI TR.length ∧ oo = nI O ∧ Lr TR left right ∧ nt = nI TR.length ∧ LPc leaps xs ys TR ∧ (∀ u, u < 10 → onward u = 0) ∧ (np = 0 ∨ (np = 1 ∧ PLn xs ys TR ln sm tr))
def PDn (p_len m_said : Int32) (p_signs m_pad : Ar) : Prop := ∃ len, len ≤ 24 ∧ p_len = nI len ∧ m_said = nI len ∧ ∀ i, i < len → p_signs i = m_pad i
def KPn (s_kept : Int32) (i_points i_near i_loose i_short : Int32) (i_nets i_xs i_ys : Ar) (j_points j_near j_loose j_short : Int32) (j_nets j_xs j_ys : Ar) (m_images m_isKept : Ar) : Prop := ∃ k, k < 4 ∧ s_kept = nI k ∧ (∀ j, j < 2 → m_isKept j = bi (k.testBit j)) ∧ (k.testBit 0 = true → ∃ n, BRn n i_points i_near i_loose i_short i_nets i_xs i_ys (fun p => m_images (40 * 0 + p))) ∧ (k.testBit 1 = true → ∃ n, BRn n j_points j_near j_loose j_short j_nets j_xs j_ys (fun p => m_images (40 * 1 + p)))
def Iv0 : IvT := fun s_kept b_points b_near b_loose b_short b_nets b_xs b_ys t_total t_oft t_left t_right t_group t_paired n_total n_planned n_leaps n_onward nb_len nb_sum nb_tries nn_len nn_sum nn_tries p_len p_signs i_points i_near i_loose i_short i_nets i_xs i_ys j_points j_near j_loose j_short j_nets j_xs j_ys m_said m_tries m_state m_images m_isKept m_pad m_leftOf m_rightOf m_isApart m_group m_isPair m_isOne m_order m_rest m_aside m_others => (∃ n, BRn n b_points b_near b_loose b_short b_nets b_xs b_ys m_state ∧ TRn n b_near b_nets b_xs b_ys t_total t_oft t_left t_right n_total n_planned n_leaps n_onward nb_len nb_sum nb_tries) ∧ PDn p_len m_said p_signs m_pad ∧ KPn s_kept i_points i_near i_loose i_short i_nets i_xs i_ys j_points j_near j_loose j_short j_nets j_xs j_ys m_images m_isKept
theorem BRn_ext {n : Nat} {points near loose short : Int32} {nets xs ys st nets' xs' ys' st' : Ar} (h : BRn n points near loose short nets xs ys st) (h1 : ∀ p, p < 8 → nets' p = nets p) (h2 : ∀ p, p < 8 → xs' p = xs p) (h3 : ∀ p, p < 8 → ys' p = ys p) (h4 : ∀ p, p < 40 → st' p = st p) : BRn n points near loose short nets' xs' ys' st' := by
  obtain ⟨e1, ⟨a1, a2, a3, a4⟩, b1, b2, wl, ws, c1, c2, c3, c4, d1, d2⟩ := h
  refine ⟨e1, ⟨?_, a2, ?_, ?_⟩, ?_, ?_, wl, ws, c1, c2, c3, c4, ?_, ?_⟩
  · rw [h4 _ (by omega)]; exact a1
  · intro p hp
    rw [h4 _ (by omega), h4 _ (by omega), h4 _ (by omega), h1 p hp, h2 p hp, h3 p hp]
    exact a3 p hp
  · rw [h4 _ (by omega)]; exact a4
  · intro p hp
    rw [h1 p hp]
    exact b1 p hp
  · intro p hp
    rw [h2 p hp, h3 p hp]
    exact b2 p hp
  · intro p hp
    rw [h4 _ (by omega)]
    exact d1 p hp
  · intro j hj
    rw [h4 _ (by omega)]
    exact d2 j hj
/-- the TRIES are laid anew -/
theorem relay {n : Nat} (hn : n ≤ 8) {near : Int32} {nets xs ys onward : Ar} (hN : NetOk nets) (hz : ∀ u, u < 10 → onward u = 0) (tt oo : Int32) (left right g pd : Ar) (nt np : Int32) (leaps : Ar) : ∃ tt' oo' left' right' g' pd' nt' np' leaps', m_X5_layTriesAnew (nI n) near nets xs ys tt oo left right g pd nt np leaps = some (tt', oo', left', right', g', pd', nt', np', leaps') ∧ ∀ ln sm tr, TRn n near nets xs ys tt' oo' left' right' nt' np' leaps' onward ln sm tr := by
  obtain ⟨TR, O, hT⟩ := tri_ex (xs := xs) (ys := ys) (near := near) hn hN
  have hT' := hT
  obtain ⟨h10, hO, hTn, hc, hr⟩ := hT'
  have hTok : TRok TR := ⟨h10, fun q hq => ⟨by have := (hTn q hq).1; omega, by have := (hTn q hq).2; omega⟩⟩
  obtain ⟨l1, r1, g1, p1, e1, hL⟩ := hc tt oo left right g pd
  obtain ⟨lp1, e2, hLP⟩ := measure5 (xs := xs) (ys := ys) hTok hL nt np leaps
  refine ⟨nI TR.length, nI O, l1, r1, g1, p1, nI TR.length, 0, lp1, ?_, ?_⟩
  · unfold m_X5_layTriesAnew
    rw [e1, bd6_s, e2, bd3_s]
  · intro ln sm tr
    exact ⟨TR, O, hT, rfl, rfl, hL, rfl, hLP, hz, Or.inl rfl⟩
theorem inB_upd {xs ys : Ar} (h : inB xs ys) {j : Nat} {x y : Int32} (hx : 0 ≤ x.toInt ∧ x.toInt ≤ 20) (hy : 0 ≤ y.toInt ∧ y.toInt ≤ 20) : inB (upd xs j x) (upd ys j y) := by
  intro p hp
  by_cases hj : p = j
  · subst hj; rw [upd_s, upd_s]; exact ⟨hx, hy⟩
  · rw [upd_n _ _ hj, upd_n _ _ hj]; exact h p hp
