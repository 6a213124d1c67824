/-! PURE: copies of houses, and more calls that only read. -/
theorem cpy_at {f g : Nat → Int32} {n : Nat} {m : Int32} (hm : m.toNatClampNeg = n) {j : Nat} (hj : j < n) : va_cpy f g (0 : Int32).toNatClampNeg (0 : Int32).toNatClampNeg m.toNatClampNeg j = f j := by
  unfold va_cpy
  rw [hm, show (0 : Int32).toNatClampNeg = 0 from rfl, if_pos ⟨Nat.zero_le _, by omega⟩]
  congr 1; omega
/-- the same in all that counts -/
def EQH (w h : SV) : Prop := (∀ i, i < 12 → w.2 0 i = h.2 0 i) ∧ (∀ i, i < 12 → w.2 1 i = h.2 1 i) ∧ (∀ i, i < 144 → w.2 5 i = h.2 5 i) ∧ (∀ i, i < 12 → w.2 6 i = h.2 6 i) ∧ (∀ i, i < 6 → w.2 2 i = h.2 2 i ∧ w.2 3 i = h.2 3 i ∧ w.2 4 i = h.2 4 i) ∧ (∀ i, i < 6 → w.2 7 i = h.2 7 i ∧ w.2 8 i = h.2 8 i ∧ w.2 9 i = h.2 9 i) ∧ (∀ k, k < 7 → w.1 k = h.1 k)
theorem rc_eq {w h : SV} {a : AS} (E : EQH w h) (R : RC h a) (W : WF a) : RC w a := by
  obtain ⟨e1, e2, e3, e4, e5, e6, e7⟩ := E
  obtain ⟨r1, r2, r3, r4, r5, r6, r7, r8, r9, r10, r11, r12, r13⟩ := R
  have hl := wf_ln W
  have hc := wf_cn W
  refine ⟨fun i hi => (e1 i hi).trans (r1 i hi), fun i hi => (e2 i hi).trans (r2 i hi), fun i j hi hj => (e3 _ (by omega)).trans (r3 i j hi hj), fun i hi => (e4 i hi).trans (r4 i hi), (e7 4 (by decide)).trans r5, fun k x hx => ?_, (e7 6 (by decide)).trans r7, fun k x hx => ?_, (e7 0 (by decide)).trans r9, (e7 1 (by decide)).trans r10, (e7 2 (by decide)).trans r11, (e7 3 (by decide)).trans r12, (e7 5 (by decide)).trans r13⟩
  · have hk := ix_lt hx
    obtain ⟨q1, q2, q3⟩ := e5 k (by omega)
    rw [q1, q2, q3]; exact r6 k x hx
  · have hk := ix_lt hx
    obtain ⟨q1, q2, q3⟩ := e6 k (by omega)
    rw [q1, q2, q3]; exact r8 k x hx
theorem x_takeE (d h : SV) : ∃ w, f_X6_take d h = some w ∧ EQH w h := by
  refine ⟨_, rfl, fun i hi => ?_, fun i hi => ?_, fun i hi => ?_, fun i hi => ?_, fun i hi => ⟨?_, ?_, ?_⟩, fun i hi => ⟨?_, ?_, ?_⟩, fun k hk => ?_⟩
  · exact cpy_at (m := 12) rfl hi
  · exact cpy_at (m := 12) rfl hi
  · exact cpy_at (m := 144) rfl hi
  · exact cpy_at (m := 12) rfl hi
  · exact cpy_at (m := 6) rfl hi
  · exact cpy_at (m := 6) rfl hi
  · exact cpy_at (m := 6) rfl hi
  · exact cpy_at (m := 6) rfl hi
  · exact cpy_at (m := 6) rfl hi
  · exact cpy_at (m := 6) rfl hi
  · rcases (show k = 0 ∨ k = 1 ∨ k = 2 ∨ k = 3 ∨ k = 4 ∨ k = 5 ∨ k = 6 by omega) with rfl | rfl | rfl | rfl | rfl | rfl | rfl <;> rfl
theorem x_take {h : SV} {a : AS} (R : RC h a) (W : WF a) (d : SV) : ∃ w, f_X6_take d h = some w ∧ RC w a := by
  obtain ⟨w, e, E⟩ := x_takeE d h
  exact ⟨w, e, rc_eq E R W⟩
theorem p_excessAgain {n : Nat} : P_excessAgain (IV n) (IV (n + 1)) := by
  intro mn ho dr sa hi hh re rf pa od sb v h _
  obtain ⟨a, R, M, W, _⟩ := h.1
  obtain ⟨w, e, Rw⟩ := x_take R W dr
  obtain ⟨u, e2⟩ := x_takeExcess Rw W
  exact ⟨nI (smN (exN a) 12), u, by simp only [f_X12_excessAgain, e, bd1_s, e2, bd2_s], by simp only [f_X13_excessAgain, m_allExcess M W, bd1_s], IV_up h⟩
theorem p_isWell {n : Nat} : P_isWell (IV n) (IV (n + 1)) := by
  intro mn ho dr sa hi hh re rf pa od sb v h _
  obtain ⟨a, R, M, W, _⟩ := h.1
  obtain ⟨w, e, Rw⟩ := x_take R W dr
  obtain ⟨u, e2⟩ := x_takeExcess Rw W
  obtain ⟨z, e3⟩ := x_areStepsAlike (vmn := mn) R W pa
  refine ⟨1, u, z, ?_, rfl, IV_up h⟩
  simp only [f_X12_isWell, f_X12_feuds, f_X12_feudsAgain, f_X12_excess, f_X12_excessAgain, f_X12_census, f_X12_censusAgain, x_byPairs R W, x_byColumns R W, x_excess R W, e, e2, x_sumGiven R, x_sumGot R, q_census, e3, x_isAnyTogether R W, bd1_s, bd2_s, if_true]
  rw [if_neg (by decide)]
theorem p_meanPlants {n : Nat} : P_meanPlants (IV n) (IV (n + 1)) := by
  intro mn ho dr sa hi hh re rf pa od sb v h _
  obtain ⟨a, R, M, W, _⟩ := h.1
  have hs : smN (aP a) 12 ≤ 12 * 9 := smN_le (fun i hi => wf_p W hi)
  obtain ⟨g1, g2⟩ := q_mean (n := smN (aP a) 12) (by omega)
  refine ⟨_, ?_, ?_, IV_up h, g2⟩
  · simp only [f_X12_meanPlants, x_plantSum R, bd1_s, ckD, if_pos g1]
  · simp only [f_X13_meanPlants, m_allPlants M, bd1_s, ckD, if_pos g1]
theorem p_homeShare {N : Nat} : P_homeShare (IV N) (IV (N + 1)) := by
  intro mn ho dr sa hi hh re rf pa od sb v h _
  obtain ⟨a, R, M, W, _⟩ := h.1
  have hc := wf_cn W
  obtain ⟨n, hn, hm⟩ := q_hm a
  by_cases c : (aC a).length = 0
  · refine ⟨FP.fconst0, ?_, ?_, IV_up h, q_share0.1, q_share0.2⟩
    · simp only [f_X12_homeShare, rc_cn R, c]; rfl
    · simp only [f_X13_homeShare, ck240_1, qc1, rm_cn M, c]; rfl
  · obtain ⟨g1, g2, g3⟩ := q_share (n := n) (c := (aC a).length) hn hc (by omega)
    have c0 : ¬ nI (aC a).length = 0 := nI_ne0 (by omega) (by omega)
    refine ⟨_, ?_, ?_, IV_up h, g2, g3⟩
    · simp only [f_X12_homeShare, rc_cn R, if_neg c0, x_countAtHome R W, bd1_s, hm, ckF, if_pos g1]
    · simp only [f_X13_homeShare, ck240_1, qc1, rm_cn M, if_neg c0, m_atHome M W, bd1_s, hm, ckF, if_pos g1]
theorem p_account {N : Nat} : P_account (IV N) (IV (N + 1)) := by
  intro mn ho dr sa hi hh re rf pa od sb v h x
  obtain ⟨a, R, M, W, _⟩ := h.1
  obtain ⟨hs, ⟨g1, g2, g3, _⟩, _⟩ := h.2.2.1
  obtain ⟨n, _, e1, e2, _⟩ := h.2.2.2.2.2.1
  obtain ⟨n0, n1, n2, n3, n4⟩ := rc_n R
  obtain ⟨k0, k1, k2, k3, k4, k5⟩ := rm_n M
  simp only [f_X12_account, f_X13_account, x_plantSum R, x_byPairs R W, rc_ln R, rc_cn R, x_countAtHome R W, n0, n1, n2, n3, n4, x_sumGiven R, x_swapSum R W, e1, g2, bd1_s, m_allPlants M, m_allFeuds2 M W, ck240_0, ck240_1, ck240_2, ck240_3, ck240_4, ck240_5, ck240_6, ck240_7, qc0, qc1, qc2, qc3, qc4, qc5, qc6, qc7, rm_ln M, rm_cn M, m_atHome M W, k0, k1, k2, k3, k4, k5, m_allGreetings M, e2, g3]
  by_cases c0 : x = 0
  · subst c0; exact ⟨_, rfl, rfl, IV_up h⟩
  by_cases c1 : x = 1
  · subst c1; exact ⟨_, rfl, rfl, IV_up h⟩
  by_cases c2 : x = 2
  · subst c2; exact ⟨_, rfl, rfl, IV_up h⟩
  by_cases c3 : x = 3
  · subst c3; exact ⟨_, rfl, rfl, IV_up h⟩
  by_cases c4 : x = 4
  · subst c4; exact ⟨_, rfl, rfl, IV_up h⟩
  by_cases c5 : x = 5
  · subst c5; exact ⟨_, rfl, rfl, IV_up h⟩
  by_cases c6 : x = 6
  · subst c6; exact ⟨_, rfl, rfl, IV_up h⟩
  by_cases c7 : x = 7
  · subst c7; exact ⟨_, rfl, rfl, IV_up h⟩
  by_cases c8 : x = 8
  · subst c8; exact ⟨_, rfl, rfl, IV_up h⟩
  by_cases c9 : x = 9
  · subst c9; exact ⟨_, rfl, rfl, IV_up h⟩
  by_cases c10 : x = 10
  · subst c10; exact ⟨_, rfl, rfl, IV_up h⟩
  by_cases c11 : x = 11
  · subst c11; exact ⟨_, rfl, rfl, IV_up h⟩
  by_cases c12 : x = 12
  · subst c12; exact ⟨_, rfl, rfl, IV_up h⟩
  by_cases c13 : x = 13
  · subst c13; exact ⟨_, rfl, rfl, IV_up h⟩
  exact ⟨-2, by simp only [if_neg c0, if_neg c1, if_neg c2, if_neg c3, if_neg c4, if_neg c5, if_neg c6, if_neg c7, if_neg c8, if_neg c9, if_neg c10, if_neg c11, if_neg c12, if_neg c13], by simp only [if_neg c0, if_neg c1, if_neg c2, if_neg c3, if_neg c4, if_neg c5, if_neg c6, if_neg c7, if_neg c8, if_neg c9, if_neg c10, if_neg c11, if_neg c12, if_neg c13], IV_up h⟩
theorem q_inR (x lo hi : Int32) : f_X13_in x lo hi = some (b2i (decide (¬ x < lo ∧ ¬ hi < x))) := by
  unfold f_X13_in
  by_cases h1 : x < lo
  · simp [h1, b2i]
  · by_cases h2 : hi < x
    · simp [h2, b2i]
    · simp [h1, h2, b2i]
theorem q_k {n : Nat} (hn : n ≤ 6) (x : Int32) : (∃ k, k < n ∧ x = nI k ∧ decide (¬ x < 0 ∧ ¬ nI n - 1 < x) = true ∧ ¬ x < 0 ∧ x < nI n) ∨ (decide (¬ x < 0 ∧ ¬ nI n - 1 < x) = false ∧ (x < 0 ∨ ¬ x < nI n)) := by
  by_cases h : x < 0
  · exact Or.inr ⟨by simp [h], Or.inl h⟩
  · obtain ⟨j, hj, rfl⟩ := nI_of h
    have e1 : (nI n - 1).toInt = (n : Int) - 1 := by
      have : ∀ n : Nat, n < 7 → (nI n - 1).toInt = (n : Int) - 1 := by decide +kernel
      exact this n (by omega)
    have e2 : (nI j).toInt = (j : Int) := nI_toInt hj
    by_cases hjn : j < n
    · refine Or.inl ⟨j, hjn, rfl, ?_, h, nI_lt hjn (by omega)⟩
      refine decide_eq_true ⟨h, ?_⟩
      rw [Int32.lt_iff_toInt_lt, e1, e2]; omega
    · refine Or.inr ⟨?_, Or.inr (nI_nlt (by omega) hj)⟩
      refine decide_eq_false (fun q => q.2 ?_)
      rw [Int32.lt_iff_toInt_lt, e1, e2]; omega
theorem q_few (x m : Int32) (n : Nat) (hm : m = nI n) (hn : n < 10) : (∃ k, k ≤ n ∧ x = nI k) ∨ (decide (¬ x < 0 ∧ ¬ m < x) = false ∧ ∀ k, k ≤ n → ¬ x = nI k) := by
  subst hm
  by_cases h : x < 0
  · exact Or.inr ⟨by simp [h], fun k hk e => by subst e; exact nI_pos (by omega) h⟩
  · obtain ⟨j, hj, rfl⟩ := nI_of h
    by_cases hjn : j ≤ n
    · exact Or.inl ⟨j, hjn, rfl⟩
    · exact Or.inr ⟨decide_eq_false (fun q => q.2 (nI_lt (by omega) hj)), fun k hk e => by rw [nI_eq hj (by omega)] at e; omega⟩
theorem p_lineOf {n : Nat} : P_lineOf (IV n) (IV (n + 1)) := by
  intro mn ho dr sa hi hh re rf pa od sb v h x y
  obtain ⟨a, R, M, W, _⟩ := h.1
  have hl := wf_ln W
  rcases q_k hl x with ⟨k, hk, rfl, d1, d2, d3⟩ | ⟨d1, d2⟩
  · obtain ⟨z, hz⟩ : ∃ z, (aL a)[k]? = some z := ⟨_, List.getElem?_eq_getElem hk⟩
    obtain ⟨e1, e2, e3⟩ := rc_l R hz
    obtain ⟨m1, m2, m3⟩ := m_linePart M W hz
    simp (disch := omega) only [f_X12_lineOf, f_X13_lineOf, ck240_0, ck240_1, ck240_2, ck240_3, ck240_4, ck240_5, ck240_6, ck240_7, qc0, qc1, qc2, qc3, qc4, qc5, qc6, qc7, rm_ln M, rc_ln R, if_neg d2, if_pos d3, q_inR, d1, bd1_s, ckI_n, nI_cl, e1, e2, e3]
    rcases q_few y 2 2 rfl (by omega) with ⟨j, hj, rfl⟩ | ⟨d4, d5⟩
    · rcases (show j = 0 ∨ j = 1 ∨ j = 2 by omega) with rfl | rfl | rfl
      · exact ⟨nI z.1, rfl, by show bd1 (f_X13_linePart (nI k) 0 v) _ = _; rw [m1]; rfl, IV_up h⟩
      · exact ⟨nI z.2.1, rfl, by show bd1 (f_X13_linePart (nI k) 1 v) _ = _; rw [m2]; rfl, IV_up h⟩
      · exact ⟨nI z.2.2, rfl, by show bd1 (f_X13_linePart (nI k) 2 v) _ = _; rw [m3]; rfl, IV_up h⟩
    · have f0 : ¬ y = 0 := d5 0 (by omega)
      have f1 : ¬ y = 1 := d5 1 (by omega)
      have f2 : ¬ y = 2 := d5 2 (by omega)
      exact ⟨-2, by rw [if_neg f0, if_neg f1, if_neg f2], by rw [d4]; rfl, IV_up h⟩
  · refine ⟨-1, ?_, ?_, IV_up h⟩
    · simp only [f_X12_lineOf, rc_ln R]
      rcases d2 with d2 | d2
      · rw [if_pos d2]
      · rw [if_neg d2]; split <;> rfl
    · simp only [f_X13_lineOf, ck240_0, ck240_1, ck240_2, ck240_3, ck240_4, ck240_5, ck240_6, ck240_7, qc0, qc1, qc2, qc3, qc4, qc5, qc6, qc7, rm_ln M, q_inR, d1, bd1_s]; rfl
theorem p_catOf {n : Nat} : P_catOf (IV n) (IV (n + 1)) := by
  intro mn ho dr sa hi hh re rf pa od sb v h x y
  obtain ⟨a, R, M, W, _⟩ := h.1
  have hl := wf_cn W
  rcases q_k hl x with ⟨k, hk, rfl, d1, d2, d3⟩ | ⟨d1, d2⟩
  · obtain ⟨z, hz⟩ : ∃ z, (aC a)[k]? = some z := ⟨_, List.getElem?_eq_getElem hk⟩
    obtain ⟨e1, e2, e3⟩ := rc_c R hz
    obtain ⟨m1, m2, m3⟩ := m_catPart M W hz
    obtain ⟨z1, z2⟩ := wf_c W hz
    obtain ⟨w, D, k1, k2, k3, k4, _⟩ := x_walkFrom R W z1 pa
    obtain ⟨w', E, l1, l2, l3, l4, l5⟩ := m_fewest M W z1 z2
    simp (disch := omega) only [f_X12_catOf, f_X13_catOf, ck240_0, ck240_1, ck240_2, ck240_3, ck240_4, ck240_5, ck240_6, ck240_7, qc0, qc1, qc2, qc3, qc4, qc5, qc6, qc7, rm_cn M, rc_cn R, if_neg d2, if_pos d3, q_inR, d1, bd1_s, ckI_n, nI_cl, e1, e2, e3, m1, m2, k1, l1, k2 _ z2, bd2_s]
    rcases q_few y 3 3 rfl (by omega) with ⟨j, hj, rfl⟩ | ⟨d4, d5⟩
    · rcases (show j = 0 ∨ j = 1 ∨ j = 2 ∨ j = 3 by omega) with rfl | rfl | rfl | rfl
      · exact ⟨nI z.1, pa, v, rfl, by show bd1 (f_X13_catPart (nI k) 0 v) _ = _; rw [m1]; rfl, IV_up h⟩
      · exact ⟨nI z.2.1, pa, v, rfl, by show bd1 (f_X13_catPart (nI k) 1 v) _ = _; rw [m2]; rfl, IV_up h⟩
      · exact ⟨z.2.2, pa, v, rfl, by show bd1 (f_X13_catPart (nI k) 2 v) _ = _; rw [m3]; rfl, IV_up h⟩
      · exact ⟨oD (D z.2.1), w, w', rfl, by rw [ID_sym k3 l3 z1 z2]; rfl, IV_same (IV_up h) l5.1 l5.2⟩
    · have f0 : ¬ y = 0 := d5 0 (by omega)
      have f1 : ¬ y = 1 := d5 1 (by omega)
      have f2 : ¬ y = 2 := d5 2 (by omega)
      have f3 : ¬ y = 3 := d5 3 (by omega)
      exact ⟨-2, pa, v, by rw [if_neg f0, if_neg f1, if_neg f2, if_neg f3], by rw [d4]; rfl, IV_up h⟩
  · refine ⟨-1, pa, v, ?_, ?_, IV_up h⟩
    · simp only [f_X12_catOf, rc_cn R]
      rcases d2 with d2 | d2
      · rw [if_pos d2]
      · rw [if_neg d2]; split <;> rfl
    · simp only [f_X13_catOf, ck240_0, ck240_1, ck240_2, ck240_3, ck240_4, ck240_5, ck240_6, ck240_7, qc0, qc1, qc2, qc3, qc4, qc5, qc6, qc7, rm_cn M, q_inR, d1, bd1_s]; rfl
