/-! PURE: what holds between the calls (IV), and the calls that only read. -/
def HSR (hh : Nat → SV) (hi v : SV) (hs : List AS) : Prop := hs.length ≤ 8 ∧ hi.1 1 = nI hs.length ∧ v.1 0 = nI hs.length ∧ ∃ nx, nx < 8 ∧ hi.1 0 = nI nx ∧ ∀ j b, hs[j]? = some b → WF b ∧ RC (hh ((nx + 8 - hs.length + j) % 8)) b ∧ RM (fun i => v.2 4 (240 * j + i)) b
def RFR (rf v : SV) : Prop := ((v.1 3 = 0 ∧ rf.1 0 = -4 ∧ rf.1 1 = -4) ∨ (v.1 3 ≠ 0 ∧ rf.1 0 = v.1 3 ∧ rf.1 1 = v.1 4)) ∧ ((v.1 5 = 0 ∧ rf.1 2 = -4 ∧ rf.1 3 = -4) ∨ (v.1 5 ≠ 0 ∧ rf.1 2 = v.1 5 ∧ rf.1 3 = v.1 6))
/-- no greeting was told more than n times -/
def GB (n : Nat) (a : AS) : Prop := ∀ i j, i < 12 → j < 12 → ∃ c, c ≤ n ∧ aG a i j = nI c
theorem GB_up {n : Nat} {a : AS} (h : GB n a) : GB (n + 1) a := fun i j hi hj => by obtain ⟨c, h1, h2⟩ := h i j hi hj; exact ⟨c, by omega, h2⟩
def SAR (n : Nat) (mn sa v : SV) : Prop := (mn.1 0 = 0 ∧ v.1 8 = 0) ∨ (mn.1 0 = 1 ∧ v.1 8 = 1 ∧ ∃ b, WF b ∧ RC sa b ∧ RM (v.2 3) b ∧ GB n b)
theorem SAR_up {n : Nat} {mn sa v : SV} (h : SAR n mn sa v) : SAR (n + 1) mn sa v := by
  rcases h with h | ⟨h1, h2, b, h3, h4, h5, h6⟩
  · exact Or.inl h
  · exact Or.inr ⟨h1, h2, b, h3, h4, h5, GB_up h6⟩
def FAR (mn v : SV) : Prop := (mn.1 1 = -4 ∧ v.1 7 = -1) ∨ (∃ p, p ≤ 60 ∧ mn.1 1 = nI p ∧ v.1 7 = nI p)
def RER (re v : SV) : Prop := ∃ n, n ≤ 60 ∧ re.1 0 = nI n ∧ v.1 10 = nI n ∧ ∀ i, i < n → ∃ c, 32 ≤ c ∧ c ≤ 126 ∧ re.2 0 i = nI c ∧ v.2 8 i = nI c
def SBR (sb : Nat × SV) (v : SV) : Prop := sb.2.1 0 = 0 ∧ (sb.1 = 16 ∨ sb.1 = 34 ∨ sb.1 = 70) ∧ (∀ i, i < sb.1 → ∃ c, c < 128 ∧ sb.2.2 0 i = nI c) ∧ ∃ n, n ≤ sb.1 ∧ sb.2.1 2 = nI n ∧ v.1 9 = nI n ∧ ∀ i, i < n → sb.2.2 0 i = v.2 7 i
def IV (n : Nat) : TI := fun mn ho _ sa hi hh re rf _ _ sb v => (∃ a, RC ho a ∧ RM (v.2 0) a ∧ WF a ∧ GB n a) ∧ SAR n mn sa v ∧ (∃ hs, HSR hh hi v hs ∧ ∀ b ∈ hs, GB n b) ∧ FAR mn v ∧ RFR rf v ∧ RER re v ∧ SBR sb v
theorem IV_up {n : Nat} {mn ho dr sa hi re rf pa od v : SV} {hh : Nat → SV} {sb : Nat × SV} (h : IV n mn ho dr sa hi hh re rf pa od sb v) : IV (n + 1) mn ho dr sa hi hh re rf pa od sb v := by
  obtain ⟨⟨a, R, M, W, G⟩, h2, ⟨hs, h3, h3'⟩, h4⟩ := h
  exact ⟨⟨a, R, M, W, GB_up G⟩, SAR_up h2, ⟨hs, h3, fun b hb => GB_up (h3' b hb)⟩, h4⟩
theorem IV_same {n : Nat} {mn ho dr sa hi re rf pa od v u : SV} {hh : Nat → SV} {sb : Nat × SV} {dr' pa' od' : SV} (h : IV n mn ho dr sa hi hh re rf pa od sb v) (e1 : u.1 = v.1) (e2 : ∀ r, r ≠ 5 → r ≠ 6 → u.2 r = v.2 r) : IV n mn ho dr' sa hi hh re rf pa' od' sb u := by
  obtain ⟨h1, h2, h3, h4, h5, h6, h7⟩ := h
  have a0 := e2 0 (by decide) (by decide)
  have a3 := e2 3 (by decide) (by decide)
  have a4 := e2 4 (by decide) (by decide)
  have a7 := e2 7 (by decide) (by decide)
  have a8 := e2 8 (by decide) (by decide)
  unfold IV SAR HSR FAR RFR RER SBR at *
  rw [e1, a0, a3, a4, a7, a8]
  exact ⟨h1, h2, h3, h4, h5, h6, h7⟩
theorem IV_dr {n : Nat} {mn ho dr sa hi re rf pa od v : SV} {hh : Nat → SV} {sb : Nat × SV} {dr' pa' od' : SV} (h : IV n mn ho dr sa hi hh re rf pa od sb v) : IV n mn ho dr' sa hi hh re rf pa' od' sb v := h
theorem p_fault {n : Nat} : P_fault (IV n) (IV (n + 1)) := by
  intro mn ho dr sa hi hh re rf pa od sb v h _
  refine ⟨mn.1 1, rfl, ?_, IV_up h⟩
  rcases h.2.2.2.1 with ⟨e1, e2⟩ | ⟨p, hp, e1, e2⟩
  · unfold f_X13_fault; rw [e1, e2]; rfl
  · unfold f_X13_fault; rw [e1, e2, if_pos (nI_pos' (by omega))]
theorem q_in01 (x : Int32) : f_X13_in x 0 1 = if x = 0 ∨ x = 1 then some 1 else some 0 := by
  have e0 : (0 : Int32).toInt = 0 := rfl
  have e1 : (1 : Int32).toInt = 1 := rfl
  have hx0 : x = 0 ↔ x.toInt = 0 := by rw [← e0, Int32.toInt_inj]
  have hx1 : x = 1 ↔ x.toInt = 1 := by rw [← e1, Int32.toInt_inj]
  unfold f_X13_in
  by_cases h1 : x < 0
  · rw [if_pos h1, if_neg]
    rw [Int32.lt_iff_toInt_lt] at h1; rw [hx0, hx1]; omega
  · by_cases h2 : 1 < x
    · rw [if_neg h1, if_pos h2, if_neg]
      rw [Int32.lt_iff_toInt_lt] at h2; rw [hx0, hx1]; omega
    · rw [if_neg h1, if_neg h2, if_pos]
      rw [Int32.lt_iff_toInt_lt] at h1 h2; rw [hx0, hx1]; omega
theorem p_reason {n : Nat} : P_reason (IV n) (IV (n + 1)) := by
  intro mn ho dr sa hi hh re rf pa od sb v h a1 a2 ha2
  obtain ⟨g1, g2⟩ := h.2.2.2.2.1
  simp only [f_X12_reason, f_X13_reason, q_in01, f_X13_reason_J28]
  by_cases c0 : a1 = 0
  · subst c0
    simp only [if_true, true_or, bd1_s, show ¬ (1 : Int32) = 0 by decide, show ¬ (0 : Int32) = 1 by decide, if_false]
    rcases g1 with ⟨e0, e1, e2⟩ | ⟨e0, e1, e2⟩
    · rcases ha2 with rfl | rfl
      · exact ⟨-4, by rw [e1]; rfl, by rw [if_pos e0], IV_up h⟩
      · exact ⟨-4, by rw [e2]; rfl, by rw [if_pos e0], IV_up h⟩
    · rcases ha2 with rfl | rfl
      · exact ⟨v.1 3, by rw [e1]; rfl, by rw [if_neg e0]; rfl, IV_up h⟩
      · exact ⟨v.1 4, by rw [e2]; rfl, by rw [if_neg e0]; rfl, IV_up h⟩
  · by_cases c1 : a1 = 1
    · subst c1
      simp only [if_true, or_true, bd1_s, show ¬ (1 : Int32) = 0 by decide, if_false]
      rcases g2 with ⟨e0, e1, e2⟩ | ⟨e0, e1, e2⟩
      · rcases ha2 with rfl | rfl
        · exact ⟨-4, by rw [e1]; rfl, by rw [if_pos e0], IV_up h⟩
        · exact ⟨-4, by rw [e2]; rfl, by rw [if_pos e0], IV_up h⟩
      · rcases ha2 with rfl | rfl
        · exact ⟨v.1 5, by rw [e1]; rfl, by rw [if_neg e0]; rfl, IV_up h⟩
        · exact ⟨v.1 6, by rw [e2]; rfl, by rw [if_neg e0]; rfl, IV_up h⟩
    · exact ⟨-2, by simp only [if_neg c0, if_neg c1], by simp [c0, c1, bd1_s], IV_up h⟩
theorem p_feuds {n : Nat} : P_feuds (IV n) (IV (n + 1)) := by
  intro mn ho dr sa hi hh re rf pa od sb v h _
  obtain ⟨a, R, M, W, _⟩ := h.1
  exact ⟨nI (prN a), by simp only [f_X12_feuds, x_byPairs R W, bd1_s], by simp only [f_X13_feuds, m_allFeuds2 M W, bd1_s], IV_up h⟩
theorem p_feudsAgain {n : Nat} : P_feudsAgain (IV n) (IV (n + 1)) := by
  intro mn ho dr sa hi hh re rf pa od sb v h _
  obtain ⟨a, R, M, W, _⟩ := h.1
  exact ⟨nI (prN a), by simp only [f_X12_feudsAgain, x_byColumns R W, bd1_s], by simp only [f_X13_feudsAgain, m_allFeuds2 M W, bd1_s], IV_up h⟩
theorem p_excess {n : Nat} : P_excess (IV n) (IV (n + 1)) := by
  intro mn ho dr sa hi hh re rf pa od sb v h _
  obtain ⟨a, R, M, W, _⟩ := h.1
  exact ⟨nI (smN (exN a) 12), by simp only [f_X12_excess, x_excess R W, bd1_s], by simp only [f_X13_excess, m_allExcess M W, bd1_s], IV_up h⟩
theorem p_census {n : Nat} : P_census (IV n) (IV (n + 1)) := by
  intro mn ho dr sa hi hh re rf pa od sb v h _
  obtain ⟨a, R, M, W, _⟩ := h.1
  exact ⟨sm (gvN a) 12, by simp only [f_X12_census, x_sumGiven R, bd1_s], by simp only [f_X13_census, m_allGreetings M, bd1_s], IV_up h⟩
theorem p_censusAgain {n : Nat} : P_censusAgain (IV n) (IV (n + 1)) := by
  intro mn ho dr sa hi hh re rf pa od sb v h _
  obtain ⟨a, R, M, W, _⟩ := h.1
  exact ⟨sm (gvN a) 12, by simp only [f_X12_censusAgain, x_sumGot R, bd1_s, q_census], by simp only [f_X13_censusAgain, m_allGreetings M, bd1_s], IV_up h⟩
theorem p_steps {n : Nat} : P_steps (IV n) (IV (n + 1)) := by
  intro mn ho dr sa hi hh re rf pa od sb v h x y
  obtain ⟨a, R, M, W, _⟩ := h.1
  obtain ⟨r, pa', v', e1, e2, e3⟩ := q_steps (vmn := mn) R M W x y pa
  exact ⟨r, pa', v', e1, e2, IV_same (IV_up h) e3.1 e3.2⟩
theorem p_stepsAgain {n : Nat} : P_stepsAgain (IV n) (IV (n + 1)) := by
  intro mn ho dr sa hi hh re rf pa od sb v h x y
  obtain ⟨a, R, M, W, _⟩ := h.1
  obtain ⟨r, pa', v', e1, e2, e3⟩ := q_stepsAgain (vmn := mn) R M W x y pa
  exact ⟨r, pa', v', e1, e2, IV_same (IV_up h) e3.1 e3.2⟩
theorem p_way {n : Nat} : P_way (IV n) (IV (n + 1)) := by
  intro mn ho dr sa hi hh re rf pa od sb v h x y z
  obtain ⟨a, R, M, W, _⟩ := h.1
  obtain ⟨r, pa', v', e1, e2, e3⟩ := q_way (vmn := mn) R M W x y z pa
  exact ⟨r, pa', v', e1, e2, IV_same (IV_up h) e3.1 e3.2⟩
theorem p_circles {n : Nat} : P_circles (IV n) (IV (n + 1)) := by
  intro mn ho dr sa hi hh re rf pa od sb v h _
  obtain ⟨a, R, M, W, _⟩ := h.1
  obtain ⟨r, e1, e2⟩ := q_circles R M
  exact ⟨r, by simp only [f_X12_circles, e1, bd1_s], e2, IV_up h⟩
theorem p_kindest {n : Nat} : P_kindest (IV n) (IV (n + 1)) := by
  intro mn ho dr sa hi hh re rf pa od sb v h p
  obtain ⟨a, R, M, W, _⟩ := h.1
  obtain ⟨w, e⟩ := x_kindest (vmn := mn) R p od
  exact ⟨_, w, e, m_kindest M p, IV_up h⟩
theorem p_worst {n : Nat} : P_worst (IV n) (IV (n + 1)) := by
  intro mn ho dr sa hi hh re rf pa od sb v h p
  obtain ⟨a, R, M, W, _⟩ := h.1
  obtain ⟨w, e⟩ := x_worst (vmn := mn) R W p od
  exact ⟨_, w, e, m_worst M W p, IV_up h⟩
theorem p_feud {n : Nat} : P_feud (IV n) (IV (n + 1)) := by
  intro mn ho dr sa hi hh re rf pa od sb v h x y
  obtain ⟨a, R, M, W, _⟩ := h.1
  rcases q_two x y with ⟨i, j, hi', hj, rfl, rfl⟩ | hb
  · refine ⟨b2i (feB a i j), ?_, ?_, IV_up h⟩
    · simp only [f_X12_feud, x_areBal hi' hj, bd1_s, x_isFeud R W hi' hj, qsel]; cases feB a i j <;> rfl
    · simp only [f_X13_feud, m_areTwo hi' hj, bd1_s, m_areFeuding M W hi' hj, qsel]; cases feB a i j <;> rfl
  · exact ⟨-1, by simp only [f_X12_feud, x_areBalN hb, bd1_s, if_true], by simp only [f_X13_feud, m_areTwoN hb, bd1_s, if_true], IV_up h⟩
theorem p_greeted {n : Nat} : P_greeted (IV n) (IV (n + 1)) := by
  intro mn ho dr sa hi hh re rf pa od sb v h x y
  obtain ⟨a, R, M, W, _⟩ := h.1
  rcases q_two x y with ⟨i, j, hi', hj, rfl, rfl⟩ | hb
  · refine ⟨aG a i j, ?_, ?_, IV_up h⟩
    · simp only [f_X12_greeted, x_areBal hi' hj, bd1_s, x_countOf R hi' hj]; rfl
    · simp only [f_X13_greeted, m_areTwo hi' hj, bd1_s, m_greetings M hi' hj]; rfl
  · exact ⟨-1, by simp only [f_X12_greeted, x_areBalN hb, bd1_s, if_true], by simp only [f_X13_greeted, m_areTwoN hb, bd1_s, if_true], IV_up h⟩
theorem p_balconyOf {n : Nat} : P_balconyOf (IV n) (IV (n + 1)) := by
  intro mn ho dr sa hi hh re rf pa od sb v h x y
  obtain ⟨a, R, M, W, _⟩ := h.1
  rcases q_bal x with ⟨i, hi', rfl⟩ | hb
  · simp (disch := omega) only [f_X12_balconyOf, f_X13_balconyOf, x_isBal hi', m_isBal hi', bd1_s, ckI_n, nI_cl, rc_p R hi', rc_t R hi', x_catOn R W hi', x_ofBalcony R W hi', x_givenBy R hi', x_gotBy R hi', x_countAt R W hi', x_friendsOf R hi', m_plants M hi', qL22, nI_add, rm_t M hi', m_catOn M W hi', m_feudsOf M W hi', m_given M hi', m_got M hi', m_linesAt M W hi', m_friends M hi']
    simp only [show ¬ (1 : Int32) = 0 by decide, if_false]
    by_cases c0 : y = 0
    · subst c0; exact ⟨_, rfl, rfl, IV_up h⟩
    by_cases c1 : y = 1
    · subst c1; exact ⟨_, rfl, rfl, IV_up h⟩
    by_cases c2 : y = 2
    · subst c2; exact ⟨_, rfl, rfl, IV_up h⟩
    by_cases c3 : y = 3
    · subst c3; exact ⟨_, rfl, rfl, IV_up h⟩
    by_cases c4 : y = 4
    · subst c4; exact ⟨_, rfl, rfl, IV_up h⟩
    by_cases c5 : y = 5
    · subst c5; exact ⟨_, rfl, rfl, IV_up h⟩
    by_cases c6 : y = 6
    · subst c6; exact ⟨_, rfl, rfl, IV_up h⟩
    by_cases c7 : y = 7
    · subst c7; exact ⟨_, rfl, rfl, IV_up h⟩
    exact ⟨-2, by simp only [if_neg c0, if_neg c1, if_neg c2, if_neg c3, if_neg c4, if_neg c5, if_neg c6, if_neg c7], by simp only [if_neg c0, if_neg c1, if_neg c2, if_neg c3, if_neg c4, if_neg c5, if_neg c6, if_neg c7], IV_up h⟩
  · exact ⟨-1, by simp only [f_X12_balconyOf, x_isBalN hb, bd1_s, if_true], by simp only [f_X13_balconyOf, m_isBalN hb, bd1_s, if_true], IV_up h⟩
