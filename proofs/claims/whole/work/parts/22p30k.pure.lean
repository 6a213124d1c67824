/-! PURE: ways, steps, whether steps are alike. -/
/-- the lowest balcony by which a way goes on -/
def nxt (a : AS) (D : Nat → Option Nat) (b n j : Nat) : Prop := j < 12 ∧ stB a b j = true ∧ D j = some n ∧ ∀ j', j' < j → stB a b j' = true → D j' = some n → False
theorem nxt_eq {a : AS} {D : Nat → Option Nat} {b n j j' : Nat} (h : nxt a D b n j) (h' : nxt a D b n j') : j = j' := by
  rcases Nat.lt_trichotomy j j' with c | c | c
  · exact absurd (h'.2.2.2 j c h.2.1 h.2.2.1) (fun q => q)
  · exact c
  · exact absurd (h.2.2.2 j' c h'.2.1 h'.2.2.1) (fun q => q)
theorem x_lowestNearer {h : SV} {a : AS} (R : RC h a) (W : WF a) {s b n : Nat} {D : Nat → Option Nat} (hD : ID a s D) (h11 : ∀ i n, i < 12 → D i = some n → n ≤ 11) (hb : b < 12) (e : D b = some (n + 1)) {w : SV} (hw : ∀ i, i < 12 → w.2 0 i = oD (D i)) : ∃ j, f_X9_lowestNearer (nI b) w h = some (nI j) ∧ nxt a D b n j := by
  have hn := h11 b (n + 1) hb e
  unfold f_X9_lowestNearer
  refine lz1_inv0 (N := 4) (fun d => ∀ d' j, d' < d → stp a b d' = some j → D j = some n → False) (fun x => ∃ j, x = some (nI j) ∧ nxt a D b n j) ?_ ?_ (by omega) (fun d' j h => by omega)
  · intro self d hd hI kk
    simp (disch := omega) only [f_X9_lowestNearer_B2, nI_1, nI_add, nI_mul, nI_leI, nI_ltI, nI_eq, ckI_n, nI_cl, qL2, qL3, qL4, qL5, qL6, qL7, qL8, qL9, qL10, qL11, qL12, nm, bd1_s, bd2_s, bd3_s, bd4_s, x_stepFrom R W hb hd]
    simp only [show ¬ (4 ≤ d) by omega, Nat.lt_irrefl, Nat.le_refl, if_true, if_false, ite_true, ite_false, not_true_eq_false, not_false_eq_true, reduceIte]
    cases e2 : stp a b d with
    | none =>
      rw [if_pos (show oI none < 0 by decide)]
      refine kk (fun d' j hd' e3 e4 => ?_)
      rcases Nat.lt_succ_iff_lt_or_eq.mp hd' with c | c
      · exact hI d' j c e3 e4
      · subst c; rw [e2] at e3; cases e3
    | some j =>
      obtain ⟨hj, hst, hnb⟩ := stp_st hb e2
      have hDj : ∀ n, D j = some n → n < 2147483648 := fun n en => by have := h11 j n hj en; omega
      rw [if_neg (show ¬ oI (some j) < 0 from nI_pos (by omega))]
      have e5 : oD (D b) - 1 = nI n := by rw [e]; exact nI_pred n
      simp (disch := omega) only [oI, ckI_n, nI_cl, hw j hj, hw b hb, e5, oD_eq hDj]
      by_cases c : D j = some n
      · rw [if_pos c]
        refine ⟨j, rfl, hj, hst, c, fun j' hj' hst' e6 => ?_⟩
        obtain ⟨d', hd', e7⟩ := st_stp hb (by omega) hst'
        have hnb' := (stp_st hb e7).2.2
        rcases Nat.lt_trichotomy d' d with c2 | c2 | c2
        · exact hI d' j' c2 e7 e6
        · subst c2; rw [e2] at e7; cases e7; omega
        · have := nb_mono c2 hd' hnb hnb'; omega
      · rw [if_neg c]
        refine kk (fun d' j' hd' e3 e4 => ?_)
        rcases Nat.lt_succ_iff_lt_or_eq.mp hd' with c2 | c2
        · exact hI d' j' c2 e3 e4
        · subst c2; rw [e2] at e3; cases e3; exact c e4
  · intro self hI
    obtain ⟨j, hj, hst, e2⟩ := hD.2.2.1 b n hb e
    obtain ⟨d, hd, e3⟩ := st_stp hb hj (by rw [stB_sym]; exact hst)
    exact absurd (hI d j hd e3 e2) (fun q => q)
theorem m_nextOf {v : SV} {a : AS} (R : RM (v.2 0) a) (W : WF a) {s b n : Nat} {D : Nat → Option Nat} (hD : ID a s D) (h11 : ∀ i n, i < 12 → D i = some n → n ≤ 11) (hb : b < 12) (e : D b = some (n + 1)) (hw : ∀ i, i < 12 → v.2 5 i = oD (D i)) : ∃ j, f_X13_nextOf (nI b) v = some (nI j) ∧ nxt a D b n j := by
  have hn := h11 b (n + 1) hb e
  unfold f_X13_nextOf
  refine lz1_inv0 (N := 12) (fun k => ∀ j, j < k → stB a b j = true → D j = some n → False) (fun x => ∃ j, x = some (nI j) ∧ nxt a D b n j) ?_ ?_ (by omega) (fun j h => by omega)
  · intro self k hk hI kk
    have hDj : ∀ n, D k = some n → n < 2147483648 := fun n en => by have := h11 k n hk en; omega
    have e5 : oD (D b) - 1 = nI n := by rw [e]; exact nI_pred n
    simp (disch := omega) only [f_X13_nextOf_B2, nI_1, nI_add, nI_mul, nI_leI, nI_ltI, nI_eq, ckI_n, nI_cl, qL2, qL3, qL4, qL5, qL6, qL7, qL8, qL9, qL10, qL11, qL12, nm, bd1_s, bd2_s, bd3_s, bd4_s, m_isStep R W hb hk, qsel, hw k hk, hw b hb, e5, oD_eq hDj]
    simp only [show ¬ (12 ≤ k) by omega, Nat.lt_irrefl, Nat.le_refl, if_true, if_false, ite_true, ite_false, not_true_eq_false, not_false_eq_true, reduceIte]
    by_cases c : stB a b k = true
    · rw [if_pos c]
      by_cases c2 : D k = some n
      · rw [if_pos c2]; exact ⟨k, rfl, hk, c, c2, fun j' hj' h1 h2 => hI j' hj' h1 h2⟩
      · rw [if_neg c2]
        refine kk (fun j hj h1 h2 => ?_)
        rcases Nat.lt_succ_iff_lt_or_eq.mp hj with c3 | c3
        · exact hI j c3 h1 h2
        · subst c3; exact c2 h2
    · rw [if_neg c]
      refine kk (fun j hj h1 h2 => ?_)
      rcases Nat.lt_succ_iff_lt_or_eq.mp hj with c3 | c3
      · exact hI j c3 h1 h2
      · subst c3; exact c h1
  · intro self hI
    obtain ⟨j, hj, hst, e2⟩ := hD.2.2.1 b n hb e
    exact absurd (hI j hj (by rw [stB_sym]; exact hst) e2) (fun q => q)
theorem q_wayLoop {h : SV} {a : AS} (R : RC h a) (W : WF a) {s n p : Nat} {D : Nat → Option Nat} (hD : ID a s D) (h11 : ∀ i n, i < 12 → D i = some n → n ≤ 11) {w v : SV} (hw : ∀ i, i < 12 → w.2 0 i = oD (D i)) (hv : ∀ i, i < 12 → v.2 5 i = oD (D i)) (RMv : RM (v.2 0) a) (hp : p ≤ n) (hn : n ≤ 11) :
    ∀ (rem i j f1 f2 : Nat), i + rem = p → rem < f1 → rem < f2 → j < 12 → D j = some (n - i) → ∃ jf, lz2 (f_X9_placeOnWay_B31 (nI p) w h) f1 (nI i) (nI j) = some (nI jf, w) ∧ lz2 (f_X13_way_B42 (nI p) v) f2 (nI i) (nI j) = some (nI jf, v) := by
  intro rem
  induction rem with
  | zero =>
    intro i j f1 f2 h1 h2 h3 hj e
    have : i = p := by omega
    subst this
    cases f1 with
    | zero => omega
    | succ f1 =>
      cases f2 with
      | zero => omega
      | succ f2 =>
        refine ⟨j, ?_, ?_⟩
        · show f_X9_placeOnWay_B31 (nI i) w h (lz2 _ f1) (nI i) (nI j) = _
          simp (disch := omega) only [f_X9_placeOnWay_B31, f_X9_placeOnWay_K31, nI_1, nI_add, nI_mul, nI_leI, nI_ltI, nI_eq, ckI_n, nI_cl, qL2, qL3, qL4, qL5, qL6, qL7, qL8, qL9, qL10, qL11, qL12]
          simp only [Nat.lt_irrefl, Nat.le_refl, if_true, if_false, ite_true, ite_false, not_true_eq_false, not_false_eq_true, reduceIte]
        · show f_X13_way_B42 (nI i) v (lz2 _ f2) (nI i) (nI j) = _
          simp (disch := omega) only [f_X13_way_B42, f_X13_way_K42, nI_1, nI_add, nI_mul, nI_leI, nI_ltI, nI_eq, ckI_n, nI_cl, qL2, qL3, qL4, qL5, qL6, qL7, qL8, qL9, qL10, qL11, qL12]
          simp only [Nat.lt_irrefl, Nat.le_refl, if_true, if_false, ite_true, ite_false, not_true_eq_false, not_false_eq_true, reduceIte]
  | succ rem ih =>
    intro i j f1 f2 h1 h2 h3 hj e
    have e : D j = some (n - i - 1 + 1) := by rw [e]; congr 1; omega
    obtain ⟨j1, e1, n1⟩ := x_lowestNearer R W hD h11 hj e hw
    obtain ⟨j2, e2, n2⟩ := m_nextOf RMv W hD h11 hj e hv
    have := nxt_eq n1 n2
    subst this
    cases f1 with
    | zero => omega
    | succ f1 =>
      cases f2 with
      | zero => omega
      | succ f2 =>
        obtain ⟨jf, q1, q2⟩ := ih (i + 1) j1 f1 f2 (by omega) (by omega) (by omega) n1.1 (n1.2.2.1.trans (congrArg some (by omega)))
        refine ⟨jf, ?_, ?_⟩
        · show f_X9_placeOnWay_B31 (nI p) w h (lz2 _ f1) (nI i) (nI j) = _
          simp (disch := omega) only [f_X9_placeOnWay_B31, nI_1, nI_add, nI_mul, nI_leI, nI_ltI, nI_eq, ckI_n, nI_cl, qL2, qL3, qL4, qL5, qL6, qL7, qL8, qL9, qL10, qL11, qL12, nm, bd1_s, bd2_s, bd3_s, bd4_s, e1]
          rw [if_neg (by omega), if_neg (by omega)]
          exact q1
        · show f_X13_way_B42 (nI p) v (lz2 _ f2) (nI i) (nI j) = _
          simp (disch := omega) only [f_X13_way_B42, nI_1, nI_add, nI_mul, nI_leI, nI_ltI, nI_eq, ckI_n, nI_cl, qL2, qL3, qL4, qL5, qL6, qL7, qL8, qL9, qL10, qL11, qL12, nm, bd1_s, bd2_s, bd3_s, bd4_s, e2]
          rw [if_neg (by omega)]
          exact q2
theorem m_fewest {v : SV} {a : AS} (R : RM (v.2 0) a) (W : WF a) {s t : Nat} (hs : s < 12) (ht : t < 12) : ∃ w D, f_X13_fewest (nI s) (nI t) v = some (oD (D s), w) ∧ (∀ i, i < 12 → w.2 5 i = oD (D i)) ∧ ID a t D ∧ (∀ i n, i < 12 → D i = some n → n ≤ 11) ∧ mSame w v := by
  obtain ⟨w, D, e1, e2, e3, e4, e5⟩ := m_lays R W ht
  refine ⟨w, D, ?_, e2, e3, e4, e5⟩
  simp (disch := omega) only [f_X13_fewest, e1, nm, bd1_s, bd2_s, bd3_s, bd4_s, ckI_n, nI_cl, e2 s hs]
theorem q_steps {h v vmn : SV} {a : AS} (R : RC h a) (M : RM (v.2 0) a) (W : WF a) (x y : Int32) (vpa : SV) : ∃ r vpa' v', f_X12_steps x y vmn h vpa = some (r, vpa') ∧ f_X13_steps x y v = some (r, v') ∧ mSame v' v := by
  rcases q_two x y with ⟨i, j, hi, hj, rfl, rfl⟩ | hb
  · obtain ⟨w, D, e1, e2, e3, e4, _⟩ := x_walkFrom R W hi vpa
    obtain ⟨w', E, k1, k2, k3, k4, k5⟩ := m_fewest M W hi hj
    refine ⟨oD (D j), w, w', ?_, ?_, k5⟩
    · simp (disch := omega) only [f_X12_steps, x_areBal hi hj, nm, bd1_s, bd2_s, bd3_s, bd4_s, e1, ckI_n, nI_cl, e2 j hj]; rfl
    · simp only [f_X13_steps, m_areTwo hi hj, bd1_s, k1, bd2_s]
      rw [ID_sym e3 k3 hi hj]; rfl
  · refine ⟨-1, vpa, v, ?_, ?_, rfl, fun _ _ _ => rfl⟩
    · simp only [f_X12_steps, x_areBalN hb, bd1_s, if_true]
    · simp only [f_X13_steps, m_areTwoN hb, bd1_s, if_true]
theorem q_stepsAgain {h v vmn : SV} {a : AS} (R : RC h a) (M : RM (v.2 0) a) (W : WF a) (x y : Int32) (vpa : SV) : ∃ r vpa' v', f_X12_stepsAgain x y vmn h vpa = some (r, vpa') ∧ f_X13_stepsAgain x y v = some (r, v') ∧ mSame v' v := by
  rcases q_two x y with ⟨i, j, hi, hj, rfl, rfl⟩ | hb
  · obtain ⟨w0, D, e1, e2, e3, e4, _⟩ := x_walkFrom R W hi vpa
    obtain ⟨w, l1, l2, l3⟩ := x_lessenFrom R W hi vpa e3 e4
    obtain ⟨w', E, k1, k2, k3, k4, k5⟩ := m_fewest M W hi hj
    refine ⟨oD (D j), w, w', ?_, ?_, k5⟩
    · simp (disch := omega) only [f_X12_stepsAgain, x_areBal hi hj, nm, bd1_s, bd2_s, bd3_s, bd4_s, l1, ckI_n, nI_cl, l2 j hj]; rfl
    · simp only [f_X13_stepsAgain, m_areTwo hi hj, bd1_s, k1, bd2_s]
      rw [ID_sym e3 k3 hi hj]; rfl
  · refine ⟨-1, vpa, v, ?_, ?_, rfl, fun _ _ _ => rfl⟩
    · simp only [f_X12_stepsAgain, x_areBalN hb, bd1_s, if_true]
    · simp only [f_X13_stepsAgain, m_areTwoN hb, bd1_s, if_true]
theorem mSame_rm {u v : SV} {a : AS} (h : mSame u v) (M : RM (v.2 0) a) : RM (u.2 0) a := by rw [h.2 0 (by decide) (by decide)]; exact M
theorem q_way {h v vmn : SV} {a : AS} (R : RC h a) (M : RM (v.2 0) a) (W : WF a) (x y z : Int32) (vpa : SV) : ∃ r vpa' v', f_X12_way x y z vmn h vpa = some (r, vpa') ∧ f_X13_way x y z v = some (r, v') ∧ mSame v' v := by
  rcases q_two x y with ⟨i, j, hi, hj, rfl, rfl⟩ | hb
  · obtain ⟨w, D, e1, e2, e3, e4, _⟩ := x_walkFrom R W hj vpa
    obtain ⟨w', E, k1, k2, k3, k4, k5⟩ := m_fewest M W hi hj
    have hE : E i = D i := ID_eq k3 e3 hi
    have hw' : ∀ i, i < 12 → w'.2 5 i = oD (D i) := fun i hi => by rw [k2 i hi, ID_eq k3 e3 hi]
    rw [hE] at k1
    cases c : D i with
    | none =>
      rw [c] at k1
      refine ⟨-4, w, w', ?_, ?_, k5⟩
      · simp (disch := omega) only [f_X12_way, x_areBal hi hj, f_X9_placeOnWay, nm, bd1_s, bd2_s, bd3_s, bd4_s, e1, ckI_n, nI_cl, e2 i hi, c]
        by_cases cz : z < 0
        · simp only [if_pos cz, bd2_s]; rfl
        · have : ¬ z ≤ oD none := fun q => by
            have h1 : (oD none).toInt = -4 := rfl
            rw [Int32.le_iff_toInt_le] at q; rw [Int32.lt_iff_toInt_lt] at cz
            have h2 : (0 : Int32).toInt = 0 := rfl
            omega
          simp only [if_neg cz, if_neg this, bd2_s]; rfl
      · simp only [f_X13_way, m_areTwo hi hj, bd1_s, k1, bd2_s]
        rw [if_neg (by decide), if_pos (by decide)]
    | some n =>
      have hn := e4 i n hi c
      rw [c] at k1
      have hn0 : ¬ oD (some n) < 0 := nI_pos (by omega)
      have hn1 : ¬ nI n < 0 := nI_pos (by omega)
      by_cases cz : z < 0
      · refine ⟨-4, w, w', ?_, ?_, k5⟩
        · simp (disch := omega) only [f_X12_way, x_areBal hi hj, f_X9_placeOnWay, nm, bd1_s, bd2_s, bd3_s, bd4_s, e1, ckI_n, nI_cl, e2 i hi, c, if_pos cz]; rfl
        · simp only [f_X13_way, m_areTwo hi hj, bd1_s, k1, bd2_s, if_neg hn0, f_X13_in, if_pos cz]; rfl
      · obtain ⟨p, hp, rfl⟩ := nI_of cz
        by_cases cp : p ≤ n
        · obtain ⟨jf, q1, q2⟩ := q_wayLoop R W e3 e4 e2 hw' (mSame_rm k5 M) cp hn p 0 i FU FU (by omega) (by unfold FU; omega) (by unfold FU; omega) hi (by rw [c, Nat.sub_zero])
          rw [nI_0] at q1 q2
          refine ⟨nI jf, w, w', ?_, ?_, k5⟩
          · simp (disch := omega) only [f_X12_way, x_areBal hi hj, f_X9_placeOnWay, nm, bd1_s, bd2_s, bd3_s, bd4_s, e1, ckI_n, nI_cl, e2 i hi, c, if_neg cz, oD, nI_leI, if_pos cp, q1]; rfl
          · simp (disch := omega) only [f_X13_way, m_areTwo hi hj, bd1_s, k1, bd2_s, if_neg hn0, f_X13_in, if_neg cz, oD, nI_ltI, if_neg (Nat.not_lt.mpr cp), q2, if_neg hn1]; rfl
        · refine ⟨-4, w, w', ?_, ?_, k5⟩
          · simp (disch := omega) only [f_X12_way, x_areBal hi hj, f_X9_placeOnWay, nm, bd1_s, bd2_s, bd3_s, bd4_s, e1, ckI_n, nI_cl, e2 i hi, c, if_neg cz, oD, nI_leI, if_neg cp]; rfl
          · simp (disch := omega) only [f_X13_way, m_areTwo hi hj, bd1_s, k1, bd2_s, if_neg hn0, f_X13_in, if_neg cz, oD, nI_ltI, if_pos (Nat.lt_of_not_le cp), if_neg hn1]; rfl
  · refine ⟨-1, vpa, v, ?_, ?_, rfl, fun _ _ _ => rfl⟩
    · simp only [f_X12_way, x_areBalN hb, bd1_s, if_true]
    · simp only [f_X13_way, m_areTwoN hb, bd1_s, if_true]
theorem x_areStepsAlike {h vmn : SV} {a : AS} (R : RC h a) (W : WF a) (vpa : SV) : ∃ w, f_X12_areStepsAlike vmn h vpa = some (1, w) := by
  unfold f_X12_areStepsAlike
  refine lz2_inv0 (N := 12) (fun (_ : Nat) (_ : SV) => True) (fun (x : Option (Int32 × SV)) => ∃ w, x = some (1, w)) ?_ ?_ (by omega) vpa trivial
  · intro self k u hk _ kk
    obtain ⟨w, D, e1, e2, e3, e4, e5⟩ := x_walkFrom R W hk u
    obtain ⟨w2, l1, l2, l3⟩ := x_lessenFrom R W hk w e3 e4
    have hal : f_X9_areAlike w2 = some 1 := x_areAlike (fun i hi => by rw [l3, e2 i hi, l2 i hi])
    simp (disch := omega) only [f_X12_areStepsAlike_B2, nI_1, nI_add, nI_mul, nI_leI, nI_ltI, nI_eq, ckI_n, nI_cl, qL2, qL3, qL4, qL5, qL6, qL7, qL8, qL9, qL10, qL11, qL12, nm, bd1_s, bd2_s, bd3_s, bd4_s, e1, l1, hal]
    simp only [show ¬ (12 ≤ k) by omega, Nat.lt_irrefl, Nat.le_refl, if_true, if_false, ite_true, ite_false, not_true_eq_false, not_false_eq_true, reduceIte]
    rw [if_neg (by decide)]
    exact kk _ trivial
  · intro self u _
    simp (disch := omega) only [f_X12_areStepsAlike_B2, f_X12_areStepsAlike_K2, nI_1, nI_add, nI_mul, nI_leI, nI_ltI, nI_eq, ckI_n, nI_cl, qL2, qL3, qL4, qL5, qL6, qL7, qL8, qL9, qL10, qL11, qL12, nm, bd1_s, bd2_s, bd3_s, bd4_s]
    simp only [Nat.lt_irrefl, Nat.le_refl, if_true, if_false, ite_true, ite_false, not_true_eq_false, not_false_eq_true, reduceIte]
    exact ⟨u, rfl⟩
