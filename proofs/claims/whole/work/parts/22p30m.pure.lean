/-! PURE: balconies in orders. -/
/-- whether o is ahead of b by two keys -/
def ahd (k l : Nat → Int32) (o b : Nat) : Bool := if k o = k b then (if l o = l b then decide (o < b) else decide (l b < l o)) else decide (k b < k o)
def cntA (k l : Nat → Int32) (b : Nat) : Int32 := sm (fun o => b2i (ahd k l o b)) 12
def atP (k l : Nat → Int32) (p : Int32) : Int32 := fnd (fun b => decide (cntA k l b = p)) (-1) (List.range 12) 0
theorem q_ltle {x y : Int32} (h : ¬ x = y) : (x ≤ y) ↔ ¬ y < x := by
  rw [Int32.not_lt]
theorem x_isAhead {u : SV} {k l : Nat → Int32} (hk : ∀ j, j < 12 → u.2 0 j = k j ∧ u.2 1 j = l j) {o b : Nat} (ho : o < 12) (hb : b < 12) : f_X8_isAhead (nI o) (nI b) u = some (b2i (ahd k l o b)) := by
  simp (disch := omega) only [f_X8_isAhead, nI_1, nI_add, nI_mul, nI_leI, nI_ltI, nI_eq, ckI_n, nI_cl, qL2, qL3, qL4, qL5, qL6, qL7, qL8, qL9, qL10, qL11, qL12, (hk o ho).1, (hk o ho).2, (hk b hb).1, (hk b hb).2, ahd]
  by_cases c1 : k o = k b
  · simp only [if_pos c1]
    by_cases c2 : l o = l b
    · simp only [if_pos c2]
      by_cases c3 : b ≤ o
      · simp [c3, b2i, Nat.not_lt.mpr c3]
      · simp [c3, b2i, Nat.lt_of_not_le c3]
    · simp only [if_neg c2]
      by_cases c3 : l b < l o
      · simp [c3, b2i, (Int32.not_le.mpr c3)]
      · simp [c3, b2i, (Int32.not_lt.mp c3)]
  · simp only [if_neg c1]
    by_cases c3 : k b < k o
    · simp [c3, b2i, (Int32.not_le.mpr c3)]
    · simp [c3, b2i, (Int32.not_lt.mp c3)]
theorem x_countAhead {u : SV} {k l : Nat → Int32} (hk : ∀ j, j < 12 → u.2 0 j = k j ∧ u.2 1 j = l j) {b : Nat} (hb : b < 12) : f_X8_countAhead (nI b) u = some (cntA k l b) := by
  unfold f_X8_countAhead cntA sm
  refine lz2_acc0 (K := some) _ (N := 12) ?_ ?_ (by omega) 0
  · intro self o x ho
    simp (disch := omega) only [f_X8_countAhead_B4, nI_1, nI_add, nI_mul, nI_leI, nI_ltI, nI_eq, ckI_n, nI_cl, qL2, qL3, qL4, qL5, qL6, qL7, qL8, qL9, qL10, qL11, qL12, nm, bd1_s, bd2_s, bd3_s, bd4_s, x_isAhead hk ho hb, qsel]
    simp only [show ¬ (12 ≤ o) by omega, Nat.lt_irrefl, Nat.le_refl, if_true, if_false, ite_true, ite_false, not_true_eq_false, not_false_eq_true, reduceIte]
    cases ahd k l o b <;> simp [b2i]
  · intro self x
    simp (disch := omega) only [f_X8_countAhead_B4, f_X8_countAhead_K4, nI_1, nI_add, nI_mul, nI_leI, nI_ltI, nI_eq, ckI_n, nI_cl, qL2, qL3, qL4, qL5, qL6, qL7, qL8, qL9, qL10, qL11, qL12, nm, bd1_s, bd2_s, bd3_s, bd4_s]
    simp only [Nat.lt_irrefl, Nat.le_refl, if_true, if_false, ite_true, ite_false, not_true_eq_false, not_false_eq_true, reduceIte]
theorem q_rng {k x : Nat} (h : (List.range 12)[k]? = some x) : x = k ∧ k < 12 := by
  have hk := ix_lt h
  rw [List.length_range] at hk
  rw [List.getElem?_range hk] at h
  exact ⟨(Option.some.inj h).symm, hk⟩
theorem x_balconyAt {u : SV} {k l : Nat → Int32} (hk : ∀ j, j < 12 → u.2 0 j = k j ∧ u.2 1 j = l j) (p : Int32) : f_X8_balconyAt p u = some (atP k l p) := by
  unfold f_X8_balconyAt atP
  refine lz1_fnd (K := some) _ _ _ ?_ ?_ (by simp)
  · intro self i x hx
    obtain ⟨rfl, hi⟩ := q_rng hx
    simp (disch := omega) only [f_X8_balconyAt_B2, nI_1, nI_add, nI_mul, nI_leI, nI_ltI, nI_eq, ckI_n, nI_cl, qL2, qL3, qL4, qL5, qL6, qL7, qL8, qL9, qL10, qL11, qL12, nm, bd1_s, bd2_s, bd3_s, bd4_s, x_countAhead hk hi, decide_eq_true_eq]
    simp only [show ¬ (12 ≤ x) by omega, Nat.lt_irrefl, Nat.le_refl, if_true, if_false, ite_true, ite_false, not_true_eq_false, not_false_eq_true, reduceIte]
  · intro self
    rw [List.length_range]
    simp (disch := omega) only [f_X8_balconyAt_B2, f_X8_balconyAt_K2, nI_1, nI_add, nI_mul, nI_leI, nI_ltI, nI_eq, ckI_n, nI_cl, qL2, qL3, qL4, qL5, qL6, qL7, qL8, qL9, qL10, qL11, qL12, nm, bd1_s, bd2_s, bd3_s, bd4_s]
    simp only [Nat.lt_irrefl, Nat.le_refl, if_true, if_false, ite_true, ite_false, not_true_eq_false, not_false_eq_true, reduceIte]
theorem x_setKeys {u : SV} {i : Nat} (hi : i < 12) (x y : Int32) : f_X8_setKeys (nI i) x y u = some (pA (pA u 0 (nI i) x) 1 (nI i) y) := by
  simp (disch := omega) only [f_X8_setKeys, nI_1, nI_add, nI_mul, nI_leI, nI_ltI, nI_eq, ckI_n, nI_cl, qL2, qL3, qL4, qL5, qL6, qL7, qL8, qL9, qL10, qL11, qL12, nm, bd1_s, bd2_s, bd3_s, bd4_s]
theorem q_keys {u : SV} {k l : Nat → Int32} {i : Nat} (hi : i < 12) (h : ∀ j, j < i → u.2 0 j = k j ∧ u.2 1 j = l j) : ∀ j, j < i + 1 → (pA (pA u 0 (nI i) (k i)) 1 (nI i) (l i)).2 0 j = k j ∧ (pA (pA u 0 (nI i) (k i)) 1 (nI i) (l i)).2 1 j = l j := by
  intro j hj
  show upd (u.2 0) (nI i).toNatClampNeg (k i) j = k j ∧ upd (u.2 1) (nI i).toNatClampNeg (l i) j = l j
  rw [nI_cl (by omega)]; unfold upd
  by_cases c : j = i
  · subst c; simp
  · rw [if_neg c, if_neg c]; exact h j (by omega)
theorem x_kindest {h vmn : SV} {a : AS} (R : RC h a) (p : Int32) (vod : SV) : ∃ w, f_X12_kindest p vmn h vod = some (atP (gvN a) (gtN a) p, w) := by
  unfold f_X12_kindest
  refine lz2_inv0 (N := 12) (fun (i : Nat) (u : SV) => ∀ j, j < i → u.2 0 j = gvN a j ∧ u.2 1 j = gtN a j) (fun (x : Option (Int32 × SV)) => ∃ w, x = some (atP (gvN a) (gtN a) p, w)) ?_ ?_ (by omega) vod (fun j hj => by omega)
  · intro self i u hi hI kk
    simp (disch := omega) only [f_X12_kindest_B2, nI_1, nI_add, nI_mul, nI_leI, nI_ltI, nI_eq, ckI_n, nI_cl, qL2, qL3, qL4, qL5, qL6, qL7, qL8, qL9, qL10, qL11, qL12, nm, bd1_s, bd2_s, bd3_s, bd4_s, x_givenBy R hi, x_gotBy R hi, x_setKeys hi]
    simp only [show ¬ (12 ≤ i) by omega, Nat.lt_irrefl, Nat.le_refl, if_true, if_false, ite_true, ite_false, not_true_eq_false, not_false_eq_true, reduceIte]
    exact kk _ (q_keys hi hI)
  · intro self u hI
    simp (disch := omega) only [f_X12_kindest_B2, f_X12_kindest_K2, nI_1, nI_add, nI_mul, nI_leI, nI_ltI, nI_eq, ckI_n, nI_cl, qL2, qL3, qL4, qL5, qL6, qL7, qL8, qL9, qL10, qL11, qL12, nm, bd1_s, bd2_s, bd3_s, bd4_s, x_balconyAt hI]
    simp only [Nat.lt_irrefl, Nat.le_refl, if_true, if_false, ite_true, ite_false, not_true_eq_false, not_false_eq_true, reduceIte]
    exact ⟨u, rfl⟩
theorem x_worst {h vmn : SV} {a : AS} (R : RC h a) (W : WF a) (p : Int32) (vod : SV) : ∃ w, f_X12_worst p vmn h vod = some (atP (fdN a) (fun i => nI (aP a i)) p, w) := by
  unfold f_X12_worst
  refine lz2_inv0 (N := 12) (fun (i : Nat) (u : SV) => ∀ j, j < i → u.2 0 j = fdN a j ∧ u.2 1 j = nI (aP a j)) (fun (x : Option (Int32 × SV)) => ∃ w, x = some (atP (fdN a) (fun i => nI (aP a i)) p, w)) ?_ ?_ (by omega) vod (fun j hj => by omega)
  · intro self i u hi hI kk
    simp (disch := omega) only [f_X12_worst_B2, nI_1, nI_add, nI_mul, nI_leI, nI_ltI, nI_eq, ckI_n, nI_cl, qL2, qL3, qL4, qL5, qL6, qL7, qL8, qL9, qL10, qL11, qL12, nm, bd1_s, bd2_s, bd3_s, bd4_s, x_ofBalcony R W hi, rc_p R hi, x_setKeys hi]
    simp only [show ¬ (12 ≤ i) by omega, Nat.lt_irrefl, Nat.le_refl, if_true, if_false, ite_true, ite_false, not_true_eq_false, not_false_eq_true, reduceIte]
    exact kk _ (q_keys (k := fdN a) (l := fun i => nI (aP a i)) hi hI)
  · intro self u hI
    simp (disch := omega) only [f_X12_worst_B2, f_X12_worst_K2, nI_1, nI_add, nI_mul, nI_leI, nI_ltI, nI_eq, ckI_n, nI_cl, qL2, qL3, qL4, qL5, qL6, qL7, qL8, qL9, qL10, qL11, qL12, nm, bd1_s, bd2_s, bd3_s, bd4_s, x_balconyAt (k := fdN a) (l := fun i => nI (aP a i)) hI]
    simp only [Nat.lt_irrefl, Nat.le_refl, if_true, if_false, ite_true, ite_false, not_true_eq_false, not_false_eq_true, reduceIte]
    exact ⟨u, rfl⟩
theorem q_kin {k l : Nat → Int32} {o b : Nat} : (if k o = k b then (if l b < l o then some (1 : Int32) else if l o = l b then (if b ≤ o then some 0 else some 1) else some 0) else if k o ≤ k b then some 0 else some 1) = some (b2i (ahd k l o b)) := by
  unfold ahd
  by_cases c1 : k o = k b
  · simp only [if_pos c1]
    by_cases c2 : l o = l b
    · have : ¬ l b < l o := by rw [c2]; exact fun q => Int32.lt_irrefl q
      simp only [if_pos c2, if_neg this]
      by_cases c3 : b ≤ o
      · simp [c3, b2i, Nat.not_lt.mpr c3]
      · simp [c3, b2i, Nat.lt_of_not_le c3]
    · simp only [if_neg c2]
      by_cases c3 : l b < l o
      · simp [c3, b2i]
      · simp [c3, b2i]
  · simp only [if_neg c1]
    by_cases c3 : k b < k o
    · simp [c3, b2i, (Int32.not_le.mpr c3)]
    · simp [c3, b2i, (Int32.not_lt.mp c3)]
theorem m_isKinder {v : SV} {a : AS} (M : RM (v.2 0) a) {o b : Nat} (ho : o < 12) (hb : b < 12) : f_X13_isKinder (nI o) (nI b) v = some (b2i (ahd (gvN a) (gtN a) o b)) := by
  rw [← q_kin]
  simp (disch := omega) only [f_X13_isKinder, nm, bd1_s, bd2_s, bd3_s, bd4_s, m_given M ho, m_given M hb, m_got M ho, m_got M hb, nI_leI]
theorem m_isWorse {v : SV} {a : AS} (M : RM (v.2 0) a) (W : WF a) {o b : Nat} (ho : o < 12) (hb : b < 12) : f_X13_isWorse (nI o) (nI b) v = some (b2i (ahd (fdN a) (fun i => nI (aP a i)) o b)) := by
  rw [← q_kin]
  have hbo : (nI b ≤ nI o) ↔ b ≤ o := nI_leI (by omega) (by omega)
  simp only [f_X13_isWorse, nm, bd1_s, bd2_s, bd3_s, bd4_s, m_feudsOf M W ho, m_feudsOf M W hb, m_plants M ho, m_plants M hb, hbo]
theorem m_kindest {v : SV} {a : AS} (M : RM (v.2 0) a) (p : Int32) : f_X13_kindest p v = some (atP (gvN a) (gtN a) p) := by
  unfold f_X13_kindest atP
  refine lz1_fnd (K := some) _ _ _ ?_ ?_ (by simp)
  · intro self i x hx
    obtain ⟨rfl, hi⟩ := q_rng hx
    simp (disch := omega) only [f_X13_kindest_B2, nI_1, nI_add, nI_mul, nI_leI, nI_ltI, nI_eq, ckI_n, nI_cl, qL2, qL3, qL4, qL5, qL6, qL7, qL8, qL9, qL10, qL11, qL12, nm, bd1_s, bd2_s, bd3_s, bd4_s, decide_eq_true_eq]
    simp only [show ¬ (12 ≤ x) by omega, Nat.lt_irrefl, Nat.le_refl, if_true, if_false, ite_true, ite_false, not_true_eq_false, not_false_eq_true, reduceIte]
    unfold cntA sm
    refine lz2_acc0 (K := fun y => if y = p then some (nI x) else self (nI (x + 1))) _ (N := 12) ?_ ?_ (by omega) 0
    · intro self2 o y ho
      simp (disch := omega) only [f_X13_kindest_B13, nI_1, nI_add, nI_mul, nI_leI, nI_ltI, nI_eq, ckI_n, nI_cl, qL2, qL3, qL4, qL5, qL6, qL7, qL8, qL9, qL10, qL11, qL12, nm, bd1_s, bd2_s, bd3_s, bd4_s, m_isKinder M ho hi, qsel]
      simp only [show ¬ (12 ≤ o) by omega, Nat.lt_irrefl, Nat.le_refl, if_true, if_false, ite_true, ite_false, not_true_eq_false, not_false_eq_true, reduceIte]
      cases ahd (gvN a) (gtN a) o x <;> simp [b2i]
    · intro self2 y
      simp (disch := omega) only [f_X13_kindest_B13, f_X13_kindest_K13, nI_1, nI_add, nI_mul, nI_leI, nI_ltI, nI_eq, ckI_n, nI_cl, qL2, qL3, qL4, qL5, qL6, qL7, qL8, qL9, qL10, qL11, qL12, nm, bd1_s, bd2_s, bd3_s, bd4_s]
      simp only [Nat.lt_irrefl, Nat.le_refl, if_true, if_false, ite_true, ite_false, not_true_eq_false, not_false_eq_true, reduceIte]
  · intro self
    rw [List.length_range]
    simp (disch := omega) only [f_X13_kindest_B2, f_X13_kindest_K2, nI_1, nI_add, nI_mul, nI_leI, nI_ltI, nI_eq, ckI_n, nI_cl, qL2, qL3, qL4, qL5, qL6, qL7, qL8, qL9, qL10, qL11, qL12, nm, bd1_s, bd2_s, bd3_s, bd4_s]
    simp only [Nat.lt_irrefl, Nat.le_refl, if_true, if_false, ite_true, ite_false, not_true_eq_false, not_false_eq_true, reduceIte]
theorem m_worst {v : SV} {a : AS} (M : RM (v.2 0) a) (W : WF a) (p : Int32) : f_X13_worst p v = some (atP (fdN a) (fun i => nI (aP a i)) p) := by
  unfold f_X13_worst atP
  refine lz1_fnd (K := some) _ _ _ ?_ ?_ (by simp)
  · intro self i x hx
    obtain ⟨rfl, hi⟩ := q_rng hx
    simp (disch := omega) only [f_X13_worst_B2, nI_1, nI_add, nI_mul, nI_leI, nI_ltI, nI_eq, ckI_n, nI_cl, qL2, qL3, qL4, qL5, qL6, qL7, qL8, qL9, qL10, qL11, qL12, nm, bd1_s, bd2_s, bd3_s, bd4_s, decide_eq_true_eq]
    simp only [show ¬ (12 ≤ x) by omega, Nat.lt_irrefl, Nat.le_refl, if_true, if_false, ite_true, ite_false, not_true_eq_false, not_false_eq_true, reduceIte]
    unfold cntA sm
    refine lz2_acc0 (K := fun y => if y = p then some (nI x) else self (nI (x + 1))) _ (N := 12) ?_ ?_ (by omega) 0
    · intro self2 o y ho
      simp (disch := omega) only [f_X13_worst_B13, nI_1, nI_add, nI_mul, nI_leI, nI_ltI, nI_eq, ckI_n, nI_cl, qL2, qL3, qL4, qL5, qL6, qL7, qL8, qL9, qL10, qL11, qL12, nm, bd1_s, bd2_s, bd3_s, bd4_s, m_isWorse M W ho hi, qsel]
      simp only [show ¬ (12 ≤ o) by omega, Nat.lt_irrefl, Nat.le_refl, if_true, if_false, ite_true, ite_false, not_true_eq_false, not_false_eq_true, reduceIte]
      cases ahd (fdN a) (fun i => nI (aP a i)) o x <;> simp [b2i]
    · intro self2 y
      simp (disch := omega) only [f_X13_worst_B13, f_X13_worst_K13, nI_1, nI_add, nI_mul, nI_leI, nI_ltI, nI_eq, ckI_n, nI_cl, qL2, qL3, qL4, qL5, qL6, qL7, qL8, qL9, qL10, qL11, qL12, nm, bd1_s, bd2_s, bd3_s, bd4_s]
      simp only [Nat.lt_irrefl, Nat.le_refl, if_true, if_false, ite_true, ite_false, not_true_eq_false, not_false_eq_true, reduceIte]
  · intro self
    rw [List.length_range]
    simp (disch := omega) only [f_X13_worst_B2, f_X13_worst_K2, nI_1, nI_add, nI_mul, nI_leI, nI_ltI, nI_eq, ckI_n, nI_cl, qL2, qL3, qL4, qL5, qL6, qL7, qL8, qL9, qL10, qL11, qL12, nm, bd1_s, bd2_s, bd3_s, bd4_s]
    simp only [Nat.lt_irrefl, Nat.le_refl, if_true, if_false, ite_true, ite_false, not_true_eq_false, not_false_eq_true, reduceIte]
