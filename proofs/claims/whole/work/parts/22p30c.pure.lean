/-! PURE: lines and feuds. -/
def lnB (a : AS) (lo hi : Nat) : Int32 := fnd (fun x => decide (x.1 = lo ∧ x.2.1 = hi)) (-1) (aL a) 0
def hasL (a : AS) (lo hi : Nat) : Bool := (aL a).any (fun x => decide (x.1 = lo ∧ x.2.1 = hi))
theorem lnB_ge {a : AS} (W : WF a) {lo hi : Nat} : (0 ≤ lnB a lo hi) ↔ hasL a lo hi = true := fnd_ge _ _ 0 _ (by decide) (by have := wf_ln W; omega)
theorem lnB_lt {a : AS} (W : WF a) {lo hi : Nat} : (lnB a lo hi < 0) ↔ hasL a lo hi = false := fnd_lt _ _ 0 _ (by decide) (by have := wf_ln W; omega)
theorem ifc {α : Type} {c d : Prop} [Decidable c] [Decidable d] (h : c ↔ d) {x y : α} : (if c then x else y) = if d then x else y := by
  by_cases hc : c
  · rw [if_pos hc, if_pos (h.mp hc)]
  · rw [if_neg hc, if_neg (fun e => hc (h.mpr e))]
theorem x_betweenJ {h : SV} {a : AS} (R : RC h a) (W : WF a) {lo hi : Nat} (h1 : lo < 12) (h2 : hi < 12) : f_X7_between_J21 h (nI lo) (nI hi) = some (lnB a lo hi) := by
  unfold f_X7_between_J21 lnB
  have hl := wf_ln W
  refine lz1_fnd (K := some) _ _ _ ?_ ?_ (by omega)
  · intro self k x hx
    have hk := ix_lt hx
    have hw := wf_l W hx
    obtain ⟨e1, e2, e3⟩ := rc_l R hx
    simp (disch := omega) only [f_X7_between_B26, rc_ln R, nI_1, nI_add, nI_mul, nI_leI, nI_ltI, nI_eq, ckI_n, nI_cl, qL2, qL3, qL4, qL5, qL6, qL7, qL8, qL9, qL10, qL11, qL12, nm, bd1_s, bd2_s, bd3_s, bd4_s, e1, e2]
    simp only [show ¬ ((aL a).length ≤ k) by omega, Nat.lt_irrefl, Nat.le_refl, if_true, if_false, ite_true, ite_false, not_true_eq_false, not_false_eq_true, reduceIte, decide_eq_true_eq]
    by_cases c1 : x.1 = lo
    · by_cases c2 : x.2.1 = hi
      · simp [c1, c2]
      · simp [c1, c2]
    · simp [c1]
  · intro self
    simp (disch := omega) only [f_X7_between_B26, f_X7_between_K26, rc_ln R, nI_1, nI_add, nI_mul, nI_leI, nI_ltI, nI_eq, ckI_n, nI_cl, qL2, qL3, qL4, qL5, qL6, qL7, qL8, qL9, qL10, qL11, qL12, nm, bd1_s, bd2_s, bd3_s, bd4_s]
    simp only [Nat.lt_irrefl, Nat.le_refl, if_true, if_false, ite_true, ite_false, not_true_eq_false, not_false_eq_true, reduceIte]
theorem x_between {h : SV} {a : AS} (R : RC h a) (W : WF a) {i j : Nat} (h1 : i < 12) (h2 : j < 12) : f_X7_between (nI i) (nI j) h = some (lnB a (min i j) (max i j)) := by
  simp (disch := omega) only [f_X7_between, f_X7_between_J10, nI_1, nI_add, nI_mul, nI_leI, nI_ltI, nI_eq, ckI_n, nI_cl, qL2, qL3, qL4, qL5, qL6, qL7, qL8, qL9, qL10, qL11, qL12]
  by_cases c : j ≤ i
  · simp only [if_pos c]; rw [x_betweenJ R W h2 h1, Nat.min_eq_right c, Nat.max_eq_left c]
  · simp only [if_neg c]; rw [x_betweenJ R W h1 h2, Nat.min_eq_left (by omega), Nat.max_eq_right (by omega)]
theorem m_linePart {v : SV} {a : AS} (R : RM (v.2 0) a) (W : WF a) {k : Nat} {x : Nat × Nat × Nat} (hx : (aL a)[k]? = some x) : f_X13_linePart (nI k) 0 v = some (nI x.1) ∧ f_X13_linePart (nI k) 1 v = some (nI x.2.1) ∧ f_X13_linePart (nI k) 2 v = some (nI x.2.2) := by
  have hk := ix_lt hx
  have hl := wf_ln W
  obtain ⟨e1, e2, e3⟩ := rm_l R hx
  refine ⟨?_, ?_, ?_⟩
  · simp (disch := omega) only [f_X13_linePart, qL190, qL0, nI_1, nI_add, nI_mul, nI_leI, nI_ltI, nI_eq, ckI_n, nI_cl, qL2, qL3, qL4, qL5, qL6, qL7, qL8, qL9, qL10, qL11, qL12, Nat.add_zero, e1]
  · simp (disch := omega) only [f_X13_linePart, qL190, nI_1, nI_add, nI_mul, nI_leI, nI_ltI, nI_eq, ckI_n, nI_cl, qL2, qL3, qL4, qL5, qL6, qL7, qL8, qL9, qL10, qL11, qL12, e2]
  · simp (disch := omega) only [f_X13_linePart, qL190, nI_1, nI_add, nI_mul, nI_leI, nI_ltI, nI_eq, ckI_n, nI_cl, qL2, qL3, qL4, qL5, qL6, qL7, qL8, qL9, qL10, qL11, qL12, e3]
theorem m_lineBetween {v : SV} {a : AS} (R : RM (v.2 0) a) (W : WF a) {i j : Nat} (h1 : i < 12) (h2 : j < 12) : f_X13_lineBetween (nI i) (nI j) v = some (lnB a (min i j) (max i j)) := by
  unfold f_X13_lineBetween lnB
  have hl := wf_ln W
  refine lz1_fnd (K := some) _ _ _ ?_ ?_ (by omega)
  · intro self k x hx
    have hk := ix_lt hx
    have hw := wf_l W hx
    obtain ⟨e1, e2, e3⟩ := m_linePart R W hx
    simp (disch := omega) only [f_X13_lineBetween_B2, f_X13_lineBetween_J28, ck240_0, ck240_1, ck240_2, ck240_3, ck240_4, ck240_5, ck240_6, ck240_7, qc0, qc1, qc2, qc3, qc4, qc5, qc6, qc7, rm_ln R, nI_1, nI_add, nI_mul, nI_leI, nI_ltI, nI_eq, ckI_n, nI_cl, qL2, qL3, qL4, qL5, qL6, qL7, qL8, qL9, qL10, qL11, qL12, nm, bd1_s, bd2_s, bd3_s, bd4_s, e1, e2]
    simp only [show ¬ ((aL a).length ≤ k) by omega, Nat.lt_irrefl, Nat.le_refl, if_true, if_false, ite_true, ite_false, not_true_eq_false, not_false_eq_true, reduceIte, decide_eq_true_eq]
    by_cases c : j ≤ i
    · simp only [if_pos c, Nat.min_eq_right c, Nat.max_eq_left c]
      by_cases c1 : x.1 = j
      · by_cases c2 : x.2.1 = i
        · simp [c1, c2]
        · simp [c1, c2]
      · simp [c1]
    · simp only [if_neg c, Nat.min_eq_left (show i ≤ j by omega), Nat.max_eq_right (show i ≤ j by omega)]
      by_cases c1 : x.1 = i
      · by_cases c2 : x.2.1 = j
        · simp [c1, c2]
        · simp [c1, c2]
      · simp [c1]
  · intro self
    simp (disch := omega) only [f_X13_lineBetween_B2, f_X13_lineBetween_K2, ck240_0, ck240_1, ck240_2, ck240_3, ck240_4, ck240_5, ck240_6, ck240_7, qc0, qc1, qc2, qc3, qc4, qc5, qc6, qc7, rm_ln R, nI_1, nI_add, nI_mul, nI_leI, nI_ltI, nI_eq, ckI_n, nI_cl, qL2, qL3, qL4, qL5, qL6, qL7, qL8, qL9, qL10, qL11, qL12, nm, bd1_s, bd2_s, bd3_s, bd4_s]
    simp only [Nat.lt_irrefl, Nat.le_refl, if_true, if_false, ite_true, ite_false, not_true_eq_false, not_false_eq_true, reduceIte]
/-- whether the balcony hi above lo has too many plants for it, and no line hangs between -/
def tooM (a : AS) (lo hi : Nat) : Bool := decide (aT a lo < aP a hi) && !(hasL a lo hi)
/-- whether they feud -/
def feB (a : AS) (i j : Nat) : Bool := decide (i ≠ j ∧ i % 4 = j % 4) && tooM a (min i j) (max i j)
theorem q_mod {i : Nat} (h : i < 12) : nI i - nI i / nI 4 * nI 4 = nI (i % 4) := by
  have : ∀ i : Nat, i < 12 → nI i - nI i / nI 4 * nI 4 = nI (i % 4) := by decide +kernel
  exact this i h
theorem q_ite {α : Type} {c : Prop} [Decidable c] {x y : Int32} {f : Int32 → α} : f (if c then x else y) = if c then f x else f y := by split <;> rfl
theorem q_max {i j : Nat} (h1 : i < 2147483648) (h2 : j < 2147483648) : (if nI i < nI j then nI j else nI i) = nI (max i j) := by
  rw [ifc (nI_ltI h1 h2)]
  split
  · rw [Nat.max_eq_right (by omega)]
  · rw [Nat.max_eq_left (by omega)]
theorem q_min {i j : Nat} (h1 : i < 2147483648) (h2 : j < 2147483648) : (if nI j < nI i then nI j else nI i) = nI (min i j) := by
  rw [ifc (nI_ltI h2 h1)]
  split
  · rw [Nat.min_eq_right (by omega)]
  · rw [Nat.min_eq_left (by omega)]
theorem q_maxN {i j : Nat} : (if i < j then nI j else nI i) = nI (max i j) := by
  split
  · rw [Nat.max_eq_right (by omega)]
  · rw [Nat.max_eq_left (by omega)]
theorem q_minN {i j : Nat} : (if j < i then nI j else nI i) = nI (min i j) := by
  split
  · rw [Nat.min_eq_right (by omega)]
  · rw [Nat.min_eq_left (by omega)]
theorem x_isFeud {h : SV} {a : AS} (R : RC h a) (W : WF a) {i j : Nat} (h1 : i < 12) (h2 : j < 12) : f_X6_isFeud (nI i) (nI j) h = some (b2i (feB a i j)) := by
  have hmx : max i j < 12 := by omega
  have hmn : min i j < 12 := by omega
  have hp := wf_p W hmx
  have ht := wf_t W hmn
  have hbt : f_X7_between (nI (min i j)) (nI (max i j)) h = some (lnB a (min i j) (max i j)) := by
    rw [x_between R W hmn hmx, show min (min i j) (max i j) = min i j by omega, show max (min i j) (max i j) = max i j by omega]
  simp (disch := omega) only [f_X6_isFeud, nm, q_maxN, q_minN, qL4, q_mod h1, q_mod h2, nI_1, nI_add, nI_mul, nI_leI, nI_ltI, nI_eq, ckI_n, nI_cl, qL2, qL3, qL4, qL5, qL6, qL7, qL8, qL9, qL10, qL11, qL12, nm, bd1_s, bd2_s, bd3_s, bd4_s, rc_p R hmx, rc_t R hmn, hbt, feB, tooM]
  by_cases c1 : i = j
  · simp [c1, b2i]
  · by_cases c2 : i % 4 = j % 4
    · by_cases c3 : aP a (max i j) ≤ aT a (min i j)
      · simp [c1, c2, c3, b2i, Nat.not_lt.mpr c3]
      · have c4 : aT a (min i j) < aP a (max i j) := by omega
        simp only [if_neg c1, if_pos c2, if_neg c3, ifc (lnB_ge W)]
        cases hasL a (min i j) (max i j) <;> simp [c1, c2, c4, b2i]
    · simp [c1, c2, b2i]
theorem m_isTooMany {v : SV} {a : AS} (R : RM (v.2 0) a) (W : WF a) {i j : Nat} (h1 : i < 12) (h2 : j < 12) : f_X13_isTooMany (nI i) (nI j) v = some (b2i (decide (j < i ∧ i % 4 = j % 4) && tooM a j i)) := by
  have hp := wf_p W h1
  have ht := wf_t W h2
  simp (disch := omega) only [f_X13_isTooMany, f_X13_isAbove, qL4, q_mod h1, q_mod h2, nI_1, nI_add, nI_mul, nI_leI, nI_ltI, nI_eq, ckI_n, nI_cl, qL2, qL3, qL4, qL5, qL6, qL7, qL8, qL9, qL10, qL11, qL12, nm, bd1_s, bd2_s, bd3_s, bd4_s, tooM]
  by_cases c1 : i ≤ j
  · simp [c1, b2i, show ¬ j < i by omega, bd1_s]
  · by_cases c2 : i % 4 = j % 4
    · simp (disch := omega) only [if_neg c1, if_pos c2, bd1_s, m_plants R h1, qL22, nI_1, nI_add, nI_mul, nI_leI, nI_ltI, nI_eq, ckI_n, nI_cl, qL2, qL3, qL4, qL5, qL6, qL7, qL8, qL9, qL10, qL11, qL12, rm_t R h2, m_lineBetween R W h1 h2, show min i j = j by omega, show max i j = i by omega]
      by_cases c3 : aP a i ≤ aT a j
      · simp [c2, c3, b2i, Nat.not_lt.mpr c3]
      · have c4 : aT a j < aP a i := by omega
        simp only [if_neg c3, ifc (lnB_ge W)]
        cases hasL a j i <;> simp [show j < i by omega, c2, c4, b2i]
    · simp [c1, c2, b2i, bd1_s]
theorem m_areFeuding {v : SV} {a : AS} (R : RM (v.2 0) a) (W : WF a) {i j : Nat} (h1 : i < 12) (h2 : j < 12) : f_X13_areFeuding (nI i) (nI j) v = some (b2i (feB a i j)) := by
  simp only [f_X13_areFeuding, m_isTooMany R W h1 h2, m_isTooMany R W h2 h1, bd1_s, qsel, feB]
  rcases Nat.lt_trichotomy i j with c | c | c
  · rw [show min i j = i by omega, show max i j = j by omega]
    cases tooM a i j <;> by_cases c2 : i % 4 = j % 4 <;> simp [c, c2, b2i, show ¬ j < i by omega, show ¬ i = j by omega, eq_comm]
  · subst c; simp [b2i]
  · rw [show min i j = j by omega, show max i j = i by omega]
    cases tooM a j i <;> by_cases c2 : i % 4 = j % 4 <;> simp [c, c2, b2i, show ¬ i < j by omega, show ¬ i = j by omega, eq_comm]
/-- how many feuds a balcony has -/
def fdN (a : AS) (i : Nat) : Int32 := sm (fun j => b2i (feB a i j)) 12
theorem x_ofBalcony {h : SV} {a : AS} (R : RC h a) (W : WF a) {i : Nat} (h1 : i < 12) : f_X3_ofBalcony (nI i) h = some (fdN a i) := by
  unfold f_X3_ofBalcony fdN sm
  refine lz2_acc0 (K := some) (fun j b => b + b2i (feB a i j)) (N := 12) ?_ ?_ (by omega) 0
  · intro self j b hj
    simp (disch := omega) only [f_X3_ofBalcony_B4, nI_1, nI_add, nI_mul, nI_leI, nI_ltI, nI_eq, ckI_n, nI_cl, qL2, qL3, qL4, qL5, qL6, qL7, qL8, qL9, qL10, qL11, qL12, nm, bd1_s, bd2_s, bd3_s, bd4_s, x_isFeud R W h1 hj, qsel]
    simp only [show ¬ (12 ≤ j) by omega, Nat.lt_irrefl, Nat.le_refl, if_true, if_false, ite_true, ite_false, not_true_eq_false, not_false_eq_true, reduceIte]
    cases feB a i j <;> simp [b2i]
  · intro self b
    simp (disch := omega) only [f_X3_ofBalcony_B4, f_X3_ofBalcony_K4, nI_1, nI_add, nI_mul, nI_leI, nI_ltI, nI_eq, ckI_n, nI_cl, qL2, qL3, qL4, qL5, qL6, qL7, qL8, qL9, qL10, qL11, qL12, nm, bd1_s, bd2_s, bd3_s, bd4_s]
    simp only [Nat.lt_irrefl, Nat.le_refl, if_true, if_false, ite_true, ite_false, not_true_eq_false, not_false_eq_true, reduceIte]
theorem m_feudsOf {v : SV} {a : AS} (R : RM (v.2 0) a) (W : WF a) {i : Nat} (h1 : i < 12) : f_X13_feudsOf (nI i) v = some (fdN a i) := by
  unfold f_X13_feudsOf fdN sm
  refine lz2_acc0 (K := some) (fun j b => b + b2i (feB a i j)) (N := 12) ?_ ?_ (by omega) 0
  · intro self j b hj
    simp (disch := omega) only [f_X13_feudsOf_B4, nI_1, nI_add, nI_mul, nI_leI, nI_ltI, nI_eq, ckI_n, nI_cl, qL2, qL3, qL4, qL5, qL6, qL7, qL8, qL9, qL10, qL11, qL12, nm, bd1_s, bd2_s, bd3_s, bd4_s, m_areFeuding R W h1 hj, qsel]
    simp only [show ¬ (12 ≤ j) by omega, Nat.lt_irrefl, Nat.le_refl, if_true, if_false, ite_true, ite_false, not_true_eq_false, not_false_eq_true, reduceIte]
    cases feB a i j <;> simp [b2i]
  · intro self b
    simp (disch := omega) only [f_X13_feudsOf_B4, f_X13_feudsOf_K4, nI_1, nI_add, nI_mul, nI_leI, nI_ltI, nI_eq, ckI_n, nI_cl, qL2, qL3, qL4, qL5, qL6, qL7, qL8, qL9, qL10, qL11, qL12, nm, bd1_s, bd2_s, bd3_s, bd4_s]
    simp only [Nat.lt_irrefl, Nat.le_refl, if_true, if_false, ite_true, ite_false, not_true_eq_false, not_false_eq_true, reduceIte]
theorem m_allFeuds {v : SV} {a : AS} (R : RM (v.2 0) a) (W : WF a) : f_X13_allFeuds v = some (sm (fdN a) 12 / 2) := by
  unfold f_X13_allFeuds sm
  refine lz2_acc0 (K := fun b => some (b / 2)) (fun j b => b + fdN a j) (N := 12) ?_ ?_ (by omega) 0
  · intro self j b hj
    simp (disch := omega) only [f_X13_allFeuds_B4, nI_1, nI_add, nI_mul, nI_leI, nI_ltI, nI_eq, ckI_n, nI_cl, qL2, qL3, qL4, qL5, qL6, qL7, qL8, qL9, qL10, qL11, qL12, nm, bd1_s, bd2_s, bd3_s, bd4_s, m_feudsOf R W hj]
    simp only [show ¬ (12 ≤ j) by omega, Nat.lt_irrefl, Nat.le_refl, if_true, if_false, ite_true, ite_false, not_true_eq_false, not_false_eq_true, reduceIte]
  · intro self b
    simp (disch := omega) only [f_X13_allFeuds_B4, f_X13_allFeuds_K4, nI_1, nI_add, nI_mul, nI_leI, nI_ltI, nI_eq, ckI_n, nI_cl, qL2, qL3, qL4, qL5, qL6, qL7, qL8, qL9, qL10, qL11, qL12, nm, bd1_s, bd2_s, bd3_s, bd4_s]
    simp only [Nat.lt_irrefl, Nat.le_refl, if_true, if_false, ite_true, ite_false, not_true_eq_false, not_false_eq_true, reduceIte]
