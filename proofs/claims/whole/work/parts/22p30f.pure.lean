/-! PURE: plants too many, in two ways. -/
def setP (a : AS) (u p : Nat) : AS := (fun i => if i = u then p else aP a i, a.2)
def setT (a : AS) (u p : Nat) : AS := (a.1, fun i => if i = u then p else aT a i, a.2.2)
def setN (a : AS) (k : Nat) (x : Int32) : AS := (a.1, a.2.1, a.2.2.1, a.2.2.2.1, a.2.2.2.2.1, a.2.2.2.2.2.1, fun i => if i = k then x else aN a i)
theorem rcA_p {h : SV} {a : AS} (R : RC h a) {u p : Nat} (hu : u < 12) : RC (pA h 0 (nI u) (nI p)) (setP a u p) := by
  obtain ⟨r1, r2, r3, r4, r5, r6, r7, r8, r9⟩ := R
  refine ⟨fun i hi => ?_, r2, r3, r4, r5, r6, r7, r8, r9⟩
  show upd (h.2 0) (nI u).toNatClampNeg (nI p) i = nI (if i = u then p else aP a i)
  rw [nI_cl (by omega)]; unfold upd
  split
  · rfl
  · exact r1 i hi
theorem rcA_t {h : SV} {a : AS} (R : RC h a) {u p : Nat} (hu : u < 12) : RC (pA h 1 (nI u) (nI p)) (setT a u p) := by
  obtain ⟨r1, r2, r3, r4, r5, r6, r7, r8, r9⟩ := R
  refine ⟨r1, fun i hi => ?_, r3, r4, r5, r6, r7, r8, r9⟩
  show upd (h.2 1) (nI u).toNatClampNeg (nI p) i = nI (if i = u then p else aT a i)
  rw [nI_cl (by omega)]; unfold upd
  split
  · rfl
  · exact r2 i hi
theorem rcF {h : SV} {a : AS} (R : RC h a) {k j : Nat} (hk : (k = 0 ∧ j = 0) ∨ (k = 1 ∧ j = 1) ∨ (k = 2 ∧ j = 2) ∨ (k = 3 ∧ j = 3) ∨ (k = 5 ∧ j = 4)) (x : Int32) : RC (pF h k x) (setN a j x) := by
  obtain ⟨r1, r2, r3, r4, r5, r6, r7, r8, r9, r10, r11, r12, r13⟩ := R
  rcases hk with ⟨rfl, rfl⟩ | ⟨rfl, rfl⟩ | ⟨rfl, rfl⟩ | ⟨rfl, rfl⟩ | ⟨rfl, rfl⟩
  · exact ⟨r1, r2, r3, r4, r5, r6, r7, r8, rfl, r10, r11, r12, r13⟩
  · exact ⟨r1, r2, r3, r4, r5, r6, r7, r8, r9, rfl, r11, r12, r13⟩
  · exact ⟨r1, r2, r3, r4, r5, r6, r7, r8, r9, r10, rfl, r12, r13⟩
  · exact ⟨r1, r2, r3, r4, r5, r6, r7, r8, r9, r10, r11, rfl, r13⟩
  · exact ⟨r1, r2, r3, r4, r5, r6, r7, r8, r9, r10, r11, r12, rfl⟩
theorem wf_setP {a : AS} (W : WF a) {u p : Nat} (hp : p ≤ 9) : WF (setP a u p) := by
  obtain ⟨w1, w2⟩ := W
  refine ⟨fun i hi => ?_, w2⟩
  show (if i = u then p else aP a i) ≤ 9
  split
  · exact hp
  · exact w1 i hi
theorem wf_setT {a : AS} (W : WF a) {u p : Nat} (hp : p ≤ 9) : WF (setT a u p) := by
  obtain ⟨w1, w2, w3⟩ := W
  refine ⟨w1, fun i hi => ?_, w3⟩
  show (if i = u then p else aT a i) ≤ 9
  split
  · exact hp
  · exact w2 i hi
/-- whether the tolerance of lo counts for the balcony hi -/
def adm (a : AS) (lo hi : Nat) : Bool := decide (lo < hi ∧ lo % 4 = hi % 4) && !(hasL a lo hi)
def lsT (a : AS) (u : Nat) : Nat → Nat
  | 0 => 9
  | k + 1 => if adm a k u = true then min (aT a k) (lsT a u k) else lsT a u k
theorem lsT_s (a : AS) (u k : Nat) : lsT a u (k + 1) = if adm a k u = true then min (aT a k) (lsT a u k) else lsT a u k := rfl
theorem lsT_9 (a : AS) (u : Nat) : ∀ k : Nat, lsT a u k ≤ 9 := by
  intro k
  induction k with
  | zero => exact Nat.le_refl 9
  | succ k ih => unfold lsT; split
                 · omega
                 · exact ih
theorem lsT_le {a : AS} {u lo : Nat} (h : adm a lo u = true) : ∀ k : Nat, lo < k → lsT a u k ≤ aT a lo := by
  intro k
  induction k with
  | zero => intro h2; omega
  | succ k ih =>
    intro h2
    unfold lsT
    by_cases c : lo = k
    · subst c; rw [if_pos h]; omega
    · have := ih (by omega)
      split <;> omega
theorem lsT_ge {a : AS} {u p : Nat} (hp : p ≤ 9) : ∀ k : Nat, (∀ lo, lo < k → adm a lo u = true → p ≤ aT a lo) → p ≤ lsT a u k := by
  intro k
  induction k with
  | zero => intro _; exact hp
  | succ k ih =>
    intro h
    have h1 := ih (fun lo hl => h lo (by omega))
    unfold lsT
    split
    · have := h k (by omega) ‹_›; omega
    · exact h1
/-- how many plants of a balcony are too many -/
def exN (a : AS) (u : Nat) : Nat := aP a u - lsT a u 12
theorem tooM_adm {a : AS} {i j : Nat} : (decide (j < i ∧ i % 4 = j % 4) && tooM a j i) = (adm a j i && decide (aT a j < aP a i)) := by
  unfold adm tooM
  by_cases c1 : j < i
  · by_cases c2 : i % 4 = j % 4
    · cases hasL a j i <;> simp [c1, c2]
    · simp [c2, show ¬ j % 4 = i % 4 from fun e => c2 e.symm]
  · simp [c1]
theorem m_excessOf {v : SV} {a : AS} (R : RM (v.2 0) a) (W : WF a) {u : Nat} (h1 : u < 12) : f_X13_excessOf (nI u) v = some (nI (exN a u)) := by
  unfold f_X13_excessOf
  have hp := wf_p W h1
  refine lz2_inv0 (N := 12) (fun k b => b = nI (aP a u - lsT a u k)) (fun x => x = some (nI (exN a u))) ?_ ?_ (by omega) 0 ?_
  · intro self o b ho hb kk
    subst hb
    have ht := wf_t W ho
    have h9 := lsT_9 a u o
    simp (disch := omega) only [f_X13_excessOf_B4, nI_1, nI_add, nI_mul, nI_leI, nI_ltI, nI_eq, ckI_n, nI_cl, qL2, qL3, qL4, qL5, qL6, qL7, qL8, qL9, qL10, qL11, qL12, nm, bd1_s, bd2_s, bd3_s, bd4_s, m_isTooMany R W h1 ho, qsel, m_plants R h1, qL22, rm_t R ho, tooM_adm]
    simp only [show ¬ (12 ≤ o) by omega, Nat.lt_irrefl, Nat.le_refl, if_true, if_false, ite_true, ite_false, not_true_eq_false, not_false_eq_true, reduceIte]
    by_cases c : adm a o u = true
    · by_cases c2 : aT a o < aP a u
      · simp (disch := omega) only [c, c2, decide_true, Bool.and_self, nI_subN, nI_leI, if_true]
        split
        · refine kk _ ?_
          congr 1; rw [lsT_s, if_pos c]; omega
        · refine kk _ ?_
          congr 1; rw [lsT_s, if_pos c]; omega
      · simp only [c, c2, decide_false, Bool.and_false, Bool.false_eq_true, if_false]
        refine kk _ ?_
        congr 1; rw [lsT_s, if_pos c]; omega
    · simp only [c, Bool.false_and, Bool.false_eq_true, if_false]
      refine kk _ ?_
      congr 1; show aP a u - lsT a u o = aP a u - (if adm a o u = true then min (aT a o) (lsT a u o) else lsT a u o); rw [if_neg c]
  · intro self b hb
    subst hb
    simp (disch := omega) only [f_X13_excessOf_B4, f_X13_excessOf_K4, nI_1, nI_add, nI_mul, nI_leI, nI_ltI, nI_eq, ckI_n, nI_cl, qL2, qL3, qL4, qL5, qL6, qL7, qL8, qL9, qL10, qL11, qL12, nm, bd1_s, bd2_s, bd3_s, bd4_s]
    simp only [Nat.lt_irrefl, Nat.le_refl, if_true, if_false, ite_true, ite_false, not_true_eq_false, not_false_eq_true, reduceIte, exN]
  · rw [← nI_0]; congr 1; show 0 = aP a u - 9; omega
theorem m_allExcess {v : SV} {a : AS} (R : RM (v.2 0) a) (W : WF a) : f_X13_allExcess v = some (nI (smN (exN a) 12)) := by
  rw [← sm_nI]
  unfold f_X13_allExcess sm
  refine lz2_acc0 (K := some) (fun j b => b + nI (exN a j)) (N := 12) ?_ ?_ (by omega) 0
  · intro self j b hj
    simp (disch := omega) only [f_X13_allExcess_B4, nI_1, nI_add, nI_mul, nI_leI, nI_ltI, nI_eq, ckI_n, nI_cl, qL2, qL3, qL4, qL5, qL6, qL7, qL8, qL9, qL10, qL11, qL12, nm, bd1_s, bd2_s, bd3_s, bd4_s, m_excessOf R W hj]
    simp only [show ¬ (12 ≤ j) by omega, Nat.lt_irrefl, Nat.le_refl, if_true, if_false, ite_true, ite_false, not_true_eq_false, not_false_eq_true, reduceIte]
  · intro self b
    simp (disch := omega) only [f_X13_allExcess_B4, f_X13_allExcess_K4, nI_1, nI_add, nI_mul, nI_leI, nI_ltI, nI_eq, ckI_n, nI_cl, qL2, qL3, qL4, qL5, qL6, qL7, qL8, qL9, qL10, qL11, qL12, nm, bd1_s, bd2_s, bd3_s, bd4_s]
    simp only [Nat.lt_irrefl, Nat.le_refl, if_true, if_false, ite_true, ite_false, not_true_eq_false, not_false_eq_true, reduceIte]
theorem lz2_u {β ρ : Type} {B : (Int32 → β → Option ρ) → Int32 → β → Option ρ} (a : Int32) (b : β) : lz2 B FU a b = B (lz2 B 599) a b := rfl
theorem lz2_u1 {β ρ : Type} {B : (Int32 → β → Option ρ) → Int32 → β → Option ρ} (a : Int32) (b : β) : lz2 B 599 a b = B (lz2 B 598) a b := rfl
theorem lz2_u2 {β ρ : Type} {B : (Int32 → β → Option ρ) → Int32 → β → Option ρ} (a : Int32) (b : β) : lz2 B 598 a b = B (lz2 B 597) a b := rfl
theorem q_neg (x : Int32) : x + (-4) = x - nI 4 := by rw [Int32.sub_eq_add_neg]; rfl
theorem q_lt0 {w : Nat} (h : w < 4) : nI w - nI 4 < 0 := by
  have : ∀ w : Nat, w < 4 → nI w - nI 4 < 0 := by decide +kernel
  exact this w h
/-- one step of the least tolerance below -/
theorem x_leastStep {h : SV} {a : AS} (R : RC h a) (W : WF a) {u lo : Nat} (h1 : u < 12) (h2 : lo < u) (self : Int32 → Int32 → Option Int32) {l : Nat} (hl : l ≤ 9) : f_X3_leastToleranceBelow_B7 (nI u) h self (nI lo) (nI l) = self (nI lo - nI 4) (nI (if hasL a lo u = true then l else min l (aT a lo))) := by
  have ht := wf_t W (show lo < 12 by omega)
  have h0 : ¬ nI lo < 0 := nI_pos (by omega)
  simp (disch := omega) only [f_X3_leastToleranceBelow_B7, if_neg h0, nm, bd1_s, bd2_s, bd3_s, bd4_s, x_between R W (show lo < 12 by omega) h1, ifc (lnB_ge W), q_neg, show min lo u = lo by omega, show max lo u = u by omega, nI_1, nI_add, nI_mul, nI_leI, nI_ltI, nI_eq, ckI_n, nI_cl, qL2, qL3, qL4, qL5, qL6, qL7, qL8, qL9, qL10, qL11, qL12, rc_t R (show lo < 12 by omega), q_minN]
  cases hasL a lo u
  · simp only [Bool.false_eq_true, if_false, Int32.sub_eq_add_neg]
  · simp only [if_true, Int32.sub_eq_add_neg]
theorem x_leastEnd {h : SV} {u : Nat} (self : Int32 → Int32 → Option Int32) {w : Nat} (hw : w < 4) (l : Int32) : f_X3_leastToleranceBelow_B7 (nI u) h self (nI w - nI 4) l = some l := by
  simp only [f_X3_leastToleranceBelow_B7, if_pos (q_lt0 hw), f_X3_leastToleranceBelow_K7]
theorem x_least {h : SV} {a : AS} (R : RC h a) (W : WF a) {u : Nat} (h1 : u < 12) : f_X3_leastToleranceBelow (nI u) h = some (nI (lsT a u 12)) := by
  unfold f_X3_leastToleranceBelow
  rw [lz2_u, qL4, qL9]
  have hT : ∀ k : Nat, k < 12 → aT a k ≤ 9 := fun k hk => wf_t W hk
  rcases (show u = 0 ∨ u = 1 ∨ u = 2 ∨ u = 3 ∨ u = 4 ∨ u = 5 ∨ u = 6 ∨ u = 7 ∨ u = 8 ∨ u = 9 ∨ u = 10 ∨ u = 11 by omega) with rfl | rfl | rfl | rfl | rfl | rfl | rfl | rfl | rfl | rfl | rfl | rfl
  · rw [x_leastEnd _ (by decide)]
    simp only [lsT, adm, Nat.reduceLT, Nat.reduceMod, Nat.reduceEqDiff, Nat.reduceSub, and_true, and_false, true_and, false_and, decide_true, decide_false, Bool.true_and, Bool.false_and, Bool.false_eq_true, if_false]
  · rw [x_leastEnd _ (by decide)]
    simp only [lsT, adm, Nat.reduceLT, Nat.reduceMod, Nat.reduceEqDiff, Nat.reduceSub, and_true, and_false, true_and, false_and, decide_true, decide_false, Bool.true_and, Bool.false_and, Bool.false_eq_true, if_false]
  · rw [x_leastEnd _ (by decide)]
    simp only [lsT, adm, Nat.reduceLT, Nat.reduceMod, Nat.reduceEqDiff, Nat.reduceSub, and_true, and_false, true_and, false_and, decide_true, decide_false, Bool.true_and, Bool.false_and, Bool.false_eq_true, if_false]
  · rw [x_leastEnd _ (by decide)]
    simp only [lsT, adm, Nat.reduceLT, Nat.reduceMod, Nat.reduceEqDiff, Nat.reduceSub, and_true, and_false, true_and, false_and, decide_true, decide_false, Bool.true_and, Bool.false_and, Bool.false_eq_true, if_false]
  · rw [nI_subN (by decide), x_leastStep R W (by decide) (by decide) _ (by decide), lz2_u1, x_leastEnd _ (by decide)]
    simp only [lsT, adm, Nat.reduceLT, Nat.reduceMod, Nat.reduceEqDiff, Nat.reduceSub, and_true, and_false, true_and, false_and, decide_true, decide_false, Bool.true_and, Bool.false_and, Bool.false_eq_true, if_false]
    have k1 := hT 0 (by decide)
    cases hasL a 0 4 <;> simp <;> (congr 1; omega)
  · rw [nI_subN (by decide), x_leastStep R W (by decide) (by decide) _ (by decide), lz2_u1, x_leastEnd _ (by decide)]
    simp only [lsT, adm, Nat.reduceLT, Nat.reduceMod, Nat.reduceEqDiff, Nat.reduceSub, and_true, and_false, true_and, false_and, decide_true, decide_false, Bool.true_and, Bool.false_and, Bool.false_eq_true, if_false]
    have k1 := hT 1 (by decide)
    cases hasL a 1 5 <;> simp <;> (congr 1; omega)
  · rw [nI_subN (by decide), x_leastStep R W (by decide) (by decide) _ (by decide), lz2_u1, x_leastEnd _ (by decide)]
    simp only [lsT, adm, Nat.reduceLT, Nat.reduceMod, Nat.reduceEqDiff, Nat.reduceSub, and_true, and_false, true_and, false_and, decide_true, decide_false, Bool.true_and, Bool.false_and, Bool.false_eq_true, if_false]
    have k1 := hT 2 (by decide)
    cases hasL a 2 6 <;> simp <;> (congr 1; omega)
  · rw [nI_subN (by decide), x_leastStep R W (by decide) (by decide) _ (by decide), lz2_u1, x_leastEnd _ (by decide)]
    simp only [lsT, adm, Nat.reduceLT, Nat.reduceMod, Nat.reduceEqDiff, Nat.reduceSub, and_true, and_false, true_and, false_and, decide_true, decide_false, Bool.true_and, Bool.false_and, Bool.false_eq_true, if_false]
    have k1 := hT 3 (by decide)
    cases hasL a 3 7 <;> simp <;> (congr 1; omega)
  · rw [nI_subN (by decide), x_leastStep R W (by decide) (by decide) _ (by decide), nI_subN (by decide), lz2_u1, x_leastStep R W (by decide) (by decide) _ (by have := hT 4 (by decide); split <;> omega), lz2_u2, x_leastEnd _ (by decide)]
    simp only [lsT, adm, Nat.reduceLT, Nat.reduceMod, Nat.reduceEqDiff, Nat.reduceSub, and_true, and_false, true_and, false_and, decide_true, decide_false, Bool.true_and, Bool.false_and, Bool.false_eq_true, if_false]
    have k1 := hT 4 (by decide)
    have k2 := hT 0 (by decide)
    cases hasL a 4 8 <;> cases hasL a 0 8 <;> simp <;> (congr 1; omega)
  · rw [nI_subN (by decide), x_leastStep R W (by decide) (by decide) _ (by decide), nI_subN (by decide), lz2_u1, x_leastStep R W (by decide) (by decide) _ (by have := hT 5 (by decide); split <;> omega), lz2_u2, x_leastEnd _ (by decide)]
    simp only [lsT, adm, Nat.reduceLT, Nat.reduceMod, Nat.reduceEqDiff, Nat.reduceSub, and_true, and_false, true_and, false_and, decide_true, decide_false, Bool.true_and, Bool.false_and, Bool.false_eq_true, if_false]
    have k1 := hT 5 (by decide)
    have k2 := hT 1 (by decide)
    cases hasL a 5 9 <;> cases hasL a 1 9 <;> simp <;> (congr 1; omega)
  · rw [nI_subN (by decide), x_leastStep R W (by decide) (by decide) _ (by decide), nI_subN (by decide), lz2_u1, x_leastStep R W (by decide) (by decide) _ (by have := hT 6 (by decide); split <;> omega), lz2_u2, x_leastEnd _ (by decide)]
    simp only [lsT, adm, Nat.reduceLT, Nat.reduceMod, Nat.reduceEqDiff, Nat.reduceSub, and_true, and_false, true_and, false_and, decide_true, decide_false, Bool.true_and, Bool.false_and, Bool.false_eq_true, if_false]
    have k1 := hT 6 (by decide)
    have k2 := hT 2 (by decide)
    cases hasL a 6 10 <;> cases hasL a 2 10 <;> simp <;> (congr 1; omega)
  · rw [nI_subN (by decide), x_leastStep R W (by decide) (by decide) _ (by decide), nI_subN (by decide), lz2_u1, x_leastStep R W (by decide) (by decide) _ (by have := hT 7 (by decide); split <;> omega), lz2_u2, x_leastEnd _ (by decide)]
    simp only [lsT, adm, Nat.reduceLT, Nat.reduceMod, Nat.reduceEqDiff, Nat.reduceSub, and_true, and_false, true_and, false_and, decide_true, decide_false, Bool.true_and, Bool.false_and, Bool.false_eq_true, if_false]
    have k1 := hT 7 (by decide)
    have k2 := hT 3 (by decide)
    cases hasL a 7 11 <;> cases hasL a 3 11 <;> simp <;> (congr 1; omega)
theorem q_pos {p l : Nat} (h1 : p ≤ 9) (h2 : l ≤ 9) : (if 0 < nI p - nI l then nI p - nI l else 0) = nI (p - l) := by
  have : ∀ p : Nat, p < 10 → ∀ l : Nat, l < 10 → (if 0 < nI p - nI l then nI p - nI l else 0) = nI (p - l) := by decide +kernel
  exact this p (by omega) l (by omega)
theorem x_excess {h : SV} {a : AS} (R : RC h a) (W : WF a) : f_X3_excessByTolerance h = some (nI (smN (exN a) 12)) := by
  rw [← sm_nI]
  unfold f_X3_excessByTolerance sm
  refine lz2_acc0 (K := some) (fun j b => b + nI (exN a j)) (N := 12) ?_ ?_ (by omega) 0
  · intro self j b hj
    have hp := wf_p W hj
    have hl := lsT_9 a j 12
    simp (disch := omega) only [f_X3_excessByTolerance_B4, nI_1, nI_add, nI_mul, nI_leI, nI_ltI, nI_eq, ckI_n, nI_cl, qL2, qL3, qL4, qL5, qL6, qL7, qL8, qL9, qL10, qL11, qL12, nm, bd1_s, bd2_s, bd3_s, bd4_s, x_least R W hj, rc_p R hj, q_pos]
    simp only [show ¬ (12 ≤ j) by omega, Nat.lt_irrefl, Nat.le_refl, if_true, if_false, ite_true, ite_false, not_true_eq_false, not_false_eq_true, reduceIte, exN]
  · intro self b
    simp (disch := omega) only [f_X3_excessByTolerance_B4, f_X3_excessByTolerance_K4, nI_1, nI_add, nI_mul, nI_leI, nI_ltI, nI_eq, ckI_n, nI_cl, qL2, qL3, qL4, qL5, qL6, qL7, qL8, qL9, qL10, qL11, qL12, nm, bd1_s, bd2_s, bd3_s, bd4_s]
    simp only [Nat.lt_irrefl, Nat.le_refl, if_true, if_false, ite_true, ite_false, not_true_eq_false, not_false_eq_true, reduceIte]
/-- what the search for the first too rich finds -/
theorem x_firstTooRich {h : SV} {a : AS} (R : RC h a) (W : WF a) : (∃ u lo : Nat, u < 12 ∧ lo < u ∧ lo % 4 = u % 4 ∧ tooM a lo u = true ∧ f_X3_firstTooRich h = some (nI u)) ∨ (f_X3_firstTooRich h = some (-1) ∧ ∀ lo u : Nat, lo < u → u < 12 → lo % 4 = u % 4 → tooM a lo u = false) := by
  unfold f_X3_firstTooRich
  refine lz1_inv0 (N := 12) (fun i => ∀ lo u : Nat, lo < i → lo < u → u < 12 → lo % 4 = u % 4 → tooM a lo u = false) (fun x => (∃ u lo : Nat, u < 12 ∧ lo < u ∧ lo % 4 = u % 4 ∧ tooM a lo u = true ∧ x = some (nI u)) ∨ (x = some (-1) ∧ ∀ lo u : Nat, lo < u → u < 12 → lo % 4 = u % 4 → tooM a lo u = false)) ?_ ?_ (by omega) ?_
  · intro self i hi hI kk
    simp (disch := omega) only [f_X3_firstTooRich_B2, nI_1, nI_add, nI_mul, nI_leI, nI_ltI, nI_eq, ckI_n, nI_cl, qL2, qL3, qL4, qL5, qL6, qL7, qL8, qL9, qL10, qL11, qL12, nm, bd1_s, bd2_s, bd3_s, bd4_s]
    simp only [show ¬ (12 ≤ i) by omega, Nat.lt_irrefl, Nat.le_refl, if_true, if_false, ite_true, ite_false, not_true_eq_false, not_false_eq_true, reduceIte]
    have e0 : i + 4 = i + 4 + 4 * 0 := by omega
    rw [e0]
    refine lz1_invX (fun k => nI (i + 4 + 4 * k)) (N := (11 - i) / 4) (fun k => ∀ j, j < k → tooM a i (i + 4 + 4 * j) = false) (fun x => (∃ u lo : Nat, u < 12 ∧ lo < u ∧ lo % 4 = u % 4 ∧ tooM a lo u = true ∧ x = some (nI u)) ∨ (x = some (-1) ∧ ∀ lo u : Nat, lo < u → u < 12 → lo % 4 = u % 4 → tooM a lo u = false)) ?_ ?_ ((11 - i) / 4) FU 0 (by omega) (by unfold FU; omega) (fun j hj => by omega)
    · intro self2 k hk hK kk2
      have hh : i + 4 + 4 * k < 12 := by omega
      simp (disch := omega) only [f_X3_firstTooRich_B12, nI_1, nI_add, nI_mul, nI_leI, nI_ltI, nI_eq, ckI_n, nI_cl, qL2, qL3, qL4, qL5, qL6, qL7, qL8, qL9, qL10, qL11, qL12, nm, bd1_s, bd2_s, bd3_s, bd4_s, x_isFeud R W hi hh, qsel]
      simp only [show ¬ (12 ≤ i + 4 + 4 * k) by omega, Nat.lt_irrefl, Nat.le_refl, if_true, if_false, ite_true, ite_false, not_true_eq_false, not_false_eq_true, reduceIte]
      have hfe : feB a i (i + 4 + 4 * k) = tooM a i (i + 4 + 4 * k) := by
        rw [feB_lt (by omega), decide_eq_true (show i % 4 = (i + 4 + 4 * k) % 4 by omega), Bool.true_and]
      rw [hfe, show i + 4 + 4 * k + 4 = i + 4 + 4 * (k + 1) by omega]
      by_cases c : tooM a i (i + 4 + 4 * k) = true
      · rw [if_pos c]; exact Or.inl ⟨i + 4 + 4 * k, i, hh, by omega, by omega, c, rfl⟩
      · rw [if_neg c]
        refine kk2 (fun j hj => ?_)
        rcases Nat.lt_succ_iff_lt_or_eq.mp hj with h | h
        · exact hK j h
        · subst h; simpa using c
    · intro self2 hK
      simp (disch := omega) only [f_X3_firstTooRich_B12, f_X3_firstTooRich_K12, nI_1, nI_add, nI_mul, nI_leI, nI_ltI, nI_eq, ckI_n, nI_cl, qL2, qL3, qL4, qL5, qL6, qL7, qL8, qL9, qL10, qL11, qL12, nm, bd1_s, bd2_s, bd3_s, bd4_s]
      simp only [show 12 ≤ i + 4 + 4 * ((11 - i) / 4) by omega, Nat.lt_irrefl, Nat.le_refl, if_true, if_false, ite_true, ite_false, not_true_eq_false, not_false_eq_true, reduceIte]
      refine kk (fun lo u h1 h2 h3 h4 => ?_)
      rcases Nat.lt_succ_iff_lt_or_eq.mp h1 with h | h
      · exact hI lo u h h2 h3 h4
      · subst h
        have e : u = lo + 4 + 4 * ((u - lo) / 4 - 1) := by omega
        rw [e]
        exact hK _ (by omega)
  · intro self hI
    simp (disch := omega) only [f_X3_firstTooRich_B2, f_X3_firstTooRich_K2, nI_1, nI_add, nI_mul, nI_leI, nI_ltI, nI_eq, ckI_n, nI_cl, qL2, qL3, qL4, qL5, qL6, qL7, qL8, qL9, qL10, qL11, qL12, nm, bd1_s, bd2_s, bd3_s, bd4_s]
    simp only [Nat.lt_irrefl, Nat.le_refl, if_true, if_false, ite_true, ite_false, not_true_eq_false, not_false_eq_true, reduceIte]
    exact Or.inr ⟨trivial, fun lo u h1 h2 h3 => hI lo u (by omega) h1 h2 h3⟩
  · intro lo u h1; omega
theorem lsT_setP (a : AS) (u p w : Nat) : ∀ k : Nat, lsT (setP a u p) w k = lsT a w k := by
  intro k
  induction k with
  | zero => rfl
  | succ k ih => unfold lsT; rw [ih]; rfl
theorem smN_upd {f g : Nat → Nat} {u : Nat} (hg : ∀ i, i ≠ u → f i = g i) (hu : f u + 1 = g u) : ∀ N : Nat, smN f N + (if u < N then 1 else 0) = smN g N := by
  intro N
  induction N with
  | zero => rfl
  | succ n ih =>
    show smN f n + f n + _ = smN g n + g n
    by_cases c : n = u
    · subst c; rw [if_neg (by omega)] at ih; rw [if_pos (by omega)]; omega
    · rw [hg n c]
      by_cases c2 : u < n
      · rw [if_pos c2] at ih; rw [if_pos (by omega)]; omega
      · rw [if_neg c2] at ih; rw [if_neg (by omega)]; omega
theorem x_takeExcess {h : SV} {a : AS} (R : RC h a) (W : WF a) : ∃ w, f_X3_takeExcess h = some (nI (smN (exN a) 12), w) := by
  unfold f_X3_takeExcess
  have hE : smN (exN a) 12 ≤ 12 * 9 := smN_le (fun i hi => by have := wf_p W hi; unfold exN; omega)
  refine lz3_inv0 (N := 108) (fun k b u => ∃ a', RC u a' ∧ WF a' ∧ b = nI k ∧ k + smN (exN a') 12 = smN (exN a) 12) (fun x => ∃ w, x = some (nI (smN (exN a) 12), w)) ?_ ?_ (by omega) 0 h ⟨a, R, W, rfl, by omega⟩
  · intro self k b u hk hI kk
    obtain ⟨a', R', W', rfl, hs⟩ := hI
    have e108 : (108 : Int32) = nI 108 := rfl
    rcases x_firstTooRich R' W' with ⟨t, lo, h1, h2, h3, h4, h5⟩ | ⟨h5, h6⟩
    · have hp := wf_p W' h1
      have had : adm a' lo t = true := by
        unfold tooM at h4
        rw [Bool.and_eq_true] at h4
        unfold adm; rw [h4.2, decide_eq_true (⟨h2, h3⟩ : lo < t ∧ lo % 4 = t % 4)]; rfl
      have hlt : aT a' lo < aP a' t := by
        unfold tooM at h4
        rw [Bool.and_eq_true] at h4
        exact of_decide_eq_true h4.1
      have hle := lsT_le had 12 (by omega)
      simp (disch := omega) only [f_X3_takeExcess_B4, e108, h5, nI_1, nI_add, nI_mul, nI_leI, nI_ltI, nI_eq, ckI_n, nI_cl, qL2, qL3, qL4, qL5, qL6, qL7, qL8, qL9, qL10, qL11, qL12, nm, bd1_s, bd2_s, bd3_s, bd4_s, nI_pos', rc_p R' h1]
      simp only [show ¬ (108 ≤ k) by omega, Nat.lt_irrefl, Nat.le_refl, if_true, if_false, ite_true, ite_false, not_true_eq_false, not_false_eq_true, reduceIte]
      rw [show nI (aP a' t) - 1 = nI (aP a' t - 1) by rw [qL1, nI_subN (by omega)]]
      refine kk _ _ ⟨setP a' t (aP a' t - 1), rcA_p R' h1, wf_setP W' (by omega), rfl, ?_⟩
      have := smN_upd (f := exN (setP a' t (aP a' t - 1))) (g := exN a') (u := t) (fun i hi => by unfold exN; rw [lsT_setP]; show (if i = t then _ else aP a' i) - _ = _; rw [if_neg hi]) (by unfold exN; rw [lsT_setP]; show (if t = t then aP a' t - 1 else _) - _ + 1 = _; rw [if_pos rfl]; omega) 12
      rw [if_pos h1] at this
      omega
    · have h0 : smN (exN a') 12 ≤ 12 * 0 := smN_le (fun u hu => by
        have hp := wf_p W' hu
        have : aP a' u ≤ lsT a' u 12 := lsT_ge hp 12 (fun lo hlo had => by
          unfold adm at had
          rw [Bool.and_eq_true] at had
          have hd := of_decide_eq_true had.1
          have := h6 lo u hd.1 hu hd.2
          unfold tooM at this
          rw [had.2, Bool.and_true] at this
          have := of_decide_eq_false this
          omega)
        unfold exN; omega)
      have hm1 : ¬ (0 : Int32) ≤ -1 := by decide
      simp (disch := omega) only [f_X3_takeExcess_B4, e108, h5, nI_1, nI_add, nI_mul, nI_leI, nI_ltI, nI_eq, ckI_n, nI_cl, qL2, qL3, qL4, qL5, qL6, qL7, qL8, qL9, qL10, qL11, qL12, nm, bd1_s, bd2_s, bd3_s, bd4_s, if_neg hm1]
      simp only [show ¬ (108 ≤ k) by omega, Nat.lt_irrefl, Nat.le_refl, if_true, if_false, ite_true, ite_false, not_true_eq_false, not_false_eq_true, reduceIte]
      exact ⟨u, by congr 3; omega⟩
  · intro self b u hI
    obtain ⟨a', R', W', rfl, hs⟩ := hI
    have e108 : (108 : Int32) = nI 108 := rfl
    simp (disch := omega) only [f_X3_takeExcess_B4, f_X3_takeExcess_K4, e108, nI_1, nI_add, nI_mul, nI_leI, nI_ltI, nI_eq, ckI_n, nI_cl, qL2, qL3, qL4, qL5, qL6, qL7, qL8, qL9, qL10, qL11, qL12, nm, bd1_s, bd2_s, bd3_s, bd4_s]
    simp only [Nat.lt_irrefl, Nat.le_refl, if_true, if_false, ite_true, ite_false, not_true_eq_false, not_false_eq_true, reduceIte]
    exact ⟨u, by congr 3; omega⟩
