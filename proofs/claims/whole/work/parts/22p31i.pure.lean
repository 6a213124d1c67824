/-! PURE: a day. -/
/-- whether a balcony above has more plants -/
def shB (P : Nat → Nat) (i : Nat) : Bool := (decide (i + 4 < 12) && decide (P i < P (i + 4))) || (decide (i + 8 < 12) && decide (P i < P (i + 8)))
def grB (P : Nat → Nat) (i : Nat) : Bool := decide (1 ≤ P i ∧ P i ≤ 8) && !(shB P i)
def dyP (P : Nat → Nat) : Nat → Nat := fun i => P i + bN (grB P i)
def grN (P : Nat → Nat) (n : Nat) : Nat := smN (fun i => bN (grB P i)) n
def dyL (l : List (Nat × Nat × Nat)) : List (Nat × Nat × Nat) := l.filterMap (fun x => if x.2.2 ≤ 1 then none else some (x.1, x.2.1, x.2.2 - 1))
def setPP (a : AS) (P : Nat → Nat) : AS := (P, a.2)
def setDD (a : AS) (d : Nat → Int32) : AS := (a.1, a.2.1, a.2.2.1, d, a.2.2.2.2)
/-- the day after -/
def dyA (a : AS) : AS := setN (setDD (setL (setN (setPP a (dyP (aP a))) 3 (aN a 3 + nI (grN (aP a) 12))) (dyL (aL a))) (fun _ => 0)) 0 (aN a 0 + 1)
theorem shB_no {P : Nat → Nat} {i : Nat} : (∀ k, k < (11 - i) / 4 → P (i + 4 + 4 * k) ≤ P i) → i < 12 → shB P i = false := by
  intro h hi
  unfold shB
  rw [Bool.or_eq_false_iff]
  constructor
  · by_cases c : i + 4 < 12
    · have := h 0 (by omega)
      rw [show i + 4 + 4 * 0 = i + 4 by omega] at this
      simp [c]; omega
    · simp [c]
  · by_cases c : i + 8 < 12
    · have := h 1 (by omega)
      rw [show i + 4 + 4 * 1 = i + 8 by omega] at this
      simp [c]; omega
    · simp [c]
theorem shB_yes {P : Nat → Nat} {i k : Nat} (hk : k < (11 - i) / 4) (h : P i < P (i + 4 + 4 * k)) : shB P i = true := by
  unfold shB
  rcases (show k = 0 ∨ k = 1 by omega) with rfl | rfl
  · rw [show i + 4 + 4 * 0 = i + 4 by omega] at h
    simp [show i + 4 < 12 by omega, h]
  · rw [show i + 4 + 4 * 1 = i + 8 by omega] at h
    simp [show i + 8 < 12 by omega, h]
theorem x_growsBy {P : Nat → Nat} (hP : ∀ i, i < 12 → P i ≤ 9) {f : Nat → Int32} (hf : ∀ i, i < 12 → f i = nI (P i)) {i : Nat} (hi : i < 12) : f_X6_growsBy (nI i) 12 f = some (b2i (grB P i)) := by
  have hp := hP i hi
  have l1 : (nI (P i) < 1) ↔ P i < 1 := by rw [qL1, nI_ltI (by omega) (by omega)]
  have l2 : (nI (P i) < 9) ↔ P i < 9 := by rw [qL9, nI_ltI (by omega) (by omega)]
  simp (disch := omega) only [f_X6_growsBy, ckI_n, nI_cl, hf i hi, l1, l2, qL4, nI_add]
  by_cases c1 : P i < 1
  · rw [if_pos c1]; simp [grB, show ¬ 1 ≤ P i by omega, b2i]
  · rw [if_neg c1]
    by_cases c2 : P i < 9
    · rw [if_pos c2]
      have e0 : i + 4 = i + 4 + 4 * 0 := by omega
      rw [e0]
      refine lz1_invX (fun k => nI (i + 4 + 4 * k)) (N := (11 - i) / 4) (fun k => ∀ j, j < k → P (i + 4 + 4 * j) ≤ P i) (fun x => x = some (b2i (grB P i))) ?_ ?_ ((11 - i) / 4) FU 0 (by omega) (by unfold FU; omega) (fun j hj => by omega)
      · intro self k hk hI kk
        have hh : i + 4 + 4 * k < 12 := by omega
        have hp2 := hP _ hh
        simp (disch := omega) only [f_X6_growsBy_B21, nI_1, nI_add, nI_mul, nI_leI, nI_ltI, nI_eq, ckI_n, nI_cl, qL2, qL3, qL4, qL5, qL6, qL7, qL8, qL9, qL10, qL11, qL12, hf i hi, hf _ hh]
        simp only [show ¬ (12 ≤ i + 4 + 4 * k) by omega, Nat.lt_irrefl, Nat.le_refl, if_true, if_false, ite_true, ite_false, not_true_eq_false, not_false_eq_true, reduceIte]
        by_cases c : P (i + 4 + 4 * k) ≤ P i
        · rw [if_pos c, show i + 4 + 4 * k + 4 = i + 4 + 4 * (k + 1) by omega]
          refine kk (fun j hj => ?_)
          rcases Nat.lt_succ_iff_lt_or_eq.mp hj with q | q
          · exact hI j q
          · subst q; exact c
        · rw [if_neg c]
          have := shB_yes hk (Nat.lt_of_not_le c)
          simp [grB, this, b2i]
      · intro self hI
        simp (disch := omega) only [f_X6_growsBy_B21, f_X6_growsBy_K21, nI_1, nI_add, nI_mul, nI_leI, nI_ltI, nI_eq, ckI_n, nI_cl, qL2, qL3, qL4, qL5, qL6, qL7, qL8, qL9, qL10, qL11, qL12]
        simp only [show 12 ≤ i + 4 + 4 * ((11 - i) / 4) by omega, Nat.lt_irrefl, Nat.le_refl, if_true, if_false, ite_true, ite_false, not_true_eq_false, not_false_eq_true, reduceIte]
        have := shB_no hI hi
        simp [grB, this, b2i, show 1 ≤ P i by omega, show P i ≤ 8 by omega]
    · rw [if_neg c2]; simp [grB, show ¬ P i ≤ 8 by omega, b2i]
theorem m_isShaded {u : SV} {a : AS} (M : RM (u.2 0) a) (W : WF a) {i : Nat} (hi : i < 12) : f_X13_isShaded (nI i) u = some (b2i (shB (aP a) i)) := by
  unfold f_X13_isShaded
  have e0 : nI i + 4 = nI (i + 4 + 4 * 0) := by rw [qL4, nI_add]
  rw [e0]
  refine lz1_invX (fun k => nI (i + 4 + 4 * k)) (N := (11 - i) / 4) (fun k => ∀ j, j < k → aP a (i + 4 + 4 * j) ≤ aP a i) (fun x => x = some (b2i (shB (aP a) i))) ?_ ?_ ((11 - i) / 4) FU 0 (by omega) (by unfold FU; omega) (fun j hj => by omega)
  · intro self k hk hI kk
    have hh : i + 4 + 4 * k < 12 := by omega
    have hp := wf_p W hi
    have hp2 := wf_p W hh
    simp (disch := omega) only [f_X13_isShaded_B4, nI_1, nI_add, nI_mul, nI_leI, nI_ltI, nI_eq, ckI_n, nI_cl, qL2, qL3, qL4, qL5, qL6, qL7, qL8, qL9, qL10, qL11, qL12, nm, bd1_s, bd2_s, bd3_s, bd4_s, m_plants M hi, m_plants M hh]
    simp only [show ¬ (12 ≤ i + 4 + 4 * k) by omega, Nat.lt_irrefl, Nat.le_refl, if_true, if_false, ite_true, ite_false, not_true_eq_false, not_false_eq_true, reduceIte]
    by_cases c : aP a (i + 4 + 4 * k) ≤ aP a i
    · rw [if_pos c, show i + 4 + 4 * k + 4 = i + 4 + 4 * (k + 1) by omega]
      refine kk (fun j hj => ?_)
      rcases Nat.lt_succ_iff_lt_or_eq.mp hj with q | q
      · exact hI j q
      · subst q; exact c
    · rw [if_neg c, shB_yes hk (Nat.lt_of_not_le c)]; rfl
  · intro self hI
    simp (disch := omega) only [f_X13_isShaded_B4, f_X13_isShaded_K4, nI_1, nI_add, nI_mul, nI_leI, nI_ltI, nI_eq, ckI_n, nI_cl, qL2, qL3, qL4, qL5, qL6, qL7, qL8, qL9, qL10, qL11, qL12]
    simp only [show 12 ≤ i + 4 + 4 * ((11 - i) / 4) by omega, Nat.lt_irrefl, Nat.le_refl, if_true, if_false, ite_true, ite_false, not_true_eq_false, not_false_eq_true, reduceIte]
    rw [shB_no hI hi]; rfl
theorem m_growing {u : SV} {a : AS} (M : RM (u.2 0) a) (W : WF a) : ∃ x, f_X13_growing u = some x ∧ ∀ i, i < 12 → ((x >>> (nI i &&& 31)) &&& 1) = b2i (grB (aP a) i) := by
  unfold f_X13_growing
  refine lz2_inv0 (N := 12) (fun k b => ∀ i, i < 32 → bt b i = (decide (i < k) && grB (aP a) i)) (fun y => ∃ x, y = some x ∧ ∀ i, i < 12 → ((x >>> (nI i &&& 31)) &&& 1) = b2i (grB (aP a) i)) ?_ ?_ (by omega) 0 ?_
  · intro self k b hk hI kk
    have hp := wf_p W hk
    have hin : f_X13_in (nI (aP a k)) 1 (nI 8) = some (b2i (decide (1 ≤ aP a k ∧ aP a k ≤ 8))) := by
      rw [q_inR]
      congr 2
      refine decide_eq_decide.mpr ?_
      rw [qL1, nI_ltI (by omega) (by omega), nI_ltI (by omega) (by omega)]; omega
    simp (disch := omega) only [f_X13_growing_B4, nI_1, nI_add, nI_mul, nI_leI, nI_ltI, nI_eq, ckI_n, nI_cl, qL2, qL3, qL4, qL5, qL6, qL7, qL8, qL9, qL10, qL11, qL12, nm, bd1_s, bd2_s, bd3_s, bd4_s, m_plants M hk, hin, qsel, m_isShaded M W hk, Int32.or_zero]
    simp only [show ¬ (12 ≤ k) by omega, Nat.lt_irrefl, Nat.le_refl, if_true, if_false, ite_true, ite_false, not_true_eq_false, not_false_eq_true, reduceIte]
    have no : ∀ i, i < 32 → grB (aP a) k = false → bt b i = (decide (i < k + 1) && grB (aP a) i) := fun i hi hg => by
      rw [hI i hi]
      by_cases c : i = k
      · subst c; rw [hg]; simp
      · congr 1; exact decide_eq_decide.mpr (by omega)
    by_cases c1 : (1 ≤ aP a k ∧ aP a k ≤ 8)
    · rw [if_pos (decide_eq_true c1)]
      cases c2 : shB (aP a) k with
      | true =>
        rw [if_pos rfl]
        exact kk _ (fun i hi => no i hi (by simp [grB, c2]))
      | false =>
        rw [if_neg (by decide)]
        refine kk _ (fun i hi => ?_)
        rw [b_or, hI i hi, bt_sh (by omega) hi]
        by_cases c : i = k
        · subst c; simp [grB, c1, c2]
        · simp only [c, decide_false, Bool.or_false]; congr 1; exact decide_eq_decide.mpr (by omega)
    · rw [if_neg (by simp [c1])]
      exact kk _ (fun i hi => no i hi (by simp [grB, c1]))
  · intro self b hI
    simp (disch := omega) only [f_X13_growing_B4, f_X13_growing_K4, nI_1, nI_add, nI_mul, nI_leI, nI_ltI, nI_eq, ckI_n, nI_cl, qL2, qL3, qL4, qL5, qL6, qL7, qL8, qL9, qL10, qL11, qL12, nm, bd1_s, bd2_s, bd3_s, bd4_s]
    simp only [Nat.lt_irrefl, Nat.le_refl, if_true, if_false, ite_true, ite_false, not_true_eq_false, not_false_eq_true, reduceIte]
    refine ⟨b, rfl, fun i hi => ?_⟩
    have e := hI i (by omega)
    rw [decide_eq_true hi, Bool.true_and] at e
    cases c : grB (aP a) i with
    | true => rw [c] at e; rw [(bit_1 b (by omega)).mpr e]; rfl
    | false => rw [c] at e; rw [(bit_0 b (by omega)).mpr e]; rfl
  · intro i hi; rw [b_0]; simp
theorem wf_PP {a : AS} (W : WF a) : WF (setPP a (dyP (aP a))) := by
  obtain ⟨w1, w2⟩ := W
  refine ⟨fun i hi => ?_, w2⟩
  show aP a i + bN (grB (aP a) i) ≤ 9
  have := w1 i hi
  cases c : grB (aP a) i with
  | false => simp [bN]; exact this
  | true =>
    unfold grB at c
    rw [Bool.and_eq_true] at c
    have := of_decide_eq_true c.1
    simp [bN]; omega
/-- the reference's plants grow -/
theorem m_grows {u : SV} {a : AS} (M : RM (u.2 0) a) (W : WF a) : ∃ u', f_X13_grows u = some (nI (grN (aP a) 12), u') ∧ RM (u'.2 0) (setN (setPP a (dyP (aP a))) 3 (aN a 3 + nI (grN (aP a) 12))) ∧ chR 0 u' u := by
  obtain ⟨x, e, hx⟩ := m_growing M W
  unfold f_X13_grows
  rw [e, bd1_s]
  refine lz3_inv0 (N := 12) (fun (k : Nat) (b : Int32) (w : SV) => b = nI (grN (aP a) k) ∧ (∀ i, i < 12 → w.2 0 (10 + i) = nI (if i < k then dyP (aP a) i else aP a i)) ∧ (∀ j, j < 10 ∨ 22 ≤ j → w.2 0 j = u.2 0 j) ∧ chR 0 w u) (fun (y : Option (Int32 × SV)) => ∃ u', y = some (nI (grN (aP a) 12), u') ∧ RM (u'.2 0) (setN (setPP a (dyP (aP a))) 3 (aN a 3 + nI (grN (aP a) 12))) ∧ chR 0 u' u) ?_ ?_ (by omega) 0 u ⟨rfl, fun i hi => by rw [if_neg (by omega)]; exact rm_p M hi, fun _ _ => rfl, rfl, fun _ _ => rfl⟩
  · intro self k b w hk hI kk
    obtain ⟨rfl, g1, g2, g3⟩ := hI
    have e1 := g1 k hk
    rw [if_neg (by omega)] at e1
    simp (disch := omega) only [f_X13_grows_B9, qL10, nI_1, nI_add, nI_mul, nI_leI, nI_ltI, nI_eq, ckI_n, nI_cl, qL2, qL3, qL4, qL5, qL6, qL7, qL8, qL9, qL10, qL11, qL12, nm, bd1_s, bd2_s, bd3_s, bd4_s, hx k hk, e1]
    simp only [show ¬ (12 ≤ k) by omega, Nat.lt_irrefl, Nat.le_refl, if_true, if_false, ite_true, ite_false, not_true_eq_false, not_false_eq_true, reduceIte]
    rw [b2i_nI, nI_add, nI_add]
    refine kk _ _ ⟨rfl, fun i hi => ?_, fun j hj => ?_, chR_tr chR_pA g3⟩
    · rw [pA0, nI_cl (by omega)]
      by_cases c : i = k
      · subst c; rw [upd_eq, if_pos (by omega)]; rfl
      · rw [upd_ne (by omega), g1 i hi]
        by_cases c2 : i < k
        · rw [if_pos c2, if_pos (by omega)]
        · rw [if_neg c2, if_neg (by omega)]
    · rw [pA0, nI_cl (by omega), upd_ne (by omega)]; exact g2 j hj
  · intro self b w hI
    obtain ⟨rfl, g1, g2, g3⟩ := hI
    simp (disch := omega) only [f_X13_grows_B9, f_X13_grows_K9, nI_1, nI_add, nI_mul, nI_leI, nI_ltI, nI_eq, ckI_n, nI_cl, qL2, qL3, qL4, qL5, qL6, qL7, qL8, qL9, qL10, qL11, qL12, nm, bd1_s, bd2_s, bd3_s, bd4_s, ck240_0, ck240_1, ck240_2, ck240_3, ck240_4, ck240_5, ck240_6, ck240_7, qc0, qc1, qc2, qc3, qc4, qc5, qc6, qc7]
    simp only [Nat.lt_irrefl, Nat.le_refl, if_true, if_false, ite_true, ite_false, not_true_eq_false, not_false_eq_true, reduceIte]
    refine ⟨_, rfl, ?_, chR_tr chR_pA g3⟩
    rw [pA0, nI_cl (by omega), g2 5 (by omega), (rm_n M).2.2.2.1]
    have hW := wf_PP W
    refine rmU_n3 (a := setPP a (dyP (aP a))) ?_ hW
    obtain ⟨r1, r2, r3, r4, r5, r6, r7, r8, r9, r10, r11, r12, r13, r14⟩ := M
    refine ⟨fun i hi => (by rw [g1 i hi, if_pos hi]; rfl), fun i hi => (g2 _ (by omega)).trans (r2 i hi), fun i j hi hj => (g2 _ (by omega)).trans (r3 i j hi hj), fun i hi => (g2 _ (by omega)).trans (r4 i hi), (g2 _ (by omega)).trans r5, fun k x hx => ⟨(g2 _ (by omega)).trans (r6 k x hx).1, (g2 _ (by omega)).trans (r6 k x hx).2.1, (g2 _ (by omega)).trans (r6 k x hx).2.2⟩, (g2 _ (by omega)).trans r7, fun k x hx => ⟨(g2 _ (by omega)).trans (r8 k x hx).1, (g2 _ (by omega)).trans (r8 k x hx).2.1, (g2 _ (by omega)).trans (r8 k x hx).2.2⟩, (g2 _ (by omega)).trans r9, (g2 _ (by omega)).trans r10, (g2 _ (by omega)).trans r11, (g2 _ (by omega)).trans r12, (g2 _ (by omega)).trans r13, (g2 _ (by omega)).trans r14⟩
theorem dyL_take {l : List (Nat × Nat × Nat)} {k : Nat} {x : Nat × Nat × Nat} (hx : l[k]? = some x) : dyL (l.take (k + 1)) = dyL (l.take k) ++ (if x.2.2 ≤ 1 then [] else [(x.1, x.2.1, x.2.2 - 1)]) := by
  unfold dyL
  rw [List.take_add_one, hx, List.filterMap_append]
  congr 1
  show List.filterMap _ [x] = _
  simp only [List.filterMap_cons, List.filterMap_nil]
  split <;> rename_i c <;> split at c <;> rename_i c2 <;> simp_all
theorem dyL_len (l : List (Nat × Nat × Nat)) (k : Nat) : (dyL (l.take k)).length ≤ k := by
  unfold dyL
  exact Nat.le_trans (List.length_filterMap_le _ _) (by rw [List.length_take]; omega)
/-- class' lines pass a day -/
theorem x_passLines {w : SV} {a : AS} (R : RC w a) (W : WF a) : ∃ w', f_X7_passDay w = some w' ∧ RC (mLines w w') (setL a (dyL (aL a))) := by
  have hl := wf_ln W
  unfold f_X7_passDay
  refine lz3_inv0 (N := (aL a).length) (fun (k : Nat) (b : Int32) (u : SV) => b = nI (dyL ((aL a).take k)).length ∧ (∀ t x, (dyL ((aL a).take k))[t]? = some x → u.2 2 t = nI x.1 ∧ u.2 3 t = nI x.2.1 ∧ u.2 4 t = nI x.2.2) ∧ (∀ t x, k ≤ t → (aL a)[t]? = some x → u.2 2 t = nI x.1 ∧ u.2 3 t = nI x.2.1 ∧ u.2 4 t = nI x.2.2) ∧ u.1 = w.1) (fun (y : Option SV) => ∃ w', y = some w' ∧ RC (mLines w w') (setL a (dyL (aL a)))) ?_ ?_ (by omega) 0 w ⟨rfl, fun t x hx => by simp [dyL] at hx, fun t x _ hx => rc_l R hx, rfl⟩
  · intro self k b u hk hI kk
    obtain ⟨rfl, g1, g2, g3⟩ := hI
    obtain ⟨x, hx⟩ : ∃ x, (aL a)[k]? = some x := ⟨_, List.getElem?_eq_getElem hk⟩
    obtain ⟨e1, e2, e3⟩ := g2 k x (Nat.le_refl _) hx
    have hw := wf_l W hx
    have hlen := dyL_len (aL a) k
    have l1 : (nI x.2.2 ≤ 1) ↔ x.2.2 ≤ 1 := by rw [qL1, nI_leI (by omega) (by omega)]
    have e4 : u.1 4 = nI (aL a).length := by rw [g3]; exact rc_ln R
    have hd := dyL_take hx
    simp (disch := omega) only [f_X7_passDay_B4, e4, nI_1, nI_add, nI_mul, nI_leI, nI_ltI, nI_eq, ckI_n, nI_cl, qL2, qL3, qL4, qL5, qL6, qL7, qL8, qL9, qL10, qL11, qL12, nm, bd1_s, bd2_s, bd3_s, bd4_s, e3, l1]
    simp only [show ¬ ((aL a).length ≤ k) by omega, Nat.lt_irrefl, Nat.le_refl, if_true, if_false, ite_true, ite_false, not_true_eq_false, not_false_eq_true, reduceIte]
    by_cases c : x.2.2 ≤ 1
    · rw [if_pos c]
      rw [if_pos c, List.append_nil] at hd
      exact kk _ _ ⟨by rw [hd], by rw [hd]; exact g1, fun t y ht hy => g2 t y (by omega) hy, g3⟩
    · rw [if_neg c]
      rw [if_neg c] at hd
      have q1 : (pA u 2 (nI (dyL ((aL a).take k)).length) (nI x.1)).2 3 k = nI x.2.1 := e2
      have q2 : (pA (pA u 2 (nI (dyL ((aL a).take k)).length) (nI x.1)) 3 (nI (dyL ((aL a).take k)).length) (nI x.2.1)).2 4 k = nI x.2.2 := e3
      have q3 : nI x.2.2 - 1 = nI (x.2.2 - 1) := by rw [qL1, nI_subN (by omega)]
      simp only [q1, q2, q3, e1]
      refine kk _ _ ⟨by rw [hd, List.length_append, List.length_singleton], fun t y hy => ?_, fun t y ht hy => ?_, g3⟩
      · show upd (u.2 2) (nI (dyL ((aL a).take k)).length).toNatClampNeg (nI x.1) t = nI y.1 ∧ upd (u.2 3) (nI (dyL ((aL a).take k)).length).toNatClampNeg (nI x.2.1) t = nI y.2.1 ∧ upd (u.2 4) (nI (dyL ((aL a).take k)).length).toNatClampNeg (nI (x.2.2 - 1)) t = nI y.2.2
        rw [nI_cl (by omega)]
        rw [hd] at hy
        have ht := ix_lt hy
        rw [List.length_append, List.length_singleton] at ht
        by_cases c2 : t < (dyL ((aL a).take k)).length
        · rw [List.getElem?_append_left c2] at hy
          rw [upd_ne (by omega), upd_ne (by omega), upd_ne (by omega)]; exact g1 t y hy
        · have c3 : t = (dyL ((aL a).take k)).length := by omega
          rw [c3, List.getElem?_append_right (Nat.le_refl _), Nat.sub_self] at hy
          have hy : (x.1, x.2.1, x.2.2 - 1) = y := Option.some.inj hy
          subst hy
          rw [c3, upd_eq, upd_eq, upd_eq]; exact ⟨rfl, rfl, rfl⟩
      · show upd (u.2 2) (nI (dyL ((aL a).take k)).length).toNatClampNeg (nI x.1) t = nI y.1 ∧ upd (u.2 3) (nI (dyL ((aL a).take k)).length).toNatClampNeg (nI x.2.1) t = nI y.2.1 ∧ upd (u.2 4) (nI (dyL ((aL a).take k)).length).toNatClampNeg (nI (x.2.2 - 1)) t = nI y.2.2
        rw [nI_cl (by omega), upd_ne (by omega), upd_ne (by omega), upd_ne (by omega)]
        exact g2 t y (by omega) hy
  · intro self b u hI
    obtain ⟨rfl, g1, g2, g3⟩ := hI
    have e4 : u.1 4 = nI (aL a).length := by rw [g3]; exact rc_ln R
    simp (disch := omega) only [f_X7_passDay_B4, f_X7_passDay_K4, e4, nI_1, nI_add, nI_mul, nI_leI, nI_ltI, nI_eq, ckI_n, nI_cl, qL2, qL3, qL4, qL5, qL6, qL7, qL8, qL9, qL10, qL11, qL12, nm, bd1_s, bd2_s, bd3_s, bd4_s]
    simp only [Nat.lt_irrefl, Nat.le_refl, if_true, if_false, ite_true, ite_false, not_true_eq_false, not_false_eq_true, reduceIte]
    rw [List.take_length] at g1
    rw [List.take_length]
    obtain ⟨r1, r2, r3, r4, r5, r6, r7, r8, r9, r10, r11, r12, r13⟩ := R
    refine ⟨_, rfl, r1, r2, r3, r4, rfl, fun t x hx => g1 t x hx, r7, r8, r9, r10, r11, r12, ?_⟩
    show u.1 5 = _
    rw [g3]; exact r13
theorem wf_dyL {a : AS} (W : WF a) : WF (setL a (dyL (aL a))) := by
  obtain ⟨w1, w2, w3, w4, w5, w6⟩ := W
  have hm : ∀ y ∈ dyL (aL a), ∃ x ∈ aL a, y = (x.1, x.2.1, x.2.2 - 1) ∧ ¬ x.2.2 ≤ 1 := by
    intro y hy
    obtain ⟨x, hx, e⟩ := List.mem_filterMap.mp hy
    split at e
    · cases e
    · exact ⟨x, hx, (Option.some.inj e).symm, ‹_›⟩
  refine ⟨w1, w2, ?_, ?_, ?_, w6⟩
  · show (dyL (aL a)).length ≤ 6
    exact Nat.le_trans (List.length_filterMap_le _ _) w3
  · intro y hy
    obtain ⟨x, hx, rfl, h1⟩ := hm y hy
    have := w4 x hx
    exact ⟨this.1, this.2.1, by show 1 ≤ x.2.2 - 1; omega, by show x.2.2 - 1 ≤ 9; omega⟩
  · show ((dyL (aL a)).map (fun x => (x.1, x.2.1))).Nodup
    have e : (dyL (aL a)).map (fun x => (x.1, x.2.1)) = ((aL a).filter (fun x => !(decide (x.2.2 ≤ 1)))).map (fun x => (x.1, x.2.1)) := by
      unfold dyL
      generalize aL a = l
      induction l with
      | nil => rfl
      | cons x l ih =>
        by_cases c : x.2.2 ≤ 1
        · simp [List.filterMap_cons, List.filter_cons, c]; simpa using ih
        · simp [List.filterMap_cons, List.filter_cons, c]; simpa using ih
    rw [e]
    exact List.Sublist.nodup (List.Sublist.map _ List.filter_sublist) w5
