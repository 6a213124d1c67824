/-! PURE: the state that both sides tell of; class' row and reference's row of it. -/
/-- plants, tolerances, greetings, today's, lines, cats, numbers (days, given, put, grown, hung) -/
abbrev AS : Type := (Nat → Nat) × (Nat → Nat) × (Nat → Nat → Int32) × (Nat → Int32) × List (Nat × Nat × Nat) × List (Nat × Nat × Int32) × (Nat → Int32)
abbrev aP (a : AS) : Nat → Nat := a.1
abbrev aT (a : AS) : Nat → Nat := a.2.1
abbrev aG (a : AS) : Nat → Nat → Int32 := a.2.2.1
abbrev aD (a : AS) : Nat → Int32 := a.2.2.2.1
abbrev aL (a : AS) : List (Nat × Nat × Nat) := a.2.2.2.2.1
abbrev aC (a : AS) : List (Nat × Nat × Int32) := a.2.2.2.2.2.1
abbrev aN (a : AS) : Nat → Int32 := a.2.2.2.2.2.2
def swS (l : List (Nat × Nat × Int32)) : Int32 := l.foldl (fun s x => s + x.2.2) 0
def RC (h : SV) (a : AS) : Prop := (∀ i, i < 12 → h.2 0 i = nI (aP a i)) ∧ (∀ i, i < 12 → h.2 1 i = nI (aT a i)) ∧ (∀ i j, i < 12 → j < 12 → h.2 5 (i * 12 + j) = aG a i j) ∧ (∀ i, i < 12 → h.2 6 i = aD a i) ∧ h.1 4 = nI (aL a).length ∧ (∀ k x, (aL a)[k]? = some x → h.2 2 k = nI x.1 ∧ h.2 3 k = nI x.2.1 ∧ h.2 4 k = nI x.2.2) ∧ h.1 6 = nI (aC a).length ∧ (∀ k x, (aC a)[k]? = some x → h.2 7 k = nI x.1 ∧ h.2 8 k = nI x.2.1 ∧ h.2 9 k = x.2.2) ∧ h.1 0 = aN a 0 ∧ h.1 1 = aN a 1 ∧ h.1 2 = aN a 2 ∧ h.1 3 = aN a 3 ∧ h.1 5 = aN a 4
def RM (m : Nat → Int32) (a : AS) : Prop := (∀ i, i < 12 → m (10 + i) = nI (aP a i)) ∧ (∀ i, i < 12 → m (22 + i) = nI (aT a i)) ∧ (∀ i j, i < 12 → j < 12 → m (46 + 12 * i + j) = aG a i j) ∧ (∀ i, i < 12 → m (34 + i) = aD a i) ∧ m 0 = nI (aL a).length ∧ (∀ k x, (aL a)[k]? = some x → m (190 + 3 * k) = nI x.1 ∧ m (190 + 3 * k + 1) = nI x.2.1 ∧ m (190 + 3 * k + 2) = nI x.2.2) ∧ m 1 = nI (aC a).length ∧ (∀ k x, (aC a)[k]? = some x → m (208 + 3 * k) = nI x.1 ∧ m (208 + 3 * k + 1) = nI x.2.1 ∧ m (208 + 3 * k + 2) = x.2.2) ∧ m 2 = aN a 0 ∧ m 3 = aN a 1 ∧ m 4 = aN a 2 ∧ m 5 = aN a 3 ∧ m 7 = aN a 4 ∧ m 6 = swS (aC a)
def WF (a : AS) : Prop := (∀ i, i < 12 → aP a i ≤ 9) ∧ (∀ i, i < 12 → aT a i ≤ 9) ∧ (aL a).length ≤ 6 ∧ (∀ x ∈ aL a, x.1 < x.2.1 ∧ x.2.1 < 12 ∧ 1 ≤ x.2.2 ∧ x.2.2 ≤ 9) ∧ ((aL a).map (fun x => (x.1, x.2.1))).Nodup ∧ (aC a).length ≤ 6 ∧ (∀ x ∈ aC a, x.1 < 12 ∧ x.2.1 < 12) ∧ ((aC a).map (fun x => x.1)).Nodup
section RCM
variable {h : SV} {a : AS} {m : Nat → Int32}
theorem rc_p (R : RC h a) {i : Nat} (hi : i < 12) : h.2 0 i = nI (aP a i) := R.1 i hi
theorem rc_t (R : RC h a) {i : Nat} (hi : i < 12) : h.2 1 i = nI (aT a i) := R.2.1 i hi
theorem rc_g (R : RC h a) {i j : Nat} (hi : i < 12) (hj : j < 12) : h.2 5 (i * 12 + j) = aG a i j := R.2.2.1 i j hi hj
theorem rc_d (R : RC h a) {i : Nat} (hi : i < 12) : h.2 6 i = aD a i := R.2.2.2.1 i hi
theorem rc_ln (R : RC h a) : h.1 4 = nI (aL a).length := R.2.2.2.2.1
theorem rc_l (R : RC h a) {k : Nat} {x : Nat × Nat × Nat} (hk : (aL a)[k]? = some x) : h.2 2 k = nI x.1 ∧ h.2 3 k = nI x.2.1 ∧ h.2 4 k = nI x.2.2 := R.2.2.2.2.2.1 k x hk
theorem rc_cn (R : RC h a) : h.1 6 = nI (aC a).length := R.2.2.2.2.2.2.1
theorem rc_c (R : RC h a) {k : Nat} {x : Nat × Nat × Int32} (hk : (aC a)[k]? = some x) : h.2 7 k = nI x.1 ∧ h.2 8 k = nI x.2.1 ∧ h.2 9 k = x.2.2 := R.2.2.2.2.2.2.2.1 k x hk
theorem rc_n (R : RC h a) : h.1 0 = aN a 0 ∧ h.1 1 = aN a 1 ∧ h.1 2 = aN a 2 ∧ h.1 3 = aN a 3 ∧ h.1 5 = aN a 4 := R.2.2.2.2.2.2.2.2
theorem rm_p (R : RM m a) {i : Nat} (hi : i < 12) : m (10 + i) = nI (aP a i) := R.1 i hi
theorem rm_t (R : RM m a) {i : Nat} (hi : i < 12) : m (22 + i) = nI (aT a i) := R.2.1 i hi
theorem rm_g (R : RM m a) {i j : Nat} (hi : i < 12) (hj : j < 12) : m (46 + 12 * i + j) = aG a i j := R.2.2.1 i j hi hj
theorem rm_d (R : RM m a) {i : Nat} (hi : i < 12) : m (34 + i) = aD a i := R.2.2.2.1 i hi
theorem rm_ln (R : RM m a) : m 0 = nI (aL a).length := R.2.2.2.2.1
theorem rm_l (R : RM m a) {k : Nat} {x : Nat × Nat × Nat} (hk : (aL a)[k]? = some x) : m (190 + 3 * k) = nI x.1 ∧ m (190 + 3 * k + 1) = nI x.2.1 ∧ m (190 + 3 * k + 2) = nI x.2.2 := R.2.2.2.2.2.1 k x hk
theorem rm_cn (R : RM m a) : m 1 = nI (aC a).length := R.2.2.2.2.2.2.1
theorem rm_c (R : RM m a) {k : Nat} {x : Nat × Nat × Int32} (hk : (aC a)[k]? = some x) : m (208 + 3 * k) = nI x.1 ∧ m (208 + 3 * k + 1) = nI x.2.1 ∧ m (208 + 3 * k + 2) = x.2.2 := R.2.2.2.2.2.2.2.1 k x hk
theorem rm_n (R : RM m a) : m 2 = aN a 0 ∧ m 3 = aN a 1 ∧ m 4 = aN a 2 ∧ m 5 = aN a 3 ∧ m 7 = aN a 4 ∧ m 6 = swS (aC a) := R.2.2.2.2.2.2.2.2
theorem wf_p (R : WF a) {i : Nat} (hi : i < 12) : aP a i ≤ 9 := R.1 i hi
theorem wf_t (R : WF a) {i : Nat} (hi : i < 12) : aT a i ≤ 9 := R.2.1 i hi
theorem wf_ln (R : WF a) : (aL a).length ≤ 6 := R.2.2.1
theorem wf_l (R : WF a) {k : Nat} {x : Nat × Nat × Nat} (hk : (aL a)[k]? = some x) : x.1 < x.2.1 ∧ x.2.1 < 12 ∧ 1 ≤ x.2.2 ∧ x.2.2 ≤ 9 := R.2.2.2.1 x (List.mem_of_getElem? hk)
theorem wf_cn (R : WF a) : (aC a).length ≤ 6 := R.2.2.2.2.2.1
theorem wf_c (R : WF a) {k : Nat} {x : Nat × Nat × Int32} (hk : (aC a)[k]? = some x) : x.1 < 12 ∧ x.2.1 < 12 := R.2.2.2.2.2.2.1 x (List.mem_of_getElem? hk)
end RCM
theorem ix_lt {α : Type} {l : List α} {k : Nat} {x : α} (h : l[k]? = some x) : k < l.length := (List.getElem?_eq_some_iff.mp h).1
/-- plants in all -/
theorem x_plantSum {h : SV} {a : AS} (R : RC h a) : f_X6_plantSum h = some (nI (smN (aP a) 12)) := by
  rw [← sm_nI]
  unfold f_X6_plantSum sm
  refine lz2_acc0 (K := some) (fun i b => b + nI (aP a i)) (N := 12) ?_ ?_ (by omega) 0
  · intro self i b hi
    simp (disch := omega) only [f_X6_plantSum_B4, nI_1, nI_add, nI_mul, nI_leI, nI_ltI, nI_eq, ckI_n, nI_cl, qL2, qL3, qL4, qL5, qL6, qL7, qL8, qL9, qL10, qL11, qL12, nm, bd1_s, bd2_s, bd3_s, bd4_s, rc_p R hi]
    simp only [show ¬ (12 ≤ i) by omega, Nat.lt_irrefl, Nat.le_refl, if_true, if_false, ite_true, ite_false, not_true_eq_false, not_false_eq_true, reduceIte]
  · intro self b
    simp (disch := omega) only [f_X6_plantSum_B4, f_X6_plantSum_K4, nI_1, nI_add, nI_mul, nI_leI, nI_ltI, nI_eq, ckI_n, nI_cl, qL2, qL3, qL4, qL5, qL6, qL7, qL8, qL9, qL10, qL11, qL12, nm, bd1_s, bd2_s, bd3_s, bd4_s]
    simp only [Nat.lt_irrefl, Nat.le_refl, if_true, if_false, ite_true, ite_false, not_true_eq_false, not_false_eq_true, reduceIte]
theorem m_plants {v : SV} {a : AS} (R : RM (v.2 0) a) {i : Nat} (hi : i < 12) : f_X13_plants (nI i) v = some (nI (aP a i)) := by
  simp (disch := omega) only [f_X13_plants, nI_1, nI_add, nI_mul, nI_leI, nI_ltI, nI_eq, ckI_n, nI_cl, qL2, qL3, qL4, qL5, qL6, qL7, qL8, qL9, qL10, qL11, qL12, nm, bd1_s, bd2_s, bd3_s, bd4_s, rm_p R hi]
theorem m_allPlants {v : SV} {a : AS} (R : RM (v.2 0) a) : f_X13_allPlants v = some (nI (smN (aP a) 12)) := by
  rw [← sm_nI]
  unfold f_X13_allPlants sm
  refine lz2_acc0 (K := some) (fun i b => b + nI (aP a i)) (N := 12) ?_ ?_ (by omega) 0
  · intro self i b hi
    simp (disch := omega) only [f_X13_allPlants_B4, nI_1, nI_add, nI_mul, nI_leI, nI_ltI, nI_eq, ckI_n, nI_cl, qL2, qL3, qL4, qL5, qL6, qL7, qL8, qL9, qL10, qL11, qL12, nm, bd1_s, bd2_s, bd3_s, bd4_s, m_plants R hi]
    simp only [show ¬ (12 ≤ i) by omega, Nat.lt_irrefl, Nat.le_refl, if_true, if_false, ite_true, ite_false, not_true_eq_false, not_false_eq_true, reduceIte]
  · intro self b
    simp (disch := omega) only [f_X13_allPlants_B4, f_X13_allPlants_K4, nI_1, nI_add, nI_mul, nI_leI, nI_ltI, nI_eq, ckI_n, nI_cl, qL2, qL3, qL4, qL5, qL6, qL7, qL8, qL9, qL10, qL11, qL12, nm, bd1_s, bd2_s, bd3_s, bd4_s]
    simp only [Nat.lt_irrefl, Nat.le_refl, if_true, if_false, ite_true, ite_false, not_true_eq_false, not_false_eq_true, reduceIte]
