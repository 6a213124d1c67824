/-! PURE: what is read of the rows: greetings, cats, lines, balconies. -/
theorem lz2_lst {α β ρ : Type} {B : (Int32 → β → Option ρ) → Int32 → β → Option ρ} {K : β → Option ρ} (f : β → α → β) (l : List α) (hs : ∀ (self : Int32 → β → Option ρ) (k : Nat) (x : α) (b : β), l[k]? = some x → B self (nI k) b = self (nI (k + 1)) (f b x)) (hf : ∀ (self : Int32 → β → Option ρ) (b : β), B self (nI l.length) b = K b) (hl : l.length < 600) (b : β) : lz2 B FU 0 b = K (l.foldl f b) := by
  have h : ∀ (m : List α) (i n : Nat) (b : β), l.drop i = m → i ≤ l.length → l.length < n + i → lz2 B n (nI i) b = K (m.foldl f b) := by
    intro m
    induction m with
    | nil =>
      intro i n b hd hi hn
      have hi2 : i = l.length := by have := List.drop_eq_nil_iff.mp hd; omega
      cases n with
      | zero => omega
      | succ n => subst hi2; exact hf _ b
    | cons x m ih =>
      intro i n b hd hi hn
      have hlt : i < l.length := by
        rcases Nat.lt_or_ge i l.length with h | h
        · exact h
        · rw [List.drop_eq_nil_of_le h] at hd; cases hd
      have hx : l[i]? = some x := by
        have h2 := congrArg (fun z => z[0]?) hd
        simpa [List.getElem?_drop] using h2
      cases n with
      | zero => omega
      | succ n =>
        show B (lz2 B n) (nI i) b = K (m.foldl f (f b x))
        rw [hs _ i x b hx]
        refine ih (i + 1) n _ ?_ (by omega) (by omega)
        have h2 := congrArg (List.drop 1) hd
        simpa [List.drop_drop, Nat.add_comm] using h2
  rw [← nI_0]
  exact h l 0 FU b rfl (by omega) (by unfold FU; omega)
theorem q_bal (x : Int32) : (∃ i : Nat, i < 12 ∧ x = nI i) ∨ (x < 0 ∨ 12 ≤ x) := by
  by_cases h : x < 0
  · exact Or.inr (Or.inl h)
  · by_cases h2 : 12 ≤ x
    · exact Or.inr (Or.inr h2)
    · obtain ⟨j, hj, rfl⟩ := nI_of h
      rw [qL12, nI_leI (by omega) hj] at h2
      exact Or.inl ⟨j, by omega, rfl⟩
theorem x_isBal {i : Nat} (h : i < 12) : f_X12_isBalcony (nI i) = some 1 := by
  have : ¬ nI i < 0 := nI_pos (by omega)
  simp (disch := omega) only [f_X12_isBalcony, nI_1, nI_add, nI_mul, nI_leI, nI_ltI, nI_eq, ckI_n, nI_cl, qL2, qL3, qL4, qL5, qL6, qL7, qL8, qL9, qL10, qL11, qL12, this, show ¬ 12 ≤ i by omega, Nat.lt_irrefl, Nat.le_refl, if_true, if_false, ite_true, ite_false, not_true_eq_false, not_false_eq_true, reduceIte]
theorem x_isBalN {x : Int32} (h : x < 0 ∨ 12 ≤ x) : f_X12_isBalcony x = some 0 := by
  unfold f_X12_isBalcony
  split
  · rfl
  · rw [if_pos (h.resolve_left ‹_›)]
theorem x_areBal {i j : Nat} (h : i < 12) (h2 : j < 12) : f_X12_areBalconies (nI i) (nI j) = some 1 := by
  simp [f_X12_areBalconies, x_isBal h, x_isBal h2, bd1_s]
theorem x_areBalN {x y : Int32} (h : (x < 0 ∨ 12 ≤ x) ∨ (y < 0 ∨ 12 ≤ y)) : f_X12_areBalconies x y = some 0 := by
  rcases h with h | h
  · simp [f_X12_areBalconies, x_isBalN h, bd1_s]
  · rcases q_bal x with ⟨i, hi, rfl⟩ | h1
    · simp [f_X12_areBalconies, x_isBal hi, x_isBalN h, bd1_s]
    · simp [f_X12_areBalconies, x_isBalN h1, bd1_s]
theorem m_isBal {i : Nat} (h : i < 12) : f_X13_isBalcony (nI i) = some 1 := by
  have : ¬ nI i < 0 := nI_pos (by omega)
  simp (disch := omega) only [f_X13_isBalcony, f_X13_in, nI_1, nI_add, nI_mul, nI_leI, nI_ltI, nI_eq, ckI_n, nI_cl, qL2, qL3, qL4, qL5, qL6, qL7, qL8, qL9, qL10, qL11, qL12, this, show ¬ 11 < i by omega, Nat.lt_irrefl, Nat.le_refl, if_true, if_false, ite_true, ite_false, not_true_eq_false, not_false_eq_true, reduceIte, bd1_s]; rfl
theorem m_isBalN {x : Int32} (h : x < 0 ∨ 12 ≤ x) : f_X13_isBalcony x = some 0 := by
  unfold f_X13_isBalcony f_X13_in
  by_cases h1 : x < 0
  · rw [if_pos h1]; rfl
  · rw [if_neg h1, if_pos]
    · rfl
    · have h2 := h.resolve_left h1
      rw [Int32.le_iff_toInt_le] at h2; rw [Int32.lt_iff_toInt_lt]
      have e1 : (12 : Int32).toInt = 12 := rfl
      have e2 : (11 : Int32).toInt = 11 := rfl
      omega
theorem m_areTwo {i j : Nat} (h : i < 12) (h2 : j < 12) : f_X13_areTwo (nI i) (nI j) = some 1 := by
  simp [f_X13_areTwo, m_isBal h, m_isBal h2, bd1_s]
theorem m_areTwoN {x y : Int32} (h : (x < 0 ∨ 12 ≤ x) ∨ (y < 0 ∨ 12 ≤ y)) : f_X13_areTwo x y = some 0 := by
  rcases h with h | h
  · simp [f_X13_areTwo, m_isBalN h, bd1_s]
  · rcases q_bal x with ⟨i, hi, rfl⟩ | h1
    · simp [f_X13_areTwo, m_isBal hi, m_isBalN h, bd1_s]
    · simp [f_X13_areTwo, m_isBalN h1, bd1_s]
theorem q_two (x y : Int32) : (∃ i j : Nat, i < 12 ∧ j < 12 ∧ x = nI i ∧ y = nI j) ∨ ((x < 0 ∨ 12 ≤ x) ∨ (y < 0 ∨ 12 ≤ y)) := by
  rcases q_bal x with ⟨i, hi, rfl⟩ | h1
  · rcases q_bal y with ⟨j, hj, rfl⟩ | h2
    · exact Or.inl ⟨i, j, hi, hj, rfl, rfl⟩
    · exact Or.inr (Or.inr h2)
  · exact Or.inr (Or.inl h1)
theorem x_countOf {h : SV} {a : AS} (R : RC h a) {i j : Nat} (h1 : i < 12) (h2 : j < 12) : f_X4_countOf (nI i) (nI j) h = some (aG a i j) := by
  simp (disch := omega) only [f_X4_countOf, nI_1, nI_add, nI_mul, nI_leI, nI_ltI, nI_eq, ckI_n, nI_cl, qL2, qL3, qL4, qL5, qL6, qL7, qL8, qL9, qL10, qL11, qL12, rc_g R h1 h2]
theorem m_greetings {v : SV} {a : AS} (R : RM (v.2 0) a) {i j : Nat} (h1 : i < 12) (h2 : j < 12) : f_X13_greetings (nI i) (nI j) v = some (aG a i j) := by
  simp (disch := omega) only [f_X13_greetings, qL46, nI_1, nI_add, nI_mul, nI_leI, nI_ltI, nI_eq, ckI_n, nI_cl, qL2, qL3, qL4, qL5, qL6, qL7, qL8, qL9, qL10, qL11, qL12, rm_g R h1 h2]
def gvN (a : AS) (i : Nat) : Int32 := sm (fun j => aG a i j) 12
def gtN (a : AS) (i : Nat) : Int32 := sm (fun j => aG a j i) 12
theorem x_givenBy {h : SV} {a : AS} (R : RC h a) {i : Nat} (h1 : i < 12) : f_X4_givenBy (nI i) h = some (gvN a i) := by
  unfold f_X4_givenBy gvN sm
  refine lz2_acc0 (K := some) (fun j b => b + aG a i j) (N := 12) ?_ ?_ (by omega) 0
  · intro self j b hj
    simp (disch := omega) only [f_X4_givenBy_B4, nI_1, nI_add, nI_mul, nI_leI, nI_ltI, nI_eq, ckI_n, nI_cl, qL2, qL3, qL4, qL5, qL6, qL7, qL8, qL9, qL10, qL11, qL12, nm, bd1_s, bd2_s, bd3_s, bd4_s, x_countOf R h1 hj]
    simp only [show ¬ (12 ≤ j) by omega, Nat.lt_irrefl, Nat.le_refl, if_true, if_false, ite_true, ite_false, not_true_eq_false, not_false_eq_true, reduceIte]
  · intro self b
    simp (disch := omega) only [f_X4_givenBy_B4, f_X4_givenBy_K4, nI_1, nI_add, nI_mul, nI_leI, nI_ltI, nI_eq, ckI_n, nI_cl, qL2, qL3, qL4, qL5, qL6, qL7, qL8, qL9, qL10, qL11, qL12, nm, bd1_s, bd2_s, bd3_s, bd4_s]
    simp only [Nat.lt_irrefl, Nat.le_refl, if_true, if_false, ite_true, ite_false, not_true_eq_false, not_false_eq_true, reduceIte]
theorem x_gotBy {h : SV} {a : AS} (R : RC h a) {i : Nat} (h1 : i < 12) : f_X4_gotBy (nI i) h = some (gtN a i) := by
  unfold f_X4_gotBy gtN sm
  refine lz2_acc0 (K := some) (fun j b => b + aG a j i) (N := 12) ?_ ?_ (by omega) 0
  · intro self j b hj
    simp (disch := omega) only [f_X4_gotBy_B4, nI_1, nI_add, nI_mul, nI_leI, nI_ltI, nI_eq, ckI_n, nI_cl, qL2, qL3, qL4, qL5, qL6, qL7, qL8, qL9, qL10, qL11, qL12, nm, bd1_s, bd2_s, bd3_s, bd4_s, x_countOf R hj h1]
    simp only [show ¬ (12 ≤ j) by omega, Nat.lt_irrefl, Nat.le_refl, if_true, if_false, ite_true, ite_false, not_true_eq_false, not_false_eq_true, reduceIte]
  · intro self b
    simp (disch := omega) only [f_X4_gotBy_B4, f_X4_gotBy_K4, nI_1, nI_add, nI_mul, nI_leI, nI_ltI, nI_eq, ckI_n, nI_cl, qL2, qL3, qL4, qL5, qL6, qL7, qL8, qL9, qL10, qL11, qL12, nm, bd1_s, bd2_s, bd3_s, bd4_s]
    simp only [Nat.lt_irrefl, Nat.le_refl, if_true, if_false, ite_true, ite_false, not_true_eq_false, not_false_eq_true, reduceIte]
theorem x_sumGiven {h : SV} {a : AS} (R : RC h a) : f_X4_sumGiven h = some (sm (gvN a) 12) := by
  unfold f_X4_sumGiven sm
  refine lz2_acc0 (K := some) (fun j b => b + gvN a j) (N := 12) ?_ ?_ (by omega) 0
  · intro self j b hj
    simp (disch := omega) only [f_X4_sumGiven_B4, nI_1, nI_add, nI_mul, nI_leI, nI_ltI, nI_eq, ckI_n, nI_cl, qL2, qL3, qL4, qL5, qL6, qL7, qL8, qL9, qL10, qL11, qL12, nm, bd1_s, bd2_s, bd3_s, bd4_s, x_givenBy R hj]
    simp only [show ¬ (12 ≤ j) by omega, Nat.lt_irrefl, Nat.le_refl, if_true, if_false, ite_true, ite_false, not_true_eq_false, not_false_eq_true, reduceIte]
  · intro self b
    simp (disch := omega) only [f_X4_sumGiven_B4, f_X4_sumGiven_K4, nI_1, nI_add, nI_mul, nI_leI, nI_ltI, nI_eq, ckI_n, nI_cl, qL2, qL3, qL4, qL5, qL6, qL7, qL8, qL9, qL10, qL11, qL12, nm, bd1_s, bd2_s, bd3_s, bd4_s]
    simp only [Nat.lt_irrefl, Nat.le_refl, if_true, if_false, ite_true, ite_false, not_true_eq_false, not_false_eq_true, reduceIte]
theorem x_sumGot {h : SV} {a : AS} (R : RC h a) : f_X4_sumGot h = some (sm (gtN a) 12) := by
  unfold f_X4_sumGot sm
  refine lz2_acc0 (K := some) (fun j b => b + gtN a j) (N := 12) ?_ ?_ (by omega) 0
  · intro self j b hj
    simp (disch := omega) only [f_X4_sumGot_B4, nI_1, nI_add, nI_mul, nI_leI, nI_ltI, nI_eq, ckI_n, nI_cl, qL2, qL3, qL4, qL5, qL6, qL7, qL8, qL9, qL10, qL11, qL12, nm, bd1_s, bd2_s, bd3_s, bd4_s, x_gotBy R hj]
    simp only [show ¬ (12 ≤ j) by omega, Nat.lt_irrefl, Nat.le_refl, if_true, if_false, ite_true, ite_false, not_true_eq_false, not_false_eq_true, reduceIte]
  · intro self b
    simp (disch := omega) only [f_X4_sumGot_B4, f_X4_sumGot_K4, nI_1, nI_add, nI_mul, nI_leI, nI_ltI, nI_eq, ckI_n, nI_cl, qL2, qL3, qL4, qL5, qL6, qL7, qL8, qL9, qL10, qL11, qL12, nm, bd1_s, bd2_s, bd3_s, bd4_s]
    simp only [Nat.lt_irrefl, Nat.le_refl, if_true, if_false, ite_true, ite_false, not_true_eq_false, not_false_eq_true, reduceIte]
theorem m_given {v : SV} {a : AS} (R : RM (v.2 0) a) {i : Nat} (h1 : i < 12) : f_X13_given (nI i) v = some (gvN a i) := by
  unfold f_X13_given gvN sm
  refine lz2_acc0 (K := some) (fun j b => b + aG a i j) (N := 12) ?_ ?_ (by omega) 0
  · intro self j b hj
    simp (disch := omega) only [f_X13_given_B4, nI_1, nI_add, nI_mul, nI_leI, nI_ltI, nI_eq, ckI_n, nI_cl, qL2, qL3, qL4, qL5, qL6, qL7, qL8, qL9, qL10, qL11, qL12, nm, bd1_s, bd2_s, bd3_s, bd4_s, m_greetings R h1 hj]
    simp only [show ¬ (12 ≤ j) by omega, Nat.lt_irrefl, Nat.le_refl, if_true, if_false, ite_true, ite_false, not_true_eq_false, not_false_eq_true, reduceIte]
  · intro self b
    simp (disch := omega) only [f_X13_given_B4, f_X13_given_K4, nI_1, nI_add, nI_mul, nI_leI, nI_ltI, nI_eq, ckI_n, nI_cl, qL2, qL3, qL4, qL5, qL6, qL7, qL8, qL9, qL10, qL11, qL12, nm, bd1_s, bd2_s, bd3_s, bd4_s]
    simp only [Nat.lt_irrefl, Nat.le_refl, if_true, if_false, ite_true, ite_false, not_true_eq_false, not_false_eq_true, reduceIte]
theorem m_got {v : SV} {a : AS} (R : RM (v.2 0) a) {i : Nat} (h1 : i < 12) : f_X13_got (nI i) v = some (gtN a i) := by
  unfold f_X13_got gtN sm
  refine lz2_acc0 (K := some) (fun j b => b + aG a j i) (N := 12) ?_ ?_ (by omega) 0
  · intro self j b hj
    simp (disch := omega) only [f_X13_got_B4, nI_1, nI_add, nI_mul, nI_leI, nI_ltI, nI_eq, ckI_n, nI_cl, qL2, qL3, qL4, qL5, qL6, qL7, qL8, qL9, qL10, qL11, qL12, nm, bd1_s, bd2_s, bd3_s, bd4_s, m_greetings R hj h1]
    simp only [show ¬ (12 ≤ j) by omega, Nat.lt_irrefl, Nat.le_refl, if_true, if_false, ite_true, ite_false, not_true_eq_false, not_false_eq_true, reduceIte]
  · intro self b
    simp (disch := omega) only [f_X13_got_B4, f_X13_got_K4, nI_1, nI_add, nI_mul, nI_leI, nI_ltI, nI_eq, ckI_n, nI_cl, qL2, qL3, qL4, qL5, qL6, qL7, qL8, qL9, qL10, qL11, qL12, nm, bd1_s, bd2_s, bd3_s, bd4_s]
    simp only [Nat.lt_irrefl, Nat.le_refl, if_true, if_false, ite_true, ite_false, not_true_eq_false, not_false_eq_true, reduceIte]
theorem m_allGreetings {v : SV} {a : AS} (R : RM (v.2 0) a) : f_X13_allGreetings v = some (sm (gvN a) 12) := by
  unfold f_X13_allGreetings sm
  refine lz2_acc0 (K := some) (fun j b => b + gvN a j) (N := 12) ?_ ?_ (by omega) 0
  · intro self j b hj
    simp (disch := omega) only [f_X13_allGreetings_B4, nI_1, nI_add, nI_mul, nI_leI, nI_ltI, nI_eq, ckI_n, nI_cl, qL2, qL3, qL4, qL5, qL6, qL7, qL8, qL9, qL10, qL11, qL12, nm, bd1_s, bd2_s, bd3_s, bd4_s, m_given R hj]
    simp only [show ¬ (12 ≤ j) by omega, Nat.lt_irrefl, Nat.le_refl, if_true, if_false, ite_true, ite_false, not_true_eq_false, not_false_eq_true, reduceIte]
  · intro self b
    simp (disch := omega) only [f_X13_allGreetings_B4, f_X13_allGreetings_K4, nI_1, nI_add, nI_mul, nI_leI, nI_ltI, nI_eq, ckI_n, nI_cl, qL2, qL3, qL4, qL5, qL6, qL7, qL8, qL9, qL10, qL11, qL12, nm, bd1_s, bd2_s, bd3_s, bd4_s]
    simp only [Nat.lt_irrefl, Nat.le_refl, if_true, if_false, ite_true, ite_false, not_true_eq_false, not_false_eq_true, reduceIte]
theorem sm_add (f g : Nat → Int32) (N : Nat) : sm (fun i => f i + g i) N = sm f N + sm g N := by
  induction N with
  | zero => rfl
  | succ n ih => rw [sm_succ, sm_succ, sm_succ, ih, Int32.add_assoc, Int32.add_assoc, ← Int32.add_assoc (sm g n), Int32.add_comm (sm g n), Int32.add_assoc]
theorem sm_swap (g : Nat → Nat → Int32) (N M : Nat) : sm (fun i => sm (fun j => g i j) M) N = sm (fun j => sm (fun i => g i j) N) M := by
  induction N with
  | zero =>
    show (0 : Int32) = sm (fun _ => 0) M
    induction M with
    | zero => rfl
    | succ m ih => rw [sm_succ, ← ih]; rfl
  | succ n ih =>
    rw [sm_succ, ih, ← sm_add]
    exact sm_congr (fun i _ => by rw [sm_succ])
theorem q_census (a : AS) : sm (gtN a) 12 = sm (gvN a) 12 := (sm_swap (fun i j => aG a i j) 12 12).symm
/-- the friends of a balcony, as a set -/
def frN (a : AS) (i : Nat) : Int32 := accF (fun j b => if aG a i j ≤ 0 then b else if aG a j i ≤ 0 then b else b ||| (1 <<< (nI j &&& 31))) 0 12 0
theorem x_friendsOf {h : SV} {a : AS} (R : RC h a) {i : Nat} (h1 : i < 12) : f_X4_friendsOf (nI i) h = some (frN a i) := by
  unfold f_X4_friendsOf frN
  refine lz2_acc0 (K := some) _ (N := 12) ?_ ?_ (by omega) 0
  · intro self j b hj
    simp (disch := omega) only [f_X4_friendsOf_B4, nI_1, nI_add, nI_mul, nI_leI, nI_ltI, nI_eq, ckI_n, nI_cl, qL2, qL3, qL4, qL5, qL6, qL7, qL8, qL9, qL10, qL11, qL12, nm, bd1_s, bd2_s, bd3_s, bd4_s, x_countOf R h1 hj, x_countOf R hj h1]
    simp only [show ¬ (12 ≤ j) by omega, Nat.lt_irrefl, Nat.le_refl, if_true, if_false, ite_true, ite_false, not_true_eq_false, not_false_eq_true, reduceIte]
    split
    · rfl
    · split <;> rfl
  · intro self b
    simp (disch := omega) only [f_X4_friendsOf_B4, f_X4_friendsOf_K4, nI_1, nI_add, nI_mul, nI_leI, nI_ltI, nI_eq, ckI_n, nI_cl, qL2, qL3, qL4, qL5, qL6, qL7, qL8, qL9, qL10, qL11, qL12, nm, bd1_s, bd2_s, bd3_s, bd4_s]
    simp only [Nat.lt_irrefl, Nat.le_refl, if_true, if_false, ite_true, ite_false, not_true_eq_false, not_false_eq_true, reduceIte]
theorem m_friends {v : SV} {a : AS} (R : RM (v.2 0) a) {i : Nat} (h1 : i < 12) : f_X13_friends (nI i) v = some (frN a i) := by
  unfold f_X13_friends frN
  refine lz2_acc0 (K := some) _ (N := 12) ?_ ?_ (by omega) 0
  · intro self j b hj
    simp (disch := omega) only [f_X13_friends_B4, nI_1, nI_add, nI_mul, nI_leI, nI_ltI, nI_eq, ckI_n, nI_cl, qL2, qL3, qL4, qL5, qL6, qL7, qL8, qL9, qL10, qL11, qL12, nm, bd1_s, bd2_s, bd3_s, bd4_s, m_greetings R h1 hj, m_greetings R hj h1, Int32.or_zero]
    simp only [show ¬ (12 ≤ j) by omega, Nat.lt_irrefl, Nat.le_refl, if_true, if_false, ite_true, ite_false, not_true_eq_false, not_false_eq_true, reduceIte]
    split
    · rfl
    · split <;> rfl
  · intro self b
    simp (disch := omega) only [f_X13_friends_B4, f_X13_friends_K4, nI_1, nI_add, nI_mul, nI_leI, nI_ltI, nI_eq, ckI_n, nI_cl, qL2, qL3, qL4, qL5, qL6, qL7, qL8, qL9, qL10, qL11, qL12, nm, bd1_s, bd2_s, bd3_s, bd4_s]
    simp only [Nat.lt_irrefl, Nat.le_refl, if_true, if_false, ite_true, ite_false, not_true_eq_false, not_false_eq_true, reduceIte]
/-- the cat on a balcony -/
def ctO (a : AS) (i : Nat) : Int32 := fnd (fun x => decide (x.1 = i)) (-4) (aC a) 0
theorem x_catOn {h : SV} {a : AS} (R : RC h a) (W : WF a) {i : Nat} (h1 : i < 12) : f_X1_catOn (nI i) h = some (ctO a i) := by
  unfold f_X1_catOn ctO
  have hl := wf_cn W
  refine lz1_fnd (K := some) _ _ _ ?_ ?_ (by omega)
  · intro self k x hx
    have hk := ix_lt hx
    have hw := wf_c W hx
    obtain ⟨e1, e2, e3⟩ := rc_c R hx
    simp (disch := omega) only [f_X1_catOn_B2, rc_cn R, nI_1, nI_add, nI_mul, nI_leI, nI_ltI, nI_eq, ckI_n, nI_cl, qL2, qL3, qL4, qL5, qL6, qL7, qL8, qL9, qL10, qL11, qL12, nm, bd1_s, bd2_s, bd3_s, bd4_s, e1]
    simp only [show ¬ ((aC a).length ≤ k) by omega, Nat.lt_irrefl, Nat.le_refl, if_true, if_false, ite_true, ite_false, not_true_eq_false, not_false_eq_true, reduceIte, decide_eq_true_eq]
  · intro self
    simp (disch := omega) only [f_X1_catOn_B2, f_X1_catOn_K2, rc_cn R, nI_1, nI_add, nI_mul, nI_leI, nI_ltI, nI_eq, ckI_n, nI_cl, qL2, qL3, qL4, qL5, qL6, qL7, qL8, qL9, qL10, qL11, qL12, nm, bd1_s, bd2_s, bd3_s, bd4_s]
    simp only [Nat.lt_irrefl, Nat.le_refl, if_true, if_false, ite_true, ite_false, not_true_eq_false, not_false_eq_true, reduceIte]
theorem m_catPart {v : SV} {a : AS} (R : RM (v.2 0) a) (W : WF a) {k : Nat} {x : Nat × Nat × Int32} (hx : (aC a)[k]? = some x) : f_X13_catPart (nI k) 0 v = some (nI x.1) ∧ f_X13_catPart (nI k) 1 v = some (nI x.2.1) ∧ f_X13_catPart (nI k) 2 v = some x.2.2 := by
  have hk := ix_lt hx
  have hl := wf_cn W
  obtain ⟨e1, e2, e3⟩ := rm_c R hx
  refine ⟨?_, ?_, ?_⟩
  · simp (disch := omega) only [f_X13_catPart, qL208, qL0, nI_1, nI_add, nI_mul, nI_leI, nI_ltI, nI_eq, ckI_n, nI_cl, qL2, qL3, qL4, qL5, qL6, qL7, qL8, qL9, qL10, qL11, qL12, Nat.add_zero, e1]
  · simp (disch := omega) only [f_X13_catPart, qL208, nI_1, nI_add, nI_mul, nI_leI, nI_ltI, nI_eq, ckI_n, nI_cl, qL2, qL3, qL4, qL5, qL6, qL7, qL8, qL9, qL10, qL11, qL12, e2]
  · simp (disch := omega) only [f_X13_catPart, qL208, nI_1, nI_add, nI_mul, nI_leI, nI_ltI, nI_eq, ckI_n, nI_cl, qL2, qL3, qL4, qL5, qL6, qL7, qL8, qL9, qL10, qL11, qL12, e3]
theorem m_catOn {v : SV} {a : AS} (R : RM (v.2 0) a) (W : WF a) {i : Nat} (h1 : i < 12) : f_X13_catOn (nI i) v = some (ctO a i) := by
  unfold f_X13_catOn ctO
  have hl := wf_cn W
  refine lz1_fnd (K := some) _ _ _ ?_ ?_ (by omega)
  · intro self k x hx
    have hk := ix_lt hx
    have hw := wf_c W hx
    obtain ⟨e1, e2, e3⟩ := m_catPart R W hx
    simp (disch := omega) only [f_X13_catOn_B2, ck240_0, ck240_1, ck240_2, ck240_3, ck240_4, ck240_5, ck240_6, ck240_7, qc0, qc1, qc2, qc3, qc4, qc5, qc6, qc7, rm_cn R, nI_1, nI_add, nI_mul, nI_leI, nI_ltI, nI_eq, ckI_n, nI_cl, qL2, qL3, qL4, qL5, qL6, qL7, qL8, qL9, qL10, qL11, qL12, nm, bd1_s, bd2_s, bd3_s, bd4_s, e1]
    simp only [show ¬ ((aC a).length ≤ k) by omega, Nat.lt_irrefl, Nat.le_refl, if_true, if_false, ite_true, ite_false, not_true_eq_false, not_false_eq_true, reduceIte, decide_eq_true_eq]
  · intro self
    simp (disch := omega) only [f_X13_catOn_B2, f_X13_catOn_K2, ck240_0, ck240_1, ck240_2, ck240_3, ck240_4, ck240_5, ck240_6, ck240_7, qc0, qc1, qc2, qc3, qc4, qc5, qc6, qc7, rm_cn R, nI_1, nI_add, nI_mul, nI_leI, nI_ltI, nI_eq, ckI_n, nI_cl, qL2, qL3, qL4, qL5, qL6, qL7, qL8, qL9, qL10, qL11, qL12, nm, bd1_s, bd2_s, bd3_s, bd4_s]
    simp only [Nat.lt_irrefl, Nat.le_refl, if_true, if_false, ite_true, ite_false, not_true_eq_false, not_false_eq_true, reduceIte]
/-- how many cats are at home -/
def hmN (a : AS) : Int32 := (aC a).foldl (fun b x => if x.1 = x.2.1 then b + 1 else b) 0
theorem x_countAtHome {h : SV} {a : AS} (R : RC h a) (W : WF a) : f_X1_countAtHome h = some (hmN a) := by
  unfold f_X1_countAtHome hmN
  have hl := wf_cn W
  refine lz2_lst (K := some) _ (aC a) ?_ ?_ (by omega) 0
  · intro self k x b hx
    have hk := ix_lt hx
    have hw := wf_c W hx
    obtain ⟨e1, e2, e3⟩ := rc_c R hx
    simp (disch := omega) only [f_X1_countAtHome_B4, rc_cn R, nI_1, nI_add, nI_mul, nI_leI, nI_ltI, nI_eq, ckI_n, nI_cl, qL2, qL3, qL4, qL5, qL6, qL7, qL8, qL9, qL10, qL11, qL12, nm, bd1_s, bd2_s, bd3_s, bd4_s, e1, e2]
    simp only [show ¬ ((aC a).length ≤ k) by omega, Nat.lt_irrefl, Nat.le_refl, if_true, if_false, ite_true, ite_false, not_true_eq_false, not_false_eq_true, reduceIte]
    split <;> rfl
  · intro self b
    simp (disch := omega) only [f_X1_countAtHome_B4, f_X1_countAtHome_K4, rc_cn R, nI_1, nI_add, nI_mul, nI_leI, nI_ltI, nI_eq, ckI_n, nI_cl, qL2, qL3, qL4, qL5, qL6, qL7, qL8, qL9, qL10, qL11, qL12, nm, bd1_s, bd2_s, bd3_s, bd4_s]
    simp only [Nat.lt_irrefl, Nat.le_refl, if_true, if_false, ite_true, ite_false, not_true_eq_false, not_false_eq_true, reduceIte]
theorem m_atHome {v : SV} {a : AS} (R : RM (v.2 0) a) (W : WF a) : f_X13_atHome v = some (hmN a) := by
  unfold f_X13_atHome hmN
  have hl := wf_cn W
  refine lz2_lst (K := some) _ (aC a) ?_ ?_ (by omega) 0
  · intro self k x b hx
    have hk := ix_lt hx
    have hw := wf_c W hx
    obtain ⟨e1, e2, e3⟩ := m_catPart R W hx
    simp (disch := omega) only [f_X13_atHome_B4, ck240_0, ck240_1, ck240_2, ck240_3, ck240_4, ck240_5, ck240_6, ck240_7, qc0, qc1, qc2, qc3, qc4, qc5, qc6, qc7, rm_cn R, nI_1, nI_add, nI_mul, nI_leI, nI_ltI, nI_eq, ckI_n, nI_cl, qL2, qL3, qL4, qL5, qL6, qL7, qL8, qL9, qL10, qL11, qL12, nm, bd1_s, bd2_s, bd3_s, bd4_s, e1, e2, Int32.add_zero]
    simp only [show ¬ ((aC a).length ≤ k) by omega, Nat.lt_irrefl, Nat.le_refl, if_true, if_false, ite_true, ite_false, not_true_eq_false, not_false_eq_true, reduceIte]
    split <;> rfl
  · intro self b
    simp (disch := omega) only [f_X13_atHome_B4, f_X13_atHome_K4, ck240_0, ck240_1, ck240_2, ck240_3, ck240_4, ck240_5, ck240_6, ck240_7, qc0, qc1, qc2, qc3, qc4, qc5, qc6, qc7, rm_cn R, nI_1, nI_add, nI_mul, nI_leI, nI_ltI, nI_eq, ckI_n, nI_cl, qL2, qL3, qL4, qL5, qL6, qL7, qL8, qL9, qL10, qL11, qL12, nm, bd1_s, bd2_s, bd3_s, bd4_s]
    simp only [Nat.lt_irrefl, Nat.le_refl, if_true, if_false, ite_true, ite_false, not_true_eq_false, not_false_eq_true, reduceIte]
theorem x_swapSum {h : SV} {a : AS} (R : RC h a) (W : WF a) : f_X1_swapSum h = some (swS (aC a)) := by
  unfold f_X1_swapSum swS
  have hl := wf_cn W
  refine lz2_lst (K := some) _ (aC a) ?_ ?_ (by omega) 0
  · intro self k x b hx
    have hk := ix_lt hx
    obtain ⟨e1, e2, e3⟩ := rc_c R hx
    simp (disch := omega) only [f_X1_swapSum_B4, rc_cn R, nI_1, nI_add, nI_mul, nI_leI, nI_ltI, nI_eq, ckI_n, nI_cl, qL2, qL3, qL4, qL5, qL6, qL7, qL8, qL9, qL10, qL11, qL12, nm, bd1_s, bd2_s, bd3_s, bd4_s, e3]
    simp only [show ¬ ((aC a).length ≤ k) by omega, Nat.lt_irrefl, Nat.le_refl, if_true, if_false, ite_true, ite_false, not_true_eq_false, not_false_eq_true, reduceIte]
  · intro self b
    simp (disch := omega) only [f_X1_swapSum_B4, f_X1_swapSum_K4, rc_cn R, nI_1, nI_add, nI_mul, nI_leI, nI_ltI, nI_eq, ckI_n, nI_cl, qL2, qL3, qL4, qL5, qL6, qL7, qL8, qL9, qL10, qL11, qL12, nm, bd1_s, bd2_s, bd3_s, bd4_s]
    simp only [Nat.lt_irrefl, Nat.le_refl, if_true, if_false, ite_true, ite_false, not_true_eq_false, not_false_eq_true, reduceIte]
/-- how many lines hang at a balcony -/
def lnA (a : AS) (i : Nat) : Int32 := (aL a).foldl (fun b x => if x.1 = i ∨ x.2.1 = i then b + 1 else b) 0
theorem x_countAt {h : SV} {a : AS} (R : RC h a) (W : WF a) {i : Nat} (h1 : i < 12) : f_X7_countAt (nI i) h = some (lnA a i) := by
  unfold f_X7_countAt lnA
  have hl := wf_ln W
  refine lz2_lst (K := some) _ (aL a) ?_ ?_ (by omega) 0
  · intro self k x b hx
    have hk := ix_lt hx
    have hw := wf_l W hx
    obtain ⟨e1, e2, e3⟩ := rc_l R hx
    simp (disch := omega) only [f_X7_countAt_B4, rc_ln R, nI_1, nI_add, nI_mul, nI_leI, nI_ltI, nI_eq, ckI_n, nI_cl, qL2, qL3, qL4, qL5, qL6, qL7, qL8, qL9, qL10, qL11, qL12, nm, bd1_s, bd2_s, bd3_s, bd4_s, e1, e2]
    simp only [show ¬ ((aL a).length ≤ k) by omega, Nat.lt_irrefl, Nat.le_refl, if_true, if_false, ite_true, ite_false, not_true_eq_false, not_false_eq_true, reduceIte]
    by_cases c1 : x.1 = i
    · simp [c1]
    · by_cases c2 : x.2.1 = i <;> simp [c1, c2]
  · intro self b
    simp (disch := omega) only [f_X7_countAt_B4, f_X7_countAt_K4, rc_ln R, nI_1, nI_add, nI_mul, nI_leI, nI_ltI, nI_eq, ckI_n, nI_cl, qL2, qL3, qL4, qL5, qL6, qL7, qL8, qL9, qL10, qL11, qL12, nm, bd1_s, bd2_s, bd3_s, bd4_s]
    simp only [Nat.lt_irrefl, Nat.le_refl, if_true, if_false, ite_true, ite_false, not_true_eq_false, not_false_eq_true, reduceIte]
theorem m_linesAt {v : SV} {a : AS} (R : RM (v.2 0) a) (W : WF a) {i : Nat} (h1 : i < 12) : f_X13_linesAt (nI i) v = some (lnA a i) := by
  unfold f_X13_linesAt lnA
  have hl := wf_ln W
  refine lz2_lst (K := some) _ (aL a) ?_ ?_ (by omega) 0
  · intro self k x b hx
    have hk := ix_lt hx
    have hw := wf_l W hx
    obtain ⟨e1, e2, e3⟩ := m_linePart R W hx
    simp (disch := omega) only [f_X13_linesAt_B4, ck240_0, ck240_1, ck240_2, ck240_3, ck240_4, ck240_5, ck240_6, ck240_7, qc0, qc1, qc2, qc3, qc4, qc5, qc6, qc7, rm_ln R, nI_1, nI_add, nI_mul, nI_leI, nI_ltI, nI_eq, ckI_n, nI_cl, qL2, qL3, qL4, qL5, qL6, qL7, qL8, qL9, qL10, qL11, qL12, nm, bd1_s, bd2_s, bd3_s, bd4_s, e1, e2]
    simp only [show ¬ ((aL a).length ≤ k) by omega, Nat.lt_irrefl, Nat.le_refl, if_true, if_false, ite_true, ite_false, not_true_eq_false, not_false_eq_true, reduceIte]
    by_cases c1 : x.1 = i
    · simp [c1]
    · by_cases c2 : x.2.1 = i <;> simp [c1, c2]
  · intro self b
    simp (disch := omega) only [f_X13_linesAt_B4, f_X13_linesAt_K4, ck240_0, ck240_1, ck240_2, ck240_3, ck240_4, ck240_5, ck240_6, ck240_7, qc0, qc1, qc2, qc3, qc4, qc5, qc6, qc7, rm_ln R, nI_1, nI_add, nI_mul, nI_leI, nI_ltI, nI_eq, ckI_n, nI_cl, qL2, qL3, qL4, qL5, qL6, qL7, qL8, qL9, qL10, qL11, qL12, nm, bd1_s, bd2_s, bd3_s, bd4_s]
    simp only [Nat.lt_irrefl, Nat.le_refl, if_true, if_false, ite_true, ite_false, not_true_eq_false, not_false_eq_true, reduceIte]
