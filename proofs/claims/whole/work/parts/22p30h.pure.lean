/-! PURE: the search by steps, class (walkFrom) and reference (lays). -/
theorem qm4 : (-nI 4 : Int32) = -4 := rfl
theorem qm3 : (-nI 3 : Int32) = -3 := rfl
theorem qm2 : (-nI 2 : Int32) = -2 := rfl
theorem qof (n : Nat) : Int32.ofNat n = nI n := rfl
theorem accF_upd (c : Int32) (n : Nat) (v : Nat → Int32) : ∀ j : Nat, accF (fun i g => upd g i c) 0 n v j = if j < n then c else v j := by
  induction n with
  | zero => intro j; rfl
  | succ n ih =>
    intro j
    rw [accF_succ, Nat.zero_add]
    show (if j = n then c else _) = _
    rw [ih j]
    by_cases c1 : j = n
    · rw [if_pos c1, if_pos (by omega)]
    · rw [if_neg c1]
      by_cases c2 : j < n
      · rw [if_pos c2, if_pos (by omega)]
      · rw [if_neg c2, if_neg (by omega)]
theorem x_fill (c : Int32) {n : Nat} (hn : n < 600) (v : Nat → Int32) : ∃ g, f_J7_fill_53178 c n v = some g ∧ ∀ j, g j = if j < n then c else v j := by
  refine ⟨accF (fun i g => upd g i c) 0 n v, ?_, accF_upd c n v⟩
  unfold f_J7_fill_53178
  refine lz2_acc0 (K := some) _ (N := n) ?_ ?_ hn v
  · intro self i b hi
    simp (disch := omega) only [f_J7_fill_53178_B5, qof, nI_1, nI_add, nI_mul, nI_leI, nI_ltI, nI_eq, ckI_n, nI_cl, qL2, qL3, qL4, qL5, qL6, qL7, qL8, qL9, qL10, qL11, qL12, nm, bd1_s, bd2_s, bd3_s, bd4_s]
    simp only [show ¬ (n ≤ i) by omega, Nat.lt_irrefl, Nat.le_refl, if_true, if_false, ite_true, ite_false, not_true_eq_false, not_false_eq_true, reduceIte]
  · intro self b
    simp (disch := omega) only [f_J7_fill_53178_B5, f_J7_fill_53178_K5, qof, nI_1, nI_add, nI_mul, nI_leI, nI_ltI, nI_eq, ckI_n, nI_cl, qL2, qL3, qL4, qL5, qL6, qL7, qL8, qL9, qL10, qL11, qL12, nm, bd1_s, bd2_s, bd3_s, bd4_s]
    simp only [Nat.lt_irrefl, Nat.le_refl, if_true, if_false, ite_true, ite_false, not_true_eq_false, not_false_eq_true, reduceIte]
theorem BI_lt {a : AS} {s k b : Nat} {P : Nat → Nat → Prop} {D : Nat → Option Nat} (h : BI a s k b P D) {i n : Nat} (hi : i < 12) (e : D i = some n) : n ≤ b := h.2.2.2.1 i n hi e
theorem x_walkOn {h : SV} {a : AS} (R : RC h a) (W : WF a) {s k b : Nat} (hk : k < 12) (hb : b < 12) {P : Nat → Nat → Prop} {D : Nat → Option Nat} {u : SV} (hu : ∀ i, i < 12 → u.2 0 i = oD (D i)) (B : BI a s k (k + 1) P D) (hD : D b = some k) :
    ∃ u' D', f_X9_walkOn (nI b) u h = some u' ∧ (∀ i, i < 12 → u'.2 0 i = oD (D' i)) ∧ BI a s k (k + 1) (fun i j => P i j ∨ i = b) D' ∧ u'.2 1 = u.2 1 := by
  unfold f_X9_walkOn
  refine lz2_inv0 (N := 4) (fun (d : Nat) (u' : SV) => ∃ D' : Nat → Option Nat, (∀ i, i < 12 → u'.2 0 i = oD (D' i)) ∧ BI a s k (k + 1) (fun i j => P i j ∨ (i = b ∧ ∃ d', d' < d ∧ stp a b d' = some j)) D' ∧ D' b = some k ∧ u'.2 1 = u.2 1) (fun (x : Option SV) => ∃ (u' : SV) (D' : Nat → Option Nat), x = some u' ∧ (∀ i, i < 12 → u'.2 0 i = oD (D' i)) ∧ BI a s k (k + 1) (fun i j => P i j ∨ i = b) D' ∧ u'.2 1 = u.2 1) ?_ ?_ (by omega) u ?_
  · intro self d u' hd hI kk
    obtain ⟨D', h1, h2, h3, h4⟩ := hI
    simp (disch := omega) only [f_X9_walkOn_B2, nI_1, nI_add, nI_mul, nI_leI, nI_ltI, nI_eq, ckI_n, nI_cl, qL2, qL3, qL4, qL5, qL6, qL7, qL8, qL9, qL10, qL11, qL12, nm, bd1_s, bd2_s, bd3_s, bd4_s, x_stepFrom R W hb hd]
    simp only [show ¬ (4 ≤ d) by omega, Nat.lt_irrefl, Nat.le_refl, if_true, if_false, ite_true, ite_false, not_true_eq_false, not_false_eq_true, reduceIte]
    cases e : stp a b d with
    | none =>
      show ∃ u'1 D'1, (if (-1 : Int32) < 0 then self (nI (d + 1)) u' else _) = some u'1 ∧ _
      rw [if_pos (by decide)]
      refine kk _ ⟨D', h1, BI_to h2 (Nat.le_refl _) ?_, h3, h4⟩
      intro i j hi hj hs hDi hQ
      rcases hQ with hQ | ⟨rfl, d', hd', e2⟩
      · exact Or.inl (Or.inl hQ)
      · refine Or.inl (Or.inr ⟨rfl, d', ?_, e2⟩)
        rcases Nat.lt_succ_iff_lt_or_eq.mp hd' with c | c
        · exact c
        · subst c; rw [e] at e2; cases e2
    | some j =>
      obtain ⟨hj, hst, hnb⟩ := stp_st hb e
      have hn0 : ¬ nI j < 0 := nI_pos (by omega)
      have hDj : ∀ n, D' j = some n → n < 2147483648 := fun n en => by have := BI_lt h2 hj en; omega
      show ∃ u'1 D'1, (if nI j < 0 then self (nI (d + 1)) u' else _) = some u'1 ∧ _
      rw [if_neg hn0]
      simp (disch := omega) only [oI, ckI_n, nI_cl, h1 j hj, qm4, oD_none hDj]
      by_cases c : D' j = none
      · rw [if_pos c]
        refine kk _ ⟨updD D' j (k + 1), ?_, BI_to (BI_add h2 hj c hb hst h3) (Nat.le_refl _) ?_, ?_, h4⟩
        · intro i hi
          show upd (u'.2 0) (nI j).toNatClampNeg (u'.2 0 b + 1) i = oD (updD D' j (k + 1) i)
          rw [nI_cl (by omega), h1 b hb, h3]
          unfold upd updD
          split
          · show nI k + 1 = nI (k + 1); rw [nI_1]
          · exact h1 i hi
        · intro i j' hi hj' hs hDi hQ
          rcases hQ with hQ | ⟨rfl, d', hd', e2⟩
          · exact Or.inl (Or.inl hQ)
          · rcases Nat.lt_succ_iff_lt_or_eq.mp hd' with c2 | c2
            · exact Or.inl (Or.inr ⟨rfl, d', c2, e2⟩)
            · subst c2; rw [e] at e2; cases e2
              exact Or.inr ⟨k + 1, by unfold updD; rw [if_pos rfl]⟩
        · unfold updD; rw [if_neg (fun c2 => by rw [← c2, h3] at c; cases c)]; exact h3
      · rw [if_neg c]
        refine kk _ ⟨D', h1, BI_to h2 (Nat.le_refl _) ?_, h3, h4⟩
        intro i j' hi hj' hs hDi hQ
        rcases hQ with hQ | ⟨rfl, d', hd', e2⟩
        · exact Or.inl (Or.inl hQ)
        · rcases Nat.lt_succ_iff_lt_or_eq.mp hd' with c2 | c2
          · exact Or.inl (Or.inr ⟨rfl, d', c2, e2⟩)
          · subst c2; rw [e] at e2; cases e2
            cases e3 : D' j with
            | none => exact absurd e3 c
            | some m => exact Or.inr ⟨m, rfl⟩
  · intro self u' hI
    obtain ⟨D', h1, h2, h3, h4⟩ := hI
    simp (disch := omega) only [f_X9_walkOn_B2, f_X9_walkOn_K2, nI_1, nI_add, nI_mul, nI_leI, nI_ltI, nI_eq, ckI_n, nI_cl, qL2, qL3, qL4, qL5, qL6, qL7, qL8, qL9, qL10, qL11, qL12, nm, bd1_s, bd2_s, bd3_s, bd4_s]
    simp only [Nat.lt_irrefl, Nat.le_refl, if_true, if_false, ite_true, ite_false, not_true_eq_false, not_false_eq_true, reduceIte]
    refine ⟨u', D', rfl, h1, BI_to h2 (Nat.le_refl _) ?_, h4⟩
    intro i j hi hj hs hDi hQ
    rcases hQ with hQ | rfl
    · exact Or.inl (Or.inl hQ)
    · obtain ⟨d, hd, e⟩ := st_stp hi hj hs
      exact Or.inl (Or.inr ⟨rfl, d, hd, e⟩)
  · exact ⟨D, hu, BI_to B (Nat.le_refl _) (fun i j hi hj hs hDi hQ => by
      rcases hQ with hQ | ⟨_, d', hd', _⟩
      · exact Or.inl hQ
      · omega), hD, rfl⟩
theorem BI_b {a : AS} {s k b b' : Nat} {P : Nat → Nat → Prop} {D : Nat → Option Nat} (h : BI a s k b P D) (hb : b ≤ b') : BI a s k b' P D := ⟨h.1, h.2.1, h.2.2.1, fun i n hi e => Nat.le_trans (h.2.2.2.1 i n hi e) hb, h.2.2.2.2⟩
theorem x_walkFrom {h : SV} {a : AS} (R : RC h a) (W : WF a) {s : Nat} (hs : s < 12) (v : SV) : ∃ w D, f_X9_walkFrom (nI s) v h = some w ∧ (∀ i, i < 12 → w.2 0 i = oD (D i)) ∧ ID a s D ∧ (∀ i n, i < 12 → D i = some n → n ≤ 11) ∧ w.2 1 = v.2 1 := by
  obtain ⟨g, e1, e2⟩ := x_fill (-4) (n := 12) (by omega) (v.2 0)
  simp (disch := omega) only [f_X9_walkFrom, ckI_n, nm, bd1_s, bd2_s, bd3_s, bd4_s, e1]
  refine lz2_inv0 (N := 12) (fun (k : Nat) (u : SV) => ∃ D : Nat → Option Nat, (∀ i, i < 12 → u.2 0 i = oD (D i)) ∧ BI a s k k (fun _ _ => False) D ∧ u.2 1 = v.2 1) (fun (x : Option SV) => ∃ (w : SV) (D : Nat → Option Nat), x = some w ∧ (∀ i, i < 12 → w.2 0 i = oD (D i)) ∧ ID a s D ∧ (∀ i n, i < 12 → D i = some n → n ≤ 11) ∧ w.2 1 = v.2 1) ?_ ?_ (by omega) _ ?_
  · intro self k u hk hI kk
    obtain ⟨D, h1, h2, h3⟩ := hI
    simp (disch := omega) only [f_X9_walkFrom_B18, nI_1, nI_add, nI_mul, nI_leI, nI_ltI, nI_eq, ckI_n, nI_cl, qL2, qL3, qL4, qL5, qL6, qL7, qL8, qL9, qL10, qL11, qL12, nm, bd1_s, bd2_s, bd3_s, bd4_s]
    simp only [show ¬ (12 ≤ k) by omega, Nat.lt_irrefl, Nat.le_refl, if_true, if_false, ite_true, ite_false, not_true_eq_false, not_false_eq_true, reduceIte]
    refine lz2_inv0 (N := 12) (fun (b : Nat) (u : SV) => ∃ D : Nat → Option Nat, (∀ i, i < 12 → u.2 0 i = oD (D i)) ∧ BI a s k (k + 1) (fun i _ => i < b) D ∧ u.2 1 = v.2 1) (fun (x : Option SV) => ∃ (w : SV) (D : Nat → Option Nat), x = some w ∧ (∀ i, i < 12 → w.2 0 i = oD (D i)) ∧ ID a s D ∧ (∀ i n, i < 12 → D i = some n → n ≤ 11) ∧ w.2 1 = v.2 1) ?_ ?_ (by omega) u ?_
    · intro self2 b u hb hI2 kk2
      obtain ⟨D, h1, h2, h3⟩ := hI2
      have hDb : ∀ n, D b = some n → n < 2147483648 := fun n en => by have := BI_lt h2 hb en; omega
      simp (disch := omega) only [f_X9_walkFrom_B27, nI_1, nI_add, nI_mul, nI_leI, nI_ltI, nI_eq, ckI_n, nI_cl, qL2, qL3, qL4, qL5, qL6, qL7, qL8, qL9, qL10, qL11, qL12, nm, bd1_s, bd2_s, bd3_s, bd4_s, h1 b hb, oD_eq hDb]
      simp only [show ¬ (12 ≤ b) by omega, Nat.lt_irrefl, Nat.le_refl, if_true, if_false, ite_true, ite_false, not_true_eq_false, not_false_eq_true, reduceIte]
      by_cases c : D b = some k
      · rw [if_pos c]
        obtain ⟨u', D', e3, h4, h5, h6⟩ := x_walkOn R W hk hb h1 h2 c
        rw [e3, bd1_s]
        exact kk2 _ ⟨D', h4, BI_to h5 (Nat.le_refl _) (fun i j hi hj hst hDi hQ => Or.inl (by
          rcases Nat.lt_succ_iff_lt_or_eq.mp hQ with c2 | c2
          · exact Or.inl c2
          · exact Or.inr c2)), h6.trans h3⟩
      · rw [if_neg c]
        exact kk2 _ ⟨D, h1, BI_to h2 (Nat.le_refl _) (fun i j hi hj hst hDi hQ => Or.inl (by
          rcases Nat.lt_succ_iff_lt_or_eq.mp hQ with c2 | c2
          · exact c2
          · subst c2; exact absurd hDi c)), h3⟩
    · intro self2 u hI2
      obtain ⟨D, h1, h2, h3⟩ := hI2
      simp (disch := omega) only [f_X9_walkFrom_B27, f_X9_walkFrom_K27, nI_1, nI_add, nI_mul, nI_leI, nI_ltI, nI_eq, ckI_n, nI_cl, qL2, qL3, qL4, qL5, qL6, qL7, qL8, qL9, qL10, qL11, qL12, nm, bd1_s, bd2_s, bd3_s, bd4_s]
      simp only [Nat.lt_irrefl, Nat.le_refl, if_true, if_false, ite_true, ite_false, not_true_eq_false, not_false_eq_true, reduceIte]
      refine kk _ ⟨D, h1, ?_, h3⟩
      obtain ⟨g1, g2, g3, g4, g5⟩ := h2
      refine ⟨g1, g2, g3, g4, ?_⟩
      intro i j n hi hj hst e hP
      rcases hP with hP | ⟨_, hP⟩
      · refine g5 i j n hi hj hst e ?_
        rcases Nat.lt_succ_iff_lt_or_eq.mp hP with c2 | c2
        · exact Or.inl c2
        · exact Or.inr ⟨c2, hi⟩
      · exact absurd hP (fun q => q)
    · exact ⟨D, h1, BI_to (BI_b h2 (by omega)) (Nat.le_refl _) (fun i j hi hj hst hDi hQ => absurd hQ (by omega)), h3⟩
  · intro self u hI
    obtain ⟨D, h1, h2, h3⟩ := hI
    simp (disch := omega) only [f_X9_walkFrom_B18, f_X9_walkFrom_K18, nI_1, nI_add, nI_mul, nI_leI, nI_ltI, nI_eq, ckI_n, nI_cl, qL2, qL3, qL4, qL5, qL6, qL7, qL8, qL9, qL10, qL11, qL12, nm, bd1_s, bd2_s, bd3_s, bd4_s]
    simp only [Nat.lt_irrefl, Nat.le_refl, if_true, if_false, ite_true, ite_false, not_true_eq_false, not_false_eq_true, reduceIte]
    have hbd := q_bound (s := s) (D := D) (fun i n hi e => by obtain ⟨j, hj, _, e2⟩ := h2.2.2.1 i n hi e; exact ⟨j, hj, e2⟩)
    exact ⟨u, D, rfl, h1, ⟨h2.1, h2.2.1, h2.2.2.1, fun i j n hi hj hst e => h2.2.2.2.2 i j n hi hj hst e (Or.inl (by have := hbd i n hi e; omega))⟩, hbd, h3⟩
  · refine ⟨updD (fun _ => none) s 0, ?_, ⟨by unfold updD; rw [if_pos rfl], ?_, ?_, ?_, ?_⟩, rfl⟩
    · intro i hi
      show upd g (nI s).toNatClampNeg 0 i = _
      rw [nI_cl (by omega)]
      unfold upd updD
      split
      · rfl
      · rw [e2 i, if_pos hi]; rfl
    · intro i hi e
      unfold updD at e
      split at e
      · assumption
      · cases e
    · intro i n hi e
      unfold updD at e
      split at e
      · cases e
      · cases e
    · intro i n hi e
      unfold updD at e
      split at e
      · cases e; omega
      · cases e
    · intro i j n hi hj hst e hP
      rcases hP with hP | ⟨_, hP⟩
      · omega
      · exact absurd hP (fun q => q)
