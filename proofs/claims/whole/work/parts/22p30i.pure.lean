/-! PURE: the reference's search by steps (lays). -/
/-- the queue q of M entries, D the steps, k entries done and P of the next -/
def LI (a : AS) (s k M : Nat) (P : Nat → Prop) (D : Nat → Option Nat) (q : Nat → Nat) : Prop := D s = some 0 ∧ (∀ i, i < 12 → D i = some 0 → i = s) ∧ (∀ i n, i < 12 → D i = some (n + 1) → ∃ j, j < 12 ∧ stB a j i = true ∧ D j = some n) ∧ (∀ t, t < M → q t < 12 ∧ ∃ n, D (q t) = some n) ∧ (∀ t t', t < t' → t' < M → q t ≠ q t' ∧ ∀ n n', D (q t) = some n → D (q t') = some n' → n ≤ n') ∧ (∀ i n, i < 12 → D i = some n → ∃ t, t < M ∧ q t = i) ∧ (∀ t j n, t < M → j < 12 → stB a (q t) j = true → D (q t) = some n → (t < k ∨ (t = k ∧ P j)) → ∃ m, D j = some m ∧ m ≤ n + 1) ∧ (k < M → ∀ c, D (q k) = some c → ∀ t n, t < M → D (q t) = some n → n ≤ c + 1)
theorem LI_to {a : AS} {s k M : Nat} {P Q : Nat → Prop} {D : Nat → Option Nat} {q : Nat → Nat} (h : LI a s k M P D q) (hq : k < M → ∀ j, j < 12 → stB a (q k) j = true → Q j → P j ∨ ∃ m, D j = some m) : LI a s k M Q D q := by
  obtain ⟨h1, h2, h3, h4, h5, h6, h7, h8⟩ := h
  refine ⟨h1, h2, h3, h4, h5, h6, ?_, h8⟩
  intro t j n ht hj hs e hP
  rcases hP with hP | ⟨rfl, hP⟩
  · exact h7 t j n ht hj hs e (Or.inl hP)
  · rcases hq ht j hj hs hP with h | ⟨m, e2⟩
    · exact h7 t j n ht hj hs e (Or.inr ⟨rfl, h⟩)
    · obtain ⟨t', ht', e3⟩ := h6 j m hj e2
      exact ⟨m, e2, h8 ht n e t' m ht' (by rw [e3]; exact e2)⟩
theorem LI_M {a : AS} {s k M : Nat} {P : Nat → Prop} {D : Nat → Option Nat} {q : Nat → Nat} (h : LI a s k M P D q) {j : Nat} (hj : j < 12) (hn : D j = none) : M < 12 := by
  obtain ⟨h1, h2, h3, h4, h5, h6, h7, h8⟩ := h
  rcases Nat.lt_or_ge M 12 with c | c
  · exact c
  · obtain ⟨x, y, hxy, hy, e⟩ := q_pigeon 12 (fun t => if t < 12 then q t else j) (fun t ht => by
      show (if t < 12 then q t else j) < 12
      split
      · exact (h4 t (by omega)).1
      · exact hj)
    have e : (if x < 12 then q x else j) = (if y < 12 then q y else j) := e
    rw [if_pos (show x < 12 by omega)] at e
    by_cases cy : y < 12
    · rw [if_pos cy] at e
      exact absurd e (h5 x y hxy (by omega)).1
    · rw [if_neg cy] at e
      obtain ⟨n, e2⟩ := (h4 x (by omega)).2
      rw [e, hn] at e2; cases e2
theorem LI_add {a : AS} {s k M c : Nat} {P : Nat → Prop} {D : Nat → Option Nat} {q : Nat → Nat} (h : LI a s k M P D q) (hk : k < M) (hc : D (q k) = some c) {j : Nat} (hj : j < 12) (hn : D j = none) (hs : stB a (q k) j = true) : LI a s k (M + 1) P (updD D j (c + 1)) (fun t => if t = M then j else q t) := by
  obtain ⟨h1, h2, h3, h4, h5, h6, h7, h8⟩ := h
  have ne : ∀ i n, D i = some n → i ≠ j := fun i n e c => by rw [c, hn] at e; cases e
  have ev : ∀ i n, D i = some n → updD D j (c + 1) i = some n := fun i n e => by unfold updD; rw [if_neg (ne i n e)]; exact e
  have qe : ∀ t, t < M → (if t = M then j else q t) = q t := fun t ht => by rw [if_neg (by omega)]
  have bk : ∀ t n, t < M → updD D j (c + 1) (q t) = some n → D (q t) = some n := fun t n ht e => by
    obtain ⟨m, e2⟩ := (h4 t ht).2
    rw [ev _ m e2] at e; rw [e2]; exact e
  refine ⟨ev s 0 h1, ?_, ?_, ?_, ?_, ?_, ?_, ?_⟩
  · intro i hi e
    unfold updD at e
    split at e
    · cases e
    · exact h2 i hi e
  · intro i n hi e
    unfold updD at e
    split at e
    · rename_i ci
      cases e
      exact ⟨q k, (h4 k hk).1, by rw [ci]; exact hs, ev (q k) c hc⟩
    · obtain ⟨j', hj', e1, e2⟩ := h3 i n hi e
      exact ⟨j', hj', e1, ev j' n e2⟩
  · intro t ht
    show (if t = M then j else q t) < 12 ∧ ∃ n, updD D j (c + 1) (if t = M then j else q t) = some n
    by_cases ct : t = M
    · rw [if_pos ct]; exact ⟨hj, c + 1, by unfold updD; rw [if_pos rfl]⟩
    · rw [if_neg ct]
      obtain ⟨a1, n, a2⟩ := h4 t (by omega)
      exact ⟨a1, n, ev _ n a2⟩
  · intro t t' htt ht'
    show (if t = M then j else q t) ≠ (if t' = M then j else q t') ∧ ∀ n n', updD D j (c + 1) (if t = M then j else q t) = some n → updD D j (c + 1) (if t' = M then j else q t') = some n' → n ≤ n'
    rw [qe t (by omega)]
    by_cases ct : t' = M
    · rw [if_pos ct]
      obtain ⟨n0, e0⟩ := (h4 t (by omega)).2
      refine ⟨ne _ n0 e0, ?_⟩
      intro n n' e1 e2
      have e1 := bk t n (by omega) e1
      unfold updD at e2; rw [if_pos rfl] at e2; cases e2
      exact h8 hk c hc t n (by omega) e1
    · rw [if_neg ct]
      refine ⟨(h5 t t' htt (by omega)).1, ?_⟩
      intro n n' e1 e2
      exact (h5 t t' htt (by omega)).2 n n' (bk t n (by omega) e1) (bk t' n' (by omega) e2)
  · intro i n hi e
    by_cases ci : i = j
    · exact ⟨M, by omega, by show (if M = M then j else q M) = i; rw [if_pos rfl, ci]⟩
    · unfold updD at e; rw [if_neg ci] at e
      obtain ⟨t, ht, e2⟩ := h6 i n hi e
      exact ⟨t, by omega, by show (if t = M then j else q t) = i; rw [qe t ht]; exact e2⟩
  · intro t j' n ht hj' hst e hP
    have ct : t < M := by
      rcases hP with hP | ⟨hP, _⟩
      · omega
      · omega
    have hst : stB a (if t = M then j else q t) j' = true := hst
    have e : updD D j (c + 1) (if t = M then j else q t) = some n := e
    rw [qe t ct] at hst e
    obtain ⟨m, e1, e2⟩ := h7 t j' n ct hj' hst (bk t n ct e) hP
    exact ⟨m, ev j' m e1, e2⟩
  · intro _ c' ec t n ht e
    have ec : updD D j (c + 1) (if k = M then j else q k) = some c' := ec
    have e : updD D j (c + 1) (if t = M then j else q t) = some n := e
    rw [qe k hk, ev _ c hc] at ec
    cases ec
    by_cases ct : t = M
    · rw [if_pos ct] at e; unfold updD at e; rw [if_pos rfl] at e; cases e; omega
    · rw [if_neg ct] at e
      exact h8 hk c hc t n (by omega) (bk t n (by omega) e)
/-- the same but for the rows of the search -/
def mSame (u v : SV) : Prop := u.1 = v.1 ∧ ∀ r, r ≠ 5 → r ≠ 6 → u.2 r = v.2 r
theorem m_lays {v : SV} {a : AS} (R : RM (v.2 0) a) (W : WF a) {s : Nat} (hs : s < 12) : ∃ w D, f_X13_lays (nI s) v = some w ∧ (∀ i, i < 12 → w.2 5 i = oD (D i)) ∧ ID a s D ∧ (∀ i n, i < 12 → D i = some n → n ≤ 11) ∧ mSame w v := by
  unfold f_X13_lays
  refine lz2_inv0 (N := 12) (fun (k : Nat) (u : SV) => (∀ i, i < k → u.2 5 i = -4) ∧ mSame u v) (fun (x : Option SV) => ∃ (w : SV) (D : Nat → Option Nat), x = some w ∧ (∀ i, i < 12 → w.2 5 i = oD (D i)) ∧ ID a s D ∧ (∀ i n, i < 12 → D i = some n → n ≤ 11) ∧ mSame w v) ?_ ?_ (by omega) v ⟨fun i hi => by omega, rfl, fun _ _ _ => rfl⟩
  · intro self k u hk hI kk
    obtain ⟨h1, h2, h3⟩ := hI
    simp (disch := omega) only [f_X13_lays_B2, nI_1, nI_add, nI_mul, nI_leI, nI_ltI, nI_eq, ckI_n, nI_cl, qL2, qL3, qL4, qL5, qL6, qL7, qL8, qL9, qL10, qL11, qL12, nm, bd1_s, bd2_s, bd3_s, bd4_s, qm4]
    simp only [show ¬ (12 ≤ k) by omega, Nat.lt_irrefl, Nat.le_refl, if_true, if_false, ite_true, ite_false, not_true_eq_false, not_false_eq_true, reduceIte]
    refine kk _ ⟨fun i hi => ?_, h2, fun r hr1 hr2 => ?_⟩
    · show upd (u.2 5) (nI k).toNatClampNeg (-4) i = -4
      rw [nI_cl (by omega)]; unfold upd
      split
      · rfl
      · exact h1 i (by omega)
    · show (if r = 5 then _ else u.2 r) = _
      rw [if_neg hr1]; exact h3 r hr1 hr2
  · intro self u hI
    obtain ⟨h1, h2, h3⟩ := hI
    have hz : ckI (0 : Int32) 12 = fun x : Option SV => x := by funext x; exact ckI_n (i := 0) (by omega) (by omega)
    simp (disch := omega) only [f_X13_lays_B2, f_X13_lays_K2, nI_1, nI_add, nI_mul, nI_leI, nI_ltI, nI_eq, ckI_n, nI_cl, qL2, qL3, qL4, qL5, qL6, qL7, qL8, qL9, qL10, qL11, qL12, nm, bd1_s, bd2_s, bd3_s, bd4_s, hz]
    simp only [Nat.lt_irrefl, Nat.le_refl, if_true, if_false, ite_true, ite_false, not_true_eq_false, not_false_eq_true, reduceIte]
    refine lz3_inv0 (N := 12) (fun (k : Nat) (b : Int32) (u : SV) => ∃ (M : Nat) (D : Nat → Option Nat) (q : Nat → Nat), b = nI M ∧ M ≤ 12 ∧ k ≤ M ∧ (∀ i, i < 12 → u.2 5 i = oD (D i)) ∧ (∀ t, t < M → u.2 6 t = nI (q t)) ∧ LI a s k M (fun _ => False) D q ∧ mSame u v) (fun (x : Option SV) => ∃ (w : SV) (D : Nat → Option Nat), x = some w ∧ (∀ i, i < 12 → w.2 5 i = oD (D i)) ∧ ID a s D ∧ (∀ i n, i < 12 → D i = some n → n ≤ 11) ∧ mSame w v) ?_ ?_ (by omega) 1 _ ?_
    · intro self k b u hk hI kk
      obtain ⟨M, D, q, rfl, hM, hkM, g1, g2, g3, g4⟩ := hI
      simp (disch := omega) only [f_X13_lays_B40, nI_1, nI_add, nI_mul, nI_leI, nI_ltI, nI_eq, ckI_n, nI_cl, qL2, qL3, qL4, qL5, qL6, qL7, qL8, qL9, qL10, qL11, qL12, nm, bd1_s, bd2_s, bd3_s, bd4_s]
      by_cases c : M ≤ k
      · rw [if_pos c]
        have hbd := q_bound (s := s) (D := D) (fun i n hi e => by obtain ⟨j, hj, _, e2⟩ := g3.2.2.1 i n hi e; exact ⟨j, hj, e2⟩)
        refine ⟨u, D, rfl, g1, ⟨g3.1, g3.2.1, g3.2.2.1, ?_⟩, hbd, g4⟩
        intro i j n hi hj hst e
        obtain ⟨t, ht, rfl⟩ := g3.2.2.2.2.2.1 i n hi e
        exact g3.2.2.2.2.2.2.1 t j n ht hj hst e (Or.inl (by omega))
      · rw [if_neg c]
        obtain ⟨hq, cc, hcc⟩ := g3.2.2.2.1 k (by omega)
        have hrm : ∀ {u : SV}, mSame u v → RM (u.2 0) a := fun {u} hu => by rw [hu.2 0 (by decide) (by decide)]; exact R
        refine lz3_inv0 (N := 12) (fun (o : Nat) (b : Int32) (u : SV) => ∃ (M : Nat) (D : Nat → Option Nat) (q : Nat → Nat), b = nI M ∧ M ≤ 12 ∧ k < M ∧ (∀ i, i < 12 → u.2 5 i = oD (D i)) ∧ (∀ t, t < M → u.2 6 t = nI (q t)) ∧ LI a s k M (fun j => j < o) D q ∧ mSame u v) (fun (x : Option SV) => ∃ (w : SV) (D : Nat → Option Nat), x = some w ∧ (∀ i, i < 12 → w.2 5 i = oD (D i)) ∧ ID a s D ∧ (∀ i n, i < 12 → D i = some n → n ≤ 11) ∧ mSame w v) ?_ ?_ (by omega) _ _ ⟨M, D, q, rfl, hM, by omega, g1, g2, LI_to g3 (fun _ j hj hst hQ => absurd hQ (by omega)), g4⟩
        · intro self2 o b u ho hI2 kk2
          obtain ⟨M, D, q, rfl, hM, hkM, g1, g2, g3, g4⟩ := hI2
          obtain ⟨hq, cc, hcc⟩ := g3.2.2.2.1 k (by omega)
          have hcb : cc ≤ 11 := q_bound (s := s) (D := D) (fun i n hi e => by obtain ⟨j, hj, _, e2⟩ := g3.2.2.1 i n hi e; exact ⟨j, hj, e2⟩) _ cc hq hcc
          simp (disch := omega) only [f_X13_lays_B48, nI_1, nI_add, nI_mul, nI_leI, nI_ltI, nI_eq, ckI_n, nI_cl, qL2, qL3, qL4, qL5, qL6, qL7, qL8, qL9, qL10, qL11, qL12, nm, bd1_s, bd2_s, bd3_s, bd4_s, g1 o ho, g2 k hkM, m_isStep (hrm g4) W hq ho, qsel, g1 (q k) hq, hcc]
          simp only [show ¬ (12 ≤ o) by omega, Nat.lt_irrefl, Nat.le_refl, if_true, if_false, ite_true, ite_false, not_true_eq_false, not_false_eq_true, reduceIte]
          cases e : D o with
          | some m =>
            have hm : m ≤ 11 := q_bound (s := s) (D := D) (fun i n hi e => by obtain ⟨j, hj, _, e2⟩ := g3.2.2.1 i n hi e; exact ⟨j, hj, e2⟩) o m ho e
            rw [if_pos (show 0 ≤ oD (some m) from nI_pos' (by omega))]
            refine kk2 _ _ ⟨M, D, q, rfl, hM, hkM, g1, g2, LI_to g3 (fun _ j hj hst hQ => ?_), g4⟩
            rcases Nat.lt_succ_iff_lt_or_eq.mp hQ with c2 | c2
            · exact Or.inl c2
            · subst c2; exact Or.inr ⟨m, e⟩
          | none =>
            rw [if_neg (show ¬ 0 ≤ oD none by decide)]
            by_cases hst : stB a (q k) o = true
            · have hM2 := LI_M g3 ho e
              simp (disch := omega) only [if_pos hst, ckI_n, oD, nI_1]
              refine kk2 _ _ ⟨M + 1, updD D o (cc + 1), fun t => if t = M then o else q t, rfl, by omega, by omega, ?_, ?_, LI_to (LI_add g3 hkM hcc ho e hst) (fun _ j hj hs2 hQ => ?_), g4.1, fun r hr1 hr2 => ?_⟩
              · intro i hi
                show upd (u.2 5) (nI o).toNatClampNeg (nI (cc + 1)) i = oD (updD D o (cc + 1) i)
                rw [nI_cl (by omega)]; unfold upd updD
                split
                · rfl
                · exact g1 i hi
              · intro t ht
                show upd (u.2 6) (nI M).toNatClampNeg (nI o) t = nI (if t = M then o else q t)
                rw [nI_cl (by omega)]; unfold upd
                split
                · rfl
                · exact g2 t (by omega)
              · rcases Nat.lt_succ_iff_lt_or_eq.mp hQ with c2 | c2
                · exact Or.inl c2
                · subst c2; exact Or.inr ⟨cc + 1, by unfold updD; rw [if_pos rfl]⟩
              · show (if r = 6 then _ else if r = 5 then _ else u.2 r) = _
                rw [if_neg hr2, if_neg hr1]; exact g4.2 r hr1 hr2
            · rw [if_neg hst]
              refine kk2 _ _ ⟨M, D, q, rfl, hM, hkM, g1, g2, LI_to g3 (fun _ j hj hs2 hQ => ?_), g4⟩
              rcases Nat.lt_succ_iff_lt_or_eq.mp hQ with c2 | c2
              · exact Or.inl c2
              · subst c2; exact absurd hs2 hst
        · intro self2 b u hI2
          obtain ⟨M, D, q, rfl, hM, hkM, g1, g2, g3, g4⟩ := hI2
          simp (disch := omega) only [f_X13_lays_B48, f_X13_lays_K48, nI_1, nI_add, nI_mul, nI_leI, nI_ltI, nI_eq, ckI_n, nI_cl, qL2, qL3, qL4, qL5, qL6, qL7, qL8, qL9, qL10, qL11, qL12, nm, bd1_s, bd2_s, bd3_s, bd4_s]
          simp only [Nat.lt_irrefl, Nat.le_refl, if_true, if_false, ite_true, ite_false, not_true_eq_false, not_false_eq_true, reduceIte]
          refine kk _ _ ⟨M, D, q, rfl, hM, by omega, g1, g2, ?_, g4⟩
          obtain ⟨f1, f2, f3, f4, f5, f6, f7, f8⟩ := g3
          refine ⟨f1, f2, f3, f4, f5, f6, ?_, ?_⟩
          · intro t j n ht hj hst e hP
            rcases hP with hP | ⟨_, hP⟩
            · refine f7 t j n ht hj hst e ?_
              rcases Nat.lt_succ_iff_lt_or_eq.mp hP with c2 | c2
              · exact Or.inl c2
              · exact Or.inr ⟨c2, hj⟩
            · exact absurd hP (fun q => q)
          · intro hk1 c' ec t n ht e
            obtain ⟨_, c0, ec0⟩ := f4 k (by omega)
            have h1 := (f5 k (k + 1) (by omega) hk1).2 c0 c' ec0 ec
            have h2 := f8 (by omega) c0 ec0 t n ht e
            omega
    · intro self b u hI
      obtain ⟨M, D, q, rfl, hM, hkM, g1, g2, g3, g4⟩ := hI
      simp (disch := omega) only [f_X13_lays_B40, f_X13_lays_K40, nI_1, nI_add, nI_mul, nI_leI, nI_ltI, nI_eq, ckI_n, nI_cl, qL2, qL3, qL4, qL5, qL6, qL7, qL8, qL9, qL10, qL11, qL12, nm, bd1_s, bd2_s, bd3_s, bd4_s]
      rw [if_pos (by omega)]
      have hbd := q_bound (s := s) (D := D) (fun i n hi e => by obtain ⟨j, hj, _, e2⟩ := g3.2.2.1 i n hi e; exact ⟨j, hj, e2⟩)
      refine ⟨u, D, rfl, g1, ⟨g3.1, g3.2.1, g3.2.2.1, ?_⟩, hbd, g4⟩
      intro i j n hi hj hst e
      obtain ⟨t, ht, rfl⟩ := g3.2.2.2.2.2.1 i n hi e
      exact g3.2.2.2.2.2.2.1 t j n ht hj hst e (Or.inl (by omega))
    · refine ⟨1, updD (fun _ => none) s 0, fun _ => s, rfl, by omega, by omega, ?_, ?_, ⟨by unfold updD; rw [if_pos rfl], ?_, ?_, ?_, ?_, ?_, ?_, ?_⟩, h2, fun r hr1 hr2 => ?_⟩
      · intro i hi
        show upd (u.2 5) (nI s).toNatClampNeg 0 i = _
        rw [nI_cl (by omega)]; unfold upd updD
        split
        · rfl
        · exact h1 i hi
      · intro t ht
        show upd (u.2 6) (0 : Int32).toNatClampNeg (nI s) t = nI s
        have : t = 0 := by omega
        subst this; rfl
      · intro i hi e
        unfold updD at e
        split at e
        · assumption
        · cases e
      · intro i n hi e
        unfold updD at e
        split at e
        · cases e
        · cases e
      · intro t ht; exact ⟨hs, 0, by unfold updD; rw [if_pos rfl]⟩
      · intro t t' h1 h2; omega
      · intro i n hi e
        unfold updD at e
        split at e
        · rename_i ci; exact ⟨0, by omega, ci.symm⟩
        · cases e
      · intro t j n ht hj hst e hP
        rcases hP with hP | ⟨_, hP⟩
        · omega
        · exact absurd hP (fun q => q)
      · intro _ c ec t n ht e
        rw [ec] at e; cases e; omega
      · show (if r = 6 then _ else if r = 5 then _ else u.2 r) = _
        rw [if_neg hr2, if_neg hr1]; exact h3 r hr1 hr2
