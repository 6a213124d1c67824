/-! PURE: the fewest steps by lessening (lessenFrom). -/
theorem qL1000 : (1000 : Int32) = nI 1000 := rfl
theorem ckB_l {ρ : Type} {i : Int32} {x : Option ρ} (h : i = 0 ∨ i = 1) : ckB i x = x := by unfold ckB; exact if_pos h
/-- numbers that a walk can have, or 1000 -/
def qLS (D : Nat → Option Nat) (x : Nat → Nat) : Prop := ∀ i, i < 12 → x i ≤ 1000 ∧ (x i < 1000 → ∃ n, D i = some n ∧ n ≤ x i)
theorem bsB_ne {i j : Nat} (h : bsB i j = true) : i ≠ j := by
  have := of_decide_eq_true h
  omega
theorem stB_ne {a : AS} {i j : Nat} (h : stB a i j = true) : i ≠ j := by
  unfold stB at h
  rw [Bool.and_eq_true] at h
  exact bsB_ne h.1
theorem x_lessenBeside {h : SV} {a : AS} (R : RC h a) (W : WF a) {s b : Nat} {D : Nat → Option Nat} (hD : ID a s D) (hb : b < 12) {u : SV} {x : Nat → Nat} (hu : ∀ i, i < 12 → u.2 1 i = nI (x i)) (hx : qLS D x) :
    ∃ (f : Int32) (u' : SV) (x' : Nat → Nat), f_X9_lessenBeside (nI b) u h = some (f, u') ∧ (∀ i, i < 12 → u'.2 1 i = nI (x' i)) ∧ qLS D x' ∧ (∀ i, i < 12 → x' i ≤ x i) ∧ (f = 0 ∨ f = 1) ∧ (f = 0 → ∀ i, i < 12 → x' i = x i) ∧ x' b = x b ∧ (∀ j, j < 12 → stB a b j = true → x' j ≤ x b + 1) ∧ u'.2 0 = u.2 0 := by
  unfold f_X9_lessenBeside
  refine lz3_inv0 (N := 4) (fun (d : Nat) (f : Int32) (u' : SV) => ∃ x' : Nat → Nat, (∀ i, i < 12 → u'.2 1 i = nI (x' i)) ∧ qLS D x' ∧ (∀ i, i < 12 → x' i ≤ x i) ∧ (f = 0 ∨ f = 1) ∧ (f = 0 → ∀ i, i < 12 → x' i = x i) ∧ x' b = x b ∧ (∀ d' j, d' < d → stp a b d' = some j → x' j ≤ x b + 1) ∧ u'.2 0 = u.2 0) (fun (y : Option (Int32 × SV)) => ∃ (f : Int32) (u' : SV) (x' : Nat → Nat), y = some (f, u') ∧ (∀ i, i < 12 → u'.2 1 i = nI (x' i)) ∧ qLS D x' ∧ (∀ i, i < 12 → x' i ≤ x i) ∧ (f = 0 ∨ f = 1) ∧ (f = 0 → ∀ i, i < 12 → x' i = x i) ∧ x' b = x b ∧ (∀ j, j < 12 → stB a b j = true → x' j ≤ x b + 1) ∧ u'.2 0 = u.2 0) ?_ ?_ (by omega) 0 u ⟨x, hu, hx, fun i _ => Nat.le_refl _, Or.inl rfl, fun _ _ _ => rfl, rfl, fun d' j h => by omega, rfl⟩
  · intro self d f u' hd hI kk
    obtain ⟨x', g1, g2, g3, g4, g5, g6, g7, g8⟩ := hI
    have hxb := (g2 b hb).1
    simp (disch := omega) only [f_X9_lessenBeside_B5, nI_1, nI_add, nI_mul, nI_leI, nI_ltI, nI_eq, ckI_n, nI_cl, qL2, qL3, qL4, qL5, qL6, qL7, qL8, qL9, qL10, qL11, qL12, nm, bd1_s, bd2_s, bd3_s, bd4_s, x_stepFrom R W hb hd]
    simp only [show ¬ (4 ≤ d) by omega, Nat.lt_irrefl, Nat.le_refl, if_true, if_false, ite_true, ite_false, not_true_eq_false, not_false_eq_true, reduceIte]
    cases e : stp a b d with
    | none =>
      rw [if_pos (show oI none < 0 by decide)]
      refine kk _ _ ⟨x', g1, g2, g3, g4, g5, g6, fun d' j hd' e2 => ?_, g8⟩
      rcases Nat.lt_succ_iff_lt_or_eq.mp hd' with c | c
      · exact g7 d' j c e2
      · subst c; rw [e] at e2; cases e2
    | some j =>
      obtain ⟨hj, hst, hnb⟩ := stp_st hb e
      have hxj := (g2 j hj).1
      have hn0 : ¬ oI (some j) < 0 := nI_pos (by omega)
      rw [if_neg hn0]
      simp (disch := omega) only [oI, ckI_n, nI_cl, g1 j hj, g1 b hb, nI_1, nI_leI]
      by_cases c : x' j ≤ x' b + 1
      · rw [if_pos c]
        refine kk _ _ ⟨x', g1, g2, g3, g4, g5, g6, fun d' j' hd' e2 => ?_, g8⟩
        rcases Nat.lt_succ_iff_lt_or_eq.mp hd' with c2 | c2
        · exact g7 d' j' c2 e2
        · subst c2; rw [e] at e2; cases e2; rw [g6] at c; exact c
      · rw [if_neg c]
        have hbj := stB_ne hst
        refine kk _ _ ⟨fun i => if i = j then x' b + 1 else x' i, ?_, ?_, ?_, Or.inr rfl, fun e0 => absurd e0 (by decide), ?_, ?_, g8⟩
        · intro i hi
          show upd (u'.2 1) (nI j).toNatClampNeg (nI (x' b + 1)) i = nI (if i = j then x' b + 1 else x' i)
          rw [nI_cl (by omega)]; unfold upd
          split
          · rfl
          · exact g1 i hi
        · intro i hi
          show (if i = j then x' b + 1 else x' i) ≤ 1000 ∧ ((if i = j then x' b + 1 else x' i) < 1000 → ∃ n, D i = some n ∧ n ≤ (if i = j then x' b + 1 else x' i))
          by_cases ci : i = j
          · rw [if_pos ci]
            refine ⟨by omega, fun hlt => ?_⟩
            obtain ⟨n, e2, e3⟩ := (g2 b hb).2 (by omega)
            obtain ⟨m, e4, e5⟩ := hD.2.2.2 b j n hb hj hst e2
            exact ⟨m, by rw [ci]; exact e4, by omega⟩
          · rw [if_neg ci]; exact g2 i hi
        · intro i hi
          show (if i = j then x' b + 1 else x' i) ≤ x i
          split
          · rename_i ci; subst ci; have := g3 i hi; omega
          · exact g3 i hi
        · show (if b = j then _ else x' b) = x b
          rw [if_neg hbj]; exact g6
        · intro d' j' hd' e2
          show (if j' = j then x' b + 1 else x' j') ≤ x b + 1
          split
          · omega
          · rename_i cj
            rcases Nat.lt_succ_iff_lt_or_eq.mp hd' with c2 | c2
            · exact g7 d' j' c2 e2
            · subst c2; rw [e] at e2; cases e2; exact absurd rfl cj
  · intro self f u' hI
    obtain ⟨x', g1, g2, g3, g4, g5, g6, g7, g8⟩ := hI
    simp (disch := omega) only [f_X9_lessenBeside_B5, f_X9_lessenBeside_K5, nI_1, nI_add, nI_mul, nI_leI, nI_ltI, nI_eq, ckI_n, nI_cl, qL2, qL3, qL4, qL5, qL6, qL7, qL8, qL9, qL10, qL11, qL12, nm, bd1_s, bd2_s, bd3_s, bd4_s, ckB_l g4]
    simp only [Nat.lt_irrefl, Nat.le_refl, if_true, if_false, ite_true, ite_false, not_true_eq_false, not_false_eq_true, reduceIte]
    refine ⟨f, u', x', rfl, g1, g2, g3, g4, g5, g6, fun j hj hst => ?_, g8⟩
    obtain ⟨d, hd, e⟩ := st_stp hb hj hst
    exact g7 d j hd e
/-- the last loop: what no walk reaches -/
theorem x_lessenEnd {D : Nat → Option Nat} {u : SV} {x : Nat → Nat} (hu : ∀ i, i < 12 → u.2 1 i = nI (x i)) (hx : qLS D x) (hD : ∀ i n, i < 12 → D i = some n → x i ≤ n ∧ n ≤ 11) : ∃ w, lz2 (f_X9_lessenFrom_B72) FU 0 u = some w ∧ (∀ i, i < 12 → w.2 1 i = oD (D i)) ∧ w.2 0 = u.2 0 := by
  have key : ∀ i, i < 12 → (x i < 1000 → D i = some (x i)) ∧ (¬ x i < 1000 → D i = none) := by
    intro i hi
    refine ⟨fun h => ?_, fun h => ?_⟩
    · obtain ⟨n, e, hn⟩ := (hx i hi).2 h
      have := hD i n hi e
      rw [e]; congr 1; omega
    · cases e : D i with
      | none => rfl
      | some n => have := hD i n hi e; omega
  refine lz2_inv0 (N := 12) (fun (k : Nat) (w : SV) => (∀ j, j < 12 → w.2 1 j = if j < k then oD (D j) else nI (x j)) ∧ w.2 0 = u.2 0) (fun (y : Option SV) => ∃ w, y = some w ∧ (∀ i, i < 12 → w.2 1 i = oD (D i)) ∧ w.2 0 = u.2 0) ?_ ?_ (by omega) u ⟨fun j hj => by rw [if_neg (by omega)]; exact hu j hj, rfl⟩
  · intro self k w hk hI kk
    obtain ⟨g1, g2⟩ := hI
    have e := g1 k hk
    rw [if_neg (by omega)] at e
    have hxk := (hx k hk).1
    simp (disch := omega) only [f_X9_lessenFrom_B72, nI_1, nI_add, nI_mul, nI_leI, nI_ltI, nI_eq, ckI_n, nI_cl, qL2, qL3, qL4, qL5, qL6, qL7, qL8, qL9, qL10, qL11, qL12, nm, bd1_s, bd2_s, bd3_s, bd4_s, qL1000, e, qm4]
    simp only [show ¬ (12 ≤ k) by omega, Nat.lt_irrefl, Nat.le_refl, if_true, if_false, ite_true, ite_false, not_true_eq_false, not_false_eq_true, reduceIte]
    by_cases c : x k < 1000
    · rw [if_pos c]
      refine kk _ ⟨fun j hj => ?_, g2⟩
      rw [g1 j hj]
      by_cases c1 : j < k
      · rw [if_pos c1, if_pos (by omega)]
      · rw [if_neg c1]
        by_cases c2 : j = k
        · subst c2; rw [if_pos (by omega), (key j hj).1 c]; rfl
        · rw [if_neg (by omega)]
    · rw [if_neg c]
      refine kk _ ⟨fun j hj => ?_, g2⟩
      show upd (w.2 1) (nI k).toNatClampNeg (-4) j = _
      rw [nI_cl (by omega)]; unfold upd
      by_cases c2 : j = k
      · subst c2; rw [if_pos rfl, if_pos (by omega), (key j hj).2 c]; rfl
      · rw [if_neg c2, g1 j hj]
        by_cases c1 : j < k
        · rw [if_pos c1, if_pos (by omega)]
        · rw [if_neg c1, if_neg (by omega)]
  · intro self w hI
    obtain ⟨g1, g2⟩ := hI
    simp (disch := omega) only [f_X9_lessenFrom_B72, f_X9_lessenFrom_K72, nI_1, nI_add, nI_mul, nI_leI, nI_ltI, nI_eq, ckI_n, nI_cl, qL2, qL3, qL4, qL5, qL6, qL7, qL8, qL9, qL10, qL11, qL12, nm, bd1_s, bd2_s, bd3_s, bd4_s]
    simp only [Nat.lt_irrefl, Nat.le_refl, if_true, if_false, ite_true, ite_false, not_true_eq_false, not_false_eq_true, reduceIte]
    exact ⟨w, rfl, fun i hi => by rw [g1 i hi, if_pos hi], g2⟩
theorem x_lessenFrom {h : SV} {a : AS} (R : RC h a) (W : WF a) {s : Nat} (hs : s < 12) (v : SV) {D : Nat → Option Nat} (hD : ID a s D) (h11 : ∀ i n, i < 12 → D i = some n → n ≤ 11) : ∃ w, f_X9_lessenFrom (nI s) v h = some w ∧ (∀ i, i < 12 → w.2 1 i = oD (D i)) ∧ w.2 0 = v.2 0 := by
  obtain ⟨g, e1, e2⟩ := x_fill 1000 (n := 12) (by omega) (v.2 1)
  simp (disch := omega) only [f_X9_lessenFrom, ckI_n, nm, bd1_s, bd2_s, bd3_s, bd4_s, e1]
  have fin : ∀ (r : Nat) (u : SV) (x : Nat → Nat), (∀ i, i < 12 → u.2 1 i = nI (x i)) → qLS D x → (∀ i n, i < 12 → D i = some n → x i ≤ n) → u.2 0 = v.2 0 → ∃ w, lz2 (f_X9_lessenFrom_B72) FU 0 u = some w ∧ (∀ i, i < 12 → w.2 1 i = oD (D i)) ∧ w.2 0 = v.2 0 := by
    intro r u x h1 h2 h3 h4
    obtain ⟨w, q1, q2, q3⟩ := x_lessenEnd h1 h2 (fun i n hi e => ⟨h3 i n hi e, h11 i n hi e⟩)
    exact ⟨w, q1, q2, q3.trans h4⟩
  refine lz3_inv0 (N := 12) (fun (r : Nat) (f : Int32) (u : SV) => ∃ x : Nat → Nat, (∀ i, i < 12 → u.2 1 i = nI (x i)) ∧ qLS D x ∧ (∀ i n, i < 12 → D i = some n → n ≤ r → x i ≤ n) ∧ (f = 0 → ∀ i j, i < 12 → j < 12 → stB a i j = true → x j ≤ x i + 1) ∧ u.2 0 = v.2 0) (fun (y : Option SV) => ∃ w, y = some w ∧ (∀ i, i < 12 → w.2 1 i = oD (D i)) ∧ w.2 0 = v.2 0) ?_ ?_ (by omega) 1 _ ?_
  · intro self r f u hr hI kk
    obtain ⟨x, g1, g2, g3, g4, g5⟩ := hI
    simp (disch := omega) only [f_X9_lessenFrom_B22, f_X9_lessenFrom_K22, nI_1, nI_add, nI_mul, nI_leI, nI_ltI, nI_eq, ckI_n, nI_cl, qL2, qL3, qL4, qL5, qL6, qL7, qL8, qL9, qL10, qL11, qL12, nm, bd1_s, bd2_s, bd3_s, bd4_s]
    simp only [show ¬ (12 ≤ r) by omega, Nat.lt_irrefl, Nat.le_refl, if_true, if_false, ite_true, ite_false, not_true_eq_false, not_false_eq_true, reduceIte]
    by_cases c : f = 0
    · rw [if_pos c]
      refine fin r u x g1 g2 ?_ g5
      have hcl := g4 c
      intro i n
      induction n generalizing i with
      | zero => intro hi e; exact g3 i 0 hi e (by omega)
      | succ n ih =>
        intro hi e
        obtain ⟨j, hj, hst, e2⟩ := hD.2.2.1 i n hi e
        have := ih j hj e2
        have := hcl j i hj hi hst
        omega
    · rw [if_neg c]
      refine lz3_inv0 (N := 12) (fun (b : Nat) (f : Int32) (u : SV) => ∃ x' : Nat → Nat, (∀ i, i < 12 → u.2 1 i = nI (x' i)) ∧ qLS D x' ∧ (∀ i, i < 12 → x' i ≤ x i) ∧ (f = 0 → ∀ i j, i < b → j < 12 → stB a i j = true → x' j ≤ x' i + 1) ∧ (∀ i j n, i < b → j < 12 → stB a i j = true → D i = some n → n ≤ r → x' j ≤ n + 1) ∧ u.2 0 = v.2 0) (fun (y : Option SV) => ∃ w, y = some w ∧ (∀ i, i < 12 → w.2 1 i = oD (D i)) ∧ w.2 0 = v.2 0) ?_ ?_ (by omega) 0 u ⟨x, g1, g2, fun i _ => Nat.le_refl _, fun _ i j h => by omega, fun i j n h => by omega, g5⟩
      · intro self2 b f u hb hI2 kk2
        obtain ⟨x', k1, k2, k3, k4, k5, k6⟩ := hI2
        obtain ⟨f', u', y, p1, p2, p3, p4, p5, p6, p7, p8, p9⟩ := x_lessenBeside R W hD hb k1 k2
        simp (disch := omega) only [f_X9_lessenFrom_B38, nI_1, nI_add, nI_mul, nI_leI, nI_ltI, nI_eq, ckI_n, nI_cl, qL2, qL3, qL4, qL5, qL6, qL7, qL8, qL9, qL10, qL11, qL12, nm, bd1_s, bd2_s, bd3_s, bd4_s, p1]
        simp only [show ¬ (12 ≤ b) by omega, Nat.lt_irrefl, Nat.le_refl, if_true, if_false, ite_true, ite_false, not_true_eq_false, not_false_eq_true, reduceIte]
        have h5' : ∀ i j n, i < b + 1 → j < 12 → stB a i j = true → D i = some n → n ≤ r → y j ≤ n + 1 := by
          intro i j n hi hj hst e hn
          rcases Nat.lt_succ_iff_lt_or_eq.mp hi with c2 | c2
          · have := k5 i j n c2 hj hst e hn; have := p4 j hj; omega
          · subst c2
            have q1 := p8 j hj hst
            have q2 := k3 i hb
            have q3 := g3 i n hb e hn
            omega
        by_cases c2 : f' = 0
        · rw [if_pos c2]
          refine kk2 _ _ ⟨y, p2, p3, fun i hi => Nat.le_trans (p4 i hi) (k3 i hi), fun hf i j hi hj hst => ?_, h5', p9.trans k6⟩
          have hy := p6 c2
          rcases Nat.lt_succ_iff_lt_or_eq.mp hi with c3 | c3
          · rw [hy j hj, hy i (by omega)]; exact k4 hf i j c3 hj hst
          · subst c3; rw [p7]; exact p8 j hj hst
        · rw [if_neg c2]
          exact kk2 _ _ ⟨y, p2, p3, fun i hi => Nat.le_trans (p4 i hi) (k3 i hi), fun hf => absurd hf (by decide), h5', p9.trans k6⟩
      · intro self2 f u hI2
        obtain ⟨x', k1, k2, k3, k4, k5, k6⟩ := hI2
        simp (disch := omega) only [f_X9_lessenFrom_B38, f_X9_lessenFrom_K38, nI_1, nI_add, nI_mul, nI_leI, nI_ltI, nI_eq, ckI_n, nI_cl, qL2, qL3, qL4, qL5, qL6, qL7, qL8, qL9, qL10, qL11, qL12, nm, bd1_s, bd2_s, bd3_s, bd4_s]
        simp only [Nat.lt_irrefl, Nat.le_refl, if_true, if_false, ite_true, ite_false, not_true_eq_false, not_false_eq_true, reduceIte]
        refine kk _ _ ⟨x', k1, k2, ?_, k4, k6⟩
        intro i n hi e hn
        rcases Nat.lt_or_ge r n with c2 | c2
        · have : n = r + 1 := by omega
          subst this
          obtain ⟨j, hj, hst, e2⟩ := hD.2.2.1 i r hi e
          exact k5 j i r hj hi hst e2 (Nat.le_refl _)
        · exact Nat.le_trans (k3 i hi) (g3 i n hi e c2)
  · intro self f u hI
    obtain ⟨x, g1, g2, g3, g4, g5⟩ := hI
    simp (disch := omega) only [f_X9_lessenFrom_B22, f_X9_lessenFrom_K22, nI_1, nI_add, nI_mul, nI_leI, nI_ltI, nI_eq, ckI_n, nI_cl, qL2, qL3, qL4, qL5, qL6, qL7, qL8, qL9, qL10, qL11, qL12, nm, bd1_s, bd2_s, bd3_s, bd4_s]
    simp only [Nat.lt_irrefl, Nat.le_refl, if_true, if_false, ite_true, ite_false, not_true_eq_false, not_false_eq_true, reduceIte]
    exact fin 12 u x g1 g2 (fun i n hi e => g3 i n hi e (by have := h11 i n hi e; omega)) g5
  · refine ⟨fun i => if i = s then 0 else 1000, ?_, ?_, ?_, fun h => absurd h (by decide), rfl⟩
    · intro i hi
      show upd g (nI s).toNatClampNeg 0 i = nI (if i = s then 0 else 1000)
      rw [nI_cl (by omega)]; unfold upd
      split
      · rfl
      · rw [e2 i, if_pos hi]; rfl
    · intro i hi
      show (if i = s then 0 else 1000) ≤ 1000 ∧ ((if i = s then 0 else 1000) < 1000 → ∃ n, D i = some n ∧ n ≤ (if i = s then 0 else 1000))
      by_cases ci : i = s
      · rw [if_pos ci]; exact ⟨by omega, fun _ => ⟨0, by rw [ci]; exact hD.1, Nat.le_refl 0⟩⟩
      · rw [if_neg ci]; exact ⟨by omega, fun h => by omega⟩
    · intro i n hi e hn
      have : n = 0 := by omega
      subst this
      have := hD.2.1 i hi e
      show (if i = s then 0 else 1000) ≤ 0
      rw [if_pos this]; omega
theorem x_areAlike {w : SV} (h : ∀ i, i < 12 → w.2 0 i = w.2 1 i) : f_X9_areAlike w = some 1 := by
  unfold f_X9_areAlike
  refine lz1_inv0 (N := 12) (fun _ => True) (fun x => x = some 1) ?_ ?_ (by omega) trivial
  · intro self k hk _ kk
    simp (disch := omega) only [f_X9_areAlike_B2, nI_1, nI_add, nI_mul, nI_leI, nI_ltI, nI_eq, ckI_n, nI_cl, qL2, qL3, qL4, qL5, qL6, qL7, qL8, qL9, qL10, qL11, qL12, nm, bd1_s, bd2_s, bd3_s, bd4_s, h k hk]
    simp only [show ¬ (12 ≤ k) by omega, Nat.lt_irrefl, Nat.le_refl, if_true, if_false, ite_true, ite_false, not_true_eq_false, not_false_eq_true, reduceIte]
    exact kk trivial
  · intro self _
    simp (disch := omega) only [f_X9_areAlike_B2, f_X9_areAlike_K2, nI_1, nI_add, nI_mul, nI_leI, nI_ltI, nI_eq, ckI_n, nI_cl, qL2, qL3, qL4, qL5, qL6, qL7, qL8, qL9, qL10, qL11, qL12, nm, bd1_s, bd2_s, bd3_s, bd4_s]
    simp only [Nat.lt_irrefl, Nat.le_refl, if_true, if_false, ite_true, ite_false, not_true_eq_false, not_false_eq_true, reduceIte]
