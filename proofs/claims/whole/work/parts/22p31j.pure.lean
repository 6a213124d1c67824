/-! PURE: the day on both sides; would grow. -/
theorem m_ages {u : SV} {a : AS} (M : RM (u.2 0) a) (W : WF a) : ∃ u', f_X13_ages u = some u' ∧ RM (u'.2 0) (setL a (dyL (aL a))) ∧ chR 0 u' u := by
  have hl := wf_ln W
  simp (disch := omega) only [f_X13_ages, ck240_0, ck240_1, ck240_2, ck240_3, ck240_4, ck240_5, ck240_6, ck240_7, qc0, qc1, qc2, qc3, qc4, qc5, qc6, qc7, nm, bd1_s, bd2_s, bd3_s, bd4_s, rm_ln M]
  refine lz2_inv0 (N := (aL a).length) (fun (k : Nat) (w : SV) => w.2 0 0 = nI (dyL ((aL a).take k)).length ∧ (∀ t x, (dyL ((aL a).take k))[t]? = some x → w.2 0 (190 + 3 * t) = nI x.1 ∧ w.2 0 (190 + 3 * t + 1) = nI x.2.1 ∧ w.2 0 (190 + 3 * t + 2) = nI x.2.2) ∧ (∀ t x, k ≤ t → (aL a)[t]? = some x → w.2 0 (190 + 3 * t) = nI x.1 ∧ w.2 0 (190 + 3 * t + 1) = nI x.2.1 ∧ w.2 0 (190 + 3 * t + 2) = nI x.2.2) ∧ (∀ j, 0 < j → j < 190 ∨ 208 ≤ j → w.2 0 j = u.2 0 j) ∧ chR 0 w u) (fun (y : Option SV) => ∃ u', y = some u' ∧ RM (u'.2 0) (setL a (dyL (aL a))) ∧ chR 0 u' u) ?_ ?_ (by omega) _ ⟨rfl, fun t x hx => by simp [dyL] at hx, fun t x _ hx => ?_, fun j h1 h2 => ?_, chR_pA⟩
  · intro self k w hk hI kk
    obtain ⟨g1, g2, g3, g4, g5⟩ := hI
    obtain ⟨x, hx⟩ : ∃ x, (aL a)[k]? = some x := ⟨_, List.getElem?_eq_getElem hk⟩
    obtain ⟨e1, e2, e3⟩ := g3 k x (Nat.le_refl _) hx
    have hw := wf_l W hx
    have hlen := dyL_len (aL a) k
    have hd := dyL_take hx
    have p1 : f_X13_linePart (nI k) 0 w = some (nI x.1) := by simp (disch := omega) only [f_X13_linePart, qL190, qL0, nI_1, nI_add, nI_mul, nI_leI, nI_ltI, nI_eq, ckI_n, nI_cl, qL2, qL3, qL4, qL5, qL6, qL7, qL8, qL9, qL10, qL11, qL12, Nat.add_zero, e1]
    have p2 : f_X13_linePart (nI k) 1 w = some (nI x.2.1) := by simp (disch := omega) only [f_X13_linePart, qL190, nI_1, nI_add, nI_mul, nI_leI, nI_ltI, nI_eq, ckI_n, nI_cl, qL2, qL3, qL4, qL5, qL6, qL7, qL8, qL9, qL10, qL11, qL12, e2]
    have p3 : f_X13_linePart (nI k) 2 w = some (nI x.2.2) := by simp (disch := omega) only [f_X13_linePart, qL190, nI_1, nI_add, nI_mul, nI_leI, nI_ltI, nI_eq, ckI_n, nI_cl, qL2, qL3, qL4, qL5, qL6, qL7, qL8, qL9, qL10, qL11, qL12, e3]
    simp (disch := omega) only [f_X13_ages_B16, nI_leI, nm, bd1_s, bd2_s, bd3_s, bd4_s, p1, p2, p3]
    rw [if_neg (by omega)]
    refine lz2_inv0 (N := 3) (fun (q : Nat) (z : SV) => (∀ j, z.2 0 j = if 190 + 3 * k ≤ j ∧ j < 190 + 3 * k + q then 0 else w.2 0 j) ∧ chR 0 z w) (fun (y : Option SV) => ∃ u', y = some u' ∧ RM (u'.2 0) (setL a (dyL (aL a))) ∧ chR 0 u' u) ?_ ?_ (by omega) w ⟨fun j => by rw [if_neg (by omega)], rfl, fun _ _ => rfl⟩
    · intro self2 q z hq hz kk2
      obtain ⟨z1, z2⟩ := hz
      simp (disch := omega) only [f_X13_ages_B49, qL190, nI_1, nI_add, nI_mul, nI_leI, nI_ltI, nI_eq, ckI_n, nI_cl, qL2, qL3, qL4, qL5, qL6, qL7, qL8, qL9, qL10, qL11, qL12, nm, bd1_s, bd2_s, bd3_s, bd4_s]
      simp only [show ¬ (3 ≤ q) by omega, Nat.lt_irrefl, Nat.le_refl, if_true, if_false, ite_true, ite_false, not_true_eq_false, not_false_eq_true, reduceIte]
      refine kk2 _ ⟨fun j => ?_, chR_tr chR_pA z2⟩
      rw [pA0, nI_cl (by omega), upd_if, z1 j]
      by_cases c : j = 190 + 3 * k + q
      · rw [if_pos c, if_pos (by omega)]
      · rw [if_neg c]
        by_cases c2 : 190 + 3 * k ≤ j ∧ j < 190 + 3 * k + q
        · rw [if_pos c2, if_pos (by omega)]
        · rw [if_neg c2, if_neg (by omega)]
    · intro self2 z hz
      obtain ⟨z1, z2⟩ := hz
      have m0 : z.2 0 0 = nI (dyL ((aL a).take k)).length := by rw [z1, if_neg (by omega)]; exact g1
      have q3 : nI x.2.2 - 1 = nI (x.2.2 - 1) := by rw [qL1, nI_subN (by omega)]
      have l0 : (nI (x.2.2 - 1) = 0) ↔ x.2.2 ≤ 1 := by rw [qL0, nI_eq (by omega) (by omega)]; omega
      have f3 : (3 : Int32) * nI (dyL ((aL a).take k)).length = nI (3 * (dyL ((aL a).take k)).length) := by rw [qL3, nI_mul]
      have f2 : ∀ k : Nat, nI k + (2 : Int32) = nI (k + 2) := fun k => nI_add k 2
      simp (disch := omega) only [f_X13_ages_B49, qL3, nI_leI]
      rw [if_pos (by omega)]
      by_cases c : x.2.2 ≤ 1
      · simp only [f_X13_ages_K49, q3, l0, if_pos c, nI_1]
        rw [if_pos c, List.append_nil] at hd
        refine kk _ ⟨by rw [m0, hd], fun t y hy => ?_, fun t y ht hy => ?_, fun j h1 h2 => ?_, chR_tr z2 g5⟩
        · rw [hd] at hy
          have ht := ix_lt hy
          rw [z1, if_neg (by omega), z1, if_neg (by omega), z1, if_neg (by omega)]; exact g2 t y hy
        · rw [z1, if_neg (by omega), z1, if_neg (by omega), z1, if_neg (by omega)]; exact g3 t y (by omega) hy
        · rw [z1, if_neg (by omega)]; exact g4 j h1 h2
      · rw [if_neg c] at hd
        generalize hD : (dyL ((aL a).take k)).length = D at *
        have n1 : (pA z 0 (nI (190 + 3 * D)) (nI x.1)).2 0 0 = nI D := by simp (disch := omega) only [pA0, nI_cl, upd_ne, m0]
        have n2 : (pA (pA z 0 (nI (190 + 3 * D)) (nI x.1)) 0 (nI (190 + 3 * D + 1)) (nI x.2.1)).2 0 0 = nI D := by simp (disch := omega) only [pA0, nI_cl, upd_ne, m0]
        have n3 : (pA (pA (pA z 0 (nI (190 + 3 * D)) (nI x.1)) 0 (nI (190 + 3 * D + 1)) (nI x.2.1)) 0 (nI (190 + 3 * D + 2)) (nI (x.2.2 - 1))).2 0 0 = nI D := by simp (disch := omega) only [pA0, nI_cl, upd_ne, m0]
        simp (disch := omega) only [f_X13_ages_K49, q3, l0, if_neg c, ck240_0, ck240_1, ck240_2, ck240_3, ck240_4, ck240_5, ck240_6, ck240_7, qc0, qc1, qc2, qc3, qc4, qc5, qc6, qc7, m0, f3, qL190, nI_add, nI_1, f2, ckI_n, nm, bd1_s, bd2_s, bd3_s, bd4_s, n1, n2, n3]
        refine kk _ ⟨?_, fun t y hy => ?_, fun t y ht hy => ?_, fun j h1 h2 => ?_, chR_tr chR_pA (chR_tr chR_pA (chR_tr chR_pA (chR_tr chR_pA (chR_tr z2 g5))))⟩
        · simp (disch := omega) only [pA0, nI_cl, qc0, upd_eq]
          rw [hd, List.length_append, List.length_singleton, hD]
        · rw [hd] at hy
          have ht := ix_lt hy
          rw [List.length_append, List.length_singleton, hD] at ht
          by_cases c2 : t < D
          · rw [List.getElem?_append_left (by omega)] at hy
            have := g2 t y hy
            simp (disch := omega) only [pA0, nI_cl, qc0, upd_ne]
            rw [z1, if_neg (by omega), z1, if_neg (by omega), z1, if_neg (by omega)]; exact this
          · have c3 : t = D := by omega
            rw [List.getElem?_append_right (by omega), show t - (dyL ((aL a).take k)).length = 0 by omega] at hy
            have hy : (x.1, x.2.1, x.2.2 - 1) = y := Option.some.inj hy
            subst hy
            subst c3
            simp (disch := omega) only [pA0, nI_cl, qc0, upd_ne, upd_eq]
            exact ⟨trivial, trivial, trivial⟩
        · have := g3 t y (by omega) hy
          simp (disch := omega) only [pA0, nI_cl, qc0, upd_ne]
          rw [z1, if_neg (by omega), z1, if_neg (by omega), z1, if_neg (by omega)]; exact this
        · simp (disch := omega) only [pA0, nI_cl, qc0, upd_ne]
          rw [z1, if_neg (by omega)]; exact g4 j h1 h2
  · intro self w hI
    obtain ⟨g1, g2, g3, g4, g5⟩ := hI
    simp (disch := omega) only [f_X13_ages_B16, f_X13_ages_K16, nI_leI]
    rw [if_pos (by omega)]
    rw [List.take_length] at g1 g2
    obtain ⟨r1, r2, r3, r4, r5, r6, r7, r8, r9, r10, r11, r12, r13, r14⟩ := M
    have hc := wf_cn W
    refine ⟨w, rfl, ⟨fun i hi => (g4 _ (by omega) (by omega)).trans (r1 i hi), fun i hi => (g4 _ (by omega) (by omega)).trans (r2 i hi), fun i j hi hj => (g4 _ (by omega) (by omega)).trans (r3 i j hi hj), fun i hi => (g4 _ (by omega) (by omega)).trans (r4 i hi), g1, fun k x hx => g2 k x hx, (g4 _ (by omega) (by omega)).trans r7, fun k x hx => ⟨(g4 _ (by omega) (by omega)).trans (r8 k x hx).1, (g4 _ (by omega) (by omega)).trans (r8 k x hx).2.1, (g4 _ (by omega) (by omega)).trans (r8 k x hx).2.2⟩, (g4 _ (by omega) (by omega)).trans r9, (g4 _ (by omega) (by omega)).trans r10, (g4 _ (by omega) (by omega)).trans r11, (g4 _ (by omega) (by omega)).trans r12, (g4 _ (by omega) (by omega)).trans r13, (g4 _ (by omega) (by omega)).trans r14⟩, g5⟩
  · have hk : t < (aL a).length := ix_lt hx
    rw [pA0, qc0, upd_ne (by omega), upd_ne (by omega), upd_ne (by omega)]; exact rm_l M hx
  · rw [pA0, qc0, upd_ne (by omega)]
theorem m_endsE0 {u u1 u2 : SV} {g : Int32} (e1 : f_X13_grows u = some (g, u1)) (e2 : f_X13_ages u1 = some u2) : f_X13_ends u = nm (pA u2 0 2 (u2.2 0 2 + 1)) (fun v_4 => lz2 (f_X13_ends_B21 g) FU 0 v_4) := by
  unfold f_X13_ends
  rw [e1, bd2_s, e2, bd1_s, ck240_2, ck240_2, qc2]
theorem nm_s {α ρ : Type} (x : α) (k : α → Option ρ) : nm x k = k x := rfl
theorem m_endsE {u u1 u2 : SV} {g : Int32} (e1 : f_X13_grows u = some (g, u1)) (e2 : f_X13_ages u1 = some u2) : f_X13_ends u = lz2 (f_X13_ends_B21 g) FU 0 (pA u2 0 2 (u2.2 0 2 + 1)) := (m_endsE0 e1 e2).trans (nm_s _ _)
theorem m_ends {u : SV} {a : AS} (M : RM (u.2 0) a) (W : WF a) : ∃ u', f_X13_ends u = some (nI (grN (aP a) 12), u') ∧ RM (u'.2 0) (dyA a) ∧ chR 0 u' u := by
  obtain ⟨u1, e1, M1, c1⟩ := m_grows M W
  have W1 : WF (setN (setPP a (dyP (aP a))) 3 (aN a 3 + nI (grN (aP a) 12))) := wf_setN (wf_PP W)
  obtain ⟨u2, e2, M2, c2⟩ := m_ages M1 W1
  have W2 := wf_dyL W1
  rw [m_endsE e1 e2]
  have M3 := rmU_n0 (x := u2.2 0 2 + 1) M2 W2
  refine lz2_inv0 (N := 12) (fun (k : Nat) (w : SV) => (∀ j, j < 34 ∨ 34 + k ≤ j → w.2 0 j = upd (u2.2 0) 2 (u2.2 0 2 + 1) j) ∧ (∀ i, i < k → w.2 0 (34 + i) = 0) ∧ chR 0 w u) (fun (y : Option (Int32 × SV)) => ∃ u', y = some (nI (grN (aP a) 12), u') ∧ RM (u'.2 0) (dyA a) ∧ chR 0 u' u) ?_ ?_ (by omega) _ ⟨fun j _ => by rw [pA0, qc2], fun i hi => by omega, chR_tr chR_pA (chR_tr c2 c1)⟩
  · intro self k w hk hI kk
    obtain ⟨g1, g2, g3⟩ := hI
    simp (disch := omega) only [f_X13_ends_B21, qL34, nI_1, nI_add, nI_mul, nI_leI, nI_ltI, nI_eq, ckI_n, nI_cl, qL2, qL3, qL4, qL5, qL6, qL7, qL8, qL9, qL10, qL11, qL12, nm, bd1_s, bd2_s, bd3_s, bd4_s]
    simp only [show ¬ (12 ≤ k) by omega, Nat.lt_irrefl, Nat.le_refl, if_true, if_false, ite_true, ite_false, not_true_eq_false, not_false_eq_true, reduceIte]
    refine kk _ ⟨fun j hj => ?_, fun i hi => ?_, chR_tr chR_pA g3⟩
    · rw [pA0, nI_cl (by omega), upd_ne (by omega)]; exact g1 j (by omega)
    · rw [pA0, nI_cl (by omega), upd_if]
      split
      · rfl
      · exact g2 i (by omega)
  · intro self w hI
    obtain ⟨g1, g2, g3⟩ := hI
    simp (disch := omega) only [f_X13_ends_B21, f_X13_ends_K21, nI_1, nI_add, nI_mul, nI_leI, nI_ltI, nI_eq, ckI_n, nI_cl, qL2, qL3, qL4, qL5, qL6, qL7, qL8, qL9, qL10, qL11, qL12, nm, bd1_s, bd2_s, bd3_s, bd4_s]
    simp only [Nat.lt_irrefl, Nat.le_refl, if_true, if_false, ite_true, ite_false, not_true_eq_false, not_false_eq_true, reduceIte]
    refine ⟨w, rfl, ?_, g3⟩
    have hl := wf_ln W2
    have hc := wf_cn W2
    obtain ⟨r1, r2, r3, r4, r5, r6, r7, r8, r9, r10, r11, r12, r13, r14⟩ := M3
    have e0 : upd (u2.2 0) 2 (u2.2 0 2 + 1) 2 = aN a 0 + 1 := by
      rw [upd_eq, (rm_n M2).1]; rfl
    exact ⟨fun i hi => (g1 _ (by omega)).trans (r1 i hi), fun i hi => (g1 _ (by omega)).trans (r2 i hi), fun i j hi hj => (g1 _ (by omega)).trans (r3 i j hi hj), fun i hi => g2 i hi, (g1 _ (by omega)).trans r5, fun k x hx => ⟨(g1 _ (by omega)).trans (r6 k x hx).1, (g1 _ (by omega)).trans (r6 k x hx).2.1, (g1 _ (by omega)).trans (r6 k x hx).2.2⟩, (g1 _ (by omega)).trans r7, fun k x hx => ⟨(g1 _ (by omega)).trans (r8 k x hx).1, (g1 _ (by omega)).trans (r8 k x hx).2.1, (g1 _ (by omega)).trans (r8 k x hx).2.2⟩, (g1 _ (by omega)).trans e0, (g1 _ (by omega)).trans r10, (g1 _ (by omega)).trans r11, (g1 _ (by omega)).trans r12, (g1 _ (by omega)).trans r13, (g1 _ (by omega)).trans r14⟩
theorem wf_setDD {a : AS} (W : WF a) {d : Nat → Int32} : WF (setDD a d) := W
theorem gb_setL {n : Nat} {a : AS} (G : GB n a) {l : List (Nat × Nat × Nat)} : GB n (setL a l) := G
theorem gb_setPP {n : Nat} {a : AS} (G : GB n a) {P : Nat → Nat} : GB n (setPP a P) := G
theorem gb_setDD {n : Nat} {a : AS} (G : GB n a) {d : Nat → Int32} : GB n (setDD a d) := G
theorem wf_dyA {a : AS} (W : WF a) : WF (dyA a) := by
  have W1 : WF (setN (setPP a (dyP (aP a))) 3 (aN a 3 + nI (grN (aP a) 12))) := wf_setN (wf_PP W)
  exact wf_setN (wf_setDD (wf_dyL W1))
theorem gb_dyA {n : Nat} {a : AS} (G : GB n a) : GB n (dyA a) := gb_setN (gb_setDD (gb_setL (gb_setN (gb_setPP G))))
theorem x_endDay {w : SV} {a : AS} (R : RC w a) (W : WF a) : ∃ w', f_X6_endDay w = some (nI (grN (aP a) 12), w') ∧ RC w' (dyA a) := by
  simp only [f_X6_endDay, nm]
  generalize hv : pR w 10 (va_cpy (w.2 0) (w.2 10) (0 : Int32).toNatClampNeg (0 : Int32).toNatClampNeg (12 : Int32).toNatClampNeg) = v1
  have hb : ∀ i, i < 12 → v1.2 10 i = nI (aP a i) := fun i hi => by
    rw [← hv]
    show va_cpy (w.2 0) (w.2 10) (0 : Int32).toNatClampNeg (0 : Int32).toNatClampNeg (12 : Int32).toNatClampNeg i = _
    rw [cpy_at (m := 12) rfl hi]; exact rc_p R hi
  have h1 : v1.1 = w.1 := by rw [← hv]; rfl
  have h2 : ∀ r, r ≠ 10 → v1.2 r = w.2 r := fun r hr => by rw [← hv]; exact if_neg hr
  have hP : ∀ i, i < 12 → aP a i ≤ 9 := fun i hi => wf_p W hi
  refine lz3_inv0 (N := 12) (fun (k : Nat) (b : Int32) (u : SV) => b = nI (grN (aP a) k) ∧ (∀ i, i < 12 → u.2 0 i = nI (if i < k then dyP (aP a) i else aP a i)) ∧ u.1 = v1.1 ∧ ∀ r, r ≠ 0 → u.2 r = v1.2 r) (fun (y : Option (Int32 × SV)) => ∃ w', y = some (nI (grN (aP a) 12), w') ∧ RC w' (dyA a)) ?_ ?_ (by omega) 0 v1 ⟨rfl, fun i hi => by rw [if_neg (by omega), h2 0 (by decide)]; exact rc_p R hi, rfl, fun _ _ => rfl⟩
  · intro self k b u hk hI kk
    obtain ⟨rfl, g1, g2, g3⟩ := hI
    have e1 := g1 k hk
    rw [if_neg (by omega)] at e1
    simp (disch := omega) only [f_X6_endDay_B19, nI_1, nI_add, nI_mul, nI_leI, nI_ltI, nI_eq, ckI_n, nI_cl, qL2, qL3, qL4, qL5, qL6, qL7, qL8, qL9, qL10, qL11, qL12, nm, bd1_s, bd2_s, bd3_s, bd4_s, x_growsBy hP (f := u.2 10) (fun i hi => by rw [g3 10 (by decide)]; exact hb i hi) hk, qsel, e1]
    simp only [show ¬ (12 ≤ k) by omega, Nat.lt_irrefl, Nat.le_refl, if_true, if_false, ite_true, ite_false, not_true_eq_false, not_false_eq_true, reduceIte]
    have hs : grN (aP a) (k + 1) = grN (aP a) k + bN (grB (aP a) k) := rfl
    have hdy : dyP (aP a) k = aP a k + bN (grB (aP a) k) := rfl
    cases c : grB (aP a) k with
    | false =>
      rw [if_neg (by decide)]
      rw [c] at hs hdy
      refine kk _ _ ⟨by rw [hs]; rfl, fun i hi => ?_, g2, g3⟩
      rw [g1 i hi]
      by_cases ci : i = k
      · subst ci; rw [if_neg (by omega), if_pos (by omega), hdy]; rfl
      · by_cases c2 : i < k
        · rw [if_pos c2, if_pos (by omega)]
        · rw [if_neg c2, if_neg (by omega)]
    | true =>
      rw [if_pos rfl]
      rw [c] at hs hdy
      refine kk _ _ ⟨by rw [hs]; rfl, fun i hi => ?_, g2, fun r hr => (if_neg hr : (if r = 0 then _ else u.2 r) = u.2 r).trans (g3 r hr)⟩
      rw [pA0, nI_cl (by omega), upd_if]
      by_cases ci : i = k
      · rw [if_pos ci, if_pos (by omega), ci, hdy]; rfl
      · rw [if_neg ci, g1 i hi]
        by_cases c2 : i < k
        · rw [if_pos c2, if_pos (by omega)]
        · rw [if_neg c2, if_neg (by omega)]
  · intro self b u hI
    obtain ⟨rfl, g1, g2, g3⟩ := hI
    simp (disch := omega) only [f_X6_endDay_B19, nI_1, nI_add, nI_mul, nI_leI, nI_ltI, nI_eq, ckI_n, nI_cl, qL2, qL3, qL4, qL5, qL6, qL7, qL8, qL9, qL10, qL11, qL12]
    simp only [Nat.lt_irrefl, Nat.le_refl, if_true, if_false, ite_true, ite_false, not_true_eq_false, not_false_eq_true, reduceIte]
    have W1 : WF (setN (setPP a (dyP (aP a))) 3 (aN a 3 + nI (grN (aP a) 12))) := wf_setN (wf_PP W)
    have R1 : RC (pF u 3 (u.1 3 + nI (grN (aP a) 12))) (setN (setPP a (dyP (aP a))) 3 (aN a 3 + nI (grN (aP a) 12))) := by
      obtain ⟨r1, r2, r3, r4, r5, r6, r7, r8, r9, r10, r11, r12, r13⟩ := R
      have gg : ∀ r, r ≠ 0 → r ≠ 10 → u.2 r = w.2 r := fun r h3 h4 => (g3 r h3).trans (h2 r h4)
      have g0 : u.1 = w.1 := g2.trans h1
      refine ⟨fun i hi => (by show u.2 0 i = _; rw [g1 i hi, if_pos hi]; rfl), fun i hi => ?_, fun i j hi hj => ?_, fun i hi => ?_, ?_, fun k x hx => ?_, ?_, fun k x hx => ?_, ?_, ?_, ?_, ?_, ?_⟩
      · show u.2 1 i = _; rw [gg 1 (by decide) (by decide)]; exact r2 i hi
      · show u.2 5 _ = _; rw [gg 5 (by decide) (by decide)]; exact r3 i j hi hj
      · show u.2 6 i = _; rw [gg 6 (by decide) (by decide)]; exact r4 i hi
      · show u.1 4 = _; rw [g0]; exact r5
      · show u.2 2 k = _ ∧ u.2 3 k = _ ∧ u.2 4 k = _
        rw [gg 2 (by decide) (by decide), gg 3 (by decide) (by decide), gg 4 (by decide) (by decide)]; exact r6 k x hx
      · show u.1 6 = _; rw [g0]; exact r7
      · show u.2 7 k = _ ∧ u.2 8 k = _ ∧ u.2 9 k = _
        rw [gg 7 (by decide) (by decide), gg 8 (by decide) (by decide), gg 9 (by decide) (by decide)]; exact r8 k x hx
      · show u.1 0 = _; rw [g0]; exact r9
      · show u.1 1 = _; rw [g0]; exact r10
      · show u.1 2 = _; rw [g0]; exact r11
      · show u.1 3 + _ = _; rw [g0, r12]; rfl
      · show u.1 5 = _; rw [g0]; exact r13
    obtain ⟨w2, e2, R2⟩ := x_passLines R1 W1
    obtain ⟨g, e3, k3⟩ := x_fill 0 (n := 12) (by omega) ((mLines (pF u 3 (u.1 3 + nI (grN (aP a) 12))) w2).2 6)
    simp only [f_X6_endDay_K19, nm, bd1_s, bd2_s, bd3_s, bd4_s, e2, f_X4_passDay, e3]
    refine ⟨_, rfl, ?_⟩
    obtain ⟨r1, r2, r3, r4, r5, r6, r7, r8, r9, r10, r11, r12, r13⟩ := R2
    refine ⟨r1, r2, r3, fun i hi => ?_, r5, r6, r7, r8, ?_, r10, r11, r12, r13⟩
    · show g i = 0; rw [k3 i, if_pos hi]
    · show (mLines (pF u 3 (u.1 3 + nI (grN (aP a) 12))) w2).1 0 + 1 = aN a 0 + 1
      rw [r9]; rfl
theorem p_day {N : Nat} : P_day (IV N) (IV (N + 1)) := by
  intro mn ho dr sa hi hh re rf pa od sb v h
  intro _
  obtain ⟨a, R, M, W, Ga⟩ := h.1
  obtain ⟨w, e, Rw⟩ := x_take R W dr
  obtain ⟨w', e1, Rw'⟩ := x_endDay Rw W
  obtain ⟨u, b1, b2, b3, b4⟩ := m_begins M W
  obtain ⟨u', f2, f3, f4⟩ := m_ends b3 W
  have hg : grN (aP a) 12 ≤ 12 * 1 := smN_le (fun i _ => bN_le _)
  have ou : OTH u' v := ⟨(congrFun f4.1 7).trans (congrFun b4.1 7), (congrFun f4.1 8).trans (congrFun b4.1 8), (congrFun f4.1 9).trans (congrFun b4.1 9), (congrFun f4.1 10).trans (congrFun b4.1 10), (f4.2 3 (by decide)).trans (b4.2 3 (by decide)), (f4.2 7 (by decide)).trans (b4.2 7 (by decide)), (f4.2 8 (by decide)).trans (b4.2 8 (by decide))⟩
  obtain ⟨ho', hi', hh', v', k1, k2, k3⟩ := q_settle (u1 := u) (u2 := u') (r := nI (grN (aP a) 12)) h R W Ga Rw' (wf_dyA W) (GB_up (gb_dyA Ga)) (by rw [f4.2 1 (by decide)]; exact b2) f3 ((congrFun f4.1 0).trans (congrFun b4.1 0)) ((f4.2 4 (by decide)).trans (b4.2 4 (by decide))) ou rf (by have := h.2.2.2.2.1; unfold RFR at *; rw [f4.1, b4.1]; exact this) (nI_pos (by omega)) re (RER_o h.2.2.2.2.2.1 ou)
  refine ⟨nI (grN (aP a) 12), ho', w', hi', hh', v', ?_, ?_, k3⟩
  · simp only [f_X12_day, e, bd1_s, e1, bd2_s, k1, bd4_s]
  · simp only [f_X13_day, b1, bd1_s, f2, bd2_s, k2]
def gwP (P : Nat → Nat) : Nat → Nat → Nat
  | 0 => P
  | k + 1 => dyP (gwP P k)
theorem p_wouldGrow {N : Nat} : P_wouldGrow (IV N) (IV (N + 1)) := by
  intro mn ho dr sa hi hh re rf pa od sb v h x
  obtain ⟨⟨a, R, M, W, Ga⟩, h2, ⟨hs, h3, h3'⟩, h4, h5, h6, h7⟩ := IV_up h
  have e20 : (20 : Int32) = nI 20 := rfl
  by_cases c1 : x < 0
  · exact ⟨-2, dr, v, by simp only [f_X12_wouldGrow, if_pos c1], by simp only [f_X13_wouldGrow, f_X13_in, if_pos c1, bd1_s, if_true], IV_up h⟩
  · obtain ⟨m, hm, rfl⟩ := nI_of c1
    have l1 : (nI m ≤ 20) ↔ m ≤ 20 := by rw [e20, nI_leI hm (by omega)]
    have l2 : ((20 : Int32) < nI m) ↔ 20 < m := by rw [e20, nI_ltI (by omega) hm]
    by_cases c2 : m ≤ 20
    · obtain ⟨w, e, Rw⟩ := x_take R W dr
      obtain ⟨z, e2, k⟩ := m_copy0 (v.2 0) (v.2 2)
      -- class
      have X : ∃ w' b, lz2 (f_X12_wouldGrow_B26 (nI m)) FU 0 w = some (nI (smN b 12), w') ∧ b = gwP (aP a) m := by
        refine lz2_inv0 (N := m) (fun (k : Nat) (u : SV) => ∃ ac, RC u ac ∧ WF ac ∧ aP ac = gwP (aP a) k) (fun (y : Option (Int32 × SV)) => ∃ w' b, y = some (nI (smN b 12), w') ∧ b = gwP (aP a) m) ?_ ?_ (by omega) w ⟨a, Rw, W, rfl⟩
        · intro self k u hk hI kk
          obtain ⟨ac, q1, q2, q3⟩ := hI
          obtain ⟨u', q4, q5⟩ := x_endDay q1 q2
          simp (disch := omega) only [f_X12_wouldGrow_B26, nI_1, nI_add, nI_mul, nI_leI, nI_ltI, nI_eq, ckI_n, nI_cl, qL2, qL3, qL4, qL5, qL6, qL7, qL8, qL9, qL10, qL11, qL12, nm, bd1_s, bd2_s, bd3_s, bd4_s, q4]
          rw [if_neg (by omega)]
          exact kk _ ⟨dyA ac, q5, wf_dyA q2, by show dyP (aP ac) = dyP _; rw [q3]⟩
        · intro self u hI
          obtain ⟨ac, q1, q2, q3⟩ := hI
          simp (disch := omega) only [f_X12_wouldGrow_B26, f_X12_wouldGrow_K26, nI_1, nI_add, nI_mul, nI_leI, nI_ltI, nI_eq, ckI_n, nI_cl, qL2, qL3, qL4, qL5, qL6, qL7, qL8, qL9, qL10, qL11, qL12, nm, bd1_s, bd2_s, bd3_s, bd4_s, x_plantSum q1]
          rw [if_pos (Nat.le_refl _)]
          exact ⟨u, aP ac, rfl, q3⟩
      have Y : ∃ v', lz3 (f_X13_wouldGrow_B30 (nI m)) FU 0 0 (pR v 2 z) = some (nI (smN (gwP (aP a) m) 12), v') ∧ RM (v'.2 0) a ∧ v'.1 = v.1 ∧ ∀ r, r ≠ 0 → r ≠ 2 → v'.2 r = v.2 r := by
        refine lz3_inv0 (N := m) (fun (k : Nat) (b : Int32) (u : SV) => ∃ ac, RM (u.2 0) ac ∧ WF ac ∧ aP ac = gwP (aP a) k ∧ chR 0 u (pR v 2 z)) (fun (y : Option (Int32 × SV)) => ∃ v', y = some (nI (smN (gwP (aP a) m) 12), v') ∧ RM (v'.2 0) a ∧ v'.1 = v.1 ∧ ∀ r, r ≠ 0 → r ≠ 2 → v'.2 r = v.2 r) ?_ ?_ (by omega) 0 _ ⟨a, M, W, rfl, rfl, fun _ _ => rfl⟩
        · intro self k b u hk hI kk
          obtain ⟨ac, q1, q2, q3, q6⟩ := hI
          obtain ⟨u', q4, q5, q7⟩ := m_grows q1 q2
          simp (disch := omega) only [f_X13_wouldGrow_B30, nI_1, nI_add, nI_mul, nI_leI, nI_ltI, nI_eq, ckI_n, nI_cl, qL2, qL3, qL4, qL5, qL6, qL7, qL8, qL9, qL10, qL11, qL12, nm, bd1_s, bd2_s, bd3_s, bd4_s, q4]
          rw [if_neg (by omega)]
          exact kk _ _ ⟨_, q5, wf_PP q2, by show dyP (aP ac) = dyP _; rw [q3], chR_tr q7 q6⟩
        · intro self b u hI
          obtain ⟨ac, q1, q2, q3, q6⟩ := hI
          obtain ⟨z2, e3, k3⟩ := m_copy0 (u.2 2) (u.2 0)
          simp (disch := omega) only [f_X13_wouldGrow_B30, f_X13_wouldGrow_K30, nI_1, nI_add, nI_mul, nI_leI, nI_ltI, nI_eq, ckI_n, nI_cl, qL2, qL3, qL4, qL5, qL6, qL7, qL8, qL9, qL10, qL11, qL12, nm, bd1_s, bd2_s, bd3_s, bd4_s, m_allPlants q1, e3]
          rw [if_pos (Nat.le_refl _)]
          refine ⟨pR u 0 z2, by rw [← q3], rm_eq (fun i hi => ?_) M W, q6.1, fun r hr hr2 => ?_⟩
          · show z2 i = _
            rw [k3 i hi, q6.2 2 (by decide)]
            show z i = _
            exact k i hi
          · show (if r = 0 then z2 else u.2 r) = _
            rw [if_neg hr, q6.2 r hr]; exact if_neg hr2
      obtain ⟨w', b, e4, rfl⟩ := X
      obtain ⟨v', e5, e6, e7, e8⟩ := Y
      have o : OTH v' v := ⟨congrFun e7 7, congrFun e7 8, congrFun e7 9, congrFun e7 10, e8 3 (by decide) (by decide), e8 7 (by decide) (by decide), e8 8 (by decide) (by decide)⟩
      refine ⟨nI (smN (gwP (aP a) m) 12), w', v', ?_, ?_, ⟨a, R, e6, W, Ga⟩, SAR_o h2 o, ⟨hs, HSR_eq h3 (congrFun e7 0) (e8 4 (by decide) (by decide)), h3'⟩, FAR_o h4 o, ?_, RER_o h6 o, SBR_o h7 o⟩
      · simp only [f_X12_wouldGrow, if_neg c1, l1, if_pos c2, e, bd1_s, e4]
      · simp only [f_X13_wouldGrow, f_X13_in, if_neg c1, l2, if_neg (Nat.not_lt.mpr c2), bd1_s, if_neg n10, e2, nm, e5]
      · unfold RFR at *; rw [e7]; exact h5
    · exact ⟨-2, dr, v, by simp only [f_X12_wouldGrow, if_neg c1, l1, if_neg c2], by simp only [f_X13_wouldGrow, f_X13_in, if_neg c1, l2, if_pos (Nat.lt_of_not_le c2), bd1_s, if_true], IV_up h⟩
