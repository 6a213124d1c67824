/-! PURE: plant, bear, hang, greet, give. -/
theorem e1i : (1 : Int32).toInt = 1 := rfl
theorem e0i : (0 : Int32).toInt = 0 := rfl
theorem e9i : (9 : Int32).toInt = 9 := rfl
theorem q_many (y : Int32) : (∃ m, 1 ≤ m ∧ m ≤ 9 ∧ y = nI m ∧ f_X13_areMany y = some 1 ∧ ¬ y < 1 ∧ y ≤ 9) ∨ (f_X13_areMany y = some 0 ∧ (y < 1 ∨ (¬ y < 1 ∧ ¬ y ≤ 9))) := by
  by_cases h : y < 1
  · exact Or.inr ⟨by simp only [f_X13_areMany, f_X13_in, if_pos h, bd1_s]; rfl, Or.inl h⟩
  · have h0 : ¬ y < 0 := fun q => by rw [Int32.lt_iff_toInt_lt] at q h; rw [e1i] at h; rw [e0i] at q; omega
    obtain ⟨m, hm, rfl⟩ := nI_of h0
    have t := nI_toInt hm
    have hm1 : 1 ≤ m := by rw [Int32.lt_iff_toInt_lt, t, e1i] at h; omega
    by_cases h2 : m ≤ 9
    · refine Or.inl ⟨m, hm1, h2, rfl, ?_, h, by rw [qL9, nI_leI hm (by omega)]; exact h2⟩
      have : ¬ (9 : Int32) < nI m := by rw [qL9, nI_ltI (by omega) hm]; omega
      simp only [f_X13_areMany, f_X13_in, if_neg h, if_neg this, bd1_s]; rfl
    · refine Or.inr ⟨?_, Or.inr ⟨h, by rw [qL9, nI_leI hm (by omega)]; exact h2⟩⟩
      have : (9 : Int32) < nI m := by rw [qL9, nI_ltI (by omega) hm]; omega
      simp only [f_X13_areMany, f_X13_in, if_neg h, if_pos this, bd1_s]; rfl
theorem q_tol (y : Int32) : (∃ m, m ≤ 9 ∧ y = nI m ∧ f_X13_isTolerance y = some 1 ∧ ¬ y < 0 ∧ y ≤ 9) ∨ (f_X13_isTolerance y = some 0 ∧ (y < 0 ∨ (¬ y < 0 ∧ ¬ y ≤ 9))) := by
  by_cases h : y < 0
  · exact Or.inr ⟨by simp only [f_X13_isTolerance, f_X13_in, if_pos h, bd1_s]; rfl, Or.inl h⟩
  · obtain ⟨m, hm, rfl⟩ := nI_of h
    by_cases h2 : m ≤ 9
    · refine Or.inl ⟨m, h2, rfl, ?_, h, by rw [qL9, nI_leI hm (by omega)]; exact h2⟩
      have : ¬ (9 : Int32) < nI m := by rw [qL9, nI_ltI (by omega) hm]; omega
      simp only [f_X13_isTolerance, f_X13_in, if_neg h, if_neg this, bd1_s]; rfl
    · refine Or.inr ⟨?_, Or.inr ⟨h, by rw [qL9, nI_leI hm (by omega)]; exact h2⟩⟩
      have : (9 : Int32) < nI m := by rw [qL9, nI_ltI (by omega) hm]; omega
      simp only [f_X13_isTolerance, f_X13_in, if_neg h, if_pos this, bd1_s]; rfl
theorem pA0 {v : SV} {i x : Int32} : (pA v 0 i x).2 0 = upd (v.2 0) i.toNatClampNeg x := rfl
theorem chR_pA {v : SV} {i x : Int32} : chR 0 (pA v 0 i x) v := ⟨rfl, fun k hk => if_neg hk⟩
theorem chR_tr {r : Nat} {u v w : SV} (h : chR r u v) (k : chR r v w) : chR r u w := ⟨h.1.trans k.1, fun j hj => (h.2 j hj).trans (k.2 j hj)⟩
theorem q_plant {N : Nat} {a : AS} {w : SV} (R : RC w a) (W : WF a) (G : GB N a) (x y : Int32) : CMD N a w (f_X6_putPlants x y w) (f_X13_isBalcony x) (f_X13_areMany y) (f_X13_isRefusedPlant x y) (f_X13_puts x y) := by
  rcases q_bal x with ⟨i, hi, rfl⟩ | hb
  · rcases q_many y with ⟨m, m1, m9, rfl, d1, d2, d3⟩ | ⟨d1, d2⟩
    · refine Or.inr (Or.inr ⟨m_isBal hi, d1, ?_⟩)
      have hp := wf_p W hi
      by_cases c : aP a i + m ≤ 9
      · refine Or.inr ⟨nI (aP a i + m), pF (pA w 0 (nI i) (nI (aP a i + m))) 2 (w.1 2 + nI m), setN (setP a i (aP a i + m)) 2 (w.1 2 + nI m), nI_pos (by omega), fun rf => ?_, rcF (rcA_p R hi) (by omega) _, ⟨wf_setN (wf_setP W c), GB_up (gb_setN (gb_setP G))⟩, fun u M => ⟨?_, pA (pA u 0 (nI (10 + i)) (nI (aP a i + m))) 0 4 (w.1 2 + nI m), ?_, ?_, ?_⟩⟩
        · have e1 : (pF (pA w 0 (nI i) (nI (aP a i + m))) 2 (w.1 2 + nI m)).2 0 i = nI (aP a i + m) := by
            show upd (w.2 0) (nI i).toNatClampNeg _ i = _
            rw [nI_cl (by omega), upd_eq]
          have e2 : (pA w 0 (nI i) (nI (aP a i + m))).1 2 = w.1 2 := rfl
          simp (disch := omega) only [f_X6_putPlants, x_isBal hi, nm, bd1_s, bd2_s, bd3_s, bd4_s, if_neg n10, if_neg d2, if_pos d3, ckI_n, nI_cl, rc_p R hi, nI_add, qL9, nI_leI, if_pos c, if_pos m9, e2, e1]
        · simp (disch := omega) only [f_X13_isRefusedPlant, m_plants M hi, nm, bd1_s, bd2_s, bd3_s, bd4_s, nI_add, qL9, nI_leI, if_pos c]
        · have e1 : (pA u 0 (nI (10 + i)) (nI (aP a i + m))).2 0 4 = w.1 2 := by
            show upd (u.2 0) (nI (10 + i)).toNatClampNeg _ 4 = _
            rw [nI_cl (by omega), upd_ne (by omega), (rm_n M).2.2.1, (rc_n R).2.2.1]
          have e2 : f_X13_plants (nI i) (pA (pA u 0 (nI (10 + i)) (nI (aP a i + m))) 0 4 (w.1 2 + nI m)) = some (nI (aP a i + m)) := by
            simp (disch := omega) only [f_X13_plants, qL10, nI_add, ckI_n, nI_cl]
            show some (upd (upd (u.2 0) (nI (10 + i)).toNatClampNeg (nI (aP a i + m))) 4 (w.1 2 + nI m) (10 + i)) = _
            rw [upd_ne (by omega), nI_cl (by omega), upd_eq]
          simp (disch := omega) only [f_X13_puts, qL10, nI_add, ckI_n, nI_cl, rm_p M hi, nm, bd1_s, bd2_s, bd3_s, bd4_s, ck240_0, ck240_1, ck240_2, ck240_3, ck240_4, ck240_5, ck240_6, ck240_7, qc0, qc1, qc2, qc3, qc4, qc5, qc6, qc7, e1, e2]
        · show RM (upd (upd (u.2 0) (nI (10 + i)).toNatClampNeg (nI (aP a i + m))) 4 (w.1 2 + nI m)) _
          rw [nI_cl (by omega)]
          exact rmU_n2 (rmU_p M W hi) (wf_setP W c)
        · exact chR_tr chR_pA chR_pA
      · refine Or.inl ⟨4, nI (aP a i), by decide, fun rf => ?_, fun u M => ?_⟩
        · simp (disch := omega) only [f_X6_putPlants, x_isBal hi, nm, bd1_s, bd2_s, bd3_s, bd4_s, if_neg n10, if_neg d2, if_pos d3, ckI_n, nI_cl, rc_p R hi, nI_add, qL9, nI_leI, if_neg c, if_pos m9, x_note]
        · simp (disch := omega) only [f_X13_isRefusedPlant, m_plants M hi, nm, bd1_s, bd2_s, bd3_s, bd4_s, nI_add, qL9, nI_leI, if_neg c, f_X13_isBad, if_neg n10]
    · refine Or.inr (Or.inl ⟨m_isBal hi, d1, fun rf => ?_⟩)
      simp only [f_X6_putPlants, x_isBal hi, nm, bd1_s, bd2_s, bd3_s, bd4_s, if_neg n10]
      rcases d2 with d2 | ⟨d2, d3⟩
      · rw [if_pos d2]
      · rw [if_neg d2, if_neg d3]
  · exact Or.inl ⟨m_isBalN hb, fun rf => by simp only [f_X6_putPlants, x_isBalN hb, nm, bd1_s, bd2_s, bd3_s, bd4_s, if_true]⟩
theorem q_bear {N : Nat} {a : AS} {w : SV} (R : RC w a) (W : WF a) (G : GB N a) (x y : Int32) : CMD N a w (f_X6_changeTolerance x y w) (f_X13_isBalcony x) (f_X13_isTolerance y) (f_X13_isRefusedBear x y) (f_X13_tells x y) := by
  rcases q_bal x with ⟨i, hi, rfl⟩ | hb
  · rcases q_tol y with ⟨m, m9, rfl, d1, d2, d3⟩ | ⟨d1, d2⟩
    · refine Or.inr (Or.inr ⟨m_isBal hi, d1, ?_⟩)
      have hp := wf_t W hi
      by_cases c : m = aT a i
      · refine Or.inl ⟨3, nI m, by decide, fun rf => ?_, fun u M => ?_⟩
        · simp (disch := omega) only [f_X6_changeTolerance, x_isBal hi, nm, bd1_s, bd2_s, bd3_s, bd4_s, if_neg n10, if_neg d2, if_pos d3, ckI_n, nI_cl, rc_t R hi, nI_eq, if_pos c, x_note, ← c, if_true]
        · simp (disch := omega) only [f_X13_isRefusedBear, qL22, nI_add, ckI_n, nI_cl, rm_t M hi, nI_eq, if_pos c.symm, nm, bd1_s, bd2_s, bd3_s, bd4_s, f_X13_isBad, if_neg n10]
      · refine Or.inr ⟨nI (aT a i), pA w 1 (nI i) (nI m), setT a i m, nI_pos (by omega), fun rf => ?_, rcA_t R hi, ⟨wf_setT W m9, GB_up (gb_setT G)⟩, fun u M => ⟨?_, pA u 0 (nI (22 + i)) (nI m), ?_, ?_, chR_pA⟩⟩
        · simp (disch := omega) only [f_X6_changeTolerance, x_isBal hi, nm, bd1_s, bd2_s, bd3_s, bd4_s, if_neg n10, if_neg d2, if_pos d3, ckI_n, nI_cl, rc_t R hi, nI_eq, if_neg c]
        · simp (disch := omega) only [f_X13_isRefusedBear, qL22, nI_add, ckI_n, nI_cl, rm_t M hi, nI_eq, if_neg (show ¬ aT a i = m from fun e => c e.symm)]
        · simp (disch := omega) only [f_X13_tells, qL22, nI_add, ckI_n, nI_cl, rm_t M hi, nm, bd1_s, bd2_s, bd3_s, bd4_s]
        · show RM (upd (u.2 0) (nI (22 + i)).toNatClampNeg (nI m)) _
          rw [nI_cl (by omega)]
          exact rmU_t M W hi
    · refine Or.inr (Or.inl ⟨m_isBal hi, d1, fun rf => ?_⟩)
      simp only [f_X6_changeTolerance, x_isBal hi, nm, bd1_s, bd2_s, bd3_s, bd4_s, if_neg n10]
      rcases d2 with d2 | ⟨d2, d3⟩
      · rw [if_pos d2]
      · rw [if_neg d2, if_neg d3]
  · exact Or.inl ⟨m_isBalN hb, fun rf => by simp only [f_X6_changeTolerance, x_isBalN hb, nm, bd1_s, bd2_s, bd3_s, bd4_s, if_true]⟩
theorem lnB_found {a : AS} {lo hi : Nat} (h : hasL a lo hi = true) : ∃ (k : Nat) (x : Nat × Nat × Nat), lnB a lo hi = nI k ∧ (aL a)[k]? = some x ∧ k < (aL a).length := by
  obtain ⟨j, x, h1, h2, _, h4⟩ := fnd_at (fun x : Nat × Nat × Nat => decide (x.1 = lo ∧ x.2.1 = hi)) (-1) (aL a) 0 h
  exact ⟨j, x, by rw [Nat.zero_add] at h1; exact h1, h2, h4⟩
theorem m_isOneN {i j : Nat} (h : i ≠ j) (hi : i < 12) (hj : j < 12) (u : SV) : f_X13_isOne (nI i) (nI j) u = some (0, u) := by
  simp (disch := omega) only [f_X13_isOne, nI_eq, if_neg h]
theorem m_isOneY {i : Nat} (u : SV) : f_X13_isOne (nI i) (nI i) u = some (1, pF (pF u 1 2) 2 (nI i)) := by
  simp only [f_X13_isOne, f_X13_isBad, nm, bd1_s, bd2_s, bd3_s, bd4_s, if_true, if_neg n10]
theorem wf_setL {a : AS} (W : WF a) {lo hi d : Nat} (h6 : (aL a).length < 6) (h1 : lo < hi) (h2 : hi < 12) (h3 : 1 ≤ d) (h4 : d ≤ 9) (h5 : hasL a lo hi = false) : WF (setL a ((aL a) ++ [(lo, hi, d)])) := by
  obtain ⟨w1, w2, w3, w4, w5, w6⟩ := W
  refine ⟨w1, w2, ?_, ?_, ?_, w6⟩
  · show ((aL a) ++ [(lo, hi, d)]).length ≤ 6
    rw [List.length_append, List.length_singleton]; omega
  · intro x hx
    have hx : x ∈ (aL a) ++ [(lo, hi, d)] := hx
    rcases List.mem_append.mp hx with q | q
    · exact w4 x q
    · rw [List.mem_singleton.mp q]; exact ⟨h1, h2, h3, h4⟩
  · show (((aL a) ++ [(lo, hi, d)]).map (fun x => (x.1, x.2.1))).Nodup
    rw [List.map_append, List.nodup_append]
    refine ⟨w5, List.nodup_cons.mpr ⟨by simp, List.nodup_nil⟩, ?_⟩
    intro p hp q hq e
    subst e
    have hq : p = (lo, hi) := List.mem_singleton.mp hq
    obtain ⟨x, hx, e⟩ := List.mem_map.mp hp
    unfold hasL at h5
    have := List.any_eq_false.mp h5 x hx
    rw [hq] at e
    injection e with e1 e2
    exact this (decide_eq_true ⟨e1, e2⟩)
theorem rcL {w : SV} {a : AS} (R : RC w a) {lo hi d : Nat} (h6 : (aL a).length < 6) : RC (mLines w (pF (pF (pA (pA (pA w 2 (nI (aL a).length) (nI lo)) 3 (nI (aL a).length) (nI hi)) 4 (nI (aL a).length) (nI d)) 4 (nI ((aL a).length + 1))) 5 (w.1 5 + 1))) (setN (setL a ((aL a) ++ [(lo, hi, d)])) 4 (w.1 5 + 1)) := by
  obtain ⟨r1, r2, r3, r4, r5, r6, r7, r8, r9, r10, r11, r12, r13⟩ := R
  refine ⟨r1, r2, r3, r4, ?_, fun k x hx => ?_, r7, r8, r9, r10, r11, r12, rfl⟩
  · show nI ((aL a).length + 1) = nI ((aL a) ++ [(lo, hi, d)]).length
    rw [List.length_append, List.length_singleton]
  · have hx : ((aL a) ++ [(lo, hi, d)])[k]? = some x := hx
    show upd (w.2 2) (nI (aL a).length).toNatClampNeg (nI lo) k = nI x.1 ∧ upd (w.2 3) (nI (aL a).length).toNatClampNeg (nI hi) k = nI x.2.1 ∧ upd (w.2 4) (nI (aL a).length).toNatClampNeg (nI d) k = nI x.2.2
    rw [nI_cl (by omega)]
    have hk := ix_lt hx
    rw [List.length_append, List.length_singleton] at hk
    by_cases c : k < (aL a).length
    · rw [List.getElem?_append_left c] at hx
      rw [upd_ne (by omega), upd_ne (by omega), upd_ne (by omega)]
      exact r6 k x hx
    · have hk2 : k = (aL a).length := by omega
      subst hk2
      rw [List.getElem?_append_right (Nat.le_refl _), Nat.sub_self] at hx
      have hx : (lo, hi, d) = x := Option.some.inj hx
      subst hx
      rw [upd_eq, upd_eq, upd_eq]; exact ⟨rfl, rfl, rfl⟩
theorem q_hang {N : Nat} {a : AS} {w : SV} (R : RC w a) (W : WF a) (G : GB N a) (x y z : Int32) : CMD N a w (f_X6_hangLine x y z w) (f_X13_areTwo x y) (f_X13_areMany z) (f_X13_isRefusedHang x y) (f_X13_hangs x y z) := by
  have hl := wf_ln W
  rcases q_two x y with ⟨i, j, hi, hj, rfl, rfl⟩ | hb
  · rcases q_many z with ⟨m, m1, m9, rfl, d1, d2, d3⟩ | ⟨d1, d2⟩
    · refine Or.inr (Or.inr ⟨m_areTwo hi hj, d1, ?_⟩)
      by_cases c : i = j
      · subst c
        refine Or.inl ⟨2, nI i, by decide, fun rf => ?_, fun u M => ?_⟩
        · simp (disch := omega) only [f_X6_hangLine, x_areBal hi hi, nm, bd1_s, bd2_s, bd3_s, bd4_s, if_neg n10, if_neg d2, if_pos d3, if_true, x_note]
        · simp only [f_X13_isRefusedHang, m_isOneY, nm, bd1_s, bd2_s, bd3_s, bd4_s, if_neg n10]
      · have hcc : ¬ nI i = nI j := by rw [nI_eq (by omega) (by omega)]; exact c
        have hmx : max i j < 12 := by omega
        have hlt : min i j < max i j := by omega
        cases hf : hasL a (min i j) (max i j) with
        | true =>
          obtain ⟨k, q, k1, k2, k3⟩ := lnB_found hf
          have hk0 : ¬ nI k < 0 := nI_pos (by omega)
          refine Or.inl ⟨3, nI q.2.2, by decide, fun rf => ?_, fun u M => ?_⟩
          · simp (disch := omega) only [f_X6_hangLine, x_areBal hi hj, nm, bd1_s, bd2_s, bd3_s, bd4_s, if_neg n10, if_neg d2, if_pos d3, if_neg hcc, x_between R W hi hj, k1, if_neg hk0, ckI_n, nI_cl, (rc_l R k2).2.2, x_note]
          · simp (disch := omega) only [f_X13_isRefusedHang, m_isOneN c hi hj, nm, bd1_s, bd2_s, bd3_s, bd4_s, if_true, m_lineBetween M W hi hj, k1, if_neg hk0, (m_linePart M W k2).2.2, f_X13_isBad]
            rfl
        | false =>
          have hlb : lnB a (min i j) (max i j) < 0 := (lnB_lt W).mpr hf
          by_cases c6 : (aL a).length < 6
          · refine Or.inr ⟨nI (aL a).length, mLines w (pF (pF (pA (pA (pA w 2 (nI (aL a).length) (nI (min i j))) 3 (nI (aL a).length) (nI (max i j))) 4 (nI (aL a).length) (nI m)) 4 (nI ((aL a).length + 1))) 5 (w.1 5 + 1)), setN (setL a ((aL a) ++ [(min i j, max i j, m)])) 4 (w.1 5 + 1), nI_pos (by omega), fun rf => ?_, rcL R c6, ⟨wf_setN (wf_setL W c6 hlt hmx m1 m9 hf), GB_up G⟩, fun u M => ⟨?_, pA (pA (pA (pA (pA u 0 (nI (190 + 3 * (aL a).length)) (nI (min i j))) 0 (nI (190 + 3 * (aL a).length + 1)) (nI (max i j))) 0 (nI (190 + 3 * (aL a).length + 2)) (nI m)) 0 0 (nI ((aL a).length + 1))) 0 7 (w.1 5 + 1), ?_, ?_, ?_⟩⟩
            · have e4 : (pA (pA (pA w 2 (nI (aL a).length) (nI (min i j))) 3 (nI (aL a).length) (nI (max i j))) 4 (nI (aL a).length) (nI m)).1 4 = nI (aL a).length := (show w.1 4 = _ from rc_ln R)
              have e5 : (pF (pA (pA (pA w 2 (nI (aL a).length) (nI (min i j))) 3 (nI (aL a).length) (nI (max i j))) 4 (nI (aL a).length) (nI m)) 4 (nI ((aL a).length + 1))).1 5 = w.1 5 := rfl
              simp (disch := omega) only [f_X6_hangLine, x_areBal hi hj, nm, bd1_s, bd2_s, bd3_s, bd4_s, if_neg n10, if_neg d2, if_pos d3, if_neg hcc, x_between R W hi hj, if_pos hlb, rc_ln R, qL6, nI_ltI, if_pos c6, f_X7_add, q_minN, q_maxN, ckI_n, e4, nI_1, e5]
            · simp (disch := omega) only [f_X13_isRefusedHang, m_isOneN c hi hj, nm, bd1_s, bd2_s, bd3_s, bd4_s, if_true, m_lineBetween M W hi hj, if_pos hlb, ck240_0, ck240_1, ck240_2, ck240_3, ck240_4, ck240_5, ck240_6, ck240_7, qc0, qc1, qc2, qc3, qc4, qc5, qc6, qc7, rm_ln M, qL6, nI_eq, if_neg (show ¬ (aL a).length = 6 by omega)]
            · have e0 : (pA (pA (pA u 0 (nI (190 + 3 * (aL a).length)) (nI (min i j))) 0 (nI (190 + 3 * (aL a).length + 1)) (nI (max i j))) 0 (nI (190 + 3 * (aL a).length + 2)) (nI m)).2 0 0 = nI (aL a).length := by
                simp (disch := omega) only [pA0, nI_cl, upd_ne, rm_ln M]
              have e7 : (pA (pA (pA (pA u 0 (nI (190 + 3 * (aL a).length)) (nI (min i j))) 0 (nI (190 + 3 * (aL a).length + 1)) (nI (max i j))) 0 (nI (190 + 3 * (aL a).length + 2)) (nI m)) 0 0 (nI ((aL a).length + 1))).2 0 7 = w.1 5 := by
                simp (disch := omega) only [pA0, nI_cl, qc0, upd_ne, (rm_n M).2.2.2.2.1, (rc_n R).2.2.2.2]
              have q3 : (3 : Int32) * nI (aL a).length = nI (3 * (aL a).length) := by rw [qL3, nI_mul]
              have f2 : ∀ k : Nat, nI k + (2 : Int32) = nI (k + 2) := fun k => nI_add k 2
              by_cases cij : j ≤ i
              · have h1 : min i j = j := by omega
                have h2 : max i j = i := by omega
                rw [h1, h2] at e0 e7 ⊢
                simp (disch := omega) only [f_X13_hangs, f_X13_hangs_J30, f_X13_hangs_J55, ck240_0, ck240_1, ck240_2, ck240_3, ck240_4, ck240_5, ck240_6, ck240_7, qc0, qc1, qc2, qc3, qc4, qc5, qc6, qc7, rm_ln M, nm, bd1_s, bd2_s, bd3_s, bd4_s, nI_leI, if_pos cij, qL190, q3, nI_add, nI_1, f2, ckI_n, e0, e7]
              · have h1 : min i j = i := by omega
                have h2 : max i j = j := by omega
                rw [h1, h2] at e0 e7 ⊢
                simp (disch := omega) only [f_X13_hangs, f_X13_hangs_J30, f_X13_hangs_J55, ck240_0, ck240_1, ck240_2, ck240_3, ck240_4, ck240_5, ck240_6, ck240_7, qc0, qc1, qc2, qc3, qc4, qc5, qc6, qc7, rm_ln M, nm, bd1_s, bd2_s, bd3_s, bd4_s, nI_leI, if_neg cij, qL190, q3, nI_add, nI_1, f2, ckI_n, e0, e7]
            · simp (disch := omega) only [pA0, nI_cl, qc0, qc7]
              exact rmU_n4 (rmU_l M W c6) (wf_setL W c6 hlt hmx m1 m9 hf)
            · exact chR_tr chR_pA (chR_tr chR_pA (chR_tr chR_pA (chR_tr chR_pA chR_pA)))
          · have c7 : (aL a).length = 6 := by omega
            refine Or.inl ⟨1, 6, by decide, fun rf => ?_, fun u M => ?_⟩
            · simp (disch := omega) only [f_X6_hangLine, x_areBal hi hj, nm, bd1_s, bd2_s, bd3_s, bd4_s, if_neg n10, if_neg d2, if_pos d3, if_neg hcc, x_between R W hi hj, if_pos hlb, rc_ln R, c7, show ¬ nI 6 < 6 by decide, if_false, x_note]
            · have : nI 6 = (6 : Int32) := rfl
              simp (disch := omega) only [f_X13_isRefusedHang, m_isOneN c hi hj, nm, bd1_s, bd2_s, bd3_s, bd4_s, if_true, m_lineBetween M W hi hj, if_pos hlb, ck240_0, ck240_1, ck240_2, ck240_3, ck240_4, ck240_5, ck240_6, ck240_7, qc0, qc1, qc2, qc3, qc4, qc5, qc6, qc7, rm_ln M, c7, this, f_X13_isBad, if_neg n10]
    · refine Or.inr (Or.inl ⟨m_areTwo hi hj, d1, fun rf => ?_⟩)
      simp only [f_X6_hangLine, x_areBal hi hj, nm, bd1_s, bd2_s, bd3_s, bd4_s, if_neg n10]
      rcases d2 with d2 | ⟨d2, d3⟩
      · rw [if_pos d2]
      · rw [if_neg d2, if_neg d3]
  · exact Or.inl ⟨m_areTwoN hb, fun rf => by simp only [f_X6_hangLine, x_areBalN hb, nm, bd1_s, bd2_s, bd3_s, bd4_s, if_true]⟩
