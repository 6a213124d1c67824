/-! PURE: greet, give, cat. -/
theorem m_isQuarrel {u : SV} {a : AS} (M : RM (u.2 0) a) (W : WF a) {i j : Nat} (hi : i < 12) (hj : j < 12) : f_X13_isQuarrel (nI i) (nI j) u = if i = j then some (1, pF (pF u 1 2) 2 (nI i)) else if feB a i j = true then some (1, pF (pF u 1 5) 2 (nI (max i j))) else some (0, u) := by
  unfold f_X13_isQuarrel
  by_cases c : i = j
  · subst c
    rw [m_isOneY]; simp only [nm, bd1_s, bd2_s, bd3_s, bd4_s, if_neg n10, if_true]
  · rw [m_isOneN c hi hj]
    simp only [nm, bd1_s, bd2_s, bd3_s, bd4_s, if_true, m_areFeuding M W hi hj, qsel, if_neg c]
    cases feB a i j with
    | false => rfl
    | true =>
      simp only [if_true]
      by_cases c2 : i ≤ j
      · rw [if_pos (nI_le c2 (by omega)), show max i j = j by omega]; rfl
      · rw [if_neg (nI_ge (by omega) (by omega)), show max i j = i by omega]; rfl
theorem x_isToday {w : SV} {a : AS} (R : RC w a) {i j : Nat} (hi : i < 12) : f_X4_isToday (nI i) (nI j) w = if ((aD a i >>> (nI j &&& 31)) &&& 1) = 1 then some 1 else some 0 := by
  simp (disch := omega) only [f_X4_isToday, ckI_n, nI_cl, rc_d R hi]
theorem rcG {w : SV} {a : AS} (R : RC w a) {i j : Nat} (hi : i < 12) (hj : j < 12) (x y : Int32) : RC (mGreetings w (pA (pA w 5 (nI (i * 12 + j)) x) 6 (nI i) y)) (setD (setG a i j x) i y) := by
  obtain ⟨r1, r2, r3, r4, r5, r6, r7, r8, r9⟩ := R
  refine ⟨r1, r2, fun i' j' hi' hj' => ?_, fun i' hi' => ?_, r5, r6, r7, r8, r9⟩
  · show upd (w.2 5) (nI (i * 12 + j)).toNatClampNeg x (i' * 12 + j') = if i' = i ∧ j' = j then x else aG a i' j'
    rw [nI_cl (by omega), upd_if]
    by_cases c : i' = i ∧ j' = j
    · rw [if_pos (by omega), if_pos c]
    · rw [if_neg (by omega), if_neg c]; exact r3 i' j' hi' hj'
  · show upd (w.2 6) (nI i).toNatClampNeg y i' = if i' = i then y else aD a i'
    rw [nI_cl (by omega), upd_if]
    by_cases c : i' = i
    · rw [if_pos c, if_pos c]
    · rw [if_neg c, if_neg c]; exact r4 i' hi'
theorem q_greet {N : Nat} (hN : N < 1000000) {a : AS} {w : SV} (R : RC w a) (W : WF a) (G : GB N a) (x y : Int32) : CMD N a w (f_X6_letGreet x y w) (f_X13_areTwo x y) (some 1) (f_X13_isRefusedGreet x y) (f_X13_greets x y) := by
  rcases q_two x y with ⟨i, j, hi, hj, rfl, rfl⟩ | hb
  · refine Or.inr (Or.inr ⟨m_areTwo hi hj, rfl, ?_⟩)
    by_cases c : i = j
    · subst c
      refine Or.inl ⟨2, nI i, by decide, fun rf => ?_, fun u M => ?_⟩
      · simp only [f_X6_letGreet, x_areBal hi hi, nm, bd1_s, bd2_s, bd3_s, bd4_s, if_neg n10, if_true, x_note]
      · simp only [f_X13_isRefusedGreet, m_isQuarrel M W hi hi, if_true, nm, bd1_s, bd2_s, bd3_s, bd4_s, if_neg n10]
    · have hcc : ¬ nI i = nI j := by rw [nI_eq (by omega) (by omega)]; exact c
      by_cases hf : feB a i j = true
      · refine Or.inl ⟨5, nI (max i j), by decide, fun rf => ?_, fun u M => ?_⟩
        · simp (disch := omega) only [f_X6_letGreet, x_areBal hi hj, nm, bd1_s, bd2_s, bd3_s, bd4_s, if_neg n10, if_neg hcc, x_isFeud R W hi hj, qsel, hf, if_true, nI_ltI, q_maxN, x_note]
        · simp only [f_X13_isRefusedGreet, m_isQuarrel M W hi hj, if_neg c, if_pos hf, nm, bd1_s, bd2_s, bd3_s, bd4_s, if_neg n10]
      · have hm : ∀ u : SV, RM (u.2 0) a → f_X13_isQuarrel (nI i) (nI j) u = some (0, u) := fun u M => by rw [m_isQuarrel M W hi hj, if_neg c, if_neg hf]
        by_cases ht : ((aD a i >>> (nI j &&& 31)) &&& 1) = 1
        · refine Or.inl ⟨7, aG a i j, by decide, fun rf => ?_, fun u M => ?_⟩
          · simp (disch := omega) only [f_X6_letGreet, x_areBal hi hj, nm, bd1_s, bd2_s, bd3_s, bd4_s, if_neg n10, if_neg hcc, x_isFeud R W hi hj, qsel, if_neg hf, x_isToday R hi, if_pos ht, x_countOf R hi hj, x_note]
          · simp (disch := omega) only [f_X13_isRefusedGreet, hm u M, nm, bd1_s, bd2_s, bd3_s, bd4_s, if_true, qL34, nI_add, ckI_n, nI_cl, rm_d M hi, if_pos ht, m_greetings M hi hj, f_X13_isBad, if_neg n10]
        · obtain ⟨g, g1, g2⟩ := G i j hi hj
          have q12 : nI i * (12 : Int32) = nI (i * 12) := by rw [qL12, nI_mul]
          have p12 : (12 : Int32) * nI i = nI (12 * i) := by rw [qL12, nI_mul]
          refine Or.inr ⟨aG a i j + 1, mGreetings w (pA (pA w 5 (nI (i * 12 + j)) (aG a i j + 1)) 6 (nI i) (aD a i ||| (1 <<< (nI j &&& 31)))), setD (setG a i j (aG a i j + 1)) i (aD a i ||| (1 <<< (nI j &&& 31))), by rw [g2, nI_1]; exact nI_pos (by omega), fun rf => ?_, rcG R hi hj _ _, ⟨W, ?_⟩, fun u M => ⟨?_, pA (pA u 0 (nI (46 + 12 * i + j)) (aG a i j + 1)) 0 (nI (34 + i)) (aD a i ||| (1 <<< (nI j &&& 31))), ?_, ?_, chR_tr chR_pA chR_pA⟩⟩
          · have e1 : (pA w 5 (nI (i * 12 + j)) (aG a i j + 1)).2 6 i = aD a i := (show w.2 6 i = _ from rc_d R hi)
            have e2 : f_X4_countOf (nI i) (nI j) (pA (pA w 5 (nI (i * 12 + j)) (aG a i j + 1)) 6 (nI i) (aD a i ||| (1 <<< (nI j &&& 31)))) = some (aG a i j + 1) := by
              simp (disch := omega) only [f_X4_countOf, q12, nI_add, ckI_n, nI_cl]
              show some (upd (w.2 5) (nI (i * 12 + j)).toNatClampNeg (aG a i j + 1) (i * 12 + j)) = _
              rw [nI_cl (by omega), upd_eq]
            simp (disch := omega) only [f_X6_letGreet, x_areBal hi hj, nm, bd1_s, bd2_s, bd3_s, bd4_s, if_neg n10, if_neg hcc, x_isFeud R W hi hj, qsel, if_neg hf, x_isToday R hi, if_neg ht, if_true, f_X4_add, q12, nI_add, ckI_n, nI_cl, rc_g R hi hj, e1, e2]
          · intro i' j' hi' hj'
            show ∃ c, c ≤ N + 1 ∧ (if i' = i ∧ j' = j then aG a i j + 1 else aG a i' j') = nI c
            by_cases ci : i' = i ∧ j' = j
            · rw [if_pos ci, g2, nI_1]; exact ⟨g + 1, by omega, rfl⟩
            · rw [if_neg ci]; obtain ⟨c', k1, k2⟩ := G i' j' hi' hj'; exact ⟨c', by omega, k2⟩
          · simp (disch := omega) only [f_X13_isRefusedGreet, hm u M, nm, bd1_s, bd2_s, bd3_s, bd4_s, if_true, qL34, nI_add, ckI_n, nI_cl, rm_d M hi, if_neg ht]
          · have e1 : (pA u 0 (nI (46 + 12 * i + j)) (aG a i j + 1)).2 0 (34 + i) = aD a i := by
              simp (disch := omega) only [pA0, nI_cl, upd_ne, rm_d M hi]
            have e2 : f_X13_greetings (nI i) (nI j) (pA (pA u 0 (nI (46 + 12 * i + j)) (aG a i j + 1)) 0 (nI (34 + i)) (aD a i ||| (1 <<< (nI j &&& 31)))) = some (aG a i j + 1) := by
              simp (disch := omega) only [f_X13_greetings, qL46, p12, nI_add, ckI_n, nI_cl, pA0, upd_ne, upd_eq]
            simp (disch := omega) only [f_X13_greets, qL46, qL34, p12, nI_add, ckI_n, nI_cl, rm_g M hi hj, nm, bd1_s, bd2_s, bd3_s, bd4_s, e1, e2]
          · simp (disch := omega) only [pA0, nI_cl]
            exact rmU_d (rmU_g M W hi hj) W hi
  · exact Or.inl ⟨m_areTwoN hb, fun rf => by simp only [f_X6_letGreet, x_areBalN hb, nm, bd1_s, bd2_s, bd3_s, bd4_s, if_true]⟩
theorem q_give {N : Nat} {a : AS} {w : SV} (R : RC w a) (W : WF a) (G : GB N a) (x y z : Int32) : CMD N a w (f_X6_givePlants x y z w) (f_X13_areTwo x y) (f_X13_areMany z) (f_X13_isRefusedGive x y z) (f_X13_gives x y z) := by
  rcases q_two x y with ⟨i, j, hi, hj, rfl, rfl⟩ | hb
  · rcases q_many z with ⟨m, m1, m9, rfl, d1, d2, d3⟩ | ⟨d1, d2⟩
    · refine Or.inr (Or.inr ⟨m_areTwo hi hj, d1, ?_⟩)
      by_cases c : i = j
      · subst c
        refine Or.inl ⟨2, nI i, by decide, fun rf => ?_, fun u M => ?_⟩
        · simp only [f_X6_givePlants, x_areBal hi hi, nm, bd1_s, bd2_s, bd3_s, bd4_s, if_neg n10, if_neg d2, if_pos d3, if_true, x_note]
        · simp only [f_X13_isRefusedGive, m_isQuarrel M W hi hi, if_true, nm, bd1_s, bd2_s, bd3_s, bd4_s, if_neg n10]
      · have hcc : ¬ nI i = nI j := by rw [nI_eq (by omega) (by omega)]; exact c
        by_cases hf : feB a i j = true
        · refine Or.inl ⟨5, nI (max i j), by decide, fun rf => ?_, fun u M => ?_⟩
          · simp (disch := omega) only [f_X6_givePlants, x_areBal hi hj, nm, bd1_s, bd2_s, bd3_s, bd4_s, if_neg n10, if_neg d2, if_pos d3, if_neg hcc, x_isFeud R W hi hj, qsel, hf, if_true, nI_ltI, q_maxN, x_note]
          · simp only [f_X13_isRefusedGive, m_isQuarrel M W hi hj, if_neg c, if_pos hf, nm, bd1_s, bd2_s, bd3_s, bd4_s, if_neg n10]
        · have hm : ∀ u : SV, RM (u.2 0) a → f_X13_isQuarrel (nI i) (nI j) u = some (0, u) := fun u M => by rw [m_isQuarrel M W hi hj, if_neg c, if_neg hf]
          have hpi := wf_p W hi
          have hpj := wf_p W hj
          have l1 : (nI m ≤ nI (aP a i)) ↔ m ≤ aP a i := nI_leI (by omega) (by omega)
          have l2 : (nI (aP a j + m) ≤ 9) ↔ aP a j + m ≤ 9 := by rw [qL9, nI_leI (by omega) (by omega)]
          by_cases c1 : m ≤ aP a i
          · by_cases c2 : aP a j + m ≤ 9
            · refine Or.inr ⟨nI (aP a j + m), pF (pA (pA w 0 (nI i) (nI (aP a i - m))) 0 (nI j) (nI (aP a j + m))) 1 (w.1 1 + nI m), setN (setP (setP a i (aP a i - m)) j (aP a j + m)) 1 (w.1 1 + nI m), nI_pos (by omega), fun rf => ?_, rcF (rcA_p (rcA_p R hi) hj) (by omega) _, ⟨wf_setN (wf_setP (wf_setP W (by omega)) c2), GB_up G⟩, fun u M => ⟨?_, pA (pA (pA u 0 (nI (10 + i)) (nI (aP a i - m))) 0 (nI (10 + j)) (nI (aP a j + m))) 0 3 (w.1 1 + nI m), ?_, ?_, chR_tr chR_pA (chR_tr chR_pA chR_pA)⟩⟩
              · have e1 : (pA w 0 (nI i) (nI (aP a i - m))).2 0 j = nI (aP a j) := by
                  simp (disch := omega) only [pA0, nI_cl, upd_ne, rc_p R hj]
                have e2 : (pF (pA (pA w 0 (nI i) (nI (aP a i - m))) 0 (nI j) (nI (aP a j + m))) 1 (w.1 1 + nI m)).2 0 j = nI (aP a j + m) := by
                  show (pA (pA w 0 (nI i) (nI (aP a i - m))) 0 (nI j) (nI (aP a j + m))).2 0 j = _
                  simp (disch := omega) only [pA0, nI_cl, upd_eq]
                have e3 : (pA (pA w 0 (nI i) (nI (aP a i - m))) 0 (nI j) (nI (aP a j + m))).1 1 = w.1 1 := rfl
                simp (disch := omega) only [f_X6_givePlants, x_areBal hi hj, nm, bd1_s, bd2_s, bd3_s, bd4_s, if_neg n10, if_neg d2, if_pos d3, if_neg hcc, x_isFeud R W hi hj, qsel, if_neg hf, if_true, ckI_n, nI_cl, rc_p R hi, rc_p R hj, l1, if_pos c1, nI_add, l2, if_pos c2, nI_subN c1, e1, e2, e3]
              · simp (disch := omega) only [f_X13_isRefusedGive, hm u M, nm, bd1_s, bd2_s, bd3_s, bd4_s, if_true, m_plants M hi, m_plants M hj, l1, if_pos c1, nI_add, l2, if_pos c2]
              · have e1 : (pA u 0 (nI (10 + i)) (nI (aP a i - m))).2 0 (10 + j) = nI (aP a j) := by
                  simp (disch := omega) only [pA0, nI_cl, upd_ne, rm_p M hj]
                have e2 : (pA (pA u 0 (nI (10 + i)) (nI (aP a i - m))) 0 (nI (10 + j)) (nI (aP a j + m))).2 0 3 = w.1 1 := by
                  simp (disch := omega) only [pA0, nI_cl, upd_ne, (rm_n M).2.1, (rc_n R).2.1]
                have e3 : f_X13_plants (nI j) (pA (pA (pA u 0 (nI (10 + i)) (nI (aP a i - m))) 0 (nI (10 + j)) (nI (aP a j + m))) 0 3 (w.1 1 + nI m)) = some (nI (aP a j + m)) := by
                  simp (disch := omega) only [f_X13_plants, qL10, nI_add, ckI_n, nI_cl, pA0, qc3, upd_ne, upd_eq]
                simp (disch := omega) only [f_X13_gives, qL10, nI_add, ckI_n, nI_cl, rm_p M hi, nm, bd1_s, bd2_s, bd3_s, bd4_s, nI_subN c1, e1, ck240_0, ck240_1, ck240_2, ck240_3, ck240_4, ck240_5, ck240_6, ck240_7, qc0, qc1, qc2, qc3, qc4, qc5, qc6, qc7, e2, e3]
              · simp (disch := omega) only [pA0, nI_cl, qc3]
                exact rmU_n1 (rmU_p (rmU_p M W hi) (wf_setP W (by omega)) hj) (wf_setP (wf_setP W (by omega)) c2)
            · refine Or.inl ⟨4, nI (aP a j), by decide, fun rf => ?_, fun u M => ?_⟩
              · simp (disch := omega) only [f_X6_givePlants, x_areBal hi hj, nm, bd1_s, bd2_s, bd3_s, bd4_s, if_neg n10, if_neg d2, if_pos d3, if_neg hcc, x_isFeud R W hi hj, qsel, if_neg hf, if_true, ckI_n, nI_cl, rc_p R hi, rc_p R hj, l1, if_pos c1, nI_add, l2, if_neg c2, x_note]
              · simp (disch := omega) only [f_X13_isRefusedGive, hm u M, nm, bd1_s, bd2_s, bd3_s, bd4_s, if_true, m_plants M hi, m_plants M hj, l1, if_pos c1, nI_add, l2, if_neg c2, f_X13_isBad, if_neg n10]
          · refine Or.inl ⟨6, nI (aP a i), by decide, fun rf => ?_, fun u M => ?_⟩
            · simp (disch := omega) only [f_X6_givePlants, x_areBal hi hj, nm, bd1_s, bd2_s, bd3_s, bd4_s, if_neg n10, if_neg d2, if_pos d3, if_neg hcc, x_isFeud R W hi hj, qsel, if_neg hf, if_true, ckI_n, nI_cl, rc_p R hi, l1, if_neg c1, x_note]
            · simp (disch := omega) only [f_X13_isRefusedGive, hm u M, nm, bd1_s, bd2_s, bd3_s, bd4_s, if_true, m_plants M hi, l1, if_neg c1, f_X13_isBad]
              rfl
    · refine Or.inr (Or.inl ⟨m_areTwo hi hj, d1, fun rf => ?_⟩)
      simp only [f_X6_givePlants, x_areBal hi hj, nm, bd1_s, bd2_s, bd3_s, bd4_s, if_neg n10]
      rcases d2 with d2 | ⟨d2, d3⟩
      · rw [if_pos d2]
      · rw [if_neg d2, if_neg d3]
  · exact Or.inl ⟨m_areTwoN hb, fun rf => by simp only [f_X6_givePlants, x_areBalN hb, nm, bd1_s, bd2_s, bd3_s, bd4_s, if_true]⟩
theorem ctO_ge {a : AS} (W : WF a) {i : Nat} : (0 ≤ ctO a i) ↔ (aC a).any (fun x => decide (x.1 = i)) = true := fnd_ge _ _ 0 _ (by decide) (by have := wf_cn W; omega)
theorem ctO_found {a : AS} {i : Nat} (h : (aC a).any (fun x => decide (x.1 = i)) = true) : ∃ (k : Nat) (x : Nat × Nat × Int32), ctO a i = nI k ∧ (aC a)[k]? = some x ∧ x.1 = i ∧ k < (aC a).length := by
  obtain ⟨j, x, h1, h2, h3, h4⟩ := fnd_at (fun x : Nat × Nat × Int32 => decide (x.1 = i)) (-4) (aC a) 0 h
  exact ⟨j, x, by rw [Nat.zero_add] at h1; exact h1, h2, of_decide_eq_true h3, h4⟩
theorem ctO_no {a : AS} {i : Nat} (h : (aC a).any (fun x => decide (x.1 = i)) = false) : ctO a i = -4 ∧ ∀ x ∈ aC a, x.1 ≠ i := by
  refine ⟨fnd_no _ _ _ 0 h, fun x hx e => ?_⟩
  exact List.any_eq_false.mp h x hx (decide_eq_true e)
theorem rcC {w : SV} {a : AS} (R : RC w a) {b : Nat} (h6 : (aC a).length < 6) : RC (mCats w (pF (pA (pA (pA w 7 (nI (aC a).length) (nI b)) 8 (nI (aC a).length) (nI b)) 9 (nI (aC a).length) 0) 6 (nI ((aC a).length + 1)))) (setC a ((aC a) ++ [(b, b, 0)])) := by
  obtain ⟨r1, r2, r3, r4, r5, r6, r7, r8, r9⟩ := R
  refine ⟨r1, r2, r3, r4, r5, r6, ?_, fun k x hx => ?_, r9⟩
  · show nI ((aC a).length + 1) = nI ((aC a) ++ [(b, b, (0 : Int32))]).length
    rw [List.length_append, List.length_singleton]
  · have hx : ((aC a) ++ [(b, b, (0 : Int32))])[k]? = some x := hx
    show upd (w.2 7) (nI (aC a).length).toNatClampNeg (nI b) k = nI x.1 ∧ upd (w.2 8) (nI (aC a).length).toNatClampNeg (nI b) k = nI x.2.1 ∧ upd (w.2 9) (nI (aC a).length).toNatClampNeg 0 k = x.2.2
    rw [nI_cl (by omega)]
    have hk := ix_lt hx
    rw [List.length_append, List.length_singleton] at hk
    by_cases c : k < (aC a).length
    · rw [List.getElem?_append_left c] at hx
      rw [upd_ne (by omega), upd_ne (by omega), upd_ne (by omega)]
      exact r8 k x hx
    · have hk2 : k = (aC a).length := by omega
      subst hk2
      rw [List.getElem?_append_right (Nat.le_refl _), Nat.sub_self] at hx
      have hx : (b, b, (0 : Int32)) = x := Option.some.inj hx
      subst hx
      rw [upd_eq, upd_eq, upd_eq]; exact ⟨rfl, rfl, rfl⟩
theorem wf_setC {a : AS} (W : WF a) {b : Nat} (hb : b < 12) (h6 : (aC a).length < 6) (h5 : ∀ x ∈ aC a, x.1 ≠ b) : WF (setC a ((aC a) ++ [(b, b, 0)])) := by
  obtain ⟨w1, w2, w3, w4, w5, w6, w7, w8⟩ := W
  refine ⟨w1, w2, w3, w4, w5, ?_, ?_, ?_⟩
  · show ((aC a) ++ [(b, b, (0 : Int32))]).length ≤ 6
    rw [List.length_append, List.length_singleton]; omega
  · intro x hx
    have hx : x ∈ (aC a) ++ [(b, b, (0 : Int32))] := hx
    rcases List.mem_append.mp hx with q | q
    · exact w7 x q
    · rw [List.mem_singleton.mp q]; exact ⟨hb, hb⟩
  · show (((aC a) ++ [(b, b, (0 : Int32))]).map (fun x => x.1)).Nodup
    rw [List.map_append, List.nodup_append]
    refine ⟨w8, List.nodup_cons.mpr ⟨by simp, List.nodup_nil⟩, ?_⟩
    intro p hp q hq e
    subst e
    have hq : p = b := List.mem_singleton.mp hq
    obtain ⟨x, hx, e⟩ := List.mem_map.mp hp
    exact h5 x hx (e.trans hq)
theorem q_cat {N : Nat} {a : AS} {w : SV} (R : RC w a) (W : WF a) (G : GB N a) (x : Int32) : CMD N a w (f_X6_letCatCome x w) (f_X13_isBalcony x) (some 1) (f_X13_isRefusedCat x) (f_X13_comes x) := by
  have hl := wf_cn W
  rcases q_bal x with ⟨i, hi, rfl⟩ | hb
  · refine Or.inr (Or.inr ⟨m_isBal hi, rfl, ?_⟩)
    cases hf : (aC a).any (fun x => decide (x.1 = i)) with
    | true =>
      obtain ⟨k, z, k1, k2, k3, k4⟩ := ctO_found hf
      have hk0 : ¬ nI k < 0 := nI_pos (by omega)
      refine Or.inl ⟨8, nI k, by decide, fun rf => ?_, fun u M => ?_⟩
      · simp only [f_X6_letCatCome, x_isBal hi, nm, bd1_s, bd2_s, bd3_s, bd4_s, if_neg n10, x_catOn R W hi, k1, if_neg hk0, x_note]
      · simp only [f_X13_isRefusedCat, m_catOn M W hi, nm, bd1_s, bd2_s, bd3_s, bd4_s, k1, if_neg hk0, f_X13_isBad]; rfl
    | false =>
      obtain ⟨k1, k2⟩ := ctO_no hf
      have hm4 : (-4 : Int32) < 0 := by decide
      by_cases c6 : (aC a).length < 6
      · refine Or.inr ⟨nI (aC a).length, mCats w (pF (pA (pA (pA w 7 (nI (aC a).length) (nI i)) 8 (nI (aC a).length) (nI i)) 9 (nI (aC a).length) 0) 6 (nI ((aC a).length + 1))), setC a ((aC a) ++ [(i, i, 0)]), nI_pos (by omega), fun rf => ?_, rcC R c6, ⟨wf_setC W hi c6 k2, GB_up G⟩, fun u M => ⟨?_, pA (pA (pA (pA u 0 (nI (208 + 3 * (aC a).length)) (nI i)) 0 (nI (208 + 3 * (aC a).length + 1)) (nI i)) 0 (nI (208 + 3 * (aC a).length + 2)) 0) 0 1 (nI ((aC a).length + 1)), ?_, ?_, chR_tr chR_pA (chR_tr chR_pA (chR_tr chR_pA chR_pA))⟩⟩
        · have e4 : (pA (pA (pA w 7 (nI (aC a).length) (nI i)) 8 (nI (aC a).length) (nI i)) 9 (nI (aC a).length) 0).1 6 = nI (aC a).length := (show w.1 6 = _ from rc_cn R)
          simp (disch := omega) only [f_X6_letCatCome, x_isBal hi, nm, bd1_s, bd2_s, bd3_s, bd4_s, if_neg n10, x_catOn R W hi, k1, if_pos hm4, rc_cn R, qL6, nI_ltI, if_pos c6, f_X1_add, ckI_n, e4, nI_1]
        · simp (disch := omega) only [f_X13_isRefusedCat, m_catOn M W hi, nm, bd1_s, bd2_s, bd3_s, bd4_s, k1, if_pos hm4, ck240_0, ck240_1, ck240_2, ck240_3, ck240_4, ck240_5, ck240_6, ck240_7, qc0, qc1, qc2, qc3, qc4, qc5, qc6, qc7, rm_cn M, qL6, nI_eq, if_neg (show ¬ (aC a).length = 6 by omega)]
        · have e0 : (pA (pA (pA u 0 (nI (208 + 3 * (aC a).length)) (nI i)) 0 (nI (208 + 3 * (aC a).length + 1)) (nI i)) 0 (nI (208 + 3 * (aC a).length + 2)) 0).2 0 1 = nI (aC a).length := by
            simp (disch := omega) only [pA0, nI_cl, upd_ne, rm_cn M]
          have q3 : (3 : Int32) * nI (aC a).length = nI (3 * (aC a).length) := by rw [qL3, nI_mul]
          have f2 : ∀ k : Nat, nI k + (2 : Int32) = nI (k + 2) := fun k => nI_add k 2
          simp (disch := omega) only [f_X13_comes, ck240_0, ck240_1, ck240_2, ck240_3, ck240_4, ck240_5, ck240_6, ck240_7, qc0, qc1, qc2, qc3, qc4, qc5, qc6, qc7, rm_cn M, nm, bd1_s, bd2_s, bd3_s, bd4_s, qL208, q3, nI_add, nI_1, f2, ckI_n, e0]
        · simp (disch := omega) only [pA0, nI_cl, qc1]
          exact rmU_c M W c6
      · have c7 : (aC a).length = 6 := by omega
        have q6 : nI 6 = (6 : Int32) := rfl
        refine Or.inl ⟨1, 6, by decide, fun rf => ?_, fun u M => ?_⟩
        · simp only [f_X6_letCatCome, x_isBal hi, nm, bd1_s, bd2_s, bd3_s, bd4_s, if_neg n10, x_catOn R W hi, k1, if_pos hm4, rc_cn R, c7, show ¬ nI 6 < 6 by decide, if_false, x_note]
        · simp only [f_X13_isRefusedCat, m_catOn M W hi, nm, bd1_s, bd2_s, bd3_s, bd4_s, k1, if_pos hm4, ck240_0, ck240_1, ck240_2, ck240_3, ck240_4, ck240_5, ck240_6, ck240_7, qc0, qc1, qc2, qc3, qc4, qc5, qc6, qc7, rm_cn M, c7, q6, if_true, f_X13_isBad, if_neg n10]
  · exact Or.inl ⟨m_isBalN hb, fun rf => by simp only [f_X6_letCatCome, x_isBalN hb, nm, bd1_s, bd2_s, bd3_s, bd4_s, if_true]⟩
