/-! PURE: swap; the calls that change; undo. -/
theorem nd_to {α : Type} {f : α → Nat} {l : List α} (h : (l.map f).Nodup) {i j : Nat} {x y : α} (hx : l[i]? = some x) (hy : l[j]? = some y) (e : f x = f y) : i = j := by
  have h1 : (l.map f)[i]? = some (f x) := by rw [List.getElem?_map, hx]; rfl
  have h2 : (l.map f)[j]? = some (f x) := by rw [List.getElem?_map, hy, e]; rfl
  exact (List.getElem?_inj (by rw [List.length_map]; exact ix_lt hx) h).mp (h1.trans h2.symm)
theorem nd_of {α : Type} {f : α → Nat} {l : List α} (h : ∀ (i j : Nat) (x y : α), l[i]? = some x → l[j]? = some y → f x = f y → i = j) : (l.map f).Nodup := by
  refine List.pairwise_iff_getElem.mpr (fun i j hi hj hij e => ?_)
  rw [List.length_map] at hi hj
  rw [List.getElem_map, List.getElem_map] at e
  have := h i j _ _ (List.getElem?_eq_getElem hi) (List.getElem?_eq_getElem hj) e
  omega
theorem set_at {α : Type} {l : List α} {k t : Nat} {y z : α} (hk : k < l.length) (h : (l.set k y)[t]? = some z) : (t = k ∧ z = y) ∨ (t ≠ k ∧ l[t]? = some z) := by
  by_cases c : k = t
  · subst c; rw [List.getElem?_set_self hk] at h; exact Or.inl ⟨rfl, (Option.some.inj h).symm⟩
  · rw [List.getElem?_set_ne c] at h; exact Or.inr ⟨fun e => c e.symm, h⟩
/-- a cat goes -/
def mvC (a : AS) (k b : Nat) (x : Nat × Nat × Int32) : AS := setC a ((aC a).set k (b, x.2.1, x.2.2 + 1))
theorem x_move {w : SV} {a : AS} (R : RC w a) (W : WF a) {k b : Nat} {x : Nat × Nat × Int32} (hx : (aC a)[k]? = some x) : ∃ w', f_X1_move (nI k) (nI b) w = some (1, w') ∧ RC (mCats w w') (mvC a k b x) := by
  have hl := wf_cn W
  have hk := ix_lt hx
  obtain ⟨r1, r2, r3, r4, r5, r6, r7, r8, r9⟩ := id R
  refine ⟨pA (pA w 7 (nI k) (nI b)) 9 (nI k) (x.2.2 + 1), ?_, r1, r2, r3, r4, r5, r6, ?_, fun j y hy => ?_, r9⟩
  · have e : (pA w 7 (nI k) (nI b)).2 9 k = x.2.2 := (show w.2 9 k = _ from (rc_c R hx).2.2)
    simp (disch := omega) only [f_X1_move, if_neg (nI_pos (show k < 2 ^ 31 by omega)), rc_cn R, nI_ltI, if_pos hk, ckI_n, nm, bd1_s, bd2_s, bd3_s, bd4_s, nI_cl, e]
  · show w.1 6 = nI ((aC a).set k (b, x.2.1, x.2.2 + 1)).length
    rw [List.length_set]; exact r7
  · have hy : ((aC a).set k (b, x.2.1, x.2.2 + 1))[j]? = some y := hy
    show upd (w.2 7) (nI k).toNatClampNeg (nI b) j = nI y.1 ∧ w.2 8 j = nI y.2.1 ∧ upd (w.2 9) (nI k).toNatClampNeg (x.2.2 + 1) j = y.2.2
    rw [nI_cl (by omega)]
    rcases set_at hk hy with ⟨rfl, rfl⟩ | ⟨c, hy⟩
    · rw [upd_eq, upd_eq]; exact ⟨rfl, (r8 j x hx).2.1, rfl⟩
    · rw [upd_ne c, upd_ne c]; exact r8 j y hy
theorem x_moveN {w : SV} {a : AS} (R : RC w a) (b : Int32) : f_X1_move (-4) b w = some (0, w) ∧ RC (mCats w w) a := by
  refine ⟨by unfold f_X1_move; rw [if_pos (by decide)], ?_⟩
  obtain ⟨r1, r2, r3, r4, r5, r6, r7, r8, r9⟩ := R
  exact ⟨r1, r2, r3, r4, r5, r6, r7, r8, r9⟩
theorem m_goes {u : SV} {a : AS} (M : RM (u.2 0) a) (W : WF a) {k b : Nat} {x : Nat × Nat × Int32} (hx : (aC a)[k]? = some x) : ∃ u', f_X13_goes (nI k) (nI b) u = some (1, u') ∧ RM (u'.2 0) (mvC a k b x) ∧ chR 0 u' u := by
  have hl := wf_cn W
  have hk := ix_lt hx
  refine ⟨pA (pA (pA u 0 (nI (208 + 3 * k)) (nI b)) 0 (nI (208 + 3 * k + 2)) (x.2.2 + 1)) 0 6 (swS (aC a) + 1), ?_, ?_, chR_tr chR_pA (chR_tr chR_pA chR_pA)⟩
  · have q3 : (3 : Int32) * nI k = nI (3 * k) := by rw [qL3, nI_mul]
    have f2 : ∀ k : Nat, nI k + (2 : Int32) = nI (k + 2) := fun k => nI_add k 2
    have e1 : (pA u 0 (nI (208 + 3 * k)) (nI b)).2 0 (208 + 3 * k + 2) = x.2.2 := by
      simp (disch := omega) only [pA0, nI_cl, upd_ne, (rm_c M hx).2.2]
    have e2 : (pA (pA u 0 (nI (208 + 3 * k)) (nI b)) 0 (nI (208 + 3 * k + 2)) (x.2.2 + 1)).2 0 6 = swS (aC a) := by
      simp (disch := omega) only [pA0, nI_cl, upd_ne, (rm_n M).2.2.2.2.2]
    simp (disch := omega) only [f_X13_goes, if_pos (nI_pos' (show k < 2 ^ 31 by omega)), qL208, q3, nI_add, f2, ckI_n, nI_cl, nm, bd1_s, bd2_s, bd3_s, bd4_s, e1, ck240_0, ck240_1, ck240_2, ck240_3, ck240_4, ck240_5, ck240_6, ck240_7, qc0, qc1, qc2, qc3, qc4, qc5, qc6, qc7, e2]
  · simp (disch := omega) only [pA0, nI_cl, qc6]
    exact rmU_m M W hk hx
theorem m_goesN (b : Int32) (u : SV) : f_X13_goes (-4) b u = some (0, u) := by unfold f_X13_goes; rw [if_neg (by decide)]
theorem wf_mv {a : AS} (W : WF a) {k b : Nat} {x : Nat × Nat × Int32} (hx : (aC a)[k]? = some x) (hb : b < 12) (h : ∀ (t : Nat) (y : Nat × Nat × Int32), t ≠ k → (aC a)[t]? = some y → y.1 ≠ b) : WF (mvC a k b x) := by
  have hw := wf_c W hx
  obtain ⟨w1, w2, w3, w4, w5, w6, w7, w8⟩ := W
  refine ⟨w1, w2, w3, w4, w5, ?_, ?_, ?_⟩
  · show ((aC a).set k (b, x.2.1, x.2.2 + 1)).length ≤ 6
    rw [List.length_set]; exact w6
  · intro y hy
    rcases List.mem_or_eq_of_mem_set hy with q | q
    · exact w7 y q
    · rw [q]; exact ⟨hb, hw.2⟩
  · refine nd_of (fun i j y z hy hz e => ?_)
    rcases set_at (ix_lt hx) hy with ⟨c1, d1⟩ | ⟨c1, d1⟩
    · rcases set_at (ix_lt hx) hz with ⟨c2, d2⟩ | ⟨c2, d2⟩
      · rw [c1, c2]
      · exact absurd (by rw [← e, d1]) (h j z c2 d2)
    · rcases set_at (ix_lt hx) hz with ⟨c2, d2⟩ | ⟨c2, d2⟩
      · exact absurd (by rw [e, d2]) (h i y c1 d1)
      · exact nd_to w8 d1 d2 e
theorem wf_mv2 {a : AS} (W : WF a) {k k' : Nat} {x x' : Nat × Nat × Int32} (hx : (aC a)[k]? = some x) (hx' : (aC a)[k']? = some x') (hne : x.1 ≠ x'.1) : WF (mvC (mvC a k x'.1 x) k' x.1 x') := by
  have hw := wf_c W hx
  have hw' := wf_c W hx'
  have hk := ix_lt hx
  have hk' := ix_lt hx'
  have hkk : k ≠ k' := fun e => by subst e; rw [hx] at hx'; cases hx'; exact hne rfl
  obtain ⟨w1, w2, w3, w4, w5, w6, w7, w8⟩ := W
  have hl1 : k' < ((aC a).set k (x'.1, x.2.1, x.2.2 + 1)).length := by rw [List.length_set]; exact hk'
  refine ⟨w1, w2, w3, w4, w5, ?_, ?_, ?_⟩
  · show (((aC a).set k (x'.1, x.2.1, x.2.2 + 1)).set k' (x.1, x'.2.1, x'.2.2 + 1)).length ≤ 6
    rw [List.length_set, List.length_set]; exact w6
  · intro y hy
    rcases List.mem_or_eq_of_mem_set hy with q | q
    · rcases List.mem_or_eq_of_mem_set q with q | q
      · exact w7 y q
      · rw [q]; exact ⟨hw'.1, hw.2⟩
    · rw [q]; exact ⟨hw.1, hw'.2⟩
  · refine nd_of (fun i j y z hy hz e => ?_)
    have key : ∀ (i : Nat) (y : Nat × Nat × Int32), (((aC a).set k (x'.1, x.2.1, x.2.2 + 1)).set k' (x.1, x'.2.1, x'.2.2 + 1))[i]? = some y → (i = k' ∧ y.1 = x.1) ∨ (i = k ∧ y.1 = x'.1) ∨ (i ≠ k ∧ i ≠ k' ∧ (aC a)[i]? = some y) := by
      intro i y hy
      rcases set_at hl1 hy with ⟨rfl, rfl⟩ | ⟨c, hy⟩
      · exact Or.inl ⟨rfl, rfl⟩
      · rcases set_at hk hy with ⟨rfl, rfl⟩ | ⟨c2, hy⟩
        · exact Or.inr (Or.inl ⟨rfl, rfl⟩)
        · exact Or.inr (Or.inr ⟨c2, c, hy⟩)
    rcases key i y hy with ⟨rfl, e1⟩ | ⟨rfl, e1⟩ | ⟨c1, c2, e1⟩
    · rcases key j z hz with ⟨rfl, e2⟩ | ⟨rfl, e2⟩ | ⟨c3, c4, e2⟩
      · rfl
      · exact absurd (e1.symm.trans (e.trans e2)) hne
      · exact absurd (nd_to w8 hx e2 (e1.symm.trans e)).symm c3
    · rcases key j z hz with ⟨rfl, e2⟩ | ⟨rfl, e2⟩ | ⟨c3, c4, e2⟩
      · exact absurd (e2.symm.trans (e.symm.trans e1)) hne
      · rfl
      · exact absurd (nd_to w8 hx' e2 (e1.symm.trans e)).symm c4
    · rcases key j z hz with ⟨rfl, e2⟩ | ⟨rfl, e2⟩ | ⟨c3, c4, e2⟩
      · exact absurd (nd_to w8 e1 hx (e.trans e2)) c1
      · exact absurd (nd_to w8 e1 hx' (e.trans e2)) c2
      · exact nd_to w8 e1 e2 e
theorem q_swap {N : Nat} {a : AS} {w : SV} (R : RC w a) (W : WF a) (G : GB N a) (x y : Int32) : CMD N a w (f_X6_swapCats x y w) (f_X13_areTwo x y) (some 1) (f_X13_isRefusedSwap x y) (f_X13_swaps x y) := by
  have hl := wf_cn W
  rcases q_two x y with ⟨i, j, hi, hj, rfl, rfl⟩ | hb
  · refine Or.inr (Or.inr ⟨m_areTwo hi hj, rfl, ?_⟩)
    by_cases c : i = j
    · subst c
      refine Or.inl ⟨2, nI i, by decide, fun rf => ?_, fun u M => ?_⟩
      · simp only [f_X6_swapCats, x_areBal hi hi, nm, bd1_s, bd2_s, bd3_s, bd4_s, if_neg n10, if_true, x_note]
      · simp only [f_X13_isRefusedSwap, m_isQuarrel M W hi hi, if_true, nm, bd1_s, bd2_s, bd3_s, bd4_s, if_neg n10]
    · have hcc : ¬ nI i = nI j := by rw [nI_eq (by omega) (by omega)]; exact c
      by_cases hf : feB a i j = true
      · refine Or.inl ⟨5, nI (max i j), by decide, fun rf => ?_, fun u M => ?_⟩
        · simp (disch := omega) only [f_X6_swapCats, x_areBal hi hj, nm, bd1_s, bd2_s, bd3_s, bd4_s, if_neg n10, if_neg hcc, x_isFeud R W hi hj, qsel, hf, if_true, nI_ltI, q_maxN, x_note]
        · simp only [f_X13_isRefusedSwap, m_isQuarrel M W hi hj, if_neg c, if_pos hf, nm, bd1_s, bd2_s, bd3_s, bd4_s, if_neg n10]
      · have hm : ∀ u : SV, RM (u.2 0) a → f_X13_isQuarrel (nI i) (nI j) u = some (0, u) := fun u M => by rw [m_isQuarrel M W hi hj, if_neg c, if_neg hf]
        have hm4 : ¬ (0 : Int32) ≤ -4 := by decide
        cases f1 : (aC a).any (fun x => decide (x.1 = i)) with
        | true =>
          obtain ⟨k, z, k1, k2, k3, k4⟩ := ctO_found f1
          have hk0 : (0 : Int32) ≤ nI k := nI_pos' (by omega)
          obtain ⟨w1, m1, Rw1⟩ := x_move (b := j) R W k2
          cases f2 : (aC a).any (fun x => decide (x.1 = j)) with
          | true =>
            obtain ⟨k', z', l1, l2, l3, l4⟩ := ctO_found f2
            have hkk : k ≠ k' := fun e => by subst e; rw [k2] at l2; cases l2; exact c (k3.symm.trans l3)
            have l2' : (aC (mvC a k j z))[k']? = some z' := by
              show ((aC a).set k (j, z.2.1, z.2.2 + 1))[k']? = _
              rw [List.getElem?_set_ne hkk]; exact l2
            have hWF := wf_mv2 W k2 l2 (by rw [k3, l3]; exact c)
            rw [k3, l3] at hWF
            have hlen : (aC (mvC a k j z)).length = (aC a).length := by
              show ((aC a).set k (j, z.2.1, z.2.2 + 1)).length = _
              rw [List.length_set]
            have sm1 : ∃ w', f_X1_move (nI k') (nI i) (mCats w w1) = some (1, w') ∧ RC (mCats (mCats w w1) w') (mvC (mvC a k j z) k' i z') := by
              have hk' := ix_lt l2'
              obtain ⟨r1, r2, r3, r4, r5, r6, r7, r8, r9⟩ := id Rw1
              refine ⟨pA (pA (mCats w w1) 7 (nI k') (nI i)) 9 (nI k') (z'.2.2 + 1), ?_, r1, r2, r3, r4, r5, r6, ?_, fun j y hy => ?_, r9⟩
              · have e : (pA (mCats w w1) 7 (nI k') (nI i)).2 9 k' = z'.2.2 := (show (mCats w w1).2 9 k' = _ from (rc_c Rw1 l2').2.2)
                simp (disch := omega) only [f_X1_move, if_neg (nI_pos (show k' < 2 ^ 31 by omega)), rc_cn Rw1, nI_ltI, if_pos hk', ckI_n, nm, bd1_s, bd2_s, bd3_s, bd4_s, nI_cl, e]
              · show (mCats w w1).1 6 = nI ((aC (mvC a k j z)).set k' (i, z'.2.1, z'.2.2 + 1)).length
                rw [List.length_set]; exact r7
              · have hy : ((aC (mvC a k _ z)).set k' (i, z'.2.1, z'.2.2 + 1))[j]? = some y := hy
                show upd ((mCats w w1).2 7) (nI k').toNatClampNeg (nI i) j = nI y.1 ∧ (mCats w w1).2 8 j = nI y.2.1 ∧ upd ((mCats w w1).2 9) (nI k').toNatClampNeg (z'.2.2 + 1) j = y.2.2
                rw [nI_cl (by omega)]
                rcases set_at hk' hy with ⟨rfl, rfl⟩ | ⟨c, hy⟩
                · rw [upd_eq, upd_eq]; exact ⟨rfl, (r8 j z' l2').2.1, rfl⟩
                · rw [upd_ne c, upd_ne c]; exact r8 j y hy
            obtain ⟨w2, m2, Rw2⟩ := sm1
            refine Or.inr ⟨1 + 1, _, _, by decide, fun rf => ?_, Rw2, ⟨hWF, GB_up G⟩, fun u M => ⟨?_, ?_⟩⟩
            · simp only [f_X6_swapCats, x_areBal hi hj, nm, bd1_s, bd2_s, bd3_s, bd4_s, if_neg n10, if_neg hcc, x_isFeud R W hi hj, qsel, if_neg hf, if_true, x_catOn R W hi, x_catOn R W hj, k1, l1, if_pos hk0, m1, m2]
            · simp only [f_X13_isRefusedSwap, hm u M, nm, bd1_s, bd2_s, bd3_s, bd4_s, if_true, m_catOn M W hi, k1, if_pos hk0]
            · obtain ⟨u1, g1, g2, g3⟩ := m_goes (b := j) M W k2
              have sm2 : ∃ u', f_X13_goes (nI k') (nI i) u1 = some (1, u') ∧ RM (u'.2 0) (mvC (mvC a k j z) k' i z') ∧ chR 0 u' u1 := by
                have hk' := ix_lt l2'
                have hne6 : (aC (mvC a k j z)).length ≤ 6 := by rw [hlen]; exact hl
                refine ⟨pA (pA (pA u1 0 (nI (208 + 3 * k')) (nI i)) 0 (nI (208 + 3 * k' + 2)) (z'.2.2 + 1)) 0 6 (swS (aC (mvC a k j z)) + 1), ?_, ?_, chR_tr chR_pA (chR_tr chR_pA chR_pA)⟩
                · have q3 : (3 : Int32) * nI k' = nI (3 * k') := by rw [qL3, nI_mul]
                  have f2 : ∀ k : Nat, nI k + (2 : Int32) = nI (k + 2) := fun k => nI_add k 2
                  have e1 : (pA u1 0 (nI (208 + 3 * k')) (nI i)).2 0 (208 + 3 * k' + 2) = z'.2.2 := by
                    simp (disch := omega) only [pA0, nI_cl, upd_ne, (rm_c g2 l2').2.2]
                  have e2 : (pA (pA u1 0 (nI (208 + 3 * k')) (nI i)) 0 (nI (208 + 3 * k' + 2)) (z'.2.2 + 1)).2 0 6 = swS (aC (mvC a k j z)) := by
                    simp (disch := omega) only [pA0, nI_cl, upd_ne, (rm_n g2).2.2.2.2.2]
                  simp (disch := omega) only [f_X13_goes, if_pos (nI_pos' (show k' < 2 ^ 31 by omega)), qL208, q3, nI_add, f2, ckI_n, nI_cl, nm, bd1_s, bd2_s, bd3_s, bd4_s, e1, ck240_0, ck240_1, ck240_2, ck240_3, ck240_4, ck240_5, ck240_6, ck240_7, qc0, qc1, qc2, qc3, qc4, qc5, qc6, qc7, e2]
                · simp (disch := omega) only [pA0, nI_cl, qc6]
                  exact rmU_mL g2 (show (aL a).length ≤ 6 from wf_ln W) hne6 hk' l2'
              obtain ⟨u2, g4, g5, g6⟩ := sm2
              exact ⟨u2, by simp only [f_X13_swaps, m_catOn M W hi, m_catOn M W hj, k1, l1, nm, bd1_s, bd2_s, bd3_s, bd4_s, g1, g4], g5, chR_tr g6 g3⟩
          | false =>
            obtain ⟨l1, l2⟩ := ctO_no f2
            obtain ⟨m2, Rw2⟩ := x_moveN Rw1 (nI i)
            refine Or.inr ⟨1 + 0, _, _, by decide, fun rf => ?_, Rw2, ⟨wf_mv W k2 hj (fun t q _ hq => l2 q (List.mem_of_getElem? hq)), GB_up G⟩, fun u M => ⟨?_, ?_⟩⟩
            · simp only [f_X6_swapCats, x_areBal hi hj, nm, bd1_s, bd2_s, bd3_s, bd4_s, if_neg n10, if_neg hcc, x_isFeud R W hi hj, qsel, if_neg hf, if_true, x_catOn R W hi, x_catOn R W hj, k1, l1, if_pos hk0, m1, m2]
            · simp only [f_X13_isRefusedSwap, hm u M, nm, bd1_s, bd2_s, bd3_s, bd4_s, if_true, m_catOn M W hi, k1, if_pos hk0]
            · obtain ⟨u1, g1, g2, g3⟩ := m_goes (b := j) M W k2
              exact ⟨u1, by simp only [f_X13_swaps, m_catOn M W hi, m_catOn M W hj, k1, l1, nm, bd1_s, bd2_s, bd3_s, bd4_s, g1, m_goesN], g2, g3⟩
        | false =>
          obtain ⟨k1, k2⟩ := ctO_no f1
          obtain ⟨m1, Rw1⟩ := x_moveN R (nI j)
          cases f2 : (aC a).any (fun x => decide (x.1 = j)) with
          | true =>
            obtain ⟨k', z', l1, l2, l3, l4⟩ := ctO_found f2
            have hk0 : (0 : Int32) ≤ nI k' := nI_pos' (by omega)
            obtain ⟨w2, m2, Rw2⟩ := x_move (b := i) Rw1 W l2
            refine Or.inr ⟨0 + 1, _, _, by decide, fun rf => ?_, Rw2, ⟨wf_mv W l2 hi (fun t q _ hq => k2 q (List.mem_of_getElem? hq)), GB_up G⟩, fun u M => ⟨?_, ?_⟩⟩
            · simp only [f_X6_swapCats, x_areBal hi hj, nm, bd1_s, bd2_s, bd3_s, bd4_s, if_neg n10, if_neg hcc, x_isFeud R W hi hj, qsel, if_neg hf, if_true, x_catOn R W hi, x_catOn R W hj, k1, l1, if_neg hm4, if_pos hk0, m1, m2]
            · simp only [f_X13_isRefusedSwap, hm u M, nm, bd1_s, bd2_s, bd3_s, bd4_s, if_true, m_catOn M W hi, k1, if_neg hm4, m_catOn M W hj, l1, if_pos hk0]
            · obtain ⟨u1, g1, g2, g3⟩ := m_goes (b := i) M W l2
              exact ⟨u1, by simp only [f_X13_swaps, m_catOn M W hi, m_catOn M W hj, k1, l1, nm, bd1_s, bd2_s, bd3_s, bd4_s, g1, m_goesN], g2, g3⟩
          | false =>
            obtain ⟨l1, l2⟩ := ctO_no f2
            refine Or.inl ⟨9, nI (aC a).length, by decide, fun rf => ?_, fun u M => ?_⟩
            · simp only [f_X6_swapCats, x_areBal hi hj, nm, bd1_s, bd2_s, bd3_s, bd4_s, if_neg n10, if_neg hcc, x_isFeud R W hi hj, qsel, if_neg hf, if_true, x_catOn R W hi, x_catOn R W hj, k1, l1, if_neg hm4, rc_cn R, x_note]
            · simp only [f_X13_isRefusedSwap, hm u M, nm, bd1_s, bd2_s, bd3_s, bd4_s, if_true, m_catOn M W hi, k1, if_neg hm4, m_catOn M W hj, l1, ck240_0, ck240_1, ck240_2, ck240_3, ck240_4, ck240_5, ck240_6, ck240_7, qc0, qc1, qc2, qc3, qc4, qc5, qc6, qc7, rm_cn M, f_X13_isBad, if_neg n10]
  · exact Or.inl ⟨m_areTwoN hb, fun rf => by simp only [f_X6_swapCats, x_areBalN hb, nm, bd1_s, bd2_s, bd3_s, bd4_s, if_true]⟩
theorem p_plant {N : Nat} : P_plant (IV N) (IV (N + 1)) := by
  intro mn ho dr sa hi hh re rf pa od sb v h x y
  exact q_direct h (fun a w R W G => q_plant R W G x y)
theorem p_bear {N : Nat} : P_bear (IV N) (IV (N + 1)) := by
  intro mn ho dr sa hi hh re rf pa od sb v h x y
  exact q_direct h (fun a w R W G => q_bear R W G x y)
theorem p_hang {N : Nat} : P_hang (IV N) (IV (N + 1)) := by
  intro mn ho dr sa hi hh re rf pa od sb v h x y z
  exact q_direct h (fun a w R W G => q_hang R W G x y z)
theorem p_give {N : Nat} : P_give (IV N) (IV (N + 1)) := by
  intro mn ho dr sa hi hh re rf pa od sb v h x y z
  exact q_direct h (fun a w R W G => q_give R W G x y z)
theorem p_greet {N : Nat} (hN : N < 1000000) : P_greet (IV N) (IV (N + 1)) := by
  intro mn ho dr sa hi hh re rf pa od sb v h x y
  have := q_direct h (fun a w R W G => q_greet hN R W G x y)
  simp only [bd1_s, if_neg n10] at this
  exact this
theorem p_cat {N : Nat} : P_cat (IV N) (IV (N + 1)) := by
  intro mn ho dr sa hi hh re rf pa od sb v h x
  have := q_direct h (fun a w R W G => q_cat R W G x)
  simp only [bd1_s, if_neg n10] at this
  exact this
theorem p_swap {N : Nat} : P_swap (IV N) (IV (N + 1)) := by
  intro mn ho dr sa hi hh re rf pa od sb v h x y
  have := q_direct h (fun a w R W G => q_swap R W G x y)
  simp only [bd1_s, if_neg n10] at this
  exact this
theorem x_takeBack {hi : SV} {hh : Nat → SV} {nx c : Nat} (h0 : hi.1 0 = nI nx) (hn : nx < 8) (h1 : hi.1 1 = nI c) (hc : c ≤ 8) (hc0 : 0 < c) (ho : SV) : ∃ w, EQH w (hh ((nx + 7) % 8)) ∧ f_X5_takeBack hi hh ho = some (pF (pF hi 0 (nI ((nx + 7) % 8))) 1 (nI (c - 1)), w) := by
  obtain ⟨w, ew, E⟩ := x_takeE ho (hh ((nx + 7) % 8))
  refine ⟨w, E, ?_⟩
  have e8 : ∀ n : Nat, n < 8 → nI (n + 8) - 1 - (nI (n + 8) - 1) / 8 * 8 = nI ((n + 7) % 8) := by decide +kernel
  have q8 : nI nx + 8 = nI (nx + 8) := nI_add nx 8
  have e0 : hi.1 0 = nI nx := h0
  have p1 : ∀ x, (pF hi 0 x).1 1 = hi.1 1 := fun _ => rfl
  have pc : nI c - 1 = nI (c - 1) := by rw [qL1, nI_subN (by omega)]
  have p0 : ∀ x y, (pF (pF hi 0 x) 1 y).1 0 = x := fun _ _ => rfl
  obtain ⟨k, hk, hk8⟩ : ∃ k, (nx + 7) % 8 = k ∧ k < 8 := ⟨_, rfl, by omega⟩
  rw [hk] at ew
  rcases (show k = 0 ∨ k = 1 ∨ k = 2 ∨ k = 3 ∨ k = 4 ∨ k = 5 ∨ k = 6 ∨ k = 7 by omega) with rfl | rfl | rfl | rfl | rfl | rfl | rfl | rfl
  · have hy : f_X5_takeBack_0 hi hh ho = some (pF (pF hi 0 (nI ((nx + 7) % 8))) 1 (nI (c - 1)), w) := by
      unfold f_X5_takeBack_0
      simp (disch := omega) only [e0, nm, q8, e8 nx hn, p1, h1, pc, p0, hk, ckI_n, ckP, if_pos (show nI 0 = 0 from rfl)]
      rw [ew]; rfl
    unfold f_X5_takeBack
    rw [hy]
    rfl
  · have hy : f_X5_takeBack_1 hi hh ho = some (pF (pF hi 0 (nI ((nx + 7) % 8))) 1 (nI (c - 1)), w) := by
      unfold f_X5_takeBack_1
      simp (disch := omega) only [e0, nm, q8, e8 nx hn, p1, h1, pc, p0, hk, ckI_n, ckP, if_pos (show nI 1 = 1 from rfl)]
      rw [ew]; rfl
    unfold f_X5_takeBack
    rw [show f_X5_takeBack_0 hi hh ho = none from by unfold f_X5_takeBack_0; simp (disch := omega) only [e0, nm, q8, e8 nx hn, p1, h1, pc, p0, hk, ckI_n, ckP, if_neg (show ¬ nI 1 = 0 by decide)], hy]
    rfl
  · have hy : f_X5_takeBack_2 hi hh ho = some (pF (pF hi 0 (nI ((nx + 7) % 8))) 1 (nI (c - 1)), w) := by
      unfold f_X5_takeBack_2
      simp (disch := omega) only [e0, nm, q8, e8 nx hn, p1, h1, pc, p0, hk, ckI_n, ckP, if_pos (show nI 2 = 2 from rfl)]
      rw [ew]; rfl
    unfold f_X5_takeBack
    rw [show f_X5_takeBack_0 hi hh ho = none from by unfold f_X5_takeBack_0; simp (disch := omega) only [e0, nm, q8, e8 nx hn, p1, h1, pc, p0, hk, ckI_n, ckP, if_neg (show ¬ nI 2 = 0 by decide)], show f_X5_takeBack_1 hi hh ho = none from by unfold f_X5_takeBack_1; simp (disch := omega) only [e0, nm, q8, e8 nx hn, p1, h1, pc, p0, hk, ckI_n, ckP, if_neg (show ¬ nI 2 = 1 by decide)], hy]
    rfl
  · have hy : f_X5_takeBack_3 hi hh ho = some (pF (pF hi 0 (nI ((nx + 7) % 8))) 1 (nI (c - 1)), w) := by
      unfold f_X5_takeBack_3
      simp (disch := omega) only [e0, nm, q8, e8 nx hn, p1, h1, pc, p0, hk, ckI_n, ckP, if_pos (show nI 3 = 3 from rfl)]
      rw [ew]; rfl
    unfold f_X5_takeBack
    rw [show f_X5_takeBack_0 hi hh ho = none from by unfold f_X5_takeBack_0; simp (disch := omega) only [e0, nm, q8, e8 nx hn, p1, h1, pc, p0, hk, ckI_n, ckP, if_neg (show ¬ nI 3 = 0 by decide)], show f_X5_takeBack_1 hi hh ho = none from by unfold f_X5_takeBack_1; simp (disch := omega) only [e0, nm, q8, e8 nx hn, p1, h1, pc, p0, hk, ckI_n, ckP, if_neg (show ¬ nI 3 = 1 by decide)], show f_X5_takeBack_2 hi hh ho = none from by unfold f_X5_takeBack_2; simp (disch := omega) only [e0, nm, q8, e8 nx hn, p1, h1, pc, p0, hk, ckI_n, ckP, if_neg (show ¬ nI 3 = 2 by decide)], hy]
    rfl
  · have hy : f_X5_takeBack_4 hi hh ho = some (pF (pF hi 0 (nI ((nx + 7) % 8))) 1 (nI (c - 1)), w) := by
      unfold f_X5_takeBack_4
      simp (disch := omega) only [e0, nm, q8, e8 nx hn, p1, h1, pc, p0, hk, ckI_n, ckP, if_pos (show nI 4 = 4 from rfl)]
      rw [ew]; rfl
    unfold f_X5_takeBack
    rw [show f_X5_takeBack_0 hi hh ho = none from by unfold f_X5_takeBack_0; simp (disch := omega) only [e0, nm, q8, e8 nx hn, p1, h1, pc, p0, hk, ckI_n, ckP, if_neg (show ¬ nI 4 = 0 by decide)], show f_X5_takeBack_1 hi hh ho = none from by unfold f_X5_takeBack_1; simp (disch := omega) only [e0, nm, q8, e8 nx hn, p1, h1, pc, p0, hk, ckI_n, ckP, if_neg (show ¬ nI 4 = 1 by decide)], show f_X5_takeBack_2 hi hh ho = none from by unfold f_X5_takeBack_2; simp (disch := omega) only [e0, nm, q8, e8 nx hn, p1, h1, pc, p0, hk, ckI_n, ckP, if_neg (show ¬ nI 4 = 2 by decide)], show f_X5_takeBack_3 hi hh ho = none from by unfold f_X5_takeBack_3; simp (disch := omega) only [e0, nm, q8, e8 nx hn, p1, h1, pc, p0, hk, ckI_n, ckP, if_neg (show ¬ nI 4 = 3 by decide)], hy]
    rfl
  · have hy : f_X5_takeBack_5 hi hh ho = some (pF (pF hi 0 (nI ((nx + 7) % 8))) 1 (nI (c - 1)), w) := by
      unfold f_X5_takeBack_5
      simp (disch := omega) only [e0, nm, q8, e8 nx hn, p1, h1, pc, p0, hk, ckI_n, ckP, if_pos (show nI 5 = 5 from rfl)]
      rw [ew]; rfl
    unfold f_X5_takeBack
    rw [show f_X5_takeBack_0 hi hh ho = none from by unfold f_X5_takeBack_0; simp (disch := omega) only [e0, nm, q8, e8 nx hn, p1, h1, pc, p0, hk, ckI_n, ckP, if_neg (show ¬ nI 5 = 0 by decide)], show f_X5_takeBack_1 hi hh ho = none from by unfold f_X5_takeBack_1; simp (disch := omega) only [e0, nm, q8, e8 nx hn, p1, h1, pc, p0, hk, ckI_n, ckP, if_neg (show ¬ nI 5 = 1 by decide)], show f_X5_takeBack_2 hi hh ho = none from by unfold f_X5_takeBack_2; simp (disch := omega) only [e0, nm, q8, e8 nx hn, p1, h1, pc, p0, hk, ckI_n, ckP, if_neg (show ¬ nI 5 = 2 by decide)], show f_X5_takeBack_3 hi hh ho = none from by unfold f_X5_takeBack_3; simp (disch := omega) only [e0, nm, q8, e8 nx hn, p1, h1, pc, p0, hk, ckI_n, ckP, if_neg (show ¬ nI 5 = 3 by decide)], show f_X5_takeBack_4 hi hh ho = none from by unfold f_X5_takeBack_4; simp (disch := omega) only [e0, nm, q8, e8 nx hn, p1, h1, pc, p0, hk, ckI_n, ckP, if_neg (show ¬ nI 5 = 4 by decide)], hy]
    rfl
  · have hy : f_X5_takeBack_6 hi hh ho = some (pF (pF hi 0 (nI ((nx + 7) % 8))) 1 (nI (c - 1)), w) := by
      unfold f_X5_takeBack_6
      simp (disch := omega) only [e0, nm, q8, e8 nx hn, p1, h1, pc, p0, hk, ckI_n, ckP, if_pos (show nI 6 = 6 from rfl)]
      rw [ew]; rfl
    unfold f_X5_takeBack
    rw [show f_X5_takeBack_0 hi hh ho = none from by unfold f_X5_takeBack_0; simp (disch := omega) only [e0, nm, q8, e8 nx hn, p1, h1, pc, p0, hk, ckI_n, ckP, if_neg (show ¬ nI 6 = 0 by decide)], show f_X5_takeBack_1 hi hh ho = none from by unfold f_X5_takeBack_1; simp (disch := omega) only [e0, nm, q8, e8 nx hn, p1, h1, pc, p0, hk, ckI_n, ckP, if_neg (show ¬ nI 6 = 1 by decide)], show f_X5_takeBack_2 hi hh ho = none from by unfold f_X5_takeBack_2; simp (disch := omega) only [e0, nm, q8, e8 nx hn, p1, h1, pc, p0, hk, ckI_n, ckP, if_neg (show ¬ nI 6 = 2 by decide)], show f_X5_takeBack_3 hi hh ho = none from by unfold f_X5_takeBack_3; simp (disch := omega) only [e0, nm, q8, e8 nx hn, p1, h1, pc, p0, hk, ckI_n, ckP, if_neg (show ¬ nI 6 = 3 by decide)], show f_X5_takeBack_4 hi hh ho = none from by unfold f_X5_takeBack_4; simp (disch := omega) only [e0, nm, q8, e8 nx hn, p1, h1, pc, p0, hk, ckI_n, ckP, if_neg (show ¬ nI 6 = 4 by decide)], show f_X5_takeBack_5 hi hh ho = none from by unfold f_X5_takeBack_5; simp (disch := omega) only [e0, nm, q8, e8 nx hn, p1, h1, pc, p0, hk, ckI_n, ckP, if_neg (show ¬ nI 6 = 5 by decide)], hy]
    rfl
  · have hy : f_X5_takeBack_7 hi hh ho = some (pF (pF hi 0 (nI ((nx + 7) % 8))) 1 (nI (c - 1)), w) := by
      unfold f_X5_takeBack_7
      simp (disch := omega) only [e0, nm, q8, e8 nx hn, p1, h1, pc, p0, hk, ckI_n, ckP, if_pos (show nI 7 = 7 from rfl)]
      rw [ew]; rfl
    unfold f_X5_takeBack
    rw [show f_X5_takeBack_0 hi hh ho = none from by unfold f_X5_takeBack_0; simp (disch := omega) only [e0, nm, q8, e8 nx hn, p1, h1, pc, p0, hk, ckI_n, ckP, if_neg (show ¬ nI 7 = 0 by decide)], show f_X5_takeBack_1 hi hh ho = none from by unfold f_X5_takeBack_1; simp (disch := omega) only [e0, nm, q8, e8 nx hn, p1, h1, pc, p0, hk, ckI_n, ckP, if_neg (show ¬ nI 7 = 1 by decide)], show f_X5_takeBack_2 hi hh ho = none from by unfold f_X5_takeBack_2; simp (disch := omega) only [e0, nm, q8, e8 nx hn, p1, h1, pc, p0, hk, ckI_n, ckP, if_neg (show ¬ nI 7 = 2 by decide)], show f_X5_takeBack_3 hi hh ho = none from by unfold f_X5_takeBack_3; simp (disch := omega) only [e0, nm, q8, e8 nx hn, p1, h1, pc, p0, hk, ckI_n, ckP, if_neg (show ¬ nI 7 = 3 by decide)], show f_X5_takeBack_4 hi hh ho = none from by unfold f_X5_takeBack_4; simp (disch := omega) only [e0, nm, q8, e8 nx hn, p1, h1, pc, p0, hk, ckI_n, ckP, if_neg (show ¬ nI 7 = 4 by decide)], show f_X5_takeBack_5 hi hh ho = none from by unfold f_X5_takeBack_5; simp (disch := omega) only [e0, nm, q8, e8 nx hn, p1, h1, pc, p0, hk, ckI_n, ckP, if_neg (show ¬ nI 7 = 5 by decide)], show f_X5_takeBack_6 hi hh ho = none from by unfold f_X5_takeBack_6; simp (disch := omega) only [e0, nm, q8, e8 nx hn, p1, h1, pc, p0, hk, ckI_n, ckP, if_neg (show ¬ nI 7 = 6 by decide)], hy]
    rfl
theorem p_undo {N : Nat} : P_undo (IV N) (IV (N + 1)) := by
  intro mn ho dr sa hi hh re rf pa od sb v h
  intro _
  obtain ⟨⟨a, R, M, W, Ga⟩, h2, ⟨hs, h3, h3'⟩, h4, h5, h6, h7⟩ := IV_up h
  obtain ⟨g1, g2, g3, nx, g4, g5, g6⟩ := id h3
  by_cases c : hs.length = 0
  · refine ⟨-4, ho, hi, v, ?_, ?_, ⟨a, R, M, W, Ga⟩, h2, ⟨hs, h3, h3'⟩, h4, h5, h6, h7⟩
    · simp only [f_X12_undo, g2, c]; rfl
    · simp only [f_X13_undo, g3, c]; rfl
  · obtain ⟨w, E, e1⟩ := x_takeBack (hh := hh) g5 g4 g2 g1 (by omega) ho
    obtain ⟨b, hb⟩ : ∃ b, hs[hs.length - 1]? = some b := ⟨_, List.getElem?_eq_getElem (by omega)⟩
    obtain ⟨Wb, Rb, Mb⟩ := g6 _ b hb
    rw [show (nx + 8 - hs.length + (hs.length - 1)) % 8 = (nx + 7) % 8 by omega] at Rb
    obtain ⟨z, e2, k⟩ := m_copies (s := 240 * (hs.length - 1)) (t := 0) (n0 := 1920) (n1 := 240) (by omega) (by omega) (by omega) (by omega) (v.2 4) (v.2 0)
    have e2 : f_X13_copies (nI (240 * (hs.length - 1))) 0 1920 (v.2 4) 240 (v.2 0) = some z := e2
    have c0 : ¬ nI hs.length = 0 := nI_ne0 (by omega) (by omega)
    have pc : nI hs.length - 1 = nI (hs.length - 1) := by rw [qL1, nI_subN (by omega)]
    have hdl : hs.dropLast.length = hs.length - 1 := List.length_dropLast
    have hdg : ∀ j q, hs.dropLast[j]? = some q → j < hs.length - 1 ∧ hs[j]? = some q := fun j q hq => by
      have hj := ix_lt hq
      rw [hdl] at hj
      rw [List.getElem?_dropLast, if_pos hj] at hq
      exact ⟨hj, hq⟩
    refine ⟨nI (hs.length - 1), w, pF (pF hi 0 (nI ((nx + 7) % 8))) 1 (nI (hs.length - 1)), pR (pF v 0 (nI (hs.length - 1))) 0 z, ?_, ?_, ⟨b, rc_eq E Rb Wb, rm_eq (fun i hi => ?_) Mb Wb, Wb, h3' b (List.mem_of_getElem? hb)⟩, h2, ⟨hs.dropLast, ⟨by omega, by rw [hdl]; rfl, by rw [hdl]; rfl, (nx + 7) % 8, by omega, rfl, fun j q hq => ?_⟩, fun q hq => h3' q (List.dropLast_subset hs hq)⟩, h4, h5, h6, h7⟩
    · simp only [f_X12_undo, g2, if_neg c0, e1, bd2_s]; rfl
    · have p0 : (pF v 0 (nI (hs.length - 1))).1 0 = nI (hs.length - 1) := rfl
      have p1 : (pF v 0 (nI (hs.length - 1))).2 = v.2 := rfl
      simp only [f_X13_undo, g3, if_neg c0, pc, nm, p0, p1, qL240, nI_mul, e2, bd1_s]; rfl
    · show z i = v.2 4 (240 * (hs.length - 1) + i)
      rw [k i, if_pos (by omega)]; exact congrArg (v.2 4) (by omega)
    · obtain ⟨hj, hq⟩ := hdg j q hq
      obtain ⟨w1, w2, w3⟩ := g6 j q hq
      refine ⟨w1, ?_, w3⟩
      rw [hdl, show ((nx + 7) % 8 + 8 - (hs.length - 1) + j) % 8 = (nx + 8 - hs.length + j) % 8 by omega]
      exact w2
