/-! PURE: read: the numbers of a command, on both sides. -/
theorem x_cmdOk {T : Nat → Nat} {L s j q : Nat} {re : SV} (hj : j < 20) (hq : q < 7) (C : RDC T L (s + 1) (pF re 1 (nI (s + 1)))) (hs : s < L ∧ T s = 32) (hw : f_X10_readWord re = some (nI q, pF re 1 (nI (s + 1)))) (hb : ¬ (bbS T L true s).1 = true) : f_X10_readCommand (nI j) re = (fun v_27 => if (cNum q) ≤ 1 then
          if (cDig q) = 0 then
            some (1, v_27)
          else
            bd2 (f_X10_passOver 32 v_27) fun r_28 w_29 =>
            if r_28 = 0 then
              ckI (nI j) 20 <|
              nm (pA w_29 4 (nI j) (-1)) fun v_30 =>
              ckI (nI j) 20 <|
              if (v_30.2 4 (nI j).toNatClampNeg) < 0 then
                some (0, v_30)
              else
                some (1, v_30)
            else
              bd2 (f_X10_readDigit w_29) fun r_31 w_32 =>
              ckI (nI j) 20 <|
              nm (pA w_32 4 (nI j) r_31) fun v_33 =>
              ckI (nI j) 20 <|
              if (v_33.2 4 (nI j).toNatClampNeg) < 0 then
                some (0, v_33)
              else
                some (1, v_33)
        else
          bd2 (f_X10_passOver 32 v_27) fun r_34 w_35 =>
          if r_34 = 0 then
            f_X10_readCommand_J82_J_36 (nI j) (nI q) (-1) w_35
          else
            bd2 (f_X10_readNumber w_35) fun r_37 w_38 =>
            f_X10_readCommand_J82_J_36 (nI j) (nI q) r_37 w_38) (pA (pF (pA (pF re 1 (nI (s + 1))) 1 (nI j) (nI q)) 1 (nI (bbS T L true s).2.2)) 2 (nI j) (nI (bbS T L true s).2.1)) := by
  have hN : ∀ q, q < 7 → ¬ cNum q ≤ 0 := by decide
  unfold f_X10_readCommand
  rw [hw, bd2_s, if_pos (nI_pos' (by omega)), ckI_n hj (by omega), nm_s, ckI_n (show q < 8 by omega) (by omega), nI_cl (n := q) (by omega), if_neg (hN q hq), x_num (RDC_A C (by decide)) hs.1 hs.2, bd2_s, ckI_n hj (by omega), nm_s, ckI_n hj (by omega), pA_selfN, if_neg hb, if_pos (nI_pos' (by have := bbS_n (T := T) (L := L) (two := true) (p := s); omega))]
/-- the second number and what follows -/
theorem x_J82 {T : Nat → Nat} {L p j q : Nat} {w : SV} (C : RDC T L p w) (hp : p ≤ L) (hj : j < 20) (hq : q < 7) {n : Nat} (hn : n < 100) : f_X10_readCommand_J82_J_36 (nI j) (nI q) (nI n) w = if (cDig q) = 0 then some (1, pA w 3 (nI j) (nI n)) else if (bbS T L false p).1 = true then some (0, pA (pF (pA w 3 (nI j) (nI n)) 1 (nI (bbS T L false p).2.2)) 4 (nI j) (-1)) else some (1, pA (pF (pA w 3 (nI j) (nI n)) 1 (nI (bbS T L false p).2.2)) 4 (nI j) (nI (bbS T L false p).2.1)) := by
  unfold f_X10_readCommand_J82_J_36
  rw [ckI_n hj (by omega), nm_s, ckI_n hj (by omega), pA_selfN, if_pos (nI_pos' (by omega)), nI_cl (n := q) (by omega)]
  split
  · rfl
  · exact x_last (RDC_A C (by decide)) hp hj
theorem x_J82n {j q : Nat} {w : SV} (hj : j < 20) : f_X10_readCommand_J82_J_36 (nI j) (nI q) (-1) w = some (0, pA w 3 (nI j) (-1)) := by
  unfold f_X10_readCommand_J82_J_36
  rw [ckI_n hj (by omega), nm_s, ckI_n hj (by omega), pA_selfN, if_neg (by decide)]
theorem x_cmd {T : Nat → Nat} {L s j q : Nat} {re : SV} (hj : j < 20) (hq : q < 7) (C : RDC T L (s + 1) (pF re 1 (nI (s + 1)))) (hs : s < L ∧ T s = 32) (hw : f_X10_readWord re = some (nI q, pF re 1 (nI (s + 1)))) : ∃ w, f_X10_readCommand (nI j) re = some (b2i (cmS T L q s).1, w) ∧ RST j w re ∧ w.1 1 = nI (cmS T L q s).2.2.2.2 ∧ ((cmS T L q s).1 = true → CEC j q (cmS T L q s).2.1 (cmS T L q s).2.2.1 (cmS T L q s).2.2.2.1 w) := by
  have b1 := bbS_L (T := T) (two := true) (Nat.le_of_lt hs.1)
  by_cases hb : (bbS T L true s).1 = true
  · obtain ⟨w, e1, e2, e3⟩ := x_cmd0 hj hq C hs hw hb
    have e : cmS T L q s = (false, 0, 0, 0, (bbS T L true s).2.2) := by unfold cmS cm1; rw [if_pos hb]
    rw [e]
    exact ⟨w, e1, e2, e3, fun h => by cases h⟩
  · rw [x_cmdOk hj hq C hs hw hb]
    have eC : cmS T L q s = if q = 5 then (true, (bbS T L true s).2.1, 0, 0, (bbS T L true s).2.2) else if q < 2 then cm2 (bbS T L true s) (bbS T L false (bbS T L true s).2.2) else cm3 T L q (bbS T L true s) (bbS T L true (bbS T L true s).2.2) := by unfold cmS cm1; rw [if_neg hb]
    have n1 := bbS_n (T := T) (L := L) (two := true) (p := s)
    generalize bbS T L true s = b at *
    have R0 : RST j (pA (pF (pA (pF re 1 (nI (s + 1))) 1 (nI j) (nI q)) 1 (nI b.2.2)) 2 (nI j) (nI b.2.1)) re := RST_A (RST_F (RST_A (RST_F RST_0) (by decide) hj)) (by decide) hj
    have C0 : RDC T L b.2.2 (pA (pF (pA (pF re 1 (nI (s + 1))) 1 (nI j) (nI q)) 1 (nI b.2.2)) 2 (nI j) (nI b.2.1)) := RDC_A (RDC_m (RDC_A C (by decide))) (by decide)
    have k1 : (pA (pF (pA (pF re 1 (nI (s + 1))) 1 (nI j) (nI q)) 1 (nI b.2.2)) 2 (nI j) (nI b.2.1)).2 1 j = nI q := by
      rw [pA_oth (by decide)]; exact pA_self (v := pF re 1 (nI (s + 1))) (k := 1) (j := j) (x := nI q) (by omega)
    have k2 : (pA (pF (pA (pF re 1 (nI (s + 1))) 1 (nI j) (nI q)) 1 (nI b.2.2)) 2 (nI j) (nI b.2.1)).2 2 j = nI b.2.1 := pA_self (by omega)
    have k0 : (pA (pF (pA (pF re 1 (nI (s + 1))) 1 (nI j) (nI q)) 1 (nI b.2.2)) 2 (nI j) (nI b.2.1)).1 1 = nI b.2.2 := rfl
    generalize pA (pF (pA (pF re 1 (nI (s + 1))) 1 (nI j) (nI q)) 1 (nI b.2.2)) 2 (nI j) (nI b.2.1) = w0 at *
    have hq7 : q ≠ 7 := by omega
    by_cases q5 : q = 5
    · rw [if_pos q5] at eC
      rw [eC]
      subst q5
      exact ⟨w0, rfl, R0, k0, fun _ => ⟨k1, fun _ => k2, fun h => by omega, fun h => by omega, fun h => by omega⟩⟩
    · rw [if_neg q5] at eC
      by_cases q2 : q < 2
      · rw [if_pos q2] at eC
        have hc : cNum q ≤ 1 ∧ cDig q ≠ 0 := by
          rcases q with _ | _ | q
          · decide
          · decide
          · omega
        rw [eC]
        show ∃ w, (if (cNum q) ≤ 1 then if (cDig q) = 0 then some (1, w0) else _ else _) = _ ∧ _
        rw [if_pos hc.1, if_neg hc.2, x_last C0 b1.2 hj]
        unfold cm2
        generalize bbS T L false b.2.2 = d
        by_cases hd : d.1 = true
        · rw [if_pos hd, if_pos hd]
          exact ⟨_, rfl, RST_A (RST_F R0) (by decide) hj, rfl, fun h => by cases h⟩
        · rw [if_neg hd, if_neg hd]
          refine ⟨_, rfl, RST_A (RST_F R0) (by decide) hj, rfl, fun _ => ⟨?_, fun _ => ?_, fun h => by omega, fun _ => ?_, fun h => by omega⟩⟩
          · rw [pA_oth (by decide)]; exact k1
          · rw [pA_oth (by decide)]; exact k2
          · exact pA_self (by omega)
      · rw [if_neg q2] at eC
        have hc : ¬ cNum q ≤ 1 := by
          have : ∀ q, q < 7 → ¬ q < 2 → q ≠ 5 → ¬ cNum q ≤ 1 := by decide
          exact this q hq q2 q5
        rw [eC]
        show ∃ w, (if (cNum q) ≤ 1 then if (cDig q) = 0 then some (1, w0) else _ else _) = _ ∧ _
        rw [if_neg hc]
        have e := x_bb2 (fun (x : Int32) (w : SV) => f_X10_readCommand_J82_J_36 (nI j) (nI q) x w) C0 b1.2
        have b2 := bbS_L (T := T) (two := true) b1.2
        have n2 := bbS_n (T := T) (L := L) (two := true) (p := b.2.2)
        have e' := fun (x : Option (Int32 × SV)) (h : f_X10_readCommand_J82_J_36 (nI j) (nI q) (if (bbS T L true b.2.2).1 = true then -1 else nI (bbS T L true b.2.2).2.1) (pF w0 1 (nI (bbS T L true b.2.2).2.2)) = x) => e.trans h
        unfold cm3
        have C1 : RDC T L (bbS T L true b.2.2).2.2 (pF w0 1 (nI (bbS T L true b.2.2).2.2)) := RDC_m C0
        generalize bbS T L true b.2.2 = d at *
        by_cases hd : d.1 = true
        · rw [if_pos hd]
          rw [if_pos hd, x_J82n hj] at e'
          have e2 := e' _ rfl
          exact ⟨_, e2, RST_A (RST_F R0) (by decide) hj, rfl, fun h => by cases h⟩
        · rw [if_neg hd]
          rw [if_neg hd, x_J82 C1 b2.2 hj hq n2] at e'
          have m1 : (pA (pF w0 1 (nI d.2.2)) 3 (nI j) (nI d.2.1)).2 1 j = nI q := by rw [pA_oth (by decide)]; exact k1
          have m2 : (pA (pF w0 1 (nI d.2.2)) 3 (nI j) (nI d.2.1)).2 2 j = nI b.2.1 := by rw [pA_oth (by decide)]; exact k2
          have m3 : (pA (pF w0 1 (nI d.2.2)) 3 (nI j) (nI d.2.1)).2 3 j = nI d.2.1 := pA_self (by omega)
          have R1 : RST j (pA (pF w0 1 (nI d.2.2)) 3 (nI j) (nI d.2.1)) re := RST_A (RST_F R0) (by decide) hj
          by_cases q36 : q = 3 ∨ q = 6
          · rw [if_pos q36]
            have hD : cDig q = 0 := by rcases q36 with rfl | rfl <;> decide
            have e2 := e' _ (if_pos hD)
            exact ⟨_, e2, R1, rfl, fun _ => ⟨m1, fun _ => m2, fun _ => m3, fun h => by omega, fun h => by omega⟩⟩
          · rw [if_neg q36]
            have hD : ¬ cDig q = 0 := by
              have : ∀ q, q < 7 → ¬ q < 2 → q ≠ 5 → ¬ (q = 3 ∨ q = 6) → ¬ cDig q = 0 := by decide
              exact this q hq q2 q5 q36
            rw [if_neg hD] at e'
            unfold cm4
            generalize bbS T L false d.2.2 = g at *
            by_cases hg : g.1 = true
            · rw [if_pos hg]
              have e2 := e' _ (if_pos hg)
              exact ⟨_, e2, RST_A (RST_F R1) (by decide) hj, rfl, fun h => by cases h⟩
            · rw [if_neg hg]
              have e2 := e' _ (if_neg hg)
              refine ⟨_, e2, RST_A (RST_F R1) (by decide) hj, rfl, fun _ => ⟨?_, fun _ => ?_, fun _ => ?_, fun h => by omega, fun _ => ?_⟩⟩
              · rw [pA_oth (by decide)]; exact m1
              · rw [pA_oth (by decide)]; exact m2
              · rw [pA_oth (by decide)]; exact m3
              · exact pA_self (by omega)
