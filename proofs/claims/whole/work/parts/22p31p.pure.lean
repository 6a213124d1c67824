/-! PURE: read: a command of the text, on both sides. -/
def cm4 (b d g : Bool × Nat × Nat) : Bool × Nat × Nat × Nat × Nat := if g.1 = true then (false, 0, 0, 0, g.2.2) else (true, b.2.1, d.2.1, g.2.1, g.2.2)
def cm3 (T : Nat → Nat) (L q : Nat) (b d : Bool × Nat × Nat) : Bool × Nat × Nat × Nat × Nat := if d.1 = true then (false, 0, 0, 0, d.2.2) else if q = 3 ∨ q = 6 then (true, b.2.1, d.2.1, 0, d.2.2) else cm4 b d (bbS T L false d.2.2)
def cm2 (b d : Bool × Nat × Nat) : Bool × Nat × Nat × Nat × Nat := if d.1 = true then (false, 0, 0, 0, d.2.2) else (true, b.2.1, d.2.1, 0, d.2.2)
def cm1 (T : Nat → Nat) (L q : Nat) (b : Bool × Nat × Nat) : Bool × Nat × Nat × Nat × Nat := if b.1 = true then (false, 0, 0, 0, b.2.2) else if q = 5 then (true, b.2.1, 0, 0, b.2.2) else if q < 2 then cm2 b (bbS T L false b.2.2) else cm3 T L q b (bbS T L true b.2.2)
/-- the numbers behind word q: whether they are right, the numbers, where the reading stands then -/
def cmS (T : Nat → Nat) (L q s : Nat) : Bool × Nat × Nat × Nat × Nat := cm1 T L q (bbS T L true s)
theorem cmS_L {T : Nat → Nat} {L q s : Nat} (hs : s ≤ L) : s ≤ (cmS T L q s).2.2.2.2 ∧ (cmS T L q s).2.2.2.2 ≤ L := by
  have h1 := bbS_L (T := T) (two := true) hs
  have h2 := bbS_L (T := T) (two := true) h1.2
  have h3 := bbS_L (T := T) (two := false) h1.2
  have h4 := bbS_L (T := T) (two := false) h2.2
  unfold cmS cm1
  split
  · exact h1
  · split
    · exact h1
    · split
      · unfold cm2
        split
        · exact ⟨Nat.le_trans h1.1 h3.1, h3.2⟩
        · exact ⟨Nat.le_trans h1.1 h3.1, h3.2⟩
      · unfold cm3
        split
        · exact ⟨Nat.le_trans h1.1 h2.1, h2.2⟩
        · split
          · exact ⟨Nat.le_trans h1.1 h2.1, h2.2⟩
          · unfold cm4
            split
            · exact ⟨Nat.le_trans (Nat.le_trans h1.1 h2.1) h4.1, h4.2⟩
            · exact ⟨Nat.le_trans (Nat.le_trans h1.1 h2.1) h4.1, h4.2⟩
theorem q_word {T : Nat → Nat} {L p : Nat} {re u : SV} (C : RDC T L p re) (D : RDM T L p u) (hp : p ≤ L) (h14 : u.1 14 = 0) :
    (∃ l, p + l ≤ L ∧ f_X10_readWord re = some (-1, pF re 1 (nI (p + l))) ∧ f_X13_kindHere u = some (0, uF u (p + l) 1)) ∨
    (∃ q l, q < 7 ∧ p + l ≤ L ∧ ¬ (p + l < L ∧ T (p + l) = 32) ∧ f_X10_readWord re = some (-1, pF re 1 (nI (p + l))) ∧ f_X13_kindHere u = some (nI q, uF u (p + l) 0)) ∨
    (∃ q l, q < 7 ∧ 3 ≤ l ∧ (p + l < L ∧ T (p + l) = 32) ∧ f_X10_readWord re = some (nI q, pF re 1 (nI (p + l + 1))) ∧ f_X13_kindHere u = some (nI q, uF u (p + l) 0)) ∨
    (p + 3 ≤ L ∧ f_X10_readWord re = some (7, pF re 1 (nI (p + 3))) ∧ f_X13_kindHere u = some (7, uF u (p + 3) 0)) := by
  have hu : ∀ q, pF u 12 (nI q) = uF u q 0 := fun q => by
    unfold uF
    exact (pF_self (show (pF u 12 (nI q)).1 14 = 0 from h14)).symm
  obtain ⟨q, e, H⟩ := q_ld (T := T) (L := L) p
  obtain ⟨hq, he, h8, hb1, ho⟩ := id H
  have hb : q < 8 → e ≤ cp T L (wb q) p := by
    intro hq8
    have h1 := hb1 hq8
    rcases Nat.lt_or_ge q 7 with a | a
    · rw [x_wb7 q a, cp_app]
      have := cp_le (T := T) (L := L) (wd q) p
      split
      · split <;> omega
      · exact h1
    · have : q = 7 := by omega
      subst this; exact h1
  have X := x_readWord C hp H hb
  have M := m_kindHere D hp H
  rcases Nat.lt_or_ge q 8 with q8 | q8
  · have pl := cp_L (T := T) (wd q) p hp
    have ll := cp_le (T := T) (L := L) (wd q) p
    by_cases f : cp T L (wd q) p = (wd q).length
    · rw [if_pos ⟨q8, f⟩, hu] at M
      rcases Nat.lt_or_ge q 7 with a | a
      · have wl := x_wbl q q8
        have e1 := cp_app (T := T) (L := L) 32 (wd q) p
        rw [← x_wb7 q a, if_pos f] at e1
        have e2 : (wb q).length = (wd q).length + 1 := by rw [x_wb7 q a, List.length_append]; rfl
        rw [f] at pl M
        by_cases g : p + (wd q).length < L ∧ T (p + (wd q).length) = 32
        · rw [if_pos g] at e1
          refine Or.inr (Or.inr (Or.inl ⟨q, (wd q).length, a, wl.2.1, g, ?_, M⟩))
          rw [X, if_pos ⟨q8, by omega⟩, if_pos q8, e1]; rfl
        · rw [if_neg g] at e1
          refine Or.inr (Or.inl ⟨q, (wd q).length, a, pl, g, ?_, M⟩)
          rw [X, if_neg (fun h => by have := h.2; omega), if_pos q8, e1]
      · have : q = 7 := by omega
        subst this
        have f3 : cp T L (wd 7) p = 3 := f
        have f3b : cp T L (wb 7) p = 3 := f
        rw [f3] at pl M
        refine Or.inr (Or.inr (Or.inr ⟨pl, ?_, M⟩))
        rw [X, if_pos ⟨q8, f⟩, if_pos q8, f3b]; rfl
    · rw [if_neg (fun h => f h.2), if_pos q8] at M
      have e1 : cp T L (wb q) p = cp T L (wd q) p ∧ cp T L (wb q) p ≠ (wb q).length := by
        rcases Nat.lt_or_ge q 7 with a | a
        · have e1 := cp_app (T := T) (L := L) 32 (wd q) p
          rw [← x_wb7 q a, if_neg f] at e1
          have e2 : (wb q).length = (wd q).length + 1 := by rw [x_wb7 q a, List.length_append]; rfl
          exact ⟨e1, by omega⟩
        · have : q = 7 := by omega
          subst this
          exact ⟨rfl, f⟩
      refine Or.inl ⟨cp T L (wd q) p, pl, ?_, M⟩
      rw [X, if_neg (fun h => e1.2 h.2), if_pos q8, e1.1]
  · rw [if_neg (fun h => by have := h.1; omega), if_neg (show ¬ q < 8 by omega)] at M X
    exact Or.inl ⟨0, hp, X, M⟩
/-- what a command leaves of the reader -/
def RST (j : Nat) (w re : SV) : Prop := w.1 0 = re.1 0 ∧ w.1 2 = re.1 2 ∧ w.2 0 = re.2 0 ∧ ∀ r i, i ≠ j → w.2 r i = re.2 r i
theorem RST_0 {j : Nat} {re : SV} : RST j re re := ⟨rfl, rfl, rfl, fun _ _ _ => rfl⟩
theorem RST_F {j : Nat} {w re : SV} {x : Int32} (h : RST j w re) : RST j (pF w 1 x) re := ⟨h.1, h.2.1, h.2.2.1, h.2.2.2⟩
theorem RST_A {j k : Nat} {w re : SV} {x : Int32} (h : RST j w re) (hk : k ≠ 0) (hj : j < 20) : RST j (pA w k (nI j) x) re := by
  refine ⟨h.1, h.2.1, ?_, fun r i hi => ?_⟩
  · show (if 0 = k then _ else w.2 0) = _
    rw [if_neg (fun e => hk e.symm)]; exact h.2.2.1
  · show (if r = k then upd (w.2 k) (nI j).toNatClampNeg x else w.2 r) i = _
    rw [nI_cl (by omega)]
    split
    · rename_i e; rw [upd_ne hi, ← e]; exact h.2.2.2 r i hi
    · exact h.2.2.2 r i hi
theorem pA_self {v : SV} {k j : Nat} {x : Int32} (hj : j < 2147483648) : (pA v k (nI j) x).2 k j = x := by
  show (if k = k then upd (v.2 k) (nI j).toNatClampNeg x else v.2 k) j = x
  rw [if_pos rfl, nI_cl hj]; exact upd_eq
theorem pA_selfN {v : SV} {k j : Nat} {x : Int32} : (pA v k (nI j) x).2 k (nI j).toNatClampNeg = x := by
  show (if k = k then upd (v.2 k) (nI j).toNatClampNeg x else v.2 k) (nI j).toNatClampNeg = x
  rw [if_pos rfl]; exact upd_eq
theorem pA_oth {v : SV} {k r : Nat} {i x : Int32} (h : r ≠ k) : (pA v k i x).2 r = v.2 r := if_neg h
theorem RDC_A {T : Nat → Nat} {L p k : Nat} {re : SV} {i x : Int32} (h : RDC T L p re) (hk : k ≠ 0) : RDC T L p (pA re k i x) := by
  refine ⟨?_, h.2.1, h.2.2⟩
  rw [pA_oth (fun e => hk e.symm)]; exact h.1
/-- the last digit of a command -/
theorem x_last {T : Nat → Nat} {L p j : Nat} {w : SV} (C : RDC T L p w) (hp : p ≤ L) (hj : j < 20) : (bd2 (f_X10_passOver 32 w) fun r_5 w_6 =>
    if r_5 = 0 then ckI (nI j) 20 <| nm (pA w_6 4 (nI j) (-1)) fun v_7 => ckI (nI j) 20 <| if (v_7.2 4 (nI j).toNatClampNeg) < 0 then some ((0 : Int32), v_7) else some (1, v_7)
    else bd2 (f_X10_readDigit w_6) fun r_8 w_9 => ckI (nI j) 20 <| nm (pA w_9 4 (nI j) r_8) fun v_10 => ckI (nI j) 20 <| if (v_10.2 4 (nI j).toNatClampNeg) < 0 then some (0, v_10) else some (1, v_10)) = if (bbS T L false p).1 = true then some (0, pA (pF w 1 (nI (bbS T L false p).2.2)) 4 (nI j) (-1)) else some (1, pA (pF w 1 (nI (bbS T L false p).2.2)) 4 (nI j) (nI (bbS T L false p).2.1)) := by
  have := x_bb1 (fun (x : Int32) (w' : SV) => ckI (nI j) 20 <| nm (pA w' 4 (nI j) x) fun v_7 => ckI (nI j) 20 <| if (v_7.2 4 (nI j).toNatClampNeg) < 0 then some ((0 : Int32), v_7) else some (1, v_7)) C hp
  refine this.trans ?_
  rw [ckI_n hj (by omega), nm_s, ckI_n hj (by omega), pA_selfN]
  by_cases h : (bbS T L false p).1 = true
  · rw [if_pos h, if_pos h, if_pos (by decide)]
  · rw [if_neg h, if_neg h, if_neg (nI_pos (by have := bbS_n (T := T) (L := L) (two := false) (p := p); omega))]
/-- what the reader holds of command j -/
def CEC (j k n0 n1 n2 : Nat) (w : SV) : Prop := w.2 1 j = nI k ∧ (k ≠ 7 → w.2 2 j = nI n0) ∧ (k = 2 ∨ k = 3 ∨ k = 4 ∨ k = 6 → w.2 3 j = nI n1) ∧ (k < 2 → w.2 4 j = nI n1) ∧ (k = 2 ∨ k = 4 → w.2 4 j = nI n2)
/-- up to the first number -/
theorem x_cmd0 {T : Nat → Nat} {L s j q : Nat} {re : SV} (hj : j < 20) (hq : q < 7) (C : RDC T L (s + 1) (pF re 1 (nI (s + 1)))) (hs : s < L ∧ T s = 32) (hw : f_X10_readWord re = some (nI q, pF re 1 (nI (s + 1)))) (hb : (bbS T L true s).1 = true) : ∃ w, f_X10_readCommand (nI j) re = some (0, w) ∧ RST j w re ∧ w.1 1 = nI (bbS T L true s).2.2 := by
  have hN : ∀ q, q < 7 → ¬ cNum q ≤ 0 := by decide
  unfold f_X10_readCommand
  rw [hw, bd2_s, if_pos (nI_pos' (by omega)), ckI_n hj (by omega), nm_s, ckI_n (show q < 8 by omega) (by omega), nI_cl (n := q) (by omega), if_neg (hN q hq), x_num (RDC_A C (by decide)) hs.1 hs.2, bd2_s, ckI_n hj (by omega), nm_s, ckI_n hj (by omega), pA_selfN, if_pos hb, if_neg (by decide)]
  exact ⟨_, rfl, RST_A (RST_F (RST_A (RST_F RST_0) (by decide) hj)) (by decide) hj, rfl⟩
