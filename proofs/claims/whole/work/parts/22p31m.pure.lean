/-! PURE: read: the words of the text, on both sides. -/
def TXC (T : Nat → Nat) (L : Nat) (f : Nat → Int32) : Prop := L ≤ 60 ∧ ∀ i, i < L → 32 ≤ T i ∧ T i ≤ 126 ∧ f i = nI (T i)
/-- how many letters of a word stand at p -/
def cp (T : Nat → Nat) (L : Nat) : List Nat → Nat → Nat
  | [], _ => 0
  | c :: w, p => if p < L ∧ T p = c then cp T L w (p + 1) + 1 else 0
theorem cp_le {T : Nat → Nat} {L : Nat} : ∀ (w : List Nat) (p : Nat), cp T L w p ≤ w.length := by
  intro w
  induction w with
  | nil => intro p; exact Nat.le_refl 0
  | cons c w ih =>
    intro p
    unfold cp
    split
    · exact Nat.succ_le_succ (ih (p + 1))
    · exact Nat.zero_le _
theorem cp_L {T : Nat → Nat} {L : Nat} : ∀ (w : List Nat) (p : Nat), p ≤ L → p + cp T L w p ≤ L := by
  intro w
  induction w with
  | nil => intro p h; exact h
  | cons c w ih =>
    intro p h
    unfold cp
    split
    · rename_i g; have := ih (p + 1) g.1; omega
    · exact h
theorem cp_app {T : Nat → Nat} {L : Nat} (c : Nat) : ∀ (w : List Nat) (p : Nat), cp T L (w ++ [c]) p = if cp T L w p = w.length then (if p + w.length < L ∧ T (p + w.length) = c then w.length + 1 else w.length) else cp T L w p := by
  intro w
  induction w with
  | nil =>
    intro p
    show (if p < L ∧ T p = c then 0 + 1 else 0) = if (0 : Nat) = 0 then (if p + 0 < L ∧ T (p + 0) = c then 0 + 1 else 0) else 0
    simp only [Nat.add_zero, Nat.zero_add, if_true]
  | cons d w ih =>
    intro p
    show (if p < L ∧ T p = d then cp T L (w ++ [c]) (p + 1) + 1 else 0) = if (if p < L ∧ T p = d then cp T L w (p + 1) + 1 else 0) = w.length + 1 then (if p + (w.length + 1) < L ∧ T (p + (w.length + 1)) = c then w.length + 1 + 1 else w.length + 1) else (if p < L ∧ T p = d then cp T L w (p + 1) + 1 else 0)
    by_cases h : p < L ∧ T p = d
    · rw [if_pos h, if_pos h, ih (p + 1), show p + 1 + w.length = p + (w.length + 1) by omega]
      by_cases g : cp T L w (p + 1) = w.length
      · rw [if_pos g, if_pos (show cp T L w (p + 1) + 1 = w.length + 1 by omega)]; split <;> rfl
      · rw [if_neg g, if_neg (show ¬ cp T L w (p + 1) + 1 = w.length + 1 by omega)]
    · rw [if_neg h, if_neg h, if_neg (by omega)]
def wd (k : Nat) : List Nat := [[112, 108, 97, 110, 116], [98, 101, 97, 114], [104, 97, 110, 103], [103, 114, 101, 101, 116], [103, 105, 118, 101], [99, 97, 116], [115, 119, 97, 112], [100, 97, 121]].getD k []
def wb (k : Nat) : List Nat := if k = 7 then wd 7 else wd k ++ [32]
theorem x_len : ∀ k, k < 8 → f_J0_length_8abf5 k = some (nI (wb k).length) := by decide +kernel
theorem x_chr0 : ∀ k, k < 8 → ∀ i, i < (wb k).length → f_J0_charAt_5068e k (nI i) = some (nI ((wb k).getD i 0)) := by decide +kernel
theorem x_wbl : ∀ k, k < 8 → (wb k).length ≤ 6 ∧ 3 ≤ (wd k).length ∧ (wd k).length ≤ 5 := by decide +kernel
theorem x_wb7 : ∀ k, k < 7 → wb k = wd k ++ [32] := by decide +kernel
theorem m_let0 : ∀ k, k < 8 → ∀ i, i < 6 → f_X13_letter (nI k) (nI i) = some (nI ((wd k).getD i 0)) := by decide +kernel
theorem m_let1 : ∀ k, k < 8 → ∀ i, i < (wd k).length → 0 < (wd k).getD i 0 ∧ (wd k).getD i 0 < 1000 := by decide +kernel
theorem x_chr1 : ∀ k, k < 8 → ∀ i, i < (wb k).length → (wb k).getD i 0 < 1000 := by decide +kernel
theorem drop_at {α : Type} {l m : List α} {x : α} {i : Nat} (h : l.drop i = x :: m) : l[i]? = some x ∧ i < l.length ∧ l.drop (i + 1) = m := by
  have hlt : i < l.length := by
    rcases Nat.lt_or_ge i l.length with g | g
    · exact g
    · rw [List.drop_eq_nil_of_le g] at h; cases h
  refine ⟨?_, hlt, ?_⟩
  · have h2 := congrArg (fun z => z[0]?) h
    simpa [List.getElem?_drop] using h2
  · have h2 := congrArg (List.drop 1) h
    simpa [List.drop_drop, Nat.add_comm] using h2
theorem x_alike {T : Nat → Nat} {L p k : Nat} {re : SV} (hT : TXC T L (re.2 0)) (h0 : re.1 0 = nI L) (h1 : re.1 1 = nI p) (hp : p ≤ L) (hk : k < 8) : f_X10_countAlike k re = some (nI (cp T L (wb k) p)) := by
  obtain ⟨hL, hc⟩ := hT
  obtain ⟨w1, w2, w3⟩ := x_wbl k hk
  have H : ∀ (m : List Nat) (i n : Nat), (wb k).drop i = m → i ≤ (wb k).length → m.length < n → lz2 (f_X10_countAlike_B4 k re) n (nI i) (nI i) = some (nI (i + cp T L m (p + i))) := by
    intro m
    induction m with
    | nil =>
      intro i n hd hi hn
      have := List.drop_eq_nil_iff.mp hd
      cases n with
      | zero => omega
      | succ n =>
        show f_X10_countAlike_B4 k re _ (nI i) (nI i) = _
        simp (disch := omega) only [f_X10_countAlike_B4, x_len k hk, bd1_s, nI_leI]
        rw [if_pos this]; rfl
    | cons c m ih =>
      intro i n hd hi hn
      obtain ⟨g1, g2, g3⟩ := drop_at hd
      cases n with
      | zero => omega
      | succ n =>
        have hg : (wb k).getD i 0 = c := by rw [List.getD_eq_getElem?_getD, g1]; rfl
        have hcl := x_chr1 k hk i g2
        show f_X10_countAlike_B4 k re _ (nI i) (nI i) = some (nI (i + (if p + i < L ∧ T (p + i) = c then cp T L m (p + i + 1) + 1 else 0)))
        simp (disch := omega) only [f_X10_countAlike_B4, x_len k hk, bd1_s, h0, h1, nI_add, nI_leI, nI_1]
        rw [if_neg (by omega)]
        by_cases q : p + i < L
        · obtain ⟨c1, c2, c3⟩ := hc (p + i) q
          rw [if_neg (by omega), ckI_n (by omega) (by omega), x_chr0 k hk i g2, bd1_s, nI_cl (by omega), c3, hg]
          rw [hg] at hcl
          by_cases e : T (p + i) = c
          · rw [if_pos (by rw [e]), if_pos ⟨q, e⟩, ih (i + 1) n g3 (by omega) (by simpa using hn), show p + (i + 1) = p + i + 1 by omega, show i + 1 + cp T L m (p + i + 1) = i + (cp T L m (p + i + 1) + 1) by omega]
          · rw [if_neg (by rw [nI_eq (by omega) (by omega)]; exact e), if_neg (fun h => e h.2)]; rfl
        · rw [if_pos (by omega), if_neg (fun h => q h.1)]; rfl
  have := H (wb k) 0 FU (by simp) (by omega) (by unfold FU; omega)
  rw [nI_0, Nat.zero_add, Nat.add_zero] at this
  exact this
/-- one word leads -/
theorem q_lead {T : Nat → Nat} {L : Nat} (p : Nat) : (∀ k, k < 8 → cp T L (wb k) p = 0 ∧ cp T L (wd k) p = 0) ∨ ∃ q, q < 8 ∧ 1 ≤ cp T L (wd q) p ∧ ∀ k, k < 8 → k ≠ q → cp T L (wb k) p ≤ 1 ∧ cp T L (wd k) p ≤ 1 := by
  have s0 : ∀ k, k < 8 → ∃ c w v, wd k = c :: w ∧ wb k = c :: v ∧ c = [112, 98, 104, 103, 103, 99, 115, 100].getD k 0 := by
    intro k hk
    rcases k with _ | _ | _ | _ | _ | _ | _ | _ | k
    all_goals first | exact ⟨_, _, _, rfl, rfl, rfl⟩ | omega
  have z : ∀ k, k < 8 → ¬ (p < L ∧ T p = [112, 98, 104, 103, 103, 99, 115, 100].getD k 0) → cp T L (wb k) p = 0 ∧ cp T L (wd k) p = 0 := by
    intro k hk hn
    obtain ⟨c, w, v, e1, e2, e3⟩ := s0 k hk
    rw [← e3] at hn
    rw [e1, e2]
    exact ⟨if_neg hn, if_neg hn⟩
  have y : ∀ k, k < 8 → (p < L ∧ T p = [112, 98, 104, 103, 103, 99, 115, 100].getD k 0) → 1 ≤ cp T L (wd k) p := by
    intro k hk hn
    obtain ⟨c, w, v, e1, e2, e3⟩ := s0 k hk
    rw [← e3] at hn
    rw [e1]
    show 1 ≤ (if p < L ∧ T p = c then _ + 1 else 0)
    rw [if_pos hn]; omega
  by_cases hL : p < L
  · by_cases hg : T p = 103
    · by_cases h2 : p + 1 < L ∧ T (p + 1) = 105
      · refine Or.inr ⟨4, by decide, y 4 (by decide) ⟨hL, hg⟩, fun k hk hne => ?_⟩
        rcases k with _ | _ | _ | _ | _ | _ | _ | _ | k
        · have := z 0 (by decide) (fun h => by have := h.2; rw [hg] at this; revert this; decide); exact ⟨Nat.le_trans (Nat.le_of_eq this.1) (Nat.zero_le 1), Nat.le_trans (Nat.le_of_eq this.2) (Nat.zero_le 1)⟩
        · have := z 1 (by decide) (fun h => by have := h.2; rw [hg] at this; revert this; decide); exact ⟨Nat.le_trans (Nat.le_of_eq this.1) (Nat.zero_le 1), Nat.le_trans (Nat.le_of_eq this.2) (Nat.zero_le 1)⟩
        · have := z 2 (by decide) (fun h => by have := h.2; rw [hg] at this; revert this; decide); exact ⟨Nat.le_trans (Nat.le_of_eq this.1) (Nat.zero_le 1), Nat.le_trans (Nat.le_of_eq this.2) (Nat.zero_le 1)⟩
        · have e : ¬ (p + 1 < L ∧ T (p + 1) = 114) := fun h => by have := h.2; rw [h2.2] at this; revert this; decide
          constructor
          · show cp T L (103 :: 114 :: _) p ≤ 1
            simp only [cp, if_neg e, if_pos (show p < L ∧ T p = 103 from ⟨hL, hg⟩)]; decide
          · show cp T L (103 :: 114 :: _) p ≤ 1
            simp only [cp, if_neg e, if_pos (show p < L ∧ T p = 103 from ⟨hL, hg⟩)]; decide
        · omega
        · have := z 5 (by decide) (fun h => by have := h.2; rw [hg] at this; revert this; decide); exact ⟨Nat.le_trans (Nat.le_of_eq this.1) (Nat.zero_le 1), Nat.le_trans (Nat.le_of_eq this.2) (Nat.zero_le 1)⟩
        · have := z 6 (by decide) (fun h => by have := h.2; rw [hg] at this; revert this; decide); exact ⟨Nat.le_trans (Nat.le_of_eq this.1) (Nat.zero_le 1), Nat.le_trans (Nat.le_of_eq this.2) (Nat.zero_le 1)⟩
        · have := z 7 (by decide) (fun h => by have := h.2; rw [hg] at this; revert this; decide); exact ⟨Nat.le_trans (Nat.le_of_eq this.1) (Nat.zero_le 1), Nat.le_trans (Nat.le_of_eq this.2) (Nat.zero_le 1)⟩
        · omega
      · refine Or.inr ⟨3, by decide, y 3 (by decide) ⟨hL, hg⟩, fun k hk hne => ?_⟩
        rcases k with _ | _ | _ | _ | _ | _ | _ | _ | k
        · have := z 0 (by decide) (fun h => by have := h.2; rw [hg] at this; revert this; decide); exact ⟨Nat.le_trans (Nat.le_of_eq this.1) (Nat.zero_le 1), Nat.le_trans (Nat.le_of_eq this.2) (Nat.zero_le 1)⟩
        · have := z 1 (by decide) (fun h => by have := h.2; rw [hg] at this; revert this; decide); exact ⟨Nat.le_trans (Nat.le_of_eq this.1) (Nat.zero_le 1), Nat.le_trans (Nat.le_of_eq this.2) (Nat.zero_le 1)⟩
        · have := z 2 (by decide) (fun h => by have := h.2; rw [hg] at this; revert this; decide); exact ⟨Nat.le_trans (Nat.le_of_eq this.1) (Nat.zero_le 1), Nat.le_trans (Nat.le_of_eq this.2) (Nat.zero_le 1)⟩
        · omega
        · constructor
          · show cp T L (103 :: 105 :: _) p ≤ 1
            simp only [cp, if_neg h2, if_pos (show p < L ∧ T p = 103 from ⟨hL, hg⟩)]; decide
          · show cp T L (103 :: 105 :: _) p ≤ 1
            simp only [cp, if_neg h2, if_pos (show p < L ∧ T p = 103 from ⟨hL, hg⟩)]; decide
        · have := z 5 (by decide) (fun h => by have := h.2; rw [hg] at this; revert this; decide); exact ⟨Nat.le_trans (Nat.le_of_eq this.1) (Nat.zero_le 1), Nat.le_trans (Nat.le_of_eq this.2) (Nat.zero_le 1)⟩
        · have := z 6 (by decide) (fun h => by have := h.2; rw [hg] at this; revert this; decide); exact ⟨Nat.le_trans (Nat.le_of_eq this.1) (Nat.zero_le 1), Nat.le_trans (Nat.le_of_eq this.2) (Nat.zero_le 1)⟩
        · have := z 7 (by decide) (fun h => by have := h.2; rw [hg] at this; revert this; decide); exact ⟨Nat.le_trans (Nat.le_of_eq this.1) (Nat.zero_le 1), Nat.le_trans (Nat.le_of_eq this.2) (Nat.zero_le 1)⟩
        · omega
    · by_cases hq : ∃ q, q < 8 ∧ T p = [112, 98, 104, 103, 103, 99, 115, 100].getD q 0
      · obtain ⟨q, hq1, hq2⟩ := hq
        refine Or.inr ⟨q, hq1, y q hq1 ⟨hL, hq2⟩, fun k hk hne => ?_⟩
        have inj : ∀ q, q < 8 → ∀ k, k < 8 → k ≠ q → [112, 98, 104, 103, 103, 99, 115, 100].getD q 0 ≠ (103 : Nat) → [112, 98, 104, 103, 103, 99, 115, 100].getD q 0 ≠ [112, 98, 104, 103, 103, 99, 115, 100].getD k (0 : Nat) := by decide
        have := z k hk (fun h => inj q hq1 k hk hne (by rw [← hq2]; exact hg) (by rw [← hq2]; exact h.2))
        omega
      · exact Or.inl (fun k hk => z k hk (fun h => hq ⟨k, hk, h.2⟩))
  · exact Or.inl (fun k hk => z k hk (fun h => hL h.1))
