/-! PURE: read: a command is carried out, on both sides. -/
theorem bd3_eta {α β γ : Type} (x : Option (α × β × γ)) : (bd3 x fun a b c => some (a, b, c)) = x := by
  cases x with
  | none => rfl
  | some t => rfl
/-- the model's way with a change -/
def mWay (g : Int32) (isR act : SV → Option (Int32 × SV)) (v : SV) : Option (Int32 × SV) := bd2 (f_X13_isNot g v) fun r w => if r = 0 then bd2 (isR w) fun r2 w2 => if r2 = 0 then bd2 (act w2) fun _ w3 => some (0, w3) else some (1, w2) else some (1, w)
theorem m_isNot1 (v : SV) : f_X13_isNot 1 v = some (0, pF v 15 0) := rfl
theorem m_isNot0 (v : SV) : f_X13_isNot 0 v = some (1, pF v 15 1) := rfl
/-- how both sides go on -/
def PST (N : Nat) (a : AS) (w : SV) (fc : SV → Option (Int32 × SV × SV)) (v : SV) (X : Option (Int32 × SV)) : Prop :=
  (∃ r w' b u', ¬ r < 0 ∧ (∀ rf, fc rf = some (r, w', rf)) ∧ RC w' b ∧ WF b ∧ GB (N + 1) b ∧ X = some (0, u') ∧ RM (u'.2 0) b ∧ (∀ i, i ≠ 15 → u'.1 i = v.1 i) ∧ (∀ r, r ≠ 0 → u'.2 r = v.2 r)) ∨
  (∃ y n, y ≠ 0 ∧ (∀ rf, fc rf = some (-3, w, ntS y n rf)) ∧ X = some (1, pF (pF (pF v 15 0) 1 y) 2 n)) ∨
  (∃ e, e < 0 ∧ e ≠ -3 ∧ (∀ rf, fc rf = some (e, w, rf)) ∧ X = some (1, pF v 15 1))
theorem q_core {N : Nat} {a : AS} {w v : SV} {fc : SV → Option (Int32 × SV × SV)} {g1 g2 : Option Int32} {isR act : SV → Option (Int32 × SV)} (H : CMD N a w fc g1 g2 isR act) (M : RM (v.2 0) a) {X : Option (Int32 × SV)} (h0 : g1 = some 0 → X = mWay 0 isR act v) (h1 : g1 = some 1 → g2 = some 0 → X = mWay 0 isR act v) (h2 : g1 = some 1 → g2 = some 1 → X = mWay 1 isR act v) : PST N a w fc v X := by
  have z : mWay 0 isR act v = some (1, pF v 15 1) := by unfold mWay; rw [m_isNot0, bd2_s, if_neg n10]
  rcases H with ⟨c1, c2⟩ | ⟨c1, c2, c3⟩ | ⟨c1, c2, c3⟩
  · exact Or.inr (Or.inr ⟨-1, by decide, by decide, c2, by rw [h0 c1, z]⟩)
  · exact Or.inr (Or.inr ⟨-2, by decide, by decide, c3, by rw [h1 c1 c2, z]⟩)
  · have hX := h2 c1 c2
    unfold mWay at hX
    rw [m_isNot1, bd2_s, if_pos rfl] at hX
    rcases c3 with ⟨y, n, hy, d1, d2⟩ | ⟨r, w', b, hr, d1, d2, ⟨d3, d5⟩, d4⟩
    · rw [d2 (pF v 15 0) M, bd2_s, if_neg n10] at hX
      exact Or.inr (Or.inl ⟨y, n, hy, d1, hX⟩)
    · obtain ⟨f1, u', f2, f3, f4⟩ := d4 (pF v 15 0) M
      rw [f1, bd2_s, if_pos rfl, f2, bd2_s] at hX
      refine Or.inl ⟨r, w', b, u', hr, d1, d2, d3, d5, hX, f3, fun i hi => ?_, fun r hr => ?_⟩
      · rw [f4.1]; exact if_neg hi
      · rw [f4.2 r hr]; rfl
theorem PST_v {N : Nat} {a : AS} {w u : SV} {fc : SV → Option (Int32 × SV × SV)} {X : Option (Int32 × SV)} (h : PST N a w fc (pF u 15 0) X) : PST N a w fc u X := by
  rcases h with ⟨r, w', b, u', a1, a2, a3, a4, a5, a6, a7, a8, a9⟩ | ⟨y, n, a1, a2, a3⟩ | ⟨e, a1, a2, a3, a4⟩
  · exact Or.inl ⟨r, w', b, u', a1, a2, a3, a4, a5, a6, a7, fun i hi => (a8 i hi).trans (if_neg hi), a9⟩
  · rw [pF_pF] at a3; exact Or.inr (Or.inl ⟨y, n, a1, a2, a3⟩)
  · rw [pF_pF] at a4; exact Or.inr (Or.inr ⟨e, a1, a2, a3, a4⟩)
theorem q96 {j : Nat} : 3 * nI j = nI (3 * j) := by rw [qL3, nI_mul]
theorem q96b {j : Nat} : nI (3 * j) + 2 = nI (3 * j + 2) := by rw [qL2, nI_add]
theorem x_pf0 {j n0 n1 n2 : Nat} {mn dr re rf : SV} (hj : j < 20) (E : CEC j 0 n0 n1 n2 re) : f_X12_perform (nI j) mn dr re rf = f_X6_putPlants (nI n0) (nI n1) dr rf := by
  have cj : (nI j).toNatClampNeg = j := nI_cl (by omega)
  have ck : (nI 0).toNatClampNeg = 0 := nI_cl (by omega)
  unfold f_X12_perform
  rw [ckI_n hj (by omega), ckI_n hj (by omega), ckI_n hj (by omega), ckI_n hj (by omega), cj, E.1, ckI_n (show 0 < 8 by omega) (by omega), ck, show f_Jx29ce0_ordinal_8abf5 0 = some (nI 0) from rfl, bd1_s, ckI_n (show 0 < 8 by omega) (by omega), ck, if_pos (show swM 0 = 1 from rfl), E.2.1 (by decide), E.2.2.2.1 (by decide)]
  exact bd3_eta _
theorem m_cn0 {N j n0 n1 n2 : Nat} {a : AS} {w u : SV} (hj : j < 20) (E : MEC j 0 n0 n1 n2 u) (M : RM (u.2 0) a) (H : CMD N a w (f_X6_putPlants (nI n0) (nI n1) w) (f_X13_isBalcony (nI n0)) (f_X13_areMany (nI n1)) (f_X13_isRefusedPlant (nI n0) (nI n1)) (f_X13_puts (nI n0) (nI n1))) : PST N a w (f_X6_putPlants (nI n0) (nI n1) w) u (f_X13_cannot (nI j) u) := by
  have cj : (nI j).toNatClampNeg = j := nI_cl (by omega)
  have c0 : (nI (3 * j)).toNatClampNeg = 3 * j := nI_cl (by omega)
  have c1 : (nI (3 * j + 1)).toNatClampNeg = 3 * j + 1 := nI_cl (by omega)
  have c2 : (nI (3 * j + 2)).toNatClampNeg = 3 * j + 2 := nI_cl (by omega)
  have M4 : RM ((pF u 15 0).2 0) a := M
  refine PST_v ?_
  unfold f_X13_cannot
  rw [q96, ckI_n (by omega) (by omega), nm_s, nI_1, ckI_n (by omega) (by omega), nm_s, q96b, ckI_n (by omega) (by omega), nm_s, nm_s, ckI_n (by omega) (by omega), cj, c0, c1, c2, pF_2, E.1, E.2.1, E.2.2.1, E.2.2.2, if_pos (show nI 0 = 0 from rfl)]
  refine q_core H M4 (fun h0 => ?_) (fun h1 h2 => ?_) (fun h1 h2 => ?_)
  · rw [h0, bd1_s, if_pos rfl]; rfl
  · rw [h1, bd1_s, if_neg n10, h2, bd1_s, if_pos rfl]; rfl
  · rw [h1, bd1_s, if_neg n10, h2, bd1_s, if_neg n10]; rfl
theorem x_pf1 {j n0 n1 n2 : Nat} {mn dr re rf : SV} (hj : j < 20) (E : CEC j 1 n0 n1 n2 re) : f_X12_perform (nI j) mn dr re rf = f_X6_changeTolerance (nI n0) (nI n1) dr rf := by
  have cj : (nI j).toNatClampNeg = j := nI_cl (by omega)
  have ck : (nI 1).toNatClampNeg = 1 := nI_cl (by omega)
  unfold f_X12_perform
  rw [ckI_n hj (by omega), ckI_n hj (by omega), ckI_n hj (by omega), ckI_n hj (by omega), cj, E.1, ckI_n (show 1 < 8 by omega) (by omega), ck, show f_Jx29ce0_ordinal_8abf5 1 = some (nI 1) from rfl, bd1_s, ckI_n (show 1 < 8 by omega) (by omega), ck, if_neg (show ¬ swM 1 = 1 by decide), if_pos (show swM 1 = 2 from rfl), E.2.1 (by decide), E.2.2.2.1 (by decide)]
  exact bd3_eta _
theorem m_cn1 {N j n0 n1 n2 : Nat} {a : AS} {w u : SV} (hj : j < 20) (E : MEC j 1 n0 n1 n2 u) (M : RM (u.2 0) a) (H : CMD N a w (f_X6_changeTolerance (nI n0) (nI n1) w) (f_X13_isBalcony (nI n0)) (f_X13_isTolerance (nI n1)) (f_X13_isRefusedBear (nI n0) (nI n1)) (f_X13_tells (nI n0) (nI n1))) : PST N a w (f_X6_changeTolerance (nI n0) (nI n1) w) u (f_X13_cannot (nI j) u) := by
  have cj : (nI j).toNatClampNeg = j := nI_cl (by omega)
  have c0 : (nI (3 * j)).toNatClampNeg = 3 * j := nI_cl (by omega)
  have c1 : (nI (3 * j + 1)).toNatClampNeg = 3 * j + 1 := nI_cl (by omega)
  have c2 : (nI (3 * j + 2)).toNatClampNeg = 3 * j + 2 := nI_cl (by omega)
  have M4 : RM ((pF u 15 0).2 0) a := M
  refine PST_v ?_
  unfold f_X13_cannot
  rw [q96, ckI_n (by omega) (by omega), nm_s, nI_1, ckI_n (by omega) (by omega), nm_s, q96b, ckI_n (by omega) (by omega), nm_s, nm_s, ckI_n (by omega) (by omega), cj, c0, c1, c2, pF_2, E.1, E.2.1, E.2.2.1, E.2.2.2, if_neg (show ¬ nI 1 = 0 by decide), if_pos (show nI 1 = 1 from rfl)]
  refine q_core H M4 (fun h0 => ?_) (fun h1 h2 => ?_) (fun h1 h2 => ?_)
  · rw [h0, bd1_s, if_pos rfl]; rfl
  · rw [h1, bd1_s, if_neg n10, h2, bd1_s, if_pos rfl]; rfl
  · rw [h1, bd1_s, if_neg n10, h2, bd1_s, if_neg n10]; rfl
theorem x_pf2 {j n0 n1 n2 : Nat} {mn dr re rf : SV} (hj : j < 20) (E : CEC j 2 n0 n1 n2 re) : f_X12_perform (nI j) mn dr re rf = f_X6_hangLine (nI n0) (nI n1) (nI n2) dr rf := by
  have cj : (nI j).toNatClampNeg = j := nI_cl (by omega)
  have ck : (nI 2).toNatClampNeg = 2 := nI_cl (by omega)
  unfold f_X12_perform
  rw [ckI_n hj (by omega), ckI_n hj (by omega), ckI_n hj (by omega), ckI_n hj (by omega), cj, E.1, ckI_n (show 2 < 8 by omega) (by omega), ck, show f_Jx29ce0_ordinal_8abf5 2 = some (nI 2) from rfl, bd1_s, ckI_n (show 2 < 8 by omega) (by omega), ck, if_neg (show ¬ swM 2 = 1 by decide), if_neg (show ¬ swM 2 = 2 by decide), if_pos (show swM 2 = 3 from rfl), E.2.1 (by decide), E.2.2.1 (by decide), E.2.2.2.2 (by decide)]
  exact bd3_eta _
theorem m_cn2 {N j n0 n1 n2 : Nat} {a : AS} {w u : SV} (hj : j < 20) (E : MEC j 2 n0 n1 n2 u) (M : RM (u.2 0) a) (H : CMD N a w (f_X6_hangLine (nI n0) (nI n1) (nI n2) w) (f_X13_areTwo (nI n0) (nI n1)) (f_X13_areMany (nI n2)) (f_X13_isRefusedHang (nI n0) (nI n1)) (f_X13_hangs (nI n0) (nI n1) (nI n2))) : PST N a w (f_X6_hangLine (nI n0) (nI n1) (nI n2) w) u (f_X13_cannot (nI j) u) := by
  have cj : (nI j).toNatClampNeg = j := nI_cl (by omega)
  have c0 : (nI (3 * j)).toNatClampNeg = 3 * j := nI_cl (by omega)
  have c1 : (nI (3 * j + 1)).toNatClampNeg = 3 * j + 1 := nI_cl (by omega)
  have c2 : (nI (3 * j + 2)).toNatClampNeg = 3 * j + 2 := nI_cl (by omega)
  have M4 : RM ((pF u 15 0).2 0) a := M
  refine PST_v ?_
  unfold f_X13_cannot
  rw [q96, ckI_n (by omega) (by omega), nm_s, nI_1, ckI_n (by omega) (by omega), nm_s, q96b, ckI_n (by omega) (by omega), nm_s, nm_s, ckI_n (by omega) (by omega), cj, c0, c1, c2, pF_2, E.1, E.2.1, E.2.2.1, E.2.2.2, if_neg (show ¬ nI 2 = 0 by decide), if_neg (show ¬ nI 2 = 1 by decide), if_pos (show nI 2 = 2 from rfl)]
  refine q_core H M4 (fun h0 => ?_) (fun h1 h2 => ?_) (fun h1 h2 => ?_)
  · rw [h0, bd1_s, if_pos rfl]; rfl
  · rw [h1, bd1_s, if_neg n10, h2, bd1_s, if_pos rfl]; rfl
  · rw [h1, bd1_s, if_neg n10, h2, bd1_s, if_neg n10]; rfl
theorem x_pf3 {j n0 n1 n2 : Nat} {mn dr re rf : SV} (hj : j < 20) (E : CEC j 3 n0 n1 n2 re) : f_X12_perform (nI j) mn dr re rf = f_X6_letGreet (nI n0) (nI n1) dr rf := by
  have cj : (nI j).toNatClampNeg = j := nI_cl (by omega)
  have ck : (nI 3).toNatClampNeg = 3 := nI_cl (by omega)
  unfold f_X12_perform
  rw [ckI_n hj (by omega), ckI_n hj (by omega), ckI_n hj (by omega), ckI_n hj (by omega), cj, E.1, ckI_n (show 3 < 8 by omega) (by omega), ck, show f_Jx29ce0_ordinal_8abf5 3 = some (nI 3) from rfl, bd1_s, ckI_n (show 3 < 8 by omega) (by omega), ck, if_neg (show ¬ swM 3 = 1 by decide), if_neg (show ¬ swM 3 = 2 by decide), if_neg (show ¬ swM 3 = 3 by decide), if_pos (show swM 3 = 4 from rfl), E.2.1 (by decide), E.2.2.1 (by decide)]
  exact bd3_eta _
theorem m_cn3 {N j n0 n1 n2 : Nat} {a : AS} {w u : SV} (hj : j < 20) (E : MEC j 3 n0 n1 n2 u) (M : RM (u.2 0) a) (H : CMD N a w (f_X6_letGreet (nI n0) (nI n1) w) (f_X13_areTwo (nI n0) (nI n1)) (some 1) (f_X13_isRefusedGreet (nI n0) (nI n1)) (f_X13_greets (nI n0) (nI n1))) : PST N a w (f_X6_letGreet (nI n0) (nI n1) w) u (f_X13_cannot (nI j) u) := by
  have cj : (nI j).toNatClampNeg = j := nI_cl (by omega)
  have c0 : (nI (3 * j)).toNatClampNeg = 3 * j := nI_cl (by omega)
  have c1 : (nI (3 * j + 1)).toNatClampNeg = 3 * j + 1 := nI_cl (by omega)
  have c2 : (nI (3 * j + 2)).toNatClampNeg = 3 * j + 2 := nI_cl (by omega)
  have M4 : RM ((pF u 15 0).2 0) a := M
  refine PST_v ?_
  unfold f_X13_cannot
  rw [q96, ckI_n (by omega) (by omega), nm_s, nI_1, ckI_n (by omega) (by omega), nm_s, q96b, ckI_n (by omega) (by omega), nm_s, nm_s, ckI_n (by omega) (by omega), cj, c0, c1, c2, pF_2, E.1, E.2.1, E.2.2.1, E.2.2.2, if_neg (show ¬ nI 3 = 0 by decide), if_neg (show ¬ nI 3 = 1 by decide), if_neg (show ¬ nI 3 = 2 by decide), if_pos (show nI 3 = 3 from rfl)]
  refine q_core H M4 (fun h0 => ?_) (fun h1 h2 => ?_) (fun h1 h2 => ?_)
  · rw [h0, bd1_s]; rfl
  · cases h2
  · rw [h1, bd1_s]; rfl
theorem x_pf4 {j n0 n1 n2 : Nat} {mn dr re rf : SV} (hj : j < 20) (E : CEC j 4 n0 n1 n2 re) : f_X12_perform (nI j) mn dr re rf = f_X6_givePlants (nI n0) (nI n1) (nI n2) dr rf := by
  have cj : (nI j).toNatClampNeg = j := nI_cl (by omega)
  have ck : (nI 4).toNatClampNeg = 4 := nI_cl (by omega)
  unfold f_X12_perform
  rw [ckI_n hj (by omega), ckI_n hj (by omega), ckI_n hj (by omega), ckI_n hj (by omega), cj, E.1, ckI_n (show 4 < 8 by omega) (by omega), ck, show f_Jx29ce0_ordinal_8abf5 4 = some (nI 4) from rfl, bd1_s, ckI_n (show 4 < 8 by omega) (by omega), ck, if_neg (show ¬ swM 4 = 1 by decide), if_neg (show ¬ swM 4 = 2 by decide), if_neg (show ¬ swM 4 = 3 by decide), if_neg (show ¬ swM 4 = 4 by decide), if_pos (show swM 4 = 5 from rfl), E.2.1 (by decide), E.2.2.1 (by decide), E.2.2.2.2 (by decide)]
  exact bd3_eta _
theorem m_cn4 {N j n0 n1 n2 : Nat} {a : AS} {w u : SV} (hj : j < 20) (E : MEC j 4 n0 n1 n2 u) (M : RM (u.2 0) a) (H : CMD N a w (f_X6_givePlants (nI n0) (nI n1) (nI n2) w) (f_X13_areTwo (nI n0) (nI n1)) (f_X13_areMany (nI n2)) (f_X13_isRefusedGive (nI n0) (nI n1) (nI n2)) (f_X13_gives (nI n0) (nI n1) (nI n2))) : PST N a w (f_X6_givePlants (nI n0) (nI n1) (nI n2) w) u (f_X13_cannot (nI j) u) := by
  have cj : (nI j).toNatClampNeg = j := nI_cl (by omega)
  have c0 : (nI (3 * j)).toNatClampNeg = 3 * j := nI_cl (by omega)
  have c1 : (nI (3 * j + 1)).toNatClampNeg = 3 * j + 1 := nI_cl (by omega)
  have c2 : (nI (3 * j + 2)).toNatClampNeg = 3 * j + 2 := nI_cl (by omega)
  have M4 : RM ((pF u 15 0).2 0) a := M
  refine PST_v ?_
  unfold f_X13_cannot
  rw [q96, ckI_n (by omega) (by omega), nm_s, nI_1, ckI_n (by omega) (by omega), nm_s, q96b, ckI_n (by omega) (by omega), nm_s, nm_s, ckI_n (by omega) (by omega), cj, c0, c1, c2, pF_2, E.1, E.2.1, E.2.2.1, E.2.2.2, if_neg (show ¬ nI 4 = 0 by decide), if_neg (show ¬ nI 4 = 1 by decide), if_neg (show ¬ nI 4 = 2 by decide), if_neg (show ¬ nI 4 = 3 by decide), if_pos (show nI 4 = 4 from rfl)]
  refine q_core H M4 (fun h0 => ?_) (fun h1 h2 => ?_) (fun h1 h2 => ?_)
  · rw [h0, bd1_s, if_pos rfl]; rfl
  · rw [h1, bd1_s, if_neg n10, h2, bd1_s, if_pos rfl]; rfl
  · rw [h1, bd1_s, if_neg n10, h2, bd1_s, if_neg n10]; rfl
theorem x_pf5 {j n0 n1 n2 : Nat} {mn dr re rf : SV} (hj : j < 20) (E : CEC j 5 n0 n1 n2 re) : f_X12_perform (nI j) mn dr re rf = f_X6_letCatCome (nI n0) dr rf := by
  have cj : (nI j).toNatClampNeg = j := nI_cl (by omega)
  have ck : (nI 5).toNatClampNeg = 5 := nI_cl (by omega)
  unfold f_X12_perform
  rw [ckI_n hj (by omega), ckI_n hj (by omega), ckI_n hj (by omega), ckI_n hj (by omega), cj, E.1, ckI_n (show 5 < 8 by omega) (by omega), ck, show f_Jx29ce0_ordinal_8abf5 5 = some (nI 5) from rfl, bd1_s, ckI_n (show 5 < 8 by omega) (by omega), ck, if_neg (show ¬ swM 5 = 1 by decide), if_neg (show ¬ swM 5 = 2 by decide), if_neg (show ¬ swM 5 = 3 by decide), if_neg (show ¬ swM 5 = 4 by decide), if_neg (show ¬ swM 5 = 5 by decide), if_pos (show swM 5 = 6 from rfl), E.2.1 (by decide)]
  exact bd3_eta _
theorem m_cn5 {N j n0 n1 n2 : Nat} {a : AS} {w u : SV} (hj : j < 20) (E : MEC j 5 n0 n1 n2 u) (M : RM (u.2 0) a) (H : CMD N a w (f_X6_letCatCome (nI n0) w) (f_X13_isBalcony (nI n0)) (some 1) (f_X13_isRefusedCat (nI n0)) (f_X13_comes (nI n0))) : PST N a w (f_X6_letCatCome (nI n0) w) u (f_X13_cannot (nI j) u) := by
  have cj : (nI j).toNatClampNeg = j := nI_cl (by omega)
  have c0 : (nI (3 * j)).toNatClampNeg = 3 * j := nI_cl (by omega)
  have c1 : (nI (3 * j + 1)).toNatClampNeg = 3 * j + 1 := nI_cl (by omega)
  have c2 : (nI (3 * j + 2)).toNatClampNeg = 3 * j + 2 := nI_cl (by omega)
  have M4 : RM ((pF u 15 0).2 0) a := M
  refine PST_v ?_
  unfold f_X13_cannot
  rw [q96, ckI_n (by omega) (by omega), nm_s, nI_1, ckI_n (by omega) (by omega), nm_s, q96b, ckI_n (by omega) (by omega), nm_s, nm_s, ckI_n (by omega) (by omega), cj, c0, c1, c2, pF_2, E.1, E.2.1, E.2.2.1, E.2.2.2, if_neg (show ¬ nI 5 = 0 by decide), if_neg (show ¬ nI 5 = 1 by decide), if_neg (show ¬ nI 5 = 2 by decide), if_neg (show ¬ nI 5 = 3 by decide), if_neg (show ¬ nI 5 = 4 by decide), if_pos (show nI 5 = 5 from rfl)]
  refine q_core H M4 (fun h0 => ?_) (fun h1 h2 => ?_) (fun h1 h2 => ?_)
  · rw [h0, bd1_s]; rfl
  · cases h2
  · rw [h1, bd1_s]; rfl
theorem x_pf6 {j n0 n1 n2 : Nat} {mn dr re rf : SV} (hj : j < 20) (E : CEC j 6 n0 n1 n2 re) : f_X12_perform (nI j) mn dr re rf = f_X6_swapCats (nI n0) (nI n1) dr rf := by
  have cj : (nI j).toNatClampNeg = j := nI_cl (by omega)
  have ck : (nI 6).toNatClampNeg = 6 := nI_cl (by omega)
  unfold f_X12_perform
  rw [ckI_n hj (by omega), ckI_n hj (by omega), ckI_n hj (by omega), ckI_n hj (by omega), cj, E.1, ckI_n (show 6 < 8 by omega) (by omega), ck, show f_Jx29ce0_ordinal_8abf5 6 = some (nI 6) from rfl, bd1_s, ckI_n (show 6 < 8 by omega) (by omega), ck, if_neg (show ¬ swM 6 = 1 by decide), if_neg (show ¬ swM 6 = 2 by decide), if_neg (show ¬ swM 6 = 3 by decide), if_neg (show ¬ swM 6 = 4 by decide), if_neg (show ¬ swM 6 = 5 by decide), if_neg (show ¬ swM 6 = 6 by decide), if_pos (show swM 6 = 7 from rfl), E.2.1 (by decide), E.2.2.1 (by decide)]
  exact bd3_eta _
theorem m_cn6 {N j n0 n1 n2 : Nat} {a : AS} {w u : SV} (hj : j < 20) (E : MEC j 6 n0 n1 n2 u) (M : RM (u.2 0) a) (H : CMD N a w (f_X6_swapCats (nI n0) (nI n1) w) (f_X13_areTwo (nI n0) (nI n1)) (some 1) (f_X13_isRefusedSwap (nI n0) (nI n1)) (f_X13_swaps (nI n0) (nI n1))) : PST N a w (f_X6_swapCats (nI n0) (nI n1) w) u (f_X13_cannot (nI j) u) := by
  have cj : (nI j).toNatClampNeg = j := nI_cl (by omega)
  have c0 : (nI (3 * j)).toNatClampNeg = 3 * j := nI_cl (by omega)
  have c1 : (nI (3 * j + 1)).toNatClampNeg = 3 * j + 1 := nI_cl (by omega)
  have c2 : (nI (3 * j + 2)).toNatClampNeg = 3 * j + 2 := nI_cl (by omega)
  have M4 : RM ((pF u 15 0).2 0) a := M
  refine PST_v ?_
  unfold f_X13_cannot
  rw [q96, ckI_n (by omega) (by omega), nm_s, nI_1, ckI_n (by omega) (by omega), nm_s, q96b, ckI_n (by omega) (by omega), nm_s, nm_s, ckI_n (by omega) (by omega), cj, c0, c1, c2, pF_2, E.1, E.2.1, E.2.2.1, E.2.2.2, if_neg (show ¬ nI 6 = 0 by decide), if_neg (show ¬ nI 6 = 1 by decide), if_neg (show ¬ nI 6 = 2 by decide), if_neg (show ¬ nI 6 = 3 by decide), if_neg (show ¬ nI 6 = 4 by decide), if_neg (show ¬ nI 6 = 5 by decide), if_pos (show nI 6 = 6 from rfl)]
  refine q_core H M4 (fun h0 => ?_) (fun h1 h2 => ?_) (fun h1 h2 => ?_)
  · rw [h0, bd1_s]; rfl
  · cases h2
  · rw [h1, bd1_s]; rfl
theorem x_pf7 {j n0 n1 n2 : Nat} {mn dr re rf : SV} (hj : j < 20) (E : CEC j 7 n0 n1 n2 re) : f_X12_perform (nI j) mn dr re rf = bd2 (f_X6_endDay dr) fun r w => some (r, w, rf) := by
  have cj : (nI j).toNatClampNeg = j := nI_cl (by omega)
  have ck : (nI 7).toNatClampNeg = 7 := nI_cl (by omega)
  unfold f_X12_perform
  rw [ckI_n hj (by omega), ckI_n hj (by omega), ckI_n hj (by omega), ckI_n hj (by omega), cj, E.1, ckI_n (show 7 < 8 by omega) (by omega), ck, show f_Jx29ce0_ordinal_8abf5 7 = some (nI 7) from rfl, bd1_s, ckI_n (show 7 < 8 by omega) (by omega), ck, if_neg (show ¬ swM 7 = 1 by decide), if_neg (show ¬ swM 7 = 2 by decide), if_neg (show ¬ swM 7 = 3 by decide), if_neg (show ¬ swM 7 = 4 by decide), if_neg (show ¬ swM 7 = 5 by decide), if_neg (show ¬ swM 7 = 6 by decide), if_neg (show ¬ swM 7 = 7 by decide)]
theorem m_cn7 {N j n0 n1 n2 : Nat} {a : AS} {w u mn re : SV} (hj : j < 20) (E : MEC j 7 n0 n1 n2 u) (Ec : CEC j 7 n0 n1 n2 re) (M : RM (u.2 0) a) (R : RC w a) (W : WF a) (G : GB N a) : PST N a w (fun rf => f_X12_perform (nI j) mn w re rf) u (f_X13_cannot (nI j) u) := by
  have cj : (nI j).toNatClampNeg = j := nI_cl (by omega)
  have c0 : (nI (3 * j)).toNatClampNeg = 3 * j := nI_cl (by omega)
  have c1 : (nI (3 * j + 1)).toNatClampNeg = 3 * j + 1 := nI_cl (by omega)
  have c2 : (nI (3 * j + 2)).toNatClampNeg = 3 * j + 2 := nI_cl (by omega)
  obtain ⟨u', e1, e2, e3⟩ := m_ends (u := pF u 15 0) M W
  obtain ⟨w', k1, k2⟩ := x_endDay R W
  have gl : grN (aP a) 12 < 2147483648 := by
    have : grN (aP a) 12 ≤ 12 * 1 := smN_le (fun i _ => by unfold bN; split <;> omega)
    omega
  refine PST_v (Or.inl ⟨nI (grN (aP a) 12), w', dyA a, u', nI_pos gl, fun rf => ?_, k2, wf_dyA W, gb_dyA (GB_up G), ?_, e2, fun i _ => by rw [e3.1], fun r hr => e3.2 r hr⟩)
  · show f_X12_perform (nI j) mn w re rf = _
    rw [x_pf7 hj Ec, k1, bd2_s]
  · unfold f_X13_cannot
    rw [q96, ckI_n (by omega) (by omega), nm_s, nI_1, ckI_n (by omega) (by omega), nm_s, q96b, ckI_n (by omega) (by omega), nm_s, nm_s, ckI_n (by omega) (by omega), cj, c0, c1, c2, pF_2, E.1, E.2.1, E.2.2.1, E.2.2.2, if_neg (show ¬ nI 7 = 0 by decide), if_neg (show ¬ nI 7 = 1 by decide), if_neg (show ¬ nI 7 = 2 by decide), if_neg (show ¬ nI 7 = 3 by decide), if_neg (show ¬ nI 7 = 4 by decide), if_neg (show ¬ nI 7 = 5 by decide), if_neg (show ¬ nI 7 = 6 by decide), e1, bd2_s]
theorem PST_fc {N : Nat} {a : AS} {w u : SV} {f g : SV → Option (Int32 × SV × SV)} {X : Option (Int32 × SV)} (e : ∀ rf, g rf = f rf) (h : PST N a w f u X) : PST N a w g u X := by
  rw [show g = f from funext e]; exact h
/-- a command, on both sides -/
theorem q_pst {N j k n0 n1 n2 : Nat} {a : AS} {w u mn re : SV} (hN : N < 1000000) (hj : j < 20) (hk : k < 8) (Ec : CEC j k n0 n1 n2 re) (E : MEC j k n0 n1 n2 u) (M : RM (u.2 0) a) (R : RC w a) (W : WF a) (G : GB N a) : PST N a w (fun rf => f_X12_perform (nI j) mn w re rf) u (f_X13_cannot (nI j) u) := by
  rcases k with _ | _ | _ | _ | _ | _ | _ | _ | k
  · exact PST_fc (fun rf => x_pf0 hj Ec) (m_cn0 hj E M (q_plant R W G (nI n0) (nI n1)))
  · exact PST_fc (fun rf => x_pf1 hj Ec) (m_cn1 hj E M (q_bear R W G (nI n0) (nI n1)))
  · exact PST_fc (fun rf => x_pf2 hj Ec) (m_cn2 hj E M (q_hang R W G (nI n0) (nI n1) (nI n2)))
  · exact PST_fc (fun rf => x_pf3 hj Ec) (m_cn3 hj E M (q_greet hN R W G (nI n0) (nI n1)))
  · exact PST_fc (fun rf => x_pf4 hj Ec) (m_cn4 hj E M (q_give R W G (nI n0) (nI n1) (nI n2)))
  · exact PST_fc (fun rf => x_pf5 hj Ec) (m_cn5 hj E M (q_cat R W G (nI n0)))
  · exact PST_fc (fun rf => x_pf6 hj Ec) (m_cn6 hj E M (q_swap R W G (nI n0) (nI n1)))
  · exact m_cn7 hj E Ec M R W G
  · omega
