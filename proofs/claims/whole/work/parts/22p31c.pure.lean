/-! PURE: the reference's copies, its row of changes; the ring of houses; calls that take back. -/
theorem rm_eq {m m' : Nat → Int32} {a : AS} (E : ∀ i, i < 240 → m i = m' i) (M : RM m' a) (W : WF a) : RM m a := by
  obtain ⟨r1, r2, r3, r4, r5, r6, r7, r8, r9, r10, r11, r12, r13, r14⟩ := M
  have hl := wf_ln W
  have hc := wf_cn W
  refine ⟨fun i hi => (E _ (by omega)).trans (r1 i hi), fun i hi => (E _ (by omega)).trans (r2 i hi), fun i j hi hj => (E _ (by omega)).trans (r3 i j hi hj), fun i hi => (E _ (by omega)).trans (r4 i hi), (E _ (by omega)).trans r5, fun k x hx => ?_, (E _ (by omega)).trans r7, fun k x hx => ?_, (E _ (by omega)).trans r9, (E _ (by omega)).trans r10, (E _ (by omega)).trans r11, (E _ (by omega)).trans r12, (E _ (by omega)).trans r13, (E _ (by omega)).trans r14⟩
  · have hk := ix_lt hx
    rw [E _ (by omega), E _ (by omega), E _ (by omega)]; exact r6 k x hx
  · have hk := ix_lt hx
    rw [E _ (by omega), E _ (by omega), E _ (by omega)]; exact r8 k x hx
theorem m_copies {s t n0 n1 : Nat} (hs : s + 240 ≤ n0) (ht : t + 240 ≤ n1) (h0 : n0 < 3000) (h1 : n1 < 3000) (f g : Nat → Int32) : ∃ z, f_X13_copies (nI s) (nI t) n0 f n1 g = some z ∧ ∀ j, z j = if t ≤ j ∧ j < t + 240 then f (s + (j - t)) else g j := by
  unfold f_X13_copies
  refine lz2_inv0 (N := 240) (fun (k : Nat) (u : Nat → Int32) => ∀ j, u j = if t ≤ j ∧ j < t + k then f (s + (j - t)) else g j) (fun (x : Option (Nat → Int32)) => ∃ z, x = some z ∧ ∀ j, z j = if t ≤ j ∧ j < t + 240 then f (s + (j - t)) else g j) ?_ ?_ (by omega) g ?_
  · intro self k u hk hI kk
    simp (disch := omega) only [f_X13_copies_B3, nI_1, nI_add, nI_mul, nI_leI, nI_ltI, nI_eq, ckI_n, nI_cl, qL2, qL3, qL4, qL5, qL6, qL7, qL8, qL9, qL10, qL11, qL12, nm, bd1_s, bd2_s, bd3_s, bd4_s, qL240]
    simp only [show ¬ (240 ≤ k) by omega, Nat.lt_irrefl, Nat.le_refl, if_true, if_false, ite_true, ite_false, not_true_eq_false, not_false_eq_true, reduceIte]
    refine kk _ (fun j => ?_)
    unfold upd
    by_cases c : j = t + k
    · subst c
      rw [if_pos rfl, if_pos (by omega)]; congr 1; omega
    · rw [if_neg c, hI j]
      by_cases c2 : t ≤ j ∧ j < t + k
      · rw [if_pos c2, if_pos (by omega)]
      · rw [if_neg c2, if_neg (by omega)]
  · intro self u hI
    simp (disch := omega) only [f_X13_copies_B3, f_X13_copies_K3, nI_1, nI_add, nI_mul, nI_leI, nI_ltI, nI_eq, ckI_n, nI_cl, qL2, qL3, qL4, qL5, qL6, qL7, qL8, qL9, qL10, qL11, qL12, nm, bd1_s, bd2_s, bd3_s, bd4_s, qL240]
    simp only [Nat.lt_irrefl, Nat.le_refl, if_true, if_false, ite_true, ite_false, not_true_eq_false, not_false_eq_true, reduceIte]
    exact ⟨u, rfl, hI⟩
  · intro j; rw [if_neg (by omega)]
theorem m_copiesS {s t n0 : Nat} (hs : s = t + 240) (hn : s + 240 ≤ n0) (h0 : n0 < 3000) (g : Nat → Int32) : ∃ z, f_X13_copies_same (nI s) (nI t) n0 g = some z ∧ ∀ j, z j = if t ≤ j ∧ j < t + 240 then g (s + (j - t)) else g j := by
  unfold f_X13_copies_same
  refine lz2_inv0 (N := 240) (fun (k : Nat) (u : Nat → Int32) => ∀ j, u j = if t ≤ j ∧ j < t + k then g (s + (j - t)) else g j) (fun (x : Option (Nat → Int32)) => ∃ z, x = some z ∧ ∀ j, z j = if t ≤ j ∧ j < t + 240 then g (s + (j - t)) else g j) ?_ ?_ (by omega) g ?_
  · intro self k u hk hI kk
    simp (disch := omega) only [f_X13_copies_same_B3, nI_1, nI_add, nI_mul, nI_leI, nI_ltI, nI_eq, ckI_n, nI_cl, qL2, qL3, qL4, qL5, qL6, qL7, qL8, qL9, qL10, qL11, qL12, nm, bd1_s, bd2_s, bd3_s, bd4_s, qL240]
    simp only [show ¬ (240 ≤ k) by omega, Nat.lt_irrefl, Nat.le_refl, if_true, if_false, ite_true, ite_false, not_true_eq_false, not_false_eq_true, reduceIte]
    refine kk _ (fun j => ?_)
    unfold upd
    by_cases c : j = t + k
    · subst c
      rw [if_pos rfl, if_pos (by omega), hI (s + k), if_neg (by omega)]; congr 1; omega
    · rw [if_neg c, hI j]
      by_cases c2 : t ≤ j ∧ j < t + k
      · rw [if_pos c2, if_pos (by omega)]
      · rw [if_neg c2, if_neg (by omega)]
  · intro self u hI
    simp (disch := omega) only [f_X13_copies_same_B3, f_X13_copies_same_K3, nI_1, nI_add, nI_mul, nI_leI, nI_ltI, nI_eq, ckI_n, nI_cl, qL2, qL3, qL4, qL5, qL6, qL7, qL8, qL9, qL10, qL11, qL12, nm, bd1_s, bd2_s, bd3_s, bd4_s, qL240]
    simp only [Nat.lt_irrefl, Nat.le_refl, if_true, if_false, ite_true, ite_false, not_true_eq_false, not_false_eq_true, reduceIte]
    exact ⟨u, rfl, hI⟩
  · intro j; rw [if_neg (by omega)]
/-- the same but for one row -/
def chR (r : Nat) (u v : SV) : Prop := u.1 = v.1 ∧ ∀ k, k ≠ r → u.2 k = v.2 k
theorem m_begins {v : SV} {a : AS} (M : RM (v.2 0) a) (W : WF a) : ∃ u, f_X13_begins v = some u ∧ RM (u.2 1) a ∧ RM (u.2 0) a ∧ chR 1 u v := by
  obtain ⟨z, e, h⟩ := m_copies (s := 0) (t := 0) (n0 := 240) (n1 := 240) (by omega) (by omega) (by omega) (by omega) (v.2 0) (v.2 1)
  have e : f_X13_copies 0 0 240 (v.2 0) 240 (v.2 1) = some z := e
  refine ⟨pR v 1 z, by simp only [f_X13_begins, e, nm, bd1_s, bd2_s, bd3_s, bd4_s], ?_, M, rfl, fun k hk => ?_⟩
  · refine rm_eq (fun i hi => ?_) M W
    show z i = _
    rw [h i, if_pos (by omega)]; exact congrArg (v.2 0) (by omega)
  · show (if k = 1 then z else v.2 k) = _
    rw [if_neg hk]
/-- the reference's row of changes -/
def HM (v : SV) (hs : List AS) : Prop := hs.length ≤ 8 ∧ v.1 0 = nI hs.length ∧ ∀ j b, hs[j]? = some b → WF b ∧ RM (fun i => v.2 4 (240 * j + i)) b
theorem m_keepsJ {v : SV} {hs : List AS} {a : AS} (hl : hs.length ≤ 7) (H : HM v hs) (M : RM (v.2 1) a) (W : WF a) (r : Int32) : ∃ u, f_X13_keeps_J56 r v = some (r, u) ∧ HM u (hs ++ [a]) ∧ (∀ k, k ≠ 0 → u.1 k = v.1 k) ∧ ∀ k, k ≠ 4 → u.2 k = v.2 k := by
  obtain ⟨_, h1, h2⟩ := H
  obtain ⟨z, e, h⟩ := m_copies (s := 0) (t := 240 * hs.length) (n0 := 240) (n1 := 1920) (by omega) (by omega) (by omega) (by omega) (v.2 1) (v.2 4)
  have e : f_X13_copies 0 (nI (240 * hs.length)) 240 (v.2 1) 1920 (v.2 4) = some z := e
  refine ⟨pF (pR v 4 z) 0 (nI (hs.length + 1)), ?_, ⟨by simp; omega, by show nI (hs.length + 1) = _; simp, ?_⟩, fun k hk => ?_, fun k hk => ?_⟩
  · simp only [f_X13_keeps_J56, h1, qL240, nI_mul, e, nm, bd1_s, bd2_s, bd3_s, bd4_s]
    show some (r, pF (pR v 4 z) 0 ((v.1 0) + 1)) = _
    rw [h1, nI_1]
  · intro j b hj
    by_cases c : j < hs.length
    · rw [List.getElem?_append_left c] at hj
      obtain ⟨w1, w2⟩ := h2 j b hj
      refine ⟨w1, rm_eq (fun i hi => ?_) w2 w1⟩
      show z (240 * j + i) = v.2 4 (240 * j + i)
      rw [h, if_neg (by omega)]
    · have hj2 := ix_lt hj
      rw [List.length_append, List.length_singleton] at hj2
      have : j = hs.length := by omega
      subst this
      rw [List.getElem?_append_right (Nat.le_refl _), Nat.sub_self] at hj
      have hj : a = b := Option.some.inj hj
      subst hj
      refine ⟨W, rm_eq (fun i hi => ?_) M W⟩
      show z (240 * hs.length + i) = v.2 1 i
      rw [h, if_pos (by omega)]; exact congrArg (v.2 1) (by omega)
  · show (if k = 0 then _ else v.1 k) = _
    rw [if_neg hk]
  · show (if k = 4 then z else v.2 k) = _
    rw [if_neg hk]
/-- a change is kept: the eighth oldest goes -/
def hsK (hs : List AS) (a : AS) : List AS := (if hs.length = 8 then hs.drop 1 else hs) ++ [a]
theorem m_keeps {v : SV} {hs : List AS} {a : AS} (H : HM v hs) (M : RM (v.2 1) a) (W : WF a) (r : Int32) : ∃ u, f_X13_keeps r v = some (r, u) ∧ HM u (hsK hs a) ∧ (∀ k, k ≠ 0 → u.1 k = v.1 k) ∧ ∀ k, k ≠ 4 → u.2 k = v.2 k := by
  unfold f_X13_keeps hsK
  have hl := H.1
  by_cases c : hs.length = 8
  · have h1 : v.1 0 = 8 := by rw [H.2.1, c]; rfl
    rw [if_pos h1, if_pos c]
    have e1 : (1 : Int32) = nI 1 := rfl
    rw [e1]
    refine lz2_inv (N := 8) (fun (k : Nat) (u : SV) => 1 ≤ k ∧ u.1 = v.1 ∧ (∀ r, r ≠ 4 → u.2 r = v.2 r) ∧ ∀ j, j < 1920 → u.2 4 j = if j < 240 * (k - 1) then v.2 4 (240 + j) else v.2 4 j) (fun (x : Option (Int32 × SV)) => ∃ u, x = some (r, u) ∧ HM u (hs.drop 1 ++ [a]) ∧ (∀ k, k ≠ 0 → u.1 k = v.1 k) ∧ ∀ k, k ≠ 4 → u.2 k = v.2 k) ?_ ?_ 7 FU 1 v (by omega) (by unfold FU; omega) ⟨by omega, rfl, fun _ _ => rfl, fun j hj => by rw [if_neg (by omega)]⟩
    · intro self k u hk hI kk
      obtain ⟨g0, g1, g2, g3⟩ := hI
      obtain ⟨z, e, h⟩ := m_copiesS (s := 240 * k) (t := 240 * (k - 1)) (n0 := 1920) (by omega) (by omega) (by omega) (u.2 4)
      have ek : nI k - 1 = nI (k - 1) := by rw [qL1, nI_subN (by omega)]
      simp (disch := omega) only [f_X13_keeps_B11, nI_1, nI_add, nI_mul, nI_leI, nI_ltI, nI_eq, ckI_n, nI_cl, qL2, qL3, qL4, qL5, qL6, qL7, qL8, qL9, qL10, qL11, qL12, nm, bd1_s, bd2_s, bd3_s, bd4_s, qL240, ek, e]
      simp only [show ¬ (8 ≤ k) by omega, Nat.lt_irrefl, Nat.le_refl, if_true, if_false, ite_true, ite_false, not_true_eq_false, not_false_eq_true, reduceIte]
      refine kk _ ⟨by omega, g1, fun r hr => ?_, fun j hj => ?_⟩
      · show (if r = 4 then z else u.2 r) = _
        rw [if_neg hr]; exact g2 r hr
      · show z j = _
        rw [h j]
        by_cases c1 : 240 * (k - 1) ≤ j ∧ j < 240 * (k - 1) + 240
        · rw [if_pos c1, if_pos (by omega), g3 _ (by omega), if_neg (by omega)]; exact congrArg (v.2 4) (by omega)
        · rw [if_neg c1, g3 j hj]
          by_cases c2 : j < 240 * (k - 1)
          · rw [if_pos c2, if_pos (by omega)]
          · rw [if_neg c2, if_neg (by omega)]
    · intro self u hI
      obtain ⟨g0, g1, g2, g3⟩ := hI
      simp (disch := omega) only [f_X13_keeps_B11, f_X13_keeps_K11, nI_1, nI_add, nI_mul, nI_leI, nI_ltI, nI_eq, ckI_n, nI_cl, qL2, qL3, qL4, qL5, qL6, qL7, qL8, qL9, qL10, qL11, qL12, nm, bd1_s, bd2_s, bd3_s, bd4_s, qL240]
      simp only [Nat.lt_irrefl, Nat.le_refl, if_true, if_false, ite_true, ite_false, not_true_eq_false, not_false_eq_true, reduceIte]
      have hd : (hs.drop 1).length = 7 := by rw [List.length_drop, c]
      obtain ⟨w, e, k1, k2, k3⟩ := m_keepsJ (v := pF u 0 (u.1 0 - 1)) (hs := hs.drop 1) (a := a) (by omega) ⟨by omega, by
        show u.1 0 - 1 = _
        rw [g1, h1, hd]; rfl, fun j b hj => by
        have hj1 := ix_lt hj
        rw [List.getElem?_drop] at hj
        obtain ⟨w1, w2⟩ := H.2.2 (1 + j) b hj
        refine ⟨w1, rm_eq (fun i hi => ?_) w2 w1⟩
        show u.2 4 (240 * j + i) = v.2 4 (240 * (1 + j) + i)
        rw [g3 _ (by omega), if_pos (by omega)]; exact congrArg (v.2 4) (by omega)⟩ (by show RM (u.2 1) a; rw [g2 1 (by decide)]; exact M) W r
      refine ⟨w, e, k1, fun k hk => ?_, fun k hk => ?_⟩
      · rw [k2 k hk]; show (if k = 0 then _ else u.1 k) = _; rw [if_neg hk, g1]
      · rw [k3 k hk]; exact g2 k hk
  · have h1 : ¬ v.1 0 = 8 := by
      rw [H.2.1, qL8, nI_eq (by omega) (by omega)]; exact c
    rw [if_neg h1, if_neg c]
    exact m_keepsJ (by omega) H M W r
theorem x_keep {hi : SV} {hh : Nat → SV} {nx c : Nat} (h0 : hi.1 0 = nI nx) (hn : nx < 8) (h1 : hi.1 1 = nI c) (hc : c ≤ 8) (h : SV) : ∃ hi' hh', f_X5_keep hi hh h = some (hi', hh') ∧ hi'.1 0 = nI ((nx + 1) % 8) ∧ hi'.1 1 = nI (min (c + 1) 8) ∧ ∃ w, EQH w h ∧ hh' = hu hh nx w := by
  have main : ∀ (k : Nat) (K : Int32) (w : SV), nI nx = K → k = nx → nx < 8 → (ckI (hi.1 0) 8 <| ckP ((hi.1 0) = K) <| bd1 (some w) fun w_1 => nm (hu hh k w_1) fun v_2 => nm (pF hi 0 (((hi.1 0) + 1) - ((hi.1 0) + 1) / 8 * 8)) fun v_3 => nm (if 8 < ((v_3.1 1) + 1) then 8 else ((v_3.1 1) + 1)) fun t_4 => nm (pF v_3 1 t_4) fun v_5 => some (v_5, v_2)) = some (pF (pF hi 0 (nI ((nx + 1) % 8))) 1 (nI (min (c + 1) 8)), hu hh nx w) := by
    intro k K w hK hk hn
    subst hk
    have e8 : ∀ n : Nat, n < 8 → nI (n + 1) - nI (n + 1) / 8 * 8 = nI ((n + 1) % 8) := by decide +kernel
    have em : ∀ c : Nat, c < 9 → (if (8 : Int32) < nI (c + 1) then 8 else nI (c + 1)) = nI (min (c + 1) 8) := by decide +kernel
    have hp : hi.1 0 = K := h0.trans hK
    have e1 : (pF hi 0 (nI ((k + 1) % 8))).1 1 = hi.1 1 := rfl
    simp (disch := omega) only [h0, ckI_n, ckP, if_pos hK, bd1_s, nm, nI_1, e8 k hn, e1, h1, em c (by omega)]
  have no : ∀ {ρ : Type} (K : Int32) (x : Option ρ), nI nx ≠ K → (ckI (hi.1 0) 8 <| ckP ((hi.1 0) = K) <| x) = none := by
    intro ρ K x hK
    simp (disch := omega) only [h0, ckI_n, ckP, if_neg hK]
  refine ⟨pF (pF hi 0 (nI ((nx + 1) % 8))) 1 (nI (min (c + 1) 8)), ?_⟩
  have pick : ∀ k, k < 8 → k = nx → ∃ w, EQH w h ∧ f_X6_take (hh k) h = some w := fun k _ _ => by obtain ⟨w, e, E⟩ := x_takeE (hh k) h; exact ⟨w, E, e⟩
  obtain ⟨w, E, ew⟩ := pick nx hn rfl
  refine ⟨hu hh nx w, ?_, rfl, rfl, w, E, rfl⟩
  rcases (show nx = 0 ∨ nx = 1 ∨ nx = 2 ∨ nx = 3 ∨ nx = 4 ∨ nx = 5 ∨ nx = 6 ∨ nx = 7 by omega) with rfl | rfl | rfl | rfl | rfl | rfl | rfl | rfl
  · have hy : f_X5_keep_0 hi hh h = some (pF (pF hi 0 (nI ((0 + 1) % 8))) 1 (nI (min (c + 1) 8)), hu hh 0 w) := by
      unfold f_X5_keep_0; rw [ew]; exact main 0 0 w rfl rfl hn
    unfold f_X5_keep
    rw [hy]
    rfl
  · have hy : f_X5_keep_1 hi hh h = some (pF (pF hi 0 (nI ((1 + 1) % 8))) 1 (nI (min (c + 1) 8)), hu hh 1 w) := by
      unfold f_X5_keep_1; rw [ew]; exact main 1 1 w rfl rfl hn
    unfold f_X5_keep
    rw [show f_X5_keep_0 hi hh h = none from no 0 _ (by decide), hy]
    rfl
  · have hy : f_X5_keep_2 hi hh h = some (pF (pF hi 0 (nI ((2 + 1) % 8))) 1 (nI (min (c + 1) 8)), hu hh 2 w) := by
      unfold f_X5_keep_2; rw [ew]; exact main 2 2 w rfl rfl hn
    unfold f_X5_keep
    rw [show f_X5_keep_0 hi hh h = none from no 0 _ (by decide), show f_X5_keep_1 hi hh h = none from no 1 _ (by decide), hy]
    rfl
  · have hy : f_X5_keep_3 hi hh h = some (pF (pF hi 0 (nI ((3 + 1) % 8))) 1 (nI (min (c + 1) 8)), hu hh 3 w) := by
      unfold f_X5_keep_3; rw [ew]; exact main 3 3 w rfl rfl hn
    unfold f_X5_keep
    rw [show f_X5_keep_0 hi hh h = none from no 0 _ (by decide), show f_X5_keep_1 hi hh h = none from no 1 _ (by decide), show f_X5_keep_2 hi hh h = none from no 2 _ (by decide), hy]
    rfl
  · have hy : f_X5_keep_4 hi hh h = some (pF (pF hi 0 (nI ((4 + 1) % 8))) 1 (nI (min (c + 1) 8)), hu hh 4 w) := by
      unfold f_X5_keep_4; rw [ew]; exact main 4 4 w rfl rfl hn
    unfold f_X5_keep
    rw [show f_X5_keep_0 hi hh h = none from no 0 _ (by decide), show f_X5_keep_1 hi hh h = none from no 1 _ (by decide), show f_X5_keep_2 hi hh h = none from no 2 _ (by decide), show f_X5_keep_3 hi hh h = none from no 3 _ (by decide), hy]
    rfl
  · have hy : f_X5_keep_5 hi hh h = some (pF (pF hi 0 (nI ((5 + 1) % 8))) 1 (nI (min (c + 1) 8)), hu hh 5 w) := by
      unfold f_X5_keep_5; rw [ew]; exact main 5 5 w rfl rfl hn
    unfold f_X5_keep
    rw [show f_X5_keep_0 hi hh h = none from no 0 _ (by decide), show f_X5_keep_1 hi hh h = none from no 1 _ (by decide), show f_X5_keep_2 hi hh h = none from no 2 _ (by decide), show f_X5_keep_3 hi hh h = none from no 3 _ (by decide), show f_X5_keep_4 hi hh h = none from no 4 _ (by decide), hy]
    rfl
  · have hy : f_X5_keep_6 hi hh h = some (pF (pF hi 0 (nI ((6 + 1) % 8))) 1 (nI (min (c + 1) 8)), hu hh 6 w) := by
      unfold f_X5_keep_6; rw [ew]; exact main 6 6 w rfl rfl hn
    unfold f_X5_keep
    rw [show f_X5_keep_0 hi hh h = none from no 0 _ (by decide), show f_X5_keep_1 hi hh h = none from no 1 _ (by decide), show f_X5_keep_2 hi hh h = none from no 2 _ (by decide), show f_X5_keep_3 hi hh h = none from no 3 _ (by decide), show f_X5_keep_4 hi hh h = none from no 4 _ (by decide), show f_X5_keep_5 hi hh h = none from no 5 _ (by decide), hy]
    rfl
  · have hy : f_X5_keep_7 hi hh h = some (pF (pF hi 0 (nI ((7 + 1) % 8))) 1 (nI (min (c + 1) 8)), hu hh 7 w) := by
      unfold f_X5_keep_7; rw [ew]; exact main 7 7 w rfl rfl hn
    unfold f_X5_keep
    rw [show f_X5_keep_0 hi hh h = none from no 0 _ (by decide), show f_X5_keep_1 hi hh h = none from no 1 _ (by decide), show f_X5_keep_2 hi hh h = none from no 2 _ (by decide), show f_X5_keep_3 hi hh h = none from no 3 _ (by decide), show f_X5_keep_4 hi hh h = none from no 4 _ (by decide), show f_X5_keep_5 hi hh h = none from no 5 _ (by decide), show f_X5_keep_6 hi hh h = none from no 6 _ (by decide), hy]
    rfl
/-- the ring keeps a house -/
theorem q_keep {hi v u h : SV} {hh : Nat → SV} {hs : List AS} {a : AS} (H : HSR hh hi v hs) (R : RC h a) (W : WF a) (U : HM u (hsK hs a)) : ∃ hi' hh', f_X5_keep hi hh h = some (hi', hh') ∧ HSR hh' hi' u (hsK hs a) := by
  obtain ⟨g1, g2, g3, nx, g4, g5, g6⟩ := H
  obtain ⟨hi', hh', e, k1, k2, w, E, rfl⟩ := x_keep (hh := hh) g5 g4 g2 g1 h
  refine ⟨hi', _, e, U.1, ?_, U.2.1, (nx + 1) % 8, by omega, k1, fun j b hj => ?_⟩
  · rw [k2]; congr 1; unfold hsK; split <;> simp <;> omega
  · obtain ⟨w1, w2⟩ := U.2.2 j b hj
    refine ⟨w1, ?_, w2⟩
    have hlen : (hsK hs a).length = min (hs.length + 1) 8 := by unfold hsK; split <;> simp <;> omega
    have hj1 := ix_lt hj
    rw [hlen] at hj1 ⊢
    by_cases c : j + 1 = min (hs.length + 1) 8
    · have hb : b = a := by
        unfold hsK at hj
        have hdl : (if hs.length = 8 then hs.drop 1 else hs).length = j := by
          split
          · rw [List.length_drop]; omega
          · omega
        rw [List.getElem?_append_right (by omega), hdl, Nat.sub_self] at hj
        exact (Option.some.inj hj).symm
      subst hb
      rw [show ((nx + 1) % 8 + 8 - min (hs.length + 1) 8 + j) % 8 = nx by omega]
      show RC (if nx = nx then w else _) _
      rw [if_pos rfl]
      exact rc_eq E R W
    · have hne : ¬ ((nx + 1) % 8 + 8 - min (hs.length + 1) 8 + j) % 8 = nx := by omega
      show RC (if ((nx + 1) % 8 + 8 - min (hs.length + 1) 8 + j) % 8 = nx then w else hh (((nx + 1) % 8 + 8 - min (hs.length + 1) 8 + j) % 8)) b
      rw [if_neg hne]
      unfold hsK at hj
      have hdl : j < (if hs.length = 8 then hs.drop 1 else hs).length := by
        split
        · rw [List.length_drop]; omega
        · omega
      rw [List.getElem?_append_left hdl] at hj
      by_cases c8 : hs.length = 8
      · rw [if_pos c8, List.getElem?_drop] at hj
        have := (g6 (1 + j) b hj).2.1
        rw [show ((nx + 1) % 8 + 8 - min (hs.length + 1) 8 + j) % 8 = (nx + 8 - hs.length + (1 + j)) % 8 by omega]
        exact this
      · rw [if_neg c8] at hj
        have := (g6 j b hj).2.1
        rw [show ((nx + 1) % 8 + 8 - min (hs.length + 1) 8 + j) % 8 = (nx + 8 - hs.length + j) % 8 by omega]
        exact this
