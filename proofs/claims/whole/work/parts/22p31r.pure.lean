/-! PURE: read: a command, in the model. -/
theorem m_bb2 {T : Nat → Nat} {L p : Nat} {u : SV} (D : RDM T L p u) (hp : p ≤ L) (h14 : u.1 14 = 0) : f_X13_behindBlank 2 u = some (nI (bbS T L true p).2.1, uF u (bbS T L true p).2.2 (b2i (bbS T L true p).1)) := m_bb0 D hp h14 true
theorem m_bb1 {T : Nat → Nat} {L p : Nat} {u : SV} (D : RDM T L p u) (hp : p ≤ L) (h14 : u.1 14 = 0) : f_X13_behindBlank 1 u = some (nI (bbS T L false p).2.1, uF u (bbS T L false p).2.2 (b2i (bbS T L false p).1)) := m_bb0 D hp h14 false
theorem m_bw2 {u : SV} {q : Nat} (h12 : u.1 12 = nI q) (h14 : u.1 14 = 1) : f_X13_behindBlank 2 u = some (0, u) := m_bbw true h12 h14
theorem m_bw1 {u : SV} {q : Nat} (h12 : u.1 12 = nI q) (h14 : u.1 14 = 1) : f_X13_behindBlank 1 u = some (0, u) := m_bbw false h12 h14
theorem m_J81w {u : SV} (r x y z : Int32) (h14 : u.1 14 = 1) : f_X13_command_J81 r x y z u = some u := by
  unfold f_X13_command_J81; rw [h14, if_neg n10]
theorem m_J64w {u : SV} {q : Nat} (r x y : Int32) (h12 : u.1 12 = nI q) (h14 : u.1 14 = 1) : f_X13_command_J64 r x y u = some u := by
  unfold f_X13_command_J64
  simp only [m_bw1 h12 h14, bd2_s, m_J81w _ _ _ _ h14, ite_self]
theorem m_J37w {u : SV} {q : Nat} (r x y : Int32) (h12 : u.1 12 = nI q) (h14 : u.1 14 = 1) : f_X13_command_J37 r x y u = some u := by
  unfold f_X13_command_J37
  simp only [m_bw2 h12 h14, bd2_s, m_J64w _ _ _ h12 h14, ite_self]
theorem m_J20w {u : SV} {q : Nat} (r x : Int32) (h12 : u.1 12 = nI q) (h14 : u.1 14 = 1) : f_X13_command_J20 r x u = some u := by
  unfold f_X13_command_J20
  simp only [m_bw1 h12 h14, bd2_s, m_J37w _ _ _ h12 h14, ite_self]
theorem m_J20n {q : Nat} (hq : q < 2) (x : Int32) (u : SV) : f_X13_command_J20 (nI q) x u = bd2 (f_X13_behindBlank 1 u) fun r w => f_X13_command_J37 (nI q) x r w := by
  unfold f_X13_command_J20
  rw [if_neg (by rw [qL2, nI_leI (by omega) (by omega)]; omega)]
theorem m_J20y {q : Nat} (hq : q < 7) (h2 : ¬ q < 2) (x : Int32) (u : SV) : f_X13_command_J20 (nI q) x u = f_X13_command_J37 (nI q) x 0 u := by
  unfold f_X13_command_J20
  rw [if_pos (by rw [qL2, nI_leI (by omega) (by omega)]; omega)]
theorem m_e2 {q : Nat} (hq : q < 7) : nI q = 2 ↔ q = 2 := nI_eq (b := 2) (by omega) (by omega)
theorem m_e3 {q : Nat} (hq : q < 7) : nI q = 3 ↔ q = 3 := nI_eq (b := 3) (by omega) (by omega)
theorem m_e4 {q : Nat} (hq : q < 7) : nI q = 4 ↔ q = 4 := nI_eq (b := 4) (by omega) (by omega)
theorem m_e6 {q : Nat} (hq : q < 7) : nI q = 6 ↔ q = 6 := nI_eq (b := 6) (by omega) (by omega)
theorem m_J37n {q : Nat} (hq : q < 7) (h : q = 5 ∨ q < 2) (x y : Int32) (u : SV) : f_X13_command_J37 (nI q) x y u = f_X13_command_J64 (nI q) x y u := by
  unfold f_X13_command_J37
  rw [if_neg (by rw [m_e2 hq]; omega), if_neg (by rw [m_e3 hq]; omega), if_neg (by rw [m_e4 hq]; omega), if_neg (by rw [m_e6 hq]; omega)]
theorem m_J37y {q : Nat} (hq : q < 7) (h5 : q ≠ 5) (h : ¬ q < 2) (x y : Int32) (u : SV) : f_X13_command_J37 (nI q) x y u = bd2 (f_X13_behindBlank 2 u) fun r w => f_X13_command_J64 (nI q) x r w := by
  unfold f_X13_command_J37
  by_cases a : q = 2
  · rw [if_pos (by rw [m_e2 hq]; exact a)]
  · rw [if_neg (by rw [m_e2 hq]; omega)]
    by_cases b : q = 3
    · rw [if_pos (by rw [m_e3 hq]; exact b)]
    · rw [if_neg (by rw [m_e3 hq]; omega)]
      by_cases c : q = 4
      · rw [if_pos (by rw [m_e4 hq]; exact c)]
      · rw [if_neg (by rw [m_e4 hq]; omega), if_pos (by rw [m_e6 hq]; omega)]
theorem m_J64n {q : Nat} (hq : q < 7) (h : q ≠ 2 ∧ q ≠ 4) (x y : Int32) (u : SV) : f_X13_command_J64 (nI q) x y u = f_X13_command_J81 (nI q) x y 0 u := by
  unfold f_X13_command_J64
  rw [if_neg (by rw [m_e2 hq]; omega), if_neg (by rw [m_e4 hq]; omega)]
theorem m_J64y {q : Nat} (hq : q < 7) (h : q = 2 ∨ q = 4) (x y : Int32) (u : SV) : f_X13_command_J64 (nI q) x y u = bd2 (f_X13_behindBlank 1 u) fun r w => f_X13_command_J81 (nI q) x y r w := by
  unfold f_X13_command_J64
  rcases h with a | a
  · rw [if_pos (by rw [m_e2 hq]; exact a)]
  · rw [if_neg (by rw [m_e2 hq]; omega), if_pos (by rw [m_e4 hq]; exact a)]
/-- what a command leaves of the model -/
def MF (j : Nat) (w u : SV) : Prop := (∀ i, i ≠ 12 → i ≠ 13 → i ≠ 14 → w.1 i = u.1 i) ∧ (∀ r, r ≠ 9 → r ≠ 10 → w.2 r = u.2 r) ∧ ∀ i, i ≠ j → w.2 9 i = u.2 9 i ∧ ∀ t, t < 3 → w.2 10 (3 * i + t) = u.2 10 (3 * i + t)
theorem MF_u {j q : Nat} {f : Int32} {u : SV} : MF j (uF u q f) u := ⟨fun i h1 _ h3 => uF_o u q f h1 h3, fun _ _ _ => rfl, fun _ _ => ⟨rfl, fun _ _ => rfl⟩⟩
/-- what the model holds of command j -/
def MEC (j k n0 n1 n2 : Nat) (u : SV) : Prop := u.2 9 j = nI k ∧ u.2 10 (3 * j) = nI n0 ∧ u.2 10 (3 * j + 1) = nI n1 ∧ u.2 10 (3 * j + 2) = nI n2
theorem pA_1 (v : SV) (k : Nat) (i x : Int32) : (pA v k i x).1 = v.1 := rfl
theorem m_J81 {u u0 : SV} {j k n0 n1 n2 : Nat} {r x y z : Int32} (hr : r = nI k) (hx : x = nI n0) (hy : y = nI n1) (hz : z = nI n2) (h14 : u.1 14 = 0) (h13 : u.1 13 = nI j) (hj : j < 20) (hF : MF j u u0) : ∃ w, f_X13_command_J81 r x y z u = some w ∧ w.1 12 = u.1 12 ∧ w.1 14 = 0 ∧ w.1 13 = nI (j + 1) ∧ MF j w u0 ∧ MEC j k n0 n1 n2 w := by
  subst hr; subst hx; subst hy; subst hz
  unfold f_X13_command_J81
  rw [if_pos h14]
  simp (disch := omega) only [pA_1, h13, nm, ckI_n, qL3, nI_mul, nI_1, qL2, nI_add]
  refine ⟨_, rfl, rfl, h14, rfl, ⟨fun i h1 h2 h3 => ?_, fun r h1 h2 => ?_, fun i hi => ⟨?_, fun t ht => ?_⟩⟩, ?_, ?_, ?_, ?_⟩
  · show (if i = 13 then _ else u.1 i) = _
    rw [if_neg h2]; exact hF.1 i h1 h2 h3
  · show (pA (pA (pA (pA u 9 (nI j) (nI k)) 10 (nI (3 * j)) (nI n0)) 10 (nI (3 * j + 1)) (nI n1)) 10 (nI (3 * j + 2)) (nI n2)).2 r = _
    rw [pA_oth h2, pA_oth h2, pA_oth h2, pA_oth h1]; exact hF.2.1 r h1 h2
  · show upd (u.2 9) (nI j).toNatClampNeg (nI k) i = _
    rw [nI_cl (by omega), upd_ne hi]; exact (hF.2.2 i hi).1
  · show upd (upd (upd (u.2 10) (nI (3 * j)).toNatClampNeg (nI n0)) (nI (3 * j + 1)).toNatClampNeg (nI n1)) (nI (3 * j + 2)).toNatClampNeg (nI n2) (3 * i + t) = _
    rw [nI_cl (by omega), nI_cl (by omega), nI_cl (by omega), upd_ne (by omega), upd_ne (by omega), upd_ne (by omega)]
    exact (hF.2.2 i hi).2 t ht
  · show upd (u.2 9) (nI j).toNatClampNeg (nI k) j = _
    rw [nI_cl (by omega), upd_eq]
  · show upd (upd (upd (u.2 10) (nI (3 * j)).toNatClampNeg (nI n0)) (nI (3 * j + 1)).toNatClampNeg (nI n1)) (nI (3 * j + 2)).toNatClampNeg (nI n2) (3 * j) = _
    rw [nI_cl (by omega), nI_cl (by omega), nI_cl (by omega), upd_ne (by omega), upd_ne (by omega), upd_eq]
  · show upd (upd (upd (u.2 10) (nI (3 * j)).toNatClampNeg (nI n0)) (nI (3 * j + 1)).toNatClampNeg (nI n1)) (nI (3 * j + 2)).toNatClampNeg (nI n2) (3 * j + 1) = _
    rw [nI_cl (by omega), nI_cl (by omega), nI_cl (by omega), upd_ne (by omega), upd_eq]
  · show upd (upd (upd (u.2 10) (nI (3 * j)).toNatClampNeg (nI n0)) (nI (3 * j + 1)).toNatClampNeg (nI n1)) (nI (3 * j + 2)).toNatClampNeg (nI n2) (3 * j + 2) = _
    rw [nI_cl (by omega), nI_cl (by omega), nI_cl (by omega), upd_eq]
/-- a command of word q -/
theorem m_cmd {T : Nat → Nat} {L p s j q : Nat} {u : SV} (D : RDM T L p u) (hs : s ≤ L) (hq : q < 7) (hj : j < 20) (h13 : u.1 13 = nI j) (hw : f_X13_kindHere u = some (nI q, uF u s 0)) : ∃ w, f_X13_command u = some w ∧ w.1 12 = nI (cmS T L q s).2.2.2.2 ∧ w.1 14 = b2i (!(cmS T L q s).1) ∧ MF j w u ∧ ((cmS T L q s).1 = true → w.1 13 = nI (j + 1) ∧ MEC j q (cmS T L q s).2.1 (cmS T L q s).2.2.1 (cmS T L q s).2.2.2.1 w) := by
  have D1 : RDM T L s (uF u s 0) := RDM_m D
  unfold f_X13_command
  rw [hw, bd2_s, if_neg (by rw [qL7, nI_leI (by omega) (by omega)]; omega), m_bb2 D1 hs rfl, bd2_s, uF_uF]
  have b1 := bbS_L (T := T) (two := true) hs
  unfold cmS
  generalize bbS T L true s = b at *
  have D2 : RDM T L b.2.2 (uF u b.2.2 0) := RDM_m D
  have ux : ∀ q' f, (uF u q' f).1 13 = nI j := fun q' f => h13
  unfold cm1
  by_cases hb : b.1 = true
  · rw [if_pos hb, hb, show b2i true = 1 from rfl, m_J20w _ _ (uF_12 u b.2.2 1) rfl]
    exact ⟨_, rfl, rfl, rfl, MF_u, fun h => by cases h⟩
  · rw [if_neg hb, show b.1 = false by simpa using hb, show b2i false = 0 from rfl]
    by_cases q5 : q = 5
    · rw [if_pos q5, m_J20y hq (by omega), m_J37n hq (Or.inl q5), m_J64n hq (by omega)]
      obtain ⟨w, e1, e2, e3, e4, e5, e6⟩ := m_J81 (n1 := 0) (n2 := 0) (r := nI q) (x := nI b.2.1) (y := 0) (z := 0) rfl rfl nI_0.symm nI_0.symm (uF_14 u b.2.2 0) (ux _ _) hj (MF_u (j := j))
      exact ⟨w, e1, e2, e3, e5, fun _ => ⟨e4, e6⟩⟩
    · rw [if_neg q5]
      by_cases q2 : q < 2
      · rw [if_pos q2, m_J20n q2, m_bb1 D2 b1.2 rfl, bd2_s, uF_uF, m_J37n hq (Or.inr q2), m_J64n hq (by omega)]
        unfold cm2
        generalize bbS T L false b.2.2 = d
        by_cases hd : d.1 = true
        · rw [if_pos hd, hd, show b2i true = 1 from rfl, m_J81w _ _ _ _ (uF_14 u d.2.2 1)]
          exact ⟨_, rfl, rfl, rfl, MF_u, fun h => by cases h⟩
        · rw [if_neg hd, show d.1 = false by simpa using hd, show b2i false = 0 from rfl]
          obtain ⟨w, e1, e2, e3, e4, e5, e6⟩ := m_J81 (n2 := 0) (r := nI q) (x := nI b.2.1) (y := nI d.2.1) (z := 0) rfl rfl rfl nI_0.symm (uF_14 u d.2.2 0) (ux _ _) hj (MF_u (j := j))
          exact ⟨w, e1, e2, e3, e5, fun _ => ⟨e4, e6⟩⟩
      · rw [if_neg q2, m_J20y hq q2, m_J37y hq q5 q2, m_bb2 D2 b1.2 rfl, bd2_s, uF_uF]
        unfold cm3
        have b2 := bbS_L (T := T) (two := true) b1.2
        generalize bbS T L true b.2.2 = d at *
        have D3 : RDM T L d.2.2 (uF u d.2.2 0) := RDM_m D
        by_cases hd : d.1 = true
        · rw [if_pos hd, hd, show b2i true = 1 from rfl, m_J64w _ _ _ (uF_12 u d.2.2 1) rfl]
          exact ⟨_, rfl, rfl, rfl, MF_u, fun h => by cases h⟩
        · rw [if_neg hd, show d.1 = false by simpa using hd, show b2i false = 0 from rfl]
          by_cases q36 : q = 3 ∨ q = 6
          · rw [if_pos q36, m_J64n hq (by omega)]
            obtain ⟨w, e1, e2, e3, e4, e5, e6⟩ := m_J81 (n2 := 0) (r := nI q) (x := nI b.2.1) (y := nI d.2.1) (z := 0) rfl rfl rfl nI_0.symm (uF_14 u d.2.2 0) (ux _ _) hj (MF_u (j := j))
            exact ⟨w, e1, e2, e3, e5, fun _ => ⟨e4, e6⟩⟩
          · rw [if_neg q36, m_J64y hq (by omega), m_bb1 D3 b2.2 rfl, bd2_s, uF_uF]
            unfold cm4
            generalize bbS T L false d.2.2 = g
            by_cases hg : g.1 = true
            · rw [if_pos hg, hg, show b2i true = 1 from rfl, m_J81w _ _ _ _ (uF_14 u g.2.2 1)]
              exact ⟨_, rfl, rfl, rfl, MF_u, fun h => by cases h⟩
            · rw [if_neg hg, show g.1 = false by simpa using hg, show b2i false = 0 from rfl]
              obtain ⟨w, e1, e2, e3, e4, e5, e6⟩ := m_J81 (r := nI q) (x := nI b.2.1) (y := nI d.2.1) (z := nI g.2.1) rfl rfl rfl rfl (uF_14 u g.2.2 0) (ux _ _) hj (MF_u (j := j))
              exact ⟨w, e1, e2, e3, e5, fun _ => ⟨e4, e6⟩⟩
