/-! PURE: write, writeLines, written. -/
theorem TXT_cap {sb : Nat × SV} {t : List Nat} (T : TXT sb t) : t.length ≤ sb.1 := T.2.2.1
theorem chr7 {u v : SV} {a : AS} (h : ∀ r, r ≠ 7 → u.2 r = v.2 r) (M : RM (v.2 0) a) : RM (u.2 0) a := by rw [h 0 (by decide)]; exact M
/-- a balcony's text -/
def balT (a : AS) (b : Nat) : List Nat := dig (aP a b) ++ ((if (aC a).any (fun x => decide (x.1 = b)) = true then [97 + (ctO a b).toNatClampNeg] else []) ++ (if fdN a b ≤ 0 then [] else [33]))
theorem balT_len {a : AS} (W : WF a) {b : Nat} (hb : b < 12) : (balT a b).length ≤ 3 := by
  have := wf_p W hb
  unfold balT
  rw [List.length_append, List.length_append, dig_len, if_pos this]
  split <;> split <;> simp
theorem q_cat6 {k : Nat} (h : k < 6) : (((97 + nI k).toUInt32 % 65536).toInt32) = nI (97 + k) ∧ (97 : Int32) + nI k = nI (97 + k) := by
  have : ∀ k : Nat, k < 6 → (((97 + nI k).toUInt32 % 65536).toInt32) = nI (97 + k) ∧ (97 : Int32) + nI k = nI (97 + k) := by decide +kernel
  exact this k h
theorem x_writeBalcony {ho vmn : SV} {a : AS} (R : RC ho a) (W : WF a) {b : Nat} (hb : b < 12) {sb : Nat × SV} {t : List Nat} (T : TXT sb t) (hl : t.length + 4 ≤ 70) : ∃ sb', f_X12_writeBalcony (nI b) vmn ho sb = some sb' ∧ TXT sb' (t ++ balT a b) := by
  have hp := wf_p W hb
  obtain ⟨w1, e1, T1⟩ := x_appI T (x := aP a b) (by omega) (by omega)
  have l1 : (t ++ dig (aP a b)).length = t.length + 1 := by rw [List.length_append, dig_len, if_pos hp]
  have fin : ∀ (w : Nat × SV) (s : List Nat), TXT w s → s.length + 1 ≤ 70 → ∃ sb', f_X12_writeBalcony_J46 (nI b) ho w = some sb' ∧ TXT sb' (s ++ (if fdN a b ≤ 0 then [] else [33])) := by
    intro w s Tw hs
    unfold f_X12_writeBalcony_J46
    rw [x_ofBalcony R W hb, bd1_s]
    by_cases c : fdN a b ≤ 0
    · rw [if_pos c, if_pos c, List.append_nil]; exact ⟨w, rfl, Tw⟩
    · rw [if_neg c, if_neg c]
      obtain ⟨w', e, Tw'⟩ := x_appC Tw (c := 33) (by omega) hs
      have e : f_J4_append_cf468 33 w = some w' := e
      rw [e, bd1_s]; exact ⟨w', rfl, Tw'⟩
  simp (disch := omega) only [f_X12_writeBalcony, ckI_n, nI_cl, rc_p R hb, e1, bd1_s, x_catOn R W hb]
  unfold balT
  cases f1 : (aC a).any (fun x => decide (x.1 = b)) with
  | true =>
    obtain ⟨k, z, k1, k2, k3, k4⟩ := ctO_found f1
    have hk6 : k < 6 := by have := wf_cn W; omega
    have hk0 : ¬ nI k < 0 := nI_pos (by omega)
    obtain ⟨w2, e2, T2⟩ := x_appC T1 (c := 97 + k) (by omega) (by omega)
    rw [k1, if_neg hk0, (q_cat6 hk6).1, e2, bd1_s, if_pos rfl, nI_cl (by omega)]
    obtain ⟨w3, e3, T3⟩ := fin w2 _ T2 (by rw [List.length_append, l1, List.length_singleton]; omega)
    rw [List.append_assoc, List.append_assoc] at T3
    exact ⟨w3, e3, T3⟩
  | false =>
    obtain ⟨k1, _⟩ := ctO_no f1
    rw [k1, if_pos (by decide), if_neg (by decide)]
    obtain ⟨w3, e3, T3⟩ := fin w1 _ T1 (by omega)
    rw [List.append_assoc] at T3
    exact ⟨w3, e3, T3⟩
/-- the text of a floor after n balconies -/
def floT (a : AS) (f : Nat) : Nat → List Nat
  | 0 => []
  | c + 1 => floT a f c ++ ((if c = 0 then [] else [32]) ++ balT a (4 * f + c))
theorem floT_len {a : AS} (W : WF a) {f : Nat} (hf : f < 3) : ∀ c, c ≤ 4 → (floT a f c).length ≤ 4 * c := by
  intro c
  induction c with
  | zero => intro _; exact Nat.le_refl 0
  | succ c ih =>
    intro hc
    have h1 := ih (by omega)
    have h2 := balT_len W (b := 4 * f + c) (by omega)
    show (floT a f c ++ _).length ≤ _
    rw [List.length_append, List.length_append]
    have h3 : (if c = 0 then ([] : List Nat) else [32]).length ≤ 1 := by split <;> simp
    omega
theorem floT_pos {a : AS} {f c : Nat} : 0 < c → 0 < (floT a f c).length := by
  intro hc
  cases c with
  | zero => omega
  | succ c =>
    show 0 < (floT a f c ++ ((if c = 0 then ([] : List Nat) else [32]) ++ balT a (4 * f + c))).length
    unfold balT
    simp only [List.length_append]
    have h : 1 ≤ (dig (aP a (4 * f + c))).length := by rw [dig_len]; split <;> omega
    omega
theorem SBR_mk {sb : Nat × SV} {v : SV} {t : List Nat} (T : TXT sb t) (M : MTX v t) : SBR sb v := by
  obtain ⟨⟨a1, a2, a3⟩, b1, b2, b3⟩ := T
  obtain ⟨c1, c2⟩ := M
  exact ⟨a1, a2, a3, t.length, b2, b1, c1, fun i hi => (b3 i _ (List.getElem?_eq_getElem hi)).trans (c2 i _ (List.getElem?_eq_getElem hi)).symm⟩
theorem OKB_of {sb : Nat × SV} {v : SV} (h : SBR sb v) : OKB sb ∧ ∃ n, n ≤ 70 ∧ sb.2.1 2 = nI n := by
  obtain ⟨a1, a2, a3, n, b1, b2, _⟩ := h
  exact ⟨⟨a1, a2, a3⟩, n, by omega, b2⟩
/-- the reference's line has changed alone -/
def chL (u v : SV) : Prop := (∀ k, k ≠ 9 → u.1 k = v.1 k) ∧ ∀ r, r ≠ 7 → u.2 r = v.2 r
theorem chL_tr {u v w : SV} (h : chL u v) (k : chL v w) : chL u w := ⟨fun j hj => (h.1 j hj).trans (k.1 j hj), fun j hj => (h.2 j hj).trans (k.2 j hj)⟩
theorem IV_line {n : Nat} {mn ho dr sa hi re rf pa od v u : SV} {hh : Nat → SV} {sb sb' : Nat × SV} (h : IV n mn ho dr sa hi hh re rf pa od sb v) (c : chL u v) (s : SBR sb' u) : IV n mn ho dr sa hi hh re rf pa od sb' u := by
  obtain ⟨⟨a, R, M, W, G⟩, h2, ⟨hs, h3, h3'⟩, h4, h5, h6, h7⟩ := h
  obtain ⟨c1, c2⟩ := c
  refine ⟨⟨a, R, by rw [c2 0 (by decide)]; exact M, W, G⟩, ?_, ⟨hs, HSR_eq h3 (c1 0 (by decide)) (c2 4 (by decide)), h3'⟩, ?_, ?_, ?_, s⟩
  · unfold SAR at *; rw [c1 8 (by decide), c2 3 (by decide)]; exact h2
  · unfold FAR at *; rw [c1 7 (by decide)]; exact h4
  · unfold RFR at *; rw [c1 3 (by decide), c1 4 (by decide), c1 5 (by decide), c1 6 (by decide)]; exact h5
  · unfold RER at *; rw [c1 10 (by decide), c2 8 (by decide)]; exact h6
theorem m_writeBalcony {v : SV} {a : AS} (M : RM (v.2 0) a) (W : WF a) {b : Nat} (hb : b < 12) {t : List Nat} (T : MTX v t) (hl : t.length + 4 ≤ 70) (self : Int32 → SV → Option (Int32 × SV)) : ∃ v', f_X13_write_J42 (nI b) self v = self (nI (b + 1)) v' ∧ MTX v' (t ++ balT a b) ∧ chL v' v := by
  have hp := wf_p W hb
  obtain ⟨w1, e1, T1, c1, d1⟩ := m_writesNumber T (x := aP a b) (by omega) (by omega)
  have l1 : (t ++ dig (aP a b)).length = t.length + 1 := by rw [List.length_append, dig_len, if_pos hp]
  have fin : ∀ (w : SV) (s : List Nat), MTX w s → RM (w.2 0) a → s.length + 1 ≤ 70 → ∃ v', f_X13_write_J71 (nI b) self w = self (nI (b + 1)) v' ∧ MTX v' (s ++ (if fdN a b ≤ 0 then [] else [33])) ∧ chL v' w := by
    intro w s Tw Mw hs
    unfold f_X13_write_J71
    rw [m_feudsOf Mw W hb, bd1_s, nI_1]
    by_cases c : fdN a b ≤ 0
    · rw [if_pos c, if_pos c, List.append_nil]; exact ⟨w, rfl, Tw, fun _ _ => rfl, fun _ _ => rfl⟩
    · rw [if_neg c, if_neg c]
      obtain ⟨w', e, Tw', c1, d1⟩ := m_writes Tw (c := 33) (by omega)
      have e : f_X13_writes 33 w = some w' := e
      rw [e, bd1_s]; exact ⟨w', rfl, Tw', c1, d1⟩
  simp only [f_X13_write_J42, m_plants M hb, bd1_s, e1, m_catOn (chr7 d1 M) W hb]
  unfold balT
  cases f1 : (aC a).any (fun x => decide (x.1 = b)) with
  | true =>
    obtain ⟨k, z, k1, k2, k3, k4⟩ := ctO_found f1
    have hk6 : k < 6 := by have := wf_cn W; omega
    have hk0 : ¬ nI k < 0 := nI_pos (by omega)
    obtain ⟨w2, e2, T2, c2, d2⟩ := m_writes T1 (c := 97 + k) (by omega)
    rw [k1, if_neg hk0, (q_cat6 hk6).2, e2, bd1_s, if_pos rfl, nI_cl (by omega)]
    obtain ⟨w3, e3, T3, c3⟩ := fin w2 _ T2 (chr7 d2 (chr7 d1 M)) (by rw [List.length_append, l1, List.length_singleton]; omega)
    rw [List.append_assoc, List.append_assoc] at T3
    exact ⟨w3, e3, T3, chL_tr c3 (chL_tr ⟨c2, d2⟩ ⟨c1, d1⟩)⟩
  | false =>
    obtain ⟨k1, _⟩ := ctO_no f1
    rw [k1, if_pos (by decide), if_neg (by decide)]
    obtain ⟨w3, e3, T3, c3⟩ := fin w1 _ T1 (chr7 d1 M) (by omega)
    rw [List.append_assoc] at T3
    exact ⟨w3, e3, T3, chL_tr c3 ⟨c1, d1⟩⟩
theorem x_write {ho vmn : SV} {a : AS} (R : RC ho a) (W : WF a) {f : Nat} (hf : f < 3) {sb : Nat × SV} (T : TXT sb []) : ∃ sb', lz2 (f_X12_write_B21 (nI f) vmn ho) 8 0 sb = some (nI (floT a f 4).length, sb') ∧ TXT sb' (floT a f 4) := by
  rw [← nI_0]
  refine lz2_inv (N := 4) (fun (c : Nat) (u : Nat × SV) => TXT u (floT a f c)) (fun (y : Option (Int32 × (Nat × SV))) => ∃ sb', y = some (nI (floT a f 4).length, sb') ∧ TXT sb' (floT a f 4)) ?_ ?_ 4 8 0 sb (by omega) (by omega) T
  · intro self c u hc hI kk
    have hlen := floT_len W hf c (by omega)
    have q4 : nI f * 4 = nI (f * 4) := by rw [qL4, nI_mul]
    have hst : ∀ (w : Nat × SV) (s : List Nat), TXT w s → s.length ≤ 4 * c + 1 → s ++ balT a (4 * f + c) = floT a f (c + 1) → ∃ sb', f_X12_write_J40 (nI f) (nI c) vmn ho self w = some (nI (floT a f 4).length, sb') ∧ TXT sb' (floT a f 4) := by
      intro w s Tw hs e
      obtain ⟨w', e1, T1⟩ := x_writeBalcony (vmn := vmn) R W (b := 4 * f + c) (by omega) Tw (by omega)
      unfold f_X12_write_J40
      rw [q4, nI_add, show f * 4 + c = 4 * f + c by omega, e1, bd1_s, nI_1]
      exact kk _ (by rw [← e]; exact T1)
    simp (disch := omega) only [f_X12_write_B21, qL4, nI_leI]
    rw [if_neg (by omega)]
    by_cases c0 : c = 0
    · subst c0
      rw [if_pos (by decide)]
      exact hst u _ hI (by omega) (by show _ = floT a f 0 ++ ([] ++ balT a (4 * f + 0)); rw [List.nil_append])
    · rw [if_neg (nI_nle (by omega) (by omega))]
      obtain ⟨w, e, Tw⟩ := x_appC hI (c := 32) (by omega) (by omega)
      have e : f_J4_append_cf468 32 u = some w := e
      rw [e, bd1_s]
      exact hst w _ Tw (by rw [List.length_append, List.length_singleton]; omega) (by show _ = floT a f c ++ ((if c = 0 then [] else [32]) ++ balT a (4 * f + c)); rw [if_neg c0, List.append_assoc])
  · intro self u hI
    simp (disch := omega) only [f_X12_write_B21, qL4, nI_leI]
    rw [if_pos (Nat.le_refl _)]
    exact ⟨u, by unfold f_X12_write_K21 f_J4_length_8abf5 f_J5_length_8abf5; rw [hI.2.1]; rfl, hI⟩
theorem m_write {v : SV} {a : AS} (M : RM (v.2 0) a) (W : WF a) {f : Nat} (hf : f < 3) (T : MTX v []) : ∃ v', lz2 (f_X13_write_B20 (nI f)) FU (nI (4 * f)) v = some (nI (floT a f 4).length, v') ∧ MTX v' (floT a f 4) ∧ chL v' v := by
  have q4 : (4 : Int32) * nI f + 4 = nI (4 * f + 4) := by rw [qL4, nI_mul, nI_add]
  refine lz2_inv (N := 4 * f + 4) (fun (b : Nat) (u : SV) => 4 * f ≤ b ∧ MTX u (floT a f (b - 4 * f)) ∧ chL u v) (fun (y : Option (Int32 × SV)) => ∃ v', y = some (nI (floT a f 4).length, v') ∧ MTX v' (floT a f 4) ∧ chL v' v) ?_ ?_ 4 FU (4 * f) v (by omega) (by unfold FU; omega) ⟨Nat.le_refl _, by rw [Nat.sub_self]; exact T, fun _ _ => rfl, fun _ _ => rfl⟩
  · intro self b u hb hI kk
    obtain ⟨g1, g2, g3⟩ := hI
    obtain ⟨c, rfl⟩ : ∃ c, b = 4 * f + c := ⟨b - 4 * f, by omega⟩
    rw [show 4 * f + c - 4 * f = c by omega] at g2
    have hlen := floT_len W hf c (by omega)
    have Mu : RM (u.2 0) a := chr7 g3.2 M
    have hst : ∀ (w : SV) (s : List Nat), MTX w s → RM (w.2 0) a → chL w v → s.length ≤ 4 * c + 1 → s ++ balT a (4 * f + c) = floT a f (c + 1) → ∃ v', f_X13_write_J42 (nI (4 * f + c)) self w = some (nI (floT a f 4).length, v') ∧ MTX v' (floT a f 4) ∧ chL v' v := by
      intro w s Tw Mw cw hs e
      obtain ⟨w', e1, T1, c1⟩ := m_writeBalcony Mw W (b := 4 * f + c) (by omega) Tw (by omega) self
      rw [e1]
      exact kk _ ⟨by omega, by rw [show 4 * f + c + 1 - 4 * f = c + 1 by omega, ← e]; exact T1, chL_tr c1 cw⟩
    simp (disch := omega) only [f_X13_write_B20, q4, nI_leI, g2.1]
    rw [if_neg (by omega)]
    by_cases c0 : c = 0
    · subst c0
      rw [if_pos (by show nI 0 ≤ 0; decide)]
      exact hst u _ g2 Mu g3 (by omega) (by show _ = floT a f 0 ++ ([] ++ balT a (4 * f + 0)); rw [List.nil_append])
    · rw [if_neg (nI_nle (floT_pos (by omega)) (by omega))]
      obtain ⟨w, e, Tw, cw⟩ := m_writes g2 (c := 32) (by omega)
      have e : f_X13_writes 32 u = some w := e
      rw [e, bd1_s]
      exact hst w _ Tw (chr7 cw.2 Mu) (chL_tr cw g3) (by rw [List.length_append, List.length_singleton]; omega) (by show _ = floT a f c ++ ((if c = 0 then [] else [32]) ++ balT a (4 * f + c)); rw [if_neg c0, List.append_assoc])
  · intro self u hI
    obtain ⟨g1, g2, g3⟩ := hI
    rw [show 4 * f + 4 - 4 * f = 4 by omega] at g2
    simp (disch := omega) only [f_X13_write_B20, q4, nI_leI]
    rw [if_pos (Nat.le_refl _)]
    exact ⟨u, by unfold f_X13_write_K20; rw [g2.1], g2, g3⟩
theorem p_write {N : Nat} : P_write (IV N) (IV (N + 1)) := by
  intro mn ho dr sa hi hh re rf pa od sb v h x
  obtain ⟨a, R, M, W, _⟩ := h.1
  rcases q_few x 2 2 rfl (by omega) with ⟨f, hf, rfl⟩ | ⟨d4, d5⟩
  · obtain ⟨ok, n, hn, e0⟩ := OKB_of h.2.2.2.2.2.2
    obtain ⟨w, e1, T1⟩ := x_set0 ok hn e0
    obtain ⟨w2, e2, T2⟩ := x_write (vmn := mn) R W (f := f) (by omega) T1
    obtain ⟨v', e3, T3, c3⟩ := m_write (v := pF v 9 0) (a := a) M W (f := f) (by omega) ⟨rfl, fun i x hx => by cases hx⟩
    have q4 : (4 : Int32) * nI f = nI (4 * f) := by rw [qL4, nI_mul]
    have f0 : ¬ nI f < 0 := nI_pos (by omega)
    have f3 : nI f < 3 := by rw [qL3, nI_ltI (by omega) (by omega)]; omega
    have f2 : ¬ (2 : Int32) < nI f := by rw [qL2, nI_ltI (by omega) (by omega)]; omega
    refine ⟨nI (floT a f 4).length, w2, v', ?_, ?_, IV_line (IV_up h) (chL_tr c3 ⟨fun k hk => if_neg hk, fun _ _ => rfl⟩) (SBR_mk T2 T3)⟩
    · simp only [f_X12_write, if_neg f0, if_pos f3, e1, bd1_s, e2]
    · simp only [f_X13_write, f_X13_in, if_neg f0, if_neg f2, bd1_s, if_neg n10, nm, q4, e3]
  · refine ⟨-1, sb, v, ?_, ?_, IV_up h⟩
    · unfold f_X12_write
      by_cases c0 : x < 0
      · rw [if_pos c0]
      · rw [if_neg c0, if_neg]
        intro c3
        obtain ⟨j, hj, rfl⟩ := nI_of c0
        rw [qL3, nI_ltI hj (by omega)] at c3
        exact d5 j (by omega) rfl
    · simp only [f_X13_write, q_inR, d4, bd1_s]; rfl
/-- the text of the lines, after k of them -/
def linT (a : AS) : Nat → List Nat
  | 0 => []
  | k + 1 => linT a k ++ ((if k = 0 then [] else [32]) ++ (dig ((aL a)[k]?.getD (0, 0, 0)).1 ++ ([45] ++ (dig ((aL a)[k]?.getD (0, 0, 0)).2.1 ++ ([58] ++ dig ((aL a)[k]?.getD (0, 0, 0)).2.2)))))
theorem dig_le (x : Nat) : (dig x).length ≤ 2 := by rw [dig_len]; split <;> omega
theorem linT_len {a : AS} : ∀ k, (linT a k).length ≤ 9 * k := by
  intro k
  induction k with
  | zero => exact Nat.le_refl 0
  | succ k ih =>
    show (linT a k ++ _).length ≤ _
    simp only [List.length_append, List.length_singleton]
    have h1 := dig_le ((aL a)[k]?.getD (0, 0, 0)).1
    have h2 := dig_le ((aL a)[k]?.getD (0, 0, 0)).2.1
    have h3 := dig_le ((aL a)[k]?.getD (0, 0, 0)).2.2
    have h4 : (if k = 0 then ([] : List Nat) else [32]).length ≤ 1 := by split <;> simp
    omega
theorem linT_pos {a : AS} {k : Nat} : 0 < k → 0 < (linT a k).length := by
  intro hk
  cases k with
  | zero => omega
  | succ k =>
    show 0 < (linT a k ++ _).length
    simp only [List.length_append, List.length_singleton]
    omega
theorem x_writeLines {ho vmn : SV} {a : AS} (R : RC ho a) (W : WF a) {sb : Nat × SV} (T : TXT sb []) : ∃ sb', lz2 (f_X12_writeLines_B10 ho) 8 0 sb = some (nI (linT a (aL a).length).length, sb') ∧ TXT sb' (linT a (aL a).length) := by
  have hl := wf_ln W
  rw [← nI_0]
  refine lz2_inv (N := (aL a).length) (fun (c : Nat) (u : Nat × SV) => TXT u (linT a c)) (fun (y : Option (Int32 × (Nat × SV))) => ∃ sb', y = some (nI (linT a (aL a).length).length, sb') ∧ TXT sb' (linT a (aL a).length)) ?_ ?_ (aL a).length 8 0 sb (by omega) (by omega) T
  · intro self c u hc hI kk
    obtain ⟨x, hx⟩ : ∃ x, (aL a)[c]? = some x := ⟨_, List.getElem?_eq_getElem hc⟩
    obtain ⟨r1, r2, r3⟩ := rc_l R hx
    have hw := wf_l W hx
    have hlen := linT_len (a := a) c
    have hst : ∀ (w : Nat × SV) (s : List Nat), TXT w s → s.length ≤ 9 * c + 1 → s ++ (dig x.1 ++ ([45] ++ (dig x.2.1 ++ ([58] ++ dig x.2.2)))) = linT a (c + 1) → ∃ sb', f_X12_writeLines_J38 (nI c) ho self w = some (nI (linT a (aL a).length).length, sb') ∧ TXT sb' (linT a (aL a).length) := by
      intro w s Tw hs e
      have g1 := dig_le x.1
      have g2 := dig_le x.2.1
      obtain ⟨w1, e1, T1⟩ := x_appI Tw (x := x.1) (by omega) (by omega)
      obtain ⟨w2, e2, T2⟩ := x_appC T1 (c := 45) (by omega) (by rw [List.length_append]; omega)
      obtain ⟨w3, e3, T3⟩ := x_appI T2 (x := x.2.1) (by omega) (by simp only [List.length_append, List.length_singleton]; omega)
      obtain ⟨w4, e4, T4⟩ := x_appC T3 (c := 58) (by omega) (by simp only [List.length_append, List.length_singleton]; omega)
      obtain ⟨w5, e5, T5⟩ := x_appI T4 (x := x.2.2) (by omega) (by simp only [List.length_append, List.length_singleton]; omega)
      have e2 : f_J4_append_cf468 45 w1 = some w2 := e2
      have e4 : f_J4_append_cf468 58 w3 = some w4 := e4
      simp (disch := omega) only [f_X12_writeLines_J38, ckI_n, nI_cl, r1, r2, r3, e1, bd1_s, e2, e3, e4, e5, nI_1]
      refine kk _ ?_
      rw [← e]
      simpa only [List.append_assoc] using T5
    have hsuc : linT a (c + 1) = linT a c ++ ((if c = 0 then [] else [32]) ++ (dig x.1 ++ ([45] ++ (dig x.2.1 ++ ([58] ++ dig x.2.2))))) := by
      show linT a c ++ ((if c = 0 then [] else [32]) ++ (dig ((aL a)[c]?.getD (0, 0, 0)).1 ++ ([45] ++ (dig ((aL a)[c]?.getD (0, 0, 0)).2.1 ++ ([58] ++ dig ((aL a)[c]?.getD (0, 0, 0)).2.2))))) = _
      rw [hx]; rfl
    simp (disch := omega) only [f_X12_writeLines_B10, rc_ln R, nI_leI]
    rw [if_neg (by omega)]
    by_cases c0 : c = 0
    · subst c0
      rw [if_pos (by decide)]
      exact hst u _ hI (by omega) (by rw [hsuc, if_pos rfl, List.nil_append])
    · rw [if_neg (nI_nle (by omega) (by omega))]
      obtain ⟨w, e, Tw⟩ := x_appC hI (c := 32) (by omega) (by omega)
      have e : f_J4_append_cf468 32 u = some w := e
      rw [e, bd1_s]
      exact hst w _ Tw (by rw [List.length_append, List.length_singleton]; omega) (by rw [hsuc, if_neg c0, List.append_assoc])
  · intro self u hI
    simp (disch := omega) only [f_X12_writeLines_B10, rc_ln R, nI_leI]
    rw [if_pos (Nat.le_refl _)]
    exact ⟨u, by unfold f_X12_writeLines_K10 f_J4_length_8abf5 f_J5_length_8abf5; rw [hI.2.1]; rfl, hI⟩
theorem m_writeLines {v : SV} {a : AS} (M : RM (v.2 0) a) (W : WF a) (T : MTX v []) : ∃ v', lz2 (f_X13_writeLines_B7) FU 0 v = some (nI (linT a (aL a).length).length, v') ∧ MTX v' (linT a (aL a).length) ∧ chL v' v := by
  have hl := wf_ln W
  refine lz2_inv0 (N := (aL a).length) (fun (c : Nat) (u : SV) => MTX u (linT a c) ∧ chL u v) (fun (y : Option (Int32 × SV)) => ∃ v', y = some (nI (linT a (aL a).length).length, v') ∧ MTX v' (linT a (aL a).length) ∧ chL v' v) ?_ ?_ (by omega) v ⟨T, fun _ _ => rfl, fun _ _ => rfl⟩
  · intro self c u hc hI kk
    obtain ⟨g2, g3⟩ := hI
    obtain ⟨x, hx⟩ : ∃ x, (aL a)[c]? = some x := ⟨_, List.getElem?_eq_getElem hc⟩
    have hw := wf_l W hx
    have hlen := linT_len (a := a) c
    have Mu : RM (u.2 0) a := chr7 g3.2 M
    have hst : ∀ (w : SV) (s : List Nat), MTX w s → RM (w.2 0) a → chL w v → s.length ≤ 9 * c + 1 → s ++ (dig x.1 ++ ([45] ++ (dig x.2.1 ++ ([58] ++ dig x.2.2)))) = linT a (c + 1) → ∃ v', f_X13_writeLines_J30 (nI c) self w = some (nI (linT a (aL a).length).length, v') ∧ MTX v' (linT a (aL a).length) ∧ chL v' v := by
      intro w s Tw Mw cw hs e
      have g1 := dig_le x.1
      have g2 := dig_le x.2.1
      obtain ⟨w1, e1, T1, d1⟩ := m_writesNumber Tw (x := x.1) (by omega) (by omega)
      obtain ⟨w2, e2, T2, d2⟩ := m_writes T1 (c := 45) (by rw [List.length_append]; omega)
      obtain ⟨w3, e3, T3, d3⟩ := m_writesNumber T2 (x := x.2.1) (by omega) (by simp only [List.length_append, List.length_singleton]; omega)
      obtain ⟨w4, e4, T4, d4⟩ := m_writes T3 (c := 58) (by simp only [List.length_append, List.length_singleton]; omega)
      obtain ⟨w5, e5, T5, d5⟩ := m_writesNumber T4 (x := x.2.2) (by omega) (by simp only [List.length_append, List.length_singleton]; omega)
      have M2 := chr7 d2.2 (chr7 d1.2 Mw)
      have M4 := chr7 d4.2 (chr7 d3.2 M2)
      have e2 : f_X13_writes 45 w1 = some w2 := e2
      have e4 : f_X13_writes 58 w3 = some w4 := e4
      simp only [f_X13_writeLines_J30, (m_linePart Mw W hx).1, e1, bd1_s, e2, (m_linePart M2 W hx).2.1, e3, e4, (m_linePart M4 W hx).2.2, e5, nI_1]
      refine kk _ ⟨?_, chL_tr d5 (chL_tr d4 (chL_tr d3 (chL_tr d2 (chL_tr d1 cw))))⟩
      rw [← e]
      simpa only [List.append_assoc] using T5
    have hsuc : linT a (c + 1) = linT a c ++ ((if c = 0 then [] else [32]) ++ (dig x.1 ++ ([45] ++ (dig x.2.1 ++ ([58] ++ dig x.2.2))))) := by
      show linT a c ++ ((if c = 0 then [] else [32]) ++ (dig ((aL a)[c]?.getD (0, 0, 0)).1 ++ ([45] ++ (dig ((aL a)[c]?.getD (0, 0, 0)).2.1 ++ ([58] ++ dig ((aL a)[c]?.getD (0, 0, 0)).2.2))))) = _
      rw [hx]; rfl
    simp (disch := omega) only [f_X13_writeLines_B7, ck240_0, ck240_1, ck240_2, ck240_3, ck240_4, ck240_5, ck240_6, ck240_7, qc0, qc1, qc2, qc3, qc4, qc5, qc6, qc7, rm_ln Mu, nI_leI, g2.1]
    rw [if_neg (by omega)]
    by_cases c0 : c = 0
    · subst c0
      rw [if_pos (by show nI 0 ≤ 0; decide)]
      exact hst u _ g2 Mu g3 (by omega) (by rw [hsuc, if_pos rfl, List.nil_append])
    · rw [if_neg (nI_nle (linT_pos (by omega)) (by omega))]
      obtain ⟨w, e, Tw, cw⟩ := m_writes g2 (c := 32) (by omega)
      have e : f_X13_writes 32 u = some w := e
      rw [e, bd1_s]
      exact hst w _ Tw (chr7 cw.2 Mu) (chL_tr cw g3) (by rw [List.length_append, List.length_singleton]; omega) (by rw [hsuc, if_neg c0, List.append_assoc])
  · intro self u hI
    obtain ⟨g2, g3⟩ := hI
    have Mu : RM (u.2 0) a := chr7 g3.2 M
    simp (disch := omega) only [f_X13_writeLines_B7, ck240_0, ck240_1, ck240_2, ck240_3, ck240_4, ck240_5, ck240_6, ck240_7, qc0, qc1, qc2, qc3, qc4, qc5, qc6, qc7, rm_ln Mu, nI_leI]
    rw [if_pos (Nat.le_refl _)]
    exact ⟨u, by unfold f_X13_writeLines_K7; rw [g2.1], g2, g3⟩
theorem p_writeLines {N : Nat} : P_writeLines (IV N) (IV (N + 1)) := by
  intro mn ho dr sa hi hh re rf pa od sb v h
  intro _
  obtain ⟨a, R, M, W, _⟩ := h.1
  obtain ⟨ok, n, hn, e0⟩ := OKB_of h.2.2.2.2.2.2
  obtain ⟨w, e1, T1⟩ := x_set0 ok hn e0
  obtain ⟨w2, e2, T2⟩ := x_writeLines (vmn := mn) R W T1
  obtain ⟨v', e3, T3, c3⟩ := m_writeLines (v := pF v 9 0) (a := a) M W ⟨rfl, fun i x hx => by cases hx⟩
  refine ⟨nI (linT a (aL a).length).length, w2, v', ?_, ?_, IV_line (IV_up h) (chL_tr c3 ⟨fun k hk => if_neg hk, fun _ _ => rfl⟩) (SBR_mk T2 T3)⟩
  · simp only [f_X12_writeLines, e1, bd1_s, e2]
  · simp only [f_X13_writeLines, nm, e3]
theorem p_written {N : Nat} : P_written (IV N) (IV (N + 1)) := by
  intro mn ho dr sa hi hh re rf pa od sb v h x
  obtain ⟨a1, a2, a3, n, b1, b2, b3, b4⟩ := h.2.2.2.2.2.2
  have hn : n ≤ 70 := by omega
  have e1 : (nI n - 1).toInt = (n : Int) - 1 := by
    have : ∀ n : Nat, n < 71 → (nI n - 1).toInt = (n : Int) - 1 := by decide +kernel
    exact this n (by omega)
  by_cases c0 : x < 0
  · exact ⟨-1, by simp only [f_X12_written, if_pos c0], by simp only [f_X13_written, f_X13_in, if_pos c0, bd1_s]; rfl, IV_up h⟩
  · obtain ⟨i, hi', rfl⟩ := nI_of c0
    have l1 : (nI i < nI n) ↔ i < n := nI_ltI hi' (by omega)
    have l2 : (nI n - 1 < nI i) ↔ ¬ i < n := by rw [Int32.lt_iff_toInt_lt, e1, nI_toInt hi']; omega
    by_cases c : i < n
    · obtain ⟨z, z1, z2⟩ := a3 i (by omega)
      have hz : ((nI z &&& 255).toUInt32 % 65536).toInt32 = nI z := by
        have : ∀ z : Nat, z < 128 → ((nI z &&& 255).toUInt32 % 65536).toInt32 = nI z := by decide +kernel
        exact this z z1
      have hz2 : ((nI z).toUInt32 % 65536).toInt32 = nI z := by
        have : ∀ z : Nat, z < 128 → ((nI z).toUInt32 % 65536).toInt32 = nI z := by decide +kernel
        exact this z z1
      have hmin : (if (Int32.ofNat sb.1) < nI n then (Int32.ofNat sb.1) else nI n) = nI n := by
        rw [if_neg]
        show ¬ nI sb.1 < nI n
        rw [nI_ltI (by omega) (by omega)]; omega
      refine ⟨nI z, ?_, ?_, IV_up h⟩
      · simp (disch := omega) only [f_X12_written, if_neg c0, f_J4_length_8abf5, f_J5_length_8abf5, b2, bd1_s, l1, if_pos c, f_J4_charAt_5068e, f_J5_charAt_5068e, a1, q_shr0, hmin, nm, f_J0_checkIndex_df160, if_true, ckI_n, nI_cl, z2, ckC, hz, hz2]
      · simp (disch := omega) only [f_X13_written, f_X13_in, b3, if_neg c0, l2, c, not_true_eq_false, if_false, bd1_s, if_neg n10, ckI_n, nI_cl, ← b4 i c, z2]
    · refine ⟨-1, ?_, ?_, IV_up h⟩
      · simp only [f_X12_written, if_neg c0, f_J4_length_8abf5, f_J5_length_8abf5, b2, bd1_s, l1, if_neg c]
      · simp only [f_X13_written, f_X13_in, b3, if_neg c0, l2, c, not_false_eq_true, if_true, bd1_s]
