/-! PURE: changes: how both sides settle them; clear, append, undo, save, restore. -/
def OTH (u v : SV) : Prop := u.1 7 = v.1 7 ∧ u.1 8 = v.1 8 ∧ u.1 9 = v.1 9 ∧ u.1 10 = v.1 10 ∧ u.2 3 = v.2 3 ∧ u.2 7 = v.2 7 ∧ u.2 8 = v.2 8
theorem OTH_tr {u v w : SV} (h : OTH u v) (k : OTH v w) : OTH u w := ⟨h.1.trans k.1, h.2.1.trans k.2.1, h.2.2.1.trans k.2.2.1, h.2.2.2.1.trans k.2.2.2.1, h.2.2.2.2.1.trans k.2.2.2.2.1, h.2.2.2.2.2.1.trans k.2.2.2.2.2.1, h.2.2.2.2.2.2.trans k.2.2.2.2.2.2⟩
theorem SAR_o {n : Nat} {mn sa u v : SV} (h : SAR n mn sa v) (o : OTH u v) : SAR n mn sa u := by
  unfold SAR at *; rw [o.2.1, o.2.2.2.2.1]; exact h
theorem FAR_o {mn u v : SV} (h : FAR mn v) (o : OTH u v) : FAR mn u := by
  unfold FAR at *; rw [o.1]; exact h
theorem RER_o {re u v : SV} (h : RER re v) (o : OTH u v) : RER re u := by
  unfold RER at *; rw [o.2.2.2.1, o.2.2.2.2.2.2]; exact h
theorem SBR_o {sb : Nat × SV} {u v : SV} (h : SBR sb v) (o : OTH u v) : SBR sb u := by
  unfold SBR at *; rw [o.2.2.1, o.2.2.2.2.2.1]; exact h
theorem HM_of {hh : Nat → SV} {hi v : SV} {hs : List AS} (H : HSR hh hi v hs) : HM v hs := ⟨H.1, H.2.2.1, fun j b hj => by obtain ⟨nx, _, _, g⟩ := H.2.2.2; exact ⟨(g j b hj).1, (g j b hj).2.2⟩⟩
theorem HM_eq {u v : SV} {hs : List AS} (H : HM v hs) (e1 : u.1 0 = v.1 0) (e2 : u.2 4 = v.2 4) : HM u hs := by
  unfold HM at *; rw [e1, e2]; exact H
theorem HSR_eq {hh : Nat → SV} {hi u v : SV} {hs : List AS} (H : HSR hh hi v hs) (e1 : u.1 0 = v.1 0) (e2 : u.2 4 = v.2 4) : HSR hh hi u hs := by
  unfold HSR at *; rw [e1, e2]; exact H
def ntS (y n : Int32) (rf : SV) : SV := pF (pF (pF (pF rf 0 y) 1 n) 2 (-4)) 3 (-4)
theorem x_note (y n : Int32) (rf : SV) : f_X11_note y n rf = some (-3, ntS y n rf) := rfl
/-- a change: what stands against it, on both sides alike, or what it makes of a -/
def CMD (N : Nat) (a : AS) (w : SV) (fc : SV → Option (Int32 × SV × SV)) (g1 g2 : Option Int32) (isR act : SV → Option (Int32 × SV)) : Prop :=
  (g1 = some 0 ∧ ∀ rf, fc rf = some (-1, w, rf)) ∨ (g1 = some 1 ∧ g2 = some 0 ∧ ∀ rf, fc rf = some (-2, w, rf)) ∨ (g1 = some 1 ∧ g2 = some 1 ∧ ((∃ y n, y ≠ 0 ∧ (∀ rf, fc rf = some (-3, w, ntS y n rf)) ∧ ∀ u : SV, RM (u.2 0) a → isR u = some (1, pF (pF u 1 y) 2 n)) ∨ (∃ r w' b, ¬ r < 0 ∧ (∀ rf, fc rf = some (r, w', rf)) ∧ RC w' b ∧ (WF b ∧ GB (N + 1) b) ∧ ∀ u : SV, RM (u.2 0) a → isR u = some (0, u) ∧ ∃ u', act u = some (r, u') ∧ RM (u'.2 0) b ∧ chR 0 u' u)))
theorem n10 : ¬ (1 : Int32) = 0 := by decide
/-- a change that is kept -/
theorem q_settle {N : Nat} {mn ho dr sa hi re rf pa od v u1 u2 w' : SV} {hh : Nat → SV} {sb : Nat × SV} (h : IV N mn ho dr sa hi hh re rf pa od sb v) {a b : AS} (R : RC ho a) (W : WF a) (Ga : GB N a) (Rw : RC w' b) (Wb : WF b) (Gb : GB (N + 1) b) (M1 : RM (u2.2 1) a) (M0 : RM (u2.2 0) b) (e1 : u2.1 0 = v.1 0) (e2 : u2.2 4 = v.2 4) (o : OTH u2 v) (rf' : SV) (hrf : RFR rf' u2) {r : Int32} (hr : ¬ r < 0) (re' : SV) (hre : RER re' u2) : ∃ ho' hi' hh' v', f_X12_settle r mn ho w' hi hh = some (r, ho', hi', hh') ∧ f_X13_keeps r u2 = some (r, v') ∧ IV (N + 1) mn ho' w' sa hi' hh' re' rf' pa od sb v' := by
  obtain ⟨h1, h2, ⟨hs, h3, h3'⟩, h4, h5, h6, h7⟩ := h
  obtain ⟨u3, k1, k2, k3, k4⟩ := m_keeps (HM_eq (HM_of h3) e1 e2) M1 W r
  obtain ⟨hi', hh', l1, l2⟩ := q_keep h3 R W k2
  obtain ⟨x, x1, x2⟩ := x_take Rw Wb ho
  have o3 : OTH u3 u2 := ⟨k3 7 (by decide), k3 8 (by decide), k3 9 (by decide), k3 10 (by decide), k4 3 (by decide), k4 7 (by decide), k4 8 (by decide)⟩
  have o4 := OTH_tr o3 o
  refine ⟨x, hi', hh', u3, ?_, k1, ⟨b, x2, by rw [k4 0 (by decide)]; exact M0, Wb, Gb⟩, SAR_up (SAR_o h2 o4), ⟨_, l2, fun z hz => ?_⟩, FAR_o h4 o4, ?_, RER_o hre o3, SBR_o h7 o4⟩
  · simp only [f_X12_settle, if_neg hr, l1, bd2_s, x1, bd1_s]
  · unfold hsK at hz
    rcases List.mem_append.mp hz with q | q
    · refine GB_up (h3' z ?_)
      split at q
      · exact List.mem_of_mem_drop q
      · exact q
    · rw [List.mem_singleton.mp q]; exact GB_up Ga
  · unfold RFR at *; rw [k3 3 (by decide), k3 4 (by decide), k3 5 (by decide), k3 6 (by decide)]; exact hrf
theorem q_direct {N : Nat} {mn ho dr sa hi re rf pa od v : SV} {hh : Nat → SV} {sb : Nat × SV} (h : IV N mn ho dr sa hi hh re rf pa od sb v) {fc : SV → SV → Option (Int32 × SV × SV)} {g1 g2 : Option Int32} {isR act : SV → Option (Int32 × SV)} (hc : ∀ a w, RC w a → WF a → GB N a → CMD N a w (fc w) g1 g2 isR act) :
    ∃ r ho' dr' hi' rf' hh' v', (bd1 (f_X6_take dr ho) fun w_1 => bd3 (fc w_1 rf) fun r_2 w_3 w_4 => bd4 (f_X12_settle r_2 mn ho w_3 hi hh) fun r_5 w_6 w_7 w_8 => some (r_5, w_6, w_3, w_7, w_4, w_8)) = some (r, ho', dr', hi', rf', hh') ∧ (bd1 (f_X13_begins v) fun w_1 => bd1 g1 fun r_2 => if r_2 = 0 then some (-1, w_1) else bd1 g2 fun r_3 => if r_3 = 0 then some (-2, w_1) else bd2 (isR w_1) fun r_4 w_5 => if r_4 = 0 then bd2 (act w_5) fun r_6 w_7 => bd2 (f_X13_keeps r_6 w_7) fun r_8 w_9 => some (r_8, w_9) else bd2 (f_X13_refused w_5) fun r_10 w_11 => some (r_10, w_11)) = some (r, v') ∧ IV (N + 1) mn ho' dr' sa hi' hh' re rf' pa od sb v' := by
  obtain ⟨a, R, M, W, Ga⟩ := h.1
  obtain ⟨w, e, Rw⟩ := x_take R W dr
  obtain ⟨u, b1, b2, b3, b4⟩ := m_begins M W
  have ou : OTH u v := ⟨congrFun b4.1 7, congrFun b4.1 8, congrFun b4.1 9, congrFun b4.1 10, b4.2 3 (by decide), b4.2 7 (by decide), b4.2 8 (by decide)⟩
  have same : IV N mn ho w sa hi hh re rf pa od sb u := by
    obtain ⟨h1, h2, ⟨hs, h3, h3'⟩, h4, h5, h6, h7⟩ := h
    refine ⟨⟨a, R, b3, W, Ga⟩, SAR_o h2 ou, ⟨hs, HSR_eq h3 (congrFun b4.1 0) (b4.2 4 (by decide)), h3'⟩, FAR_o h4 ou, ?_, RER_o h6 ou, SBR_o h7 ou⟩
    unfold RFR at *; rw [b4.1]; exact h5
  rcases hc a w Rw W Ga with ⟨c1, c2⟩ | ⟨c1, c2, c3⟩ | ⟨c1, c2, c3⟩
  · refine ⟨-1, ho, w, hi, rf, hh, u, ?_, ?_, IV_up same⟩
    · simp only [e, bd1_s, c2, bd3_s, f_X12_settle]; rfl
    · simp only [b1, bd1_s, c1]; rfl
  · refine ⟨-2, ho, w, hi, rf, hh, u, ?_, ?_, IV_up same⟩
    · simp only [e, bd1_s, c3, bd3_s, f_X12_settle]; rfl
    · simp only [b1, bd1_s, c1, c2, if_neg n10]; rfl
  · rcases c3 with ⟨y, n, hy, d1, d2⟩ | ⟨r, w', b, hr, d1, d2, ⟨d3, d5⟩, d4⟩
    · refine ⟨-3, ho, w, hi, ntS y n rf, hh, pF (pF (pF (pF (pF u 1 y) 2 n) 3 y) 4 n) 5 0, ?_, ?_, ?_⟩
      · simp only [e, bd1_s, d1, bd3_s, f_X12_settle]; rfl
      · simp only [b1, bd1_s, c1, c2, if_neg n10, d2 u b3, bd2_s]; rfl
      · obtain ⟨h1, h2, ⟨hs, h3, h3'⟩, h4, h5, h6, h7⟩ := IV_up same
        refine ⟨⟨a, R, b3, W, GB_up Ga⟩, SAR_o h2 ⟨rfl, rfl, rfl, rfl, rfl, rfl, rfl⟩, ⟨hs, HSR_eq h3 rfl rfl, h3'⟩, FAR_o h4 ⟨rfl, rfl, rfl, rfl, rfl, rfl, rfl⟩, ?_, RER_o h6 ⟨rfl, rfl, rfl, rfl, rfl, rfl, rfl⟩, SBR_o h7 ⟨rfl, rfl, rfl, rfl, rfl, rfl, rfl⟩⟩
        exact ⟨Or.inr ⟨hy, rfl, rfl⟩, Or.inl ⟨rfl, rfl, rfl⟩⟩
    · obtain ⟨f1, u', f2, f3, f4⟩ := d4 u b3
      have o2 : OTH u' u := ⟨congrFun f4.1 7, congrFun f4.1 8, congrFun f4.1 9, congrFun f4.1 10, f4.2 3 (by decide), f4.2 7 (by decide), f4.2 8 (by decide)⟩
      obtain ⟨ho', hi', hh', v', k1, k2, k3⟩ := q_settle (u1 := u) (u2 := u') same R W Ga d2 d3 d5 (by rw [f4.2 1 (by decide)]; exact b2) f3 (congrFun f4.1 0) (f4.2 4 (by decide)) o2 rf (by have := same.2.2.2.2.1; unfold RFR at *; rw [f4.1]; exact this) hr re (RER_o same.2.2.2.2.2.1 o2)
      refine ⟨r, ho', w', hi', rf, hh', v', ?_, ?_, k3⟩
      · simp only [e, bd1_s, d1, bd3_s, k1, bd4_s]
      · simp only [b1, bd1_s, c1, c2, if_neg n10, f1, bd2_s, if_true, f2, k2]
/-- a new house -/
def newA : AS := (fun _ => 0, fun _ => 3, fun _ _ => 0, fun _ => 0, [], [], fun _ => 0)
theorem wf_new : WF newA := ⟨fun _ _ => Nat.zero_le _, fun _ _ => (by decide : 3 ≤ 9), Nat.zero_le _, (fun x hx => by cases hx), List.nodup_nil, Nat.zero_le _, (fun x hx => by cases hx), List.nodup_nil⟩
theorem gb_new {n : Nat} : GB n newA := fun _ _ _ _ => ⟨0, Nat.zero_le _, rfl⟩
theorem x_becomeNew (h : SV) : ∃ w, f_X6_becomeNew h = some w ∧ RC w newA := by
  obtain ⟨g1, e1, k1⟩ := x_fill 0 (n := 12) (by omega) (h.2 0)
  obtain ⟨g2, e2, k2⟩ := x_fill 3 (n := 12) (by omega) (h.2 1)
  obtain ⟨g3, e3, k3⟩ := x_fill 0 (n := 144) (by omega) (h.2 5)
  obtain ⟨g4, e4, k4⟩ := x_fill 0 (n := 12) (by omega) (h.2 6)
  have c1 : f_J7_fill_53178 3 12 ((pR h 0 g1).2 1) = some g2 := e2
  refine ⟨_, by
    simp only [f_X6_becomeNew, e1, c1, nm, bd1_s, bd2_s, bd3_s, bd4_s]
    simp only [f_X7_becomeNew, nm, bd1_s, bd2_s, bd3_s, bd4_s, f_X4_becomeNew]
    rw [show f_J7_fill_53178 0 144 ((mLines (pR (pR h 0 g1) 1 g2) (pF (pF (pR (pR h 0 g1) 1 g2) 4 0) 5 0)).2 5) = some g3 from e3]
    simp only [bd1_s]
    rw [show f_J7_fill_53178 0 12 ((pR (mLines (pR (pR h 0 g1) 1 g2) (pF (pF (pR (pR h 0 g1) 1 g2) 4 0) 5 0)) 5 g3).2 6) = some g4 from e4]
    simp only [bd1_s, f_X1_becomeNew, nm]
    rfl, ?_⟩
  refine ⟨fun i hi => ?_, fun i hi => ?_, fun i j hi hj => ?_, fun i hi => ?_, rfl, (fun k x hx => by cases hx), rfl, (fun k x hx => by cases hx), rfl, rfl, rfl, rfl, rfl⟩
  · show g1 i = _; rw [k1 i, if_pos hi]; rfl
  · show g2 i = _; rw [k2 i, if_pos hi]; rfl
  · show g3 (i * 12 + j) = _; rw [k3 _, if_pos (by omega)]; rfl
  · show g4 i = _; rw [k4 i, if_pos hi]; rfl
theorem m_clears (v : SV) : ∃ u, f_X13_clears v = some u ∧ RM (u.2 0) newA ∧ chR 0 u v := by
  unfold f_X13_clears
  refine lz2_inv0 (N := 240) (fun (k : Nat) (u : SV) => (∀ j, j < k → u.2 0 j = 0) ∧ chR 0 u v) (fun (x : Option SV) => ∃ u, x = some u ∧ RM (u.2 0) newA ∧ chR 0 u v) ?_ ?_ (by omega) v ⟨fun j hj => by omega, rfl, fun _ _ => rfl⟩
  · intro self k u hk hI kk
    obtain ⟨g1, g2, g3⟩ := hI
    simp (disch := omega) only [f_X13_clears_B2, nI_1, nI_add, nI_mul, nI_leI, nI_ltI, nI_eq, ckI_n, nI_cl, qL2, qL3, qL4, qL5, qL6, qL7, qL8, qL9, qL10, qL11, qL12, nm, bd1_s, bd2_s, bd3_s, bd4_s, qL240]
    simp only [show ¬ (240 ≤ k) by omega, Nat.lt_irrefl, Nat.le_refl, if_true, if_false, ite_true, ite_false, not_true_eq_false, not_false_eq_true, reduceIte]
    refine kk _ ⟨fun j hj => ?_, g2, fun r hr => ?_⟩
    · show upd (u.2 0) (nI k).toNatClampNeg 0 j = 0
      rw [nI_cl (by omega)]; unfold upd
      split
      · rfl
      · exact g1 j (by omega)
    · show (if r = 0 then _ else u.2 r) = _
      rw [if_neg hr]; exact g3 r hr
  · intro self u hI
    obtain ⟨g1, g2, g3⟩ := hI
    simp (disch := omega) only [f_X13_clears_B2, f_X13_clears_K2, nI_1, nI_add, nI_mul, nI_leI, nI_ltI, nI_eq, ckI_n, nI_cl, qL2, qL3, qL4, qL5, qL6, qL7, qL8, qL9, qL10, qL11, qL12, nm, bd1_s, bd2_s, bd3_s, bd4_s, qL240]
    simp only [Nat.lt_irrefl, Nat.le_refl, if_true, if_false, ite_true, ite_false, not_true_eq_false, not_false_eq_true, reduceIte]
    refine lz2_inv0 (N := 12) (fun (k : Nat) (u : SV) => (∀ j, j < 240 → u.2 0 j = if 22 ≤ j ∧ j < 22 + k then 3 else 0) ∧ chR 0 u v) (fun (x : Option SV) => ∃ u, x = some u ∧ RM (u.2 0) newA ∧ chR 0 u v) ?_ ?_ (by omega) u ⟨fun j hj => by rw [if_neg (by omega)]; exact g1 j hj, g2, g3⟩
    · intro self2 k u hk hI kk
      obtain ⟨g1, g2, g3⟩ := hI
      simp (disch := omega) only [f_X13_clears_B24, qL22, nI_1, nI_add, ckI_n, nI_cl, nm, bd1_s, bd2_s, bd3_s, bd4_s, qL12, nI_leI]
      simp only [show ¬ (12 ≤ k) by omega, Nat.lt_irrefl, Nat.le_refl, if_true, if_false, ite_true, ite_false, not_true_eq_false, not_false_eq_true, reduceIte]
      refine kk _ ⟨fun j hj => ?_, g2, fun r hr => ?_⟩
      · show upd (u.2 0) (nI (22 + k)).toNatClampNeg 3 j = _
        rw [nI_cl (by omega)]; unfold upd
        by_cases c : j = 22 + k
        · rw [if_pos c, if_pos (by omega)]
        · rw [if_neg c, g1 j hj]
          by_cases c2 : 22 ≤ j ∧ j < 22 + k
          · rw [if_pos c2, if_pos (by omega)]
          · rw [if_neg c2, if_neg (by omega)]
      · show (if r = 0 then _ else u.2 r) = _
        rw [if_neg hr]; exact g3 r hr
    · intro self2 u hI
      obtain ⟨g1, g2, g3⟩ := hI
      simp (disch := omega) only [f_X13_clears_B24, f_X13_clears_K24, nI_1, nI_add, nI_mul, nI_leI, nI_ltI, nI_eq, ckI_n, nI_cl, qL2, qL3, qL4, qL5, qL6, qL7, qL8, qL9, qL10, qL11, qL12, nm, bd1_s, bd2_s, bd3_s, bd4_s]
      simp only [Nat.lt_irrefl, Nat.le_refl, if_true, if_false, ite_true, ite_false, not_true_eq_false, not_false_eq_true, reduceIte]
      refine ⟨u, rfl, ⟨fun i hi => ?_, fun i hi => ?_, fun i j hi hj => ?_, fun i hi => ?_, ?_, (fun k x hx => by cases hx), ?_, (fun k x hx => by cases hx), ?_, ?_, ?_, ?_, ?_, ?_⟩, g2, g3⟩
      · rw [g1 _ (by omega), if_neg (by omega)]; rfl
      · rw [g1 _ (by omega), if_pos (by omega)]; rfl
      · rw [g1 _ (by omega), if_neg (by omega)]; rfl
      · rw [g1 _ (by omega), if_neg (by omega)]; rfl
      · rw [g1 _ (by omega), if_neg (by omega)]; rfl
      · rw [g1 _ (by omega), if_neg (by omega)]; rfl
      · rw [g1 _ (by omega), if_neg (by omega)]; rfl
      · rw [g1 _ (by omega), if_neg (by omega)]; rfl
      · rw [g1 _ (by omega), if_neg (by omega)]; rfl
      · rw [g1 _ (by omega), if_neg (by omega)]; rfl
      · rw [g1 _ (by omega), if_neg (by omega)]; rfl
      · rw [g1 _ (by omega), if_neg (by omega)]; rfl
theorem HSR_nil {hh : Nat → SV} {hi u v : SV} {hs : List AS} (H : HSR hh hi v hs) (e : u.1 0 = 0) : HSR hh (pF hi 1 0) u [] := by
  obtain ⟨_, _, _, nx, g4, g5, _⟩ := H
  exact ⟨by simp, rfl, e, nx, g4, g5, fun j b hj => by cases hj⟩
theorem p_clear {N : Nat} : P_clear (IV N) (IV (N + 1)) := by
  intro mn ho dr sa hi hh re rf pa od sb v h _
  obtain ⟨⟨a, R, M, W, Ga⟩, h2, ⟨hs, h3, h3'⟩, h4, h5, h6, h7⟩ := IV_up h
  obtain ⟨w, e1, Rw⟩ := x_becomeNew ho
  obtain ⟨u, e2, Mu, c1, c2⟩ := m_clears v
  have o : OTH (pF u 0 0) v := ⟨congrFun c1 7, congrFun c1 8, congrFun c1 9, congrFun c1 10, c2 3 (by decide), c2 7 (by decide), c2 8 (by decide)⟩
  refine ⟨nI (smN (aP a) 12), w, pF hi 1 0, pF u 0 0, ?_, ?_, ⟨newA, Rw, Mu, wf_new, gb_new⟩, SAR_o h2 o, ⟨[], HSR_nil h3 rfl, (fun b hb => by cases hb)⟩, FAR_o h4 o, ?_, RER_o h6 o, SBR_o h7 o⟩
  · simp only [f_X12_clear, x_plantSum R, bd1_s, e1, f_X5_forget, nm]
  · simp only [f_X13_clear, m_allPlants M, bd1_s, e2, nm]
  · have q3 : (pF u 0 0).1 3 = v.1 3 := congrFun c1 3
    have q4 : (pF u 0 0).1 4 = v.1 4 := congrFun c1 4
    have q5 : (pF u 0 0).1 5 = v.1 5 := congrFun c1 5
    have q6 : (pF u 0 0).1 6 = v.1 6 := congrFun c1 6
    unfold RFR at *; rw [q3, q4, q5, q6]; exact h5
theorem m_copy0 (f g : Nat → Int32) : ∃ z, f_X13_copies 0 0 240 f 240 g = some z ∧ ∀ j, j < 240 → z j = f j := by
  obtain ⟨z, e, h⟩ := m_copies (s := 0) (t := 0) (n0 := 240) (n1 := 240) (by omega) (by omega) (by omega) (by omega) f g
  exact ⟨z, e, fun j hj => by rw [h j, if_pos (by omega)]; exact congrArg f (by omega)⟩
theorem p_save {N : Nat} : P_save (IV N) (IV (N + 1)) := by
  intro mn ho dr sa hi hh re rf pa od sb v h _
  obtain ⟨⟨a, R, M, W, Ga⟩, h2, ⟨hs, h3, h3'⟩, h4, h5, h6, h7⟩ := IV_up h
  obtain ⟨w, e1, Rw⟩ := x_take R W sa
  obtain ⟨z, e2, k⟩ := m_copy0 (v.2 0) (v.2 3)
  refine ⟨nI (smN (aP a) 12), pF mn 0 1, w, pF (pR v 3 z) 8 1, ?_, ?_, ⟨a, R, M, W, Ga⟩, Or.inr ⟨rfl, rfl, a, W, Rw, rm_eq k M W, Ga⟩, ⟨hs, HSR_eq h3 rfl rfl, h3'⟩, h4, h5, h6, h7⟩
  · simp only [f_X12_save, e1, nm, bd1_s, bd2_s, bd3_s, bd4_s, x_plantSum R]
  · simp only [f_X13_save, e2, nm, bd1_s, bd2_s, bd3_s, bd4_s]
    rw [m_allPlants (v := pF (pR v 3 z) 8 1) (a := a) M]; rfl
theorem p_restore {N : Nat} : P_restore (IV N) (IV (N + 1)) := by
  intro mn ho dr sa hi hh re rf pa od sb v h _
  obtain ⟨⟨a, R, M, W, Ga⟩, h2, ⟨hs, h3, h3'⟩, h4, h5, h6, h7⟩ := IV_up h
  rcases h2 with ⟨c1, c2⟩ | ⟨c1, c2, b, Wb, Rb, Mb, Gb⟩
  · refine ⟨-4, ho, hi, v, ?_, ?_, ⟨a, R, M, W, Ga⟩, Or.inl ⟨c1, c2⟩, ⟨hs, h3, h3'⟩, h4, h5, h6, h7⟩
    · simp only [f_X12_restore, if_pos c1]
    · simp only [f_X13_restore, if_pos c2]
  · obtain ⟨w, e1, Rw⟩ := x_take Rb Wb ho
    obtain ⟨z, e2, k⟩ := m_copy0 (v.2 3) (v.2 0)
    have Mz : RM z b := rm_eq k Mb Wb
    have d1 : ¬ mn.1 0 = 0 := by rw [c1]; decide
    have d2 : ¬ v.1 8 = 0 := by rw [c2]; decide
    refine ⟨nI (smN (aP b) 12), w, pF hi 1 0, pF (pR v 0 z) 0 0, ?_, ?_, ⟨b, Rw, Mz, Wb, Gb⟩, Or.inr ⟨c1, c2, b, Wb, Rb, Mb, Gb⟩, ⟨[], HSR_nil h3 rfl, (fun b hb => by cases hb)⟩, h4, h5, h6, h7⟩
    · simp only [f_X12_restore, if_neg d1, e1, nm, bd1_s, bd2_s, bd3_s, bd4_s, f_X5_forget, x_plantSum Rw]
    · simp only [f_X13_restore, if_neg d2, e2, nm, bd1_s, bd2_s, bd3_s, bd4_s]
      rw [m_allPlants (v := pF (pR v 0 z) 0 0) (a := b) Mz]; rfl
theorem p_append {N : Nat} : P_append (IV N) (IV (N + 1)) := by
  intro mn ho dr sa hi hh re rf pa od sb v h x
  obtain ⟨h1, h2, ⟨hs, h3, h3'⟩, h4, h5, h6, h7⟩ := IV_up h
  obtain ⟨n, hn, e1, e2, e3⟩ := h6
  generalize (x.toUInt32 % 65536).toInt32 = c
  have e32 : (32 : Int32).toInt = 32 := rfl
  have e126 : (126 : Int32).toInt = 126 := rfl
  by_cases c1 : c < 32
  · refine ⟨-2, re, v, ?_, ?_, h1, h2, ⟨hs, h3, h3'⟩, h4, h5, ⟨n, hn, e1, e2, e3⟩, h7⟩
    · simp only [f_X12_append, f_X10_addCharacter, if_pos c1, bd2_s]
    · simp only [f_X13_append, f_X13_in, if_pos c1, bd1_s]; rfl
  · by_cases c2 : 126 < c
    · refine ⟨-2, re, v, ?_, ?_, h1, h2, ⟨hs, h3, h3'⟩, h4, h5, ⟨n, hn, e1, e2, e3⟩, h7⟩
      · simp only [f_X12_append, f_X10_addCharacter, if_neg c1, if_pos c2, bd2_s]
      · simp only [f_X13_append, f_X13_in, if_neg c1, if_pos c2, bd1_s]; rfl
    · have hc0 : ¬ c < 0 := fun q => by
        rw [Int32.lt_iff_toInt_lt] at q c1
        have : (0 : Int32).toInt = 0 := rfl
        omega
      obtain ⟨m, hm, rfl⟩ := nI_of hc0
      have t := nI_toInt hm
      have hm1 : 32 ≤ m := by rw [Int32.lt_iff_toInt_lt, t, e32] at c1; omega
      have hm2 : m ≤ 126 := by rw [Int32.lt_iff_toInt_lt, t, e126] at c2; omega
      have hnar : vp_nar .char (nI m) = nI m := by
        have : ∀ m : Nat, m < 127 → vp_nar .char (nI m) = nI m := by decide +kernel
        exact this m (by omega)
      have e60 : (60 : Int32) = nI 60 := rfl
      by_cases c3 : n < 60
      · have d1 : v.1 10 = nI n := e2
        refine ⟨nI (n + 1), pF (pA re 0 (nI n) (nI m)) 0 (nI (n + 1)), pF (pA v 8 (nI n) (nI m)) 10 (nI (n + 1)), ?_, ?_, h1, h2, ⟨hs, HSR_eq h3 rfl rfl, h3'⟩, h4, h5, ⟨n + 1, by omega, rfl, rfl, fun i hi => ?_⟩, h7⟩
        · have q1 : (pA re 0 (nI n) (nI m)).1 0 = nI n := e1
          simp (disch := omega) only [f_X12_append, f_X10_addCharacter, if_neg c1, if_neg c2, e1, e60, nI_ltI, if_pos c3, ckI_n, nm, bd1_s, bd2_s, bd3_s, bd4_s, hnar, q1, nI_1]; rfl
        · have q1 : (pA v 8 (nI n) (nI m)).1 10 = nI n := e2
          simp (disch := omega) only [f_X13_append, f_X13_in, if_neg c1, if_neg c2, e2, e60, nI_eq, ckI_n, nm, bd1_s, bd2_s, bd3_s, bd4_s, q1, nI_1, if_neg (show ¬ n = 60 by omega), if_neg n10]; rfl
        · show ∃ c, 32 ≤ c ∧ c ≤ 126 ∧ upd (re.2 0) (nI n).toNatClampNeg (nI m) i = nI c ∧ upd (v.2 8) (nI n).toNatClampNeg (nI m) i = nI c
          rw [nI_cl (by omega)]; unfold upd
          by_cases ci : i = n
          · exact ⟨m, hm1, hm2, by rw [if_pos ci], by rw [if_pos ci]⟩
          · obtain ⟨c', q1, q2, q3, q4⟩ := e3 i (by omega)
            exact ⟨c', q1, q2, by rw [if_neg ci]; exact q3, by rw [if_neg ci]; exact q4⟩
      · have : n = 60 := by omega
        subst this
        refine ⟨-2, re, v, ?_, ?_, h1, h2, ⟨hs, h3, h3'⟩, h4, h5, ⟨60, hn, e1, e2, e3⟩, h7⟩
        · simp (disch := omega) only [f_X12_append, f_X10_addCharacter, if_neg c1, if_neg c2, e1, e60, nI_ltI, if_neg c3, bd2_s]
        · simp only [f_X13_append, f_X13_in, if_neg c1, if_neg c2, e2, e60, nm, bd1_s, bd2_s, bd3_s, bd4_s, if_neg n10, if_true]
