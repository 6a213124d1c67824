/-! PURE: read: all the commands, or none. -/
theorem GB_le {n m : Nat} {a : AS} (h : GB n a) (hm : n ≤ m) : GB m a := fun i j hi hj => by obtain ⟨c, h1, h2⟩ := h i j hi hj; exact ⟨c, by omega, h2⟩
theorem IV_le {n m : Nat} {mn ho dr sa hi re rf pa od v : SV} {hh : Nat → SV} {sb : Nat × SV} (h : IV n mn ho dr sa hi hh re rf pa od sb v) (hm : n ≤ m) : IV m mn ho dr sa hi hh re rf pa od sb v := by
  induction hm with
  | refl => exact h
  | step _ ih => exact IV_up ih
/-- what a read leaves of the model: numbers -/
def MFY (w u : SV) : Prop := w.1 0 = u.1 0 ∧ w.1 7 = u.1 7 ∧ w.1 8 = u.1 8 ∧ w.1 9 = u.1 9 ∧ w.1 10 = u.1 10 ∧ ∀ r, r ≠ 0 → w.2 r = u.2 r
def PFA (N0 N : Nat) (x : Option (Int32 × SV × SV)) (y : Option (Int32 × SV)) (rf u : SV) (a0 : AS) : Prop :=
  (∃ dr' b u', x = some (nI N, dr', rf) ∧ RC dr' b ∧ WF b ∧ GB (N0 + N) b ∧ y = f_X13_keeps (nI N) u' ∧ RM (u'.2 0) b ∧ (∀ i, i ≠ 15 → u'.1 i = u.1 i) ∧ ∀ r, r ≠ 0 → u'.2 r = u.2 r) ∨
  (∃ dr' rf' u', x = some (-3, dr', rf') ∧ y = some (-3, u') ∧ RFR rf' u' ∧ MFY u' u ∧ RM (u'.2 0) a0)
theorem x_cover (x y : Int32) (rf : SV) : f_X11_cover x y rf = some (-3, pF (pF (pF (pF rf 2 (rf.1 0)) 3 (rf.1 1)) 0 x) 1 y) := rfl
/-- the model's end of a refused read -/
theorem m_no {w : SV} {a0 : AS} (M1 : RM (w.2 1) a0) (W0 : WF a0) (x : Int32) : ∃ z, f_X13_copies 0 0 240 (w.2 1) 240 (w.2 0) = some z ∧ RM z a0 := by
  obtain ⟨z, e, k⟩ := m_copies (s := 0) (t := 0) (n0 := 240) (n1 := 240) (by omega) (by omega) (by omega) (by omega) (w.2 1) (w.2 0)
  refine ⟨z, e, rm_eq (fun i hi => ?_) M1 W0⟩
  rw [k i, if_pos (by omega)]
  exact congrArg (w.2 1) (by omega)
theorem q_performs {N0 N : Nat} {re mn : SV} {a0 : AS} (h20 : N ≤ 20) (hN : N0 + 20 < 1000000) (W0 : WF a0) (hre : re.1 2 = nI N) : ∀ (m i n1 n2 : Nat) (dr rf u : SV) (a : AS), i + m = N → m < n1 → m < n2 → RC dr a → WF a → GB (N0 + i) a → RM (u.2 0) a → RM (u.2 1) a0 → EN N re u → u.1 13 = nI N → PFA N0 N (lz3 (f_X12_performAll_B2 re mn) n1 (nI i) dr rf) (lz2 f_X13_read_B28 n2 (nI i) u) rf u a0 := by
  intro m
  induction m with
  | zero =>
    intro i n1 n2 dr rf u a hi h1 h2 R W G M M1 E h13
    have e : i = N := by omega
    subst e
    rcases n1 with _ | n1
    · omega
    rcases n2 with _ | n2
    · omega
    refine Or.inl ⟨dr, a, u, ?_, R, W, G, ?_, M, fun _ _ => rfl, fun _ _ => rfl⟩
    · show f_X12_performAll_B2 re mn (lz3 _ n1) (nI i) dr rf = _
      unfold f_X12_performAll_B2
      rw [hre, if_pos (nI_le (Nat.le_refl _) (by omega))]
      unfold f_X12_performAll_K2
      rw [hre]
    · show f_X13_read_B28 (lz2 _ n2) (nI i) u = _
      unfold f_X13_read_B28
      rw [h13, if_pos (nI_le (Nat.le_refl _) (by omega))]
      unfold f_X13_read_K28
      rw [h13]
      cases f_X13_keeps (nI i) u with
      | none => rfl
      | some t => rfl
  | succ m ih =>
    intro i n1 n2 dr rf u a hi h1 h2 R W G M M1 E h13
    rcases n1 with _ | n1
    · omega
    rcases n2 with _ | n2
    · omega
    have hiN : i < N := by omega
    obtain ⟨k, c0, c1, c2, k8, Ec, Em⟩ := E i hiN
    have P := q_pst (N := N0 + i) (mn := mn) (by omega) (by omega) k8 Ec Em M R W G
    show PFA N0 N (f_X12_performAll_B2 re mn (lz3 (f_X12_performAll_B2 re mn) n1) (nI i) dr rf) (f_X13_read_B28 (lz2 f_X13_read_B28 n2) (nI i) u) rf u a0
    generalize hs1 : lz3 (f_X12_performAll_B2 re mn) n1 = S1
    generalize hs2 : lz2 f_X13_read_B28 n2 = S2
    unfold f_X12_performAll_B2 f_X13_read_B28
    rw [hre, h13, if_neg (nI_ge hiN (by omega)), if_neg (nI_ge hiN (by omega))]
    rcases P with ⟨r, w', b, u', a1, a2, a3, a4, a5, a6, a7, a8, a9⟩ | ⟨y, n, a1, a2, a3⟩ | ⟨e, a1, a2, a3, a4⟩
    · have a2' := a2 rf
      have nr : ¬ r = -3 := fun h => a1 (by rw [h]; decide)
      have pr : 0 ≤ r := Int32.not_lt.mp a1
      rw [show f_X12_perform (nI i) mn dr re rf = some (r, w', rf) from a2', bd3_s, if_neg nr, if_pos pr, a6, bd2_s, if_pos rfl, nI_1]
      have E' : EN N re u' := by
        intro x hx
        obtain ⟨k, d0, d1, d2, k8, Ec, Em⟩ := E x hx
        refine ⟨k, d0, d1, d2, k8, Ec, ?_⟩
        unfold MEC at *
        rw [a9 9 (by decide), a9 10 (by decide)]; exact Em
      have H := ih (i + 1) n1 n2 w' rf u' b (by omega) (by omega) (by omega) a3 a4 (by rw [← Nat.add_assoc]; exact a5) a7 (by rw [a9 1 (by decide)]; exact M1) E' ((a8 13 (by decide)).trans h13)
      rw [hs1, hs2] at H
      rcases H with ⟨dr', b', u'', g1, g2, g3, g4, g5, g6, g7, g8⟩ | ⟨dr', rf', u'', g1, g2, g3, g4, g5⟩
      · exact Or.inl ⟨dr', b', u'', g1, g2, g3, g4, g5, g6, fun x hx => (g7 x hx).trans (a8 x hx), fun x hx => (g8 x hx).trans (a9 x hx)⟩
      · refine Or.inr ⟨dr', rf', u'', g1, g2, g3, ⟨?_, ?_, ?_, ?_, ?_, fun r hr => (g4.2.2.2.2.2 r hr).trans (a9 r hr)⟩, g5⟩
        · exact g4.1.trans (a8 0 (by decide))
        · exact g4.2.1.trans (a8 7 (by decide))
        · exact g4.2.2.1.trans (a8 8 (by decide))
        · exact g4.2.2.2.1.trans (a8 9 (by decide))
        · exact g4.2.2.2.2.1.trans (a8 10 (by decide))
    · have a2' := a2 rf
      obtain ⟨z, z1, z2⟩ := m_no (w := pF (pF (pF u 15 0) 1 y) 2 n) M1 W0 0
      have e15 : (pR (pF (pF (pF u 15 0) 1 y) 2 n) 0 z).1 15 = 0 := rfl
      have e1 : (pR (pF (pF (pF u 15 0) 1 y) 2 n) 0 z).1 1 = y := rfl
      rw [show f_X12_perform (nI i) mn dr re rf = some (-3, dr, ntS y n rf) from a2', bd3_s, if_pos rfl, x_cover, bd2_s, a3, bd2_s, if_neg n10, z1, bd1_s, nm_s, e15, if_pos rfl, e1]
      refine Or.inr ⟨_, _, pF (pF (pF (pF (pR (pF (pF (pF u 15 0) 1 y) 2 n) 0 z) 5 y) 6 n) 3 10) 4 (nI i), rfl, ?_, ⟨Or.inr ⟨?_, rfl, rfl⟩, Or.inr ⟨a1, rfl, rfl⟩⟩, ⟨rfl, rfl, rfl, rfl, rfl, fun r hr => ?_⟩, z2⟩
      · unfold f_X13_read_J76
        rw [nm_s, nm_s, nm_s, nm_s, show (pF (pF (pR (pF (pF (pF u 15 0) 1 y) 2 n) 0 z) 5 y) 6 ((pF (pR (pF (pF (pF u 15 0) 1 y) 2 n) 0 z) 5 y).1 2)).1 15 = 0 from rfl, if_pos rfl]; rfl
      · show ¬ (10 : Int32) = 0
        decide
      · show (if r = 0 then z else u.2 r) = u.2 r
        rw [if_neg hr]
    · have a3' := a3 rf
      have M1' : RM ((pF u 15 1).2 1) a0 := M1
      obtain ⟨z, z1, z2⟩ := m_no (w := pF u 15 1) M1' W0 0
      have e15 : (pR (pF u 15 1) 0 z).1 15 = 1 := rfl
      have pe : ¬ 0 ≤ e := Int32.not_le.mpr a1
      rw [show f_X12_perform (nI i) mn dr re rf = some (e, dr, rf) from a3', bd3_s, if_neg a2, if_neg pe, x_note, bd2_s, a4, bd2_s, if_neg n10, z1, bd1_s, nm_s, e15, if_neg n10]
      refine Or.inr ⟨_, _, pF (pF (pF (pF (pR (pF u 15 1) 0 z) 5 0) 6 (u.1 2)) 3 11) 4 (nI i), rfl, ?_, ⟨Or.inr ⟨?_, rfl, rfl⟩, Or.inl ⟨rfl, rfl, rfl⟩⟩, ⟨rfl, rfl, rfl, rfl, rfl, fun r hr => ?_⟩, z2⟩
      · unfold f_X13_read_J76
        rw [nm_s, nm_s, nm_s, nm_s, show (pF (pF (pR (pF u 15 1) 0 z) 5 0) 6 ((pF (pR (pF u 15 1) 0 z) 5 0).1 2)).1 15 = 1 from rfl, if_neg n10]; rfl
      · show ¬ (11 : Int32) = 0
        decide
      · show (if r = 0 then z else u.2 r) = u.2 r
        rw [if_neg hr]
theorem TXC_of {f g : Nat → Int32} {L : Nat} (hL : L ≤ 60) (h : ∀ i, i < L → ∃ c, 32 ≤ c ∧ c ≤ 126 ∧ f i = nI c ∧ g i = nI c) : ∃ T, TXC T L f ∧ TXC T L g := by
  refine ⟨fun i => (f i).toNatClampNeg, ⟨hL, fun i hi => ?_⟩, hL, fun i hi => ?_⟩
  · obtain ⟨c, a1, a2, a3, a4⟩ := h i hi
    have e : (f i).toNatClampNeg = c := by rw [a3, nI_cl (by omega)]
    show 32 ≤ (f i).toNatClampNeg ∧ (f i).toNatClampNeg ≤ 126 ∧ f i = nI ((f i).toNatClampNeg)
    rw [e]; exact ⟨a1, a2, a3⟩
  · obtain ⟨c, a1, a2, a3, a4⟩ := h i hi
    have e : (f i).toNatClampNeg = c := by rw [a3, nI_cl (by omega)]
    show 32 ≤ (f i).toNatClampNeg ∧ (f i).toNatClampNeg ≤ 126 ∧ g i = nI ((f i).toNatClampNeg)
    rw [e]; exact ⟨a1, a2, a4⟩
theorem p_read {N : Nat} (hN : N < 900000) : P_read (IV N) (IV (N + 20)) := by
  intro mn ho dr sa hi hh re rf pa od sb v h _
  obtain ⟨⟨a, R, M, W, Ga⟩, h2, ⟨hs, h3, h3'⟩, h4, h5, ⟨L, l1, l2, l3, l4⟩, h7⟩ := id h
  obtain ⟨T, hr, hv⟩ := TXC_of l1 l4
  obtain ⟨u, b1, b2, b3, b4⟩ := m_begins M W
  have hu : TXC T L (u.2 8) := by rw [b4.2 8 (by decide)]; exact hv
  have hu10 : u.1 10 = nI L := by rw [b4.1]; exact l3
  obtain ⟨ok, q, re', u', d1, d2, d3, d4, d5, d6, d7, d8, d9, d10⟩ := q_understand hr l2 hu hu10
  have F : ∀ i, i ≠ 10 → i ≠ 11 → i ≠ 12 → i ≠ 13 → i ≠ 14 → u'.1 i = v.1 i := fun i g1 g2 g3 g4 g5 => by rw [d7 i g1 g2 g3 g4 g5, b4.1]
  have Rw : ∀ r, r ≠ 1 → r ≠ 9 → r ≠ 10 → u'.2 r = v.2 r := fun r g1 g2 g3 => by rw [d9 r g2 g3, b4.2 r g1]
  have M0 : RM (u'.2 0) a := by rw [d9 0 (by decide) (by decide)]; exact b3
  have M1 : RM (u'.2 1) a := by rw [d9 1 (by decide) (by decide)]; exact b2
  have re0 : ∀ w : SV, w.1 10 = 0 → RER (pF re' 0 0) w := fun w hw => ⟨0, Nat.zero_le _, nI_0.symm, hw.trans nI_0.symm, fun i hi => absurd hi (Nat.not_lt_zero _)⟩
  have o0 : OTH u' (pF v 10 0) := ⟨F 7 (by decide) (by decide) (by decide) (by decide) (by decide), F 8 (by decide) (by decide) (by decide) (by decide) (by decide), F 9 (by decide) (by decide) (by decide) (by decide) (by decide), d8, Rw 3 (by decide) (by decide) (by decide), Rw 7 (by decide) (by decide) (by decide), Rw 8 (by decide) (by decide) (by decide)⟩
  by_cases o : ok = true
  · subst o
    obtain ⟨Nc, n20, n1, n2, EN1⟩ := d10 rfl
    obtain ⟨w, e, Rww⟩ := x_take R W dr
    have fuel : Nc < FU := by unfold FU; omega
    have P := q_performs (N0 := N) (N := Nc) (re := pF re' 0 0) (mn := mn) n20 (by omega) W n1 Nc 0 FU FU w rf u' a (by omega) fuel fuel Rww W Ga M0 M1 EN1 n2
    rw [nI_0] at P
    have X : f_X12_read mn ho dr hi re rf hh = bd3 (lz3 (f_X12_performAll_B2 (pF re' 0 0) mn) FU 0 w rf) fun r_5 w_6 w_7 => bd4 (f_X12_settle r_5 mn ho w_6 hi hh) fun r_8 w_9 w_10 w_11 => some (r_8, mn, w_9, w_6, w_10, pF re' 0 0, w_7, w_11) := by
      unfold f_X12_read
      rw [d1, bd2_s, show f_X10_emptyInput re' = some (pF re' 0 0) from rfl, bd1_s, if_neg (show ¬ b2i true = 0 from n10), e, bd1_s]; rfl
    have Y : f_X13_read v = lz2 f_X13_read_B28 FU 0 u' := by
      unfold f_X13_read
      rw [b1, bd1_s, d2, bd1_s, d5, if_pos (show b2i (!true) = 0 from rfl)]
    have hb : IV (N + 19) mn ho dr sa hi hh (pF re' 0 0) rf pa od sb (pF v 10 0) := by
      obtain ⟨k1, k2, k3, k4, k5, k6, k7⟩ := IV_le h (show N ≤ N + 19 by omega)
      exact ⟨k1, k2, k3, k4, k5, re0 _ rfl, k7⟩
    rw [X, Y]
    rcases P with ⟨dr', b, u'', p1, p2, p3, p4, p5, p6, p7, p8⟩ | ⟨dr', rf', u'', p1, p2, p3, p4, p5⟩
    · have oo : OTH u'' u' := ⟨p7 7 (by decide), p7 8 (by decide), p7 9 (by decide), p7 10 (by decide), p8 3 (by decide), p8 7 (by decide), p8 8 (by decide)⟩
      obtain ⟨ho', hi', hh', v', k1, k2, k3⟩ := q_settle (u1 := u') (u2 := u'') hb R W (GB_le Ga (by omega)) p2 p3 (GB_le p4 (by omega)) (by rw [p8 1 (by decide)]; exact M1) p6 ((p7 0 (by decide)).trans (F 0 (by decide) (by decide) (by decide) (by decide) (by decide))) ((p8 4 (by decide)).trans (Rw 4 (by decide) (by decide) (by decide))) (OTH_tr oo o0) rf (by unfold RFR at *; rw [p7 3 (by decide), p7 4 (by decide), p7 5 (by decide), p7 6 (by decide), F 3 (by decide) (by decide) (by decide) (by decide) (by decide), F 4 (by decide) (by decide) (by decide) (by decide) (by decide), F 5 (by decide) (by decide) (by decide) (by decide) (by decide), F 6 (by decide) (by decide) (by decide) (by decide) (by decide)]; exact h5) (nI_pos (n := Nc) (by omega)) (pF re' 0 0) (re0 u'' ((p7 10 (by decide)).trans d8))
      refine ⟨nI Nc, mn, ho', dr', hi', pF re' 0 0, rf, hh', v', ?_, ?_, k3⟩
      · rw [p1, bd3_s, k1, bd4_s]
      · rw [p5, k2]
    · refine ⟨-3, mn, ho, dr', hi, pF re' 0 0, rf', hh, u'', ?_, p2, ?_⟩
      · rw [p1, bd3_s]; rfl
      · have q1 : u''.1 0 = v.1 0 := p4.1.trans (F 0 (by decide) (by decide) (by decide) (by decide) (by decide))
        have oo : OTH u'' (pF v 10 0) := ⟨p4.2.1.trans o0.1, p4.2.2.1.trans o0.2.1, p4.2.2.2.1.trans o0.2.2.1, p4.2.2.2.2.1.trans o0.2.2.2.1, (p4.2.2.2.2.2 3 (by decide)).trans o0.2.2.2.2.1, (p4.2.2.2.2.2 7 (by decide)).trans o0.2.2.2.2.2.1, (p4.2.2.2.2.2 8 (by decide)).trans o0.2.2.2.2.2.2⟩
        have q4 : u''.2 4 = v.2 4 := (p4.2.2.2.2.2 4 (by decide)).trans (Rw 4 (by decide) (by decide) (by decide))
        obtain ⟨k1, k2, ⟨hs', k3, k3'⟩, k4, k5, k6, k7⟩ := IV_up hb
        exact ⟨⟨a, R, p5, W, GB_le Ga (by omega)⟩, SAR_o k2 oo, ⟨hs', HSR_eq (u := u'') (v := pF v 10 0) k3 q1 q4, k3'⟩, FAR_o k4 oo, p3, re0 u'' (p4.2.2.2.2.1.trans d8), SBR_o k7 oo⟩
  · have of : ok = false := by simpa using o
    subst of
    refine ⟨-2, pF mn 1 (nI q), ho, dr, hi, pF re' 0 0, rf, hh, pF u' 7 (nI q), ?_, ?_, ?_⟩
    · unfold f_X12_read
      rw [d1, bd2_s, show f_X10_emptyInput re' = some (pF re' 0 0) from rfl, bd1_s, if_pos (show b2i false = 0 from rfl), show (pF re' 0 0).1 1 = nI q from d3, nm_s]
    · unfold f_X13_read
      rw [b1, bd1_s, d2, bd1_s, d5, if_neg (show ¬ b2i (!false) = 0 from n10), d4, nm_s]
    · have q0 : (pF u' 7 (nI q)).1 0 = v.1 0 := F 0 (by decide) (by decide) (by decide) (by decide) (by decide)
      have q4 : (pF u' 7 (nI q)).2 4 = v.2 4 := Rw 4 (by decide) (by decide) (by decide)
      obtain ⟨k1, k2, ⟨hs', k3, k3'⟩, k4, k5, k6, k7⟩ := IV_le h (show N ≤ N + 20 by omega)
      refine ⟨⟨a, R, M0, W, GB_le Ga (by omega)⟩, ?_, ⟨hs', HSR_eq (u := pF u' 7 (nI q)) (v := v) k3 q0 q4, k3'⟩, Or.inr ⟨q, d6, rfl, rfl⟩, ?_, re0 _ d8, ?_⟩
      · have s8 : (pF u' 7 (nI q)).1 8 = v.1 8 := F 8 (by decide) (by decide) (by decide) (by decide) (by decide)
        have s3 : (pF u' 7 (nI q)).2 3 = v.2 3 := Rw 3 (by decide) (by decide) (by decide)
        unfold SAR at *
        rw [s8, s3]; exact k2
      · have f3 : (pF u' 7 (nI q)).1 3 = v.1 3 := F 3 (by decide) (by decide) (by decide) (by decide) (by decide)
        have f4 : (pF u' 7 (nI q)).1 4 = v.1 4 := F 4 (by decide) (by decide) (by decide) (by decide) (by decide)
        have f5 : (pF u' 7 (nI q)).1 5 = v.1 5 := F 5 (by decide) (by decide) (by decide) (by decide) (by decide)
        have f6 : (pF u' 7 (nI q)).1 6 = v.1 6 := F 6 (by decide) (by decide) (by decide) (by decide) (by decide)
        unfold RFR at *
        rw [f3, f4, f5, f6]; exact h5
      · have f9 : (pF u' 7 (nI q)).1 9 = v.1 9 := F 9 (by decide) (by decide) (by decide) (by decide) (by decide)
        have f7 : (pF u' 7 (nI q)).2 7 = v.2 7 := Rw 7 (by decide) (by decide) (by decide)
        unfold SBR at *
        rw [f9, f7]; exact h7
