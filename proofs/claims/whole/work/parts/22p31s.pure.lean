/-! PURE: read: the whole text, on both sides. -/
theorem q_command {T : Nat → Nat} {L p j : Nat} {re u : SV} (C : RDC T L p re) (D : RDM T L p u) (hp : p ≤ L) (hj : j < 20) (h13 : u.1 13 = nI j) (h14 : u.1 14 = 0) : ∃ ok q w u', f_X10_readCommand (nI j) re = some (b2i ok, w) ∧ f_X13_command u = some u' ∧ RST j w re ∧ MF j u' u ∧ w.1 1 = nI q ∧ u'.1 12 = nI q ∧ u'.1 14 = b2i (!ok) ∧ q ≤ L ∧ (ok = true → p + 3 ≤ q ∧ u'.1 13 = nI (j + 1) ∧ ∃ k n0 n1 n2, k < 8 ∧ CEC j k n0 n1 n2 w ∧ MEC j k n0 n1 n2 u') := by
  have hL := C.1.1
  rcases q_word C D hp h14 with ⟨l, a1, a2, a3⟩ | ⟨q, l, a1, a2, a3, a4, a5⟩ | ⟨q, l, a1, a2, a3, a4, a5⟩ | ⟨a1, a2, a3⟩
  · refine ⟨false, p + l, pF re 1 (nI (p + l)), uF u (p + l) 1, ?_, ?_, RST_F RST_0, MF_u, rfl, rfl, rfl, a1, fun h => by cases h⟩
    · unfold f_X10_readCommand
      rw [a2, bd2_s, if_neg (by decide)]; rfl
    · unfold f_X13_command
      rw [a3, bd2_s, if_neg (by decide), m_bw2 (uF_12 u (p + l) 1) rfl, bd2_s, m_J20w _ _ (uF_12 u (p + l) 1) rfl]
  · obtain ⟨w, e1, e2, e3, e4, e5⟩ := m_cmd D a2 a1 hj h13 a5
    have e : cmS T L q (p + l) = (false, 0, 0, 0, p + l) := by unfold cmS cm1; rw [bbS_nb a3]; rfl
    rw [e] at e2 e3
    refine ⟨false, p + l, pF re 1 (nI (p + l)), w, ?_, e1, RST_F RST_0, e4, rfl, e2, e3, a2, fun h => by cases h⟩
    unfold f_X10_readCommand
    rw [a4, bd2_s, if_neg (by decide)]; rfl
  · obtain ⟨w, e1, e2, e3, e4, e5⟩ := m_cmd D (Nat.le_of_lt a3.1) a1 hj h13 a5
    obtain ⟨w', k1, k2, k3, k4⟩ := x_cmd hj a1 (RDC_m C) a3 a4
    have hl := cmS_L (T := T) (q := q) (Nat.le_of_lt a3.1)
    exact ⟨(cmS T L q (p + l)).1, (cmS T L q (p + l)).2.2.2.2, w', w, k1, e1, k2, e4, k3, e2, e3, hl.2, fun h => ⟨by have := hl.1; omega, (e5 h).1, q, _, _, _, by omega, k4 h, (e5 h).2⟩⟩
  · obtain ⟨w, e1, e2, e3, e4, e5, e6⟩ := m_J81 (n0 := 0) (n1 := 0) (n2 := 0) (r := 7) (x := 0) (y := 0) (z := 0) qL7 nI_0.symm nI_0.symm nI_0.symm (uF_14 u (p + 3) 0) (show (uF u (p + 3) 0).1 13 = nI j from h13) hj (MF_u (j := j))
    refine ⟨true, p + 3, pA (pF re 1 (nI (p + 3))) 1 (nI j) 7, w, ?_, ?_, RST_A (RST_F RST_0) (by decide) hj, e5, rfl, e2, e3, a1, fun _ => ⟨Nat.le_refl _, e4, 7, 0, 0, 0, by decide, ⟨pA_self (by omega), fun h => absurd rfl h, fun h => by omega, fun h => by omega, fun h => by omega⟩, e6⟩⟩
    · have c7 : (7 : Int32).toNatClampNeg = 7 := rfl
      have d1 : cNum 7 ≤ 0 := by decide
      have d2 : cNum 7 ≤ 1 := by decide
      have d3 : cDig 7 = 0 := by decide
      have l7 : (0 : Int32) ≤ 7 := by decide
      have k7 : vp_in (7 : Int32) 8 := vp_in_nI (n := 7) (N := 8) (by decide) (by decide)
      unfold f_X10_readCommand
      rw [a2, bd2_s, if_pos l7, ckI_n hj (by omega), nm_s, ckI_l k7, c7, if_pos d1, if_pos d2, if_pos d3]; rfl
    · have l7 : (7 : Int32) ≤ 7 := by decide
      have l2 : (2 : Int32) ≤ 7 := by decide
      unfold f_X13_command
      rw [a3, bd2_s, if_pos l7]
      unfold f_X13_command_J20
      rw [if_pos l2]
      unfold f_X13_command_J37
      rw [if_neg (by decide), if_neg (by decide), if_neg (by decide), if_neg (by decide)]
      unfold f_X13_command_J64
      rw [if_neg (by decide), if_neg (by decide)]
      exact e1
/-- the commands that both sides hold -/
def EN (N : Nat) (re u : SV) : Prop := ∀ i, i < N → ∃ k n0 n1 n2, k < 8 ∧ CEC i k n0 n1 n2 re ∧ MEC i k n0 n1 n2 u
theorem EN_s {j : Nat} {re u w u' : SV} (E : EN j re u) (h1 : ∀ r i, i ≠ j → w.2 r i = re.2 r i) (h2 : MF j u' u) (h3 : ∃ k n0 n1 n2, k < 8 ∧ CEC j k n0 n1 n2 w ∧ MEC j k n0 n1 n2 u') : EN (j + 1) w u' := by
  intro i hi
  by_cases e : i = j
  · subst e; exact h3
  · obtain ⟨k, n0, n1, n2, k8, c, d⟩ := E i (by omega)
    refine ⟨k, n0, n1, n2, k8, ?_, ?_⟩
    · unfold CEC at *
      rw [h1 1 i e, h1 2 i e, h1 3 i e, h1 4 i e]; exact c
    · obtain ⟨g1, g2⟩ := h2.2.2 i e
      have g0 := g2 0 (by decide)
      rw [Nat.add_zero] at g0
      unfold MEC at *
      rw [g1, g0, g2 1 (by decide), g2 2 (by decide)]; exact d
def mG (n : Nat) (u : SV) : Option SV := bd1 (f_X13_command u) fun w => lz1 f_X13_reads_B32 n w
/-- what reading leaves of the model -/
def MFX (w u : SV) : Prop := (∀ i, i ≠ 12 → i ≠ 13 → i ≠ 14 → w.1 i = u.1 i) ∧ ∀ r, r ≠ 9 → r ≠ 10 → w.2 r = u.2 r
theorem MFX_tr {w v u : SV} (h : MFX w v) (k : MFX v u) : MFX w u := ⟨fun i a b c => (h.1 i a b c).trans (k.1 i a b c), fun r a b => (h.2 r a b).trans (k.2 r a b)⟩
theorem MFX_14 (u : SV) (x : Int32) : MFX (pF u 14 x) u := ⟨fun i _ _ c => if_neg c, fun _ _ _ => rfl⟩
theorem MFX_12 (u : SV) (x : Int32) : MFX (pF u 12 x) u := ⟨fun i a _ _ => if_neg a, fun _ _ _ => rfl⟩
theorem q20 : (20 : Int32) = nI 20 := rfl
theorem q59 : (59 : Int32) = nI 59 := rfl
/-- the model's end -/
theorem m_K32w {u : SV} (n : Nat) (h14 : u.1 14 = 1) : lz1 f_X13_reads_B32 (n + 1) u = some (pF u 14 1) := by
  show f_X13_reads_B32 (lz1 f_X13_reads_B32 n) u = _
  have ne : ¬ (-1 : Int32) = 59 := by decide
  have o0 : (1 : Int32) ||| 0 = 1 := by decide
  have o1 : (1 : Int32) ||| 1 = 1 := by decide
  unfold f_X13_reads_B32
  rw [m_mark1 h14, bd1_s, if_neg ne]
  unfold f_X13_reads_K32
  rw [h14, o0, o1, ckB1, nm_s, ite_self]
theorem m_K32e {T : Nat → Nat} {L : Nat} {u : SV} (n : Nat) (D : RDM T L L u) (h14 : u.1 14 = 0) : lz1 f_X13_reads_B32 (n + 1) u = some (pF u 14 0) := by
  show f_X13_reads_B32 (lz1 f_X13_reads_B32 n) u = _
  have hL := D.1.1
  have ne : ¬ (-1 : Int32) = 59 := by decide
  have o0 : (0 : Int32) ||| 0 = 0 := by decide
  unfold f_X13_reads_B32
  rw [m_mark0 D (Nat.le_refl L) h14, if_neg (Nat.lt_irrefl L), bd1_s, if_neg ne]
  unfold f_X13_reads_K32
  rw [D.2.1, D.2.2, if_pos (nI_le (Nat.le_refl L) (by omega)), h14, o0, ckB0, nm_s]
theorem m_K32x {T : Nat → Nat} {L q : Nat} {u : SV} (n : Nat) (D : RDM T L q u) (hq : q < L) (h : T q ≠ 59) (h14 : u.1 14 = 0) : lz1 f_X13_reads_B32 (n + 1) u = some (pF u 14 1) := by
  show f_X13_reads_B32 (lz1 f_X13_reads_B32 n) u = _
  have hL := D.1.1
  have ht := D.1.2 q hq
  have o1 : (0 : Int32) ||| 1 = 1 := by decide
  unfold f_X13_reads_B32
  rw [m_mark0 D (Nat.le_of_lt hq) h14, if_pos hq, bd1_s, if_neg (show ¬ nI (T q) = 59 from fun e => h ((nI_eq (by omega) (by omega)).mp e))]
  unfold f_X13_reads_K32
  rw [D.2.1, D.2.2, if_neg (nI_ge hq (by omega)), h14, o1, ckB1, nm_s]
theorem m_K32s {T : Nat → Nat} {L q : Nat} {u : SV} (n : Nat) (D : RDM T L q u) (hq : q < L) (h : T q = 59) (h14 : u.1 14 = 0) : lz1 f_X13_reads_B32 (n + 1) u = mG n (pF u 12 (nI (q + 1))) := by
  show f_X13_reads_B32 (lz1 f_X13_reads_B32 n) u = _
  have hL := D.1.1
  unfold f_X13_reads_B32
  rw [m_mark0 D (Nat.le_of_lt hq) h14, if_pos hq, bd1_s, h, if_pos (show nI 59 = 59 from rfl), D.2.2, nI_1, nm_s]; rfl
theorem q_step {T : Nat → Nat} {L p j n1 n2 : Nat} {re0 u0 : SV} (C : RDC T L p re0) (D : RDM T L p u0) (hp : p ≤ L) (h4 : 4 * j ≤ p) (h13 : u0.1 13 = nI j) (h14 : u0.1 14 = 0) (hc : re0.1 2 = nI j) (E : EN j re0 u0) (ih : ∀ (p' : Nat) (re u : SV), p + 4 ≤ p' → p' ≤ L → RDC T L p' re → RDM T L p' u → 4 * (j + 1) ≤ p' → u.1 13 = nI (j + 1) → u.1 14 = 0 → re.1 2 = nI (j + 1) → EN (j + 1) re u → ∃ ok q re' u', lz2 f_X10_understandText_B12 n1 (nI (j + 1)) re = some (b2i ok, re') ∧ mG n2 u = some u' ∧ re'.1 1 = nI q ∧ u'.1 12 = nI q ∧ u'.1 14 = b2i (!ok) ∧ q ≤ L ∧ MFX u' u ∧ (ok = true → ∃ N, N ≤ 20 ∧ re'.1 2 = nI N ∧ u'.1 13 = nI N ∧ EN N re' u')) : ∃ ok q re' u', lz2 f_X10_understandText_B12 (n1 + 1) (nI j) re0 = some (b2i ok, re') ∧ mG (n2 + 1) u0 = some u' ∧ re'.1 1 = nI q ∧ u'.1 12 = nI q ∧ u'.1 14 = b2i (!ok) ∧ q ≤ L ∧ MFX u' u0 ∧ (ok = true → ∃ N, N ≤ 20 ∧ re'.1 2 = nI N ∧ u'.1 13 = nI N ∧ EN N re' u') := by
  have hL := C.1.1
  have hj : j < 20 := by omega
  obtain ⟨ok, q, w, u', a1, a2, a3, a4, a5, a6, a7, a8, a9⟩ := q_command C D hp hj h13 h14
  have X : lz2 f_X10_understandText_B12 (n1 + 1) (nI j) re0 = f_X10_understandText_B12 (lz2 f_X10_understandText_B12 n1) (nI j) re0 := rfl
  have Y : mG (n2 + 1) u0 = lz1 f_X13_reads_B32 (n2 + 1) u' := by unfold mG; rw [a2, bd1_s]
  have Xu : f_X10_understandText_B12 (lz2 f_X10_understandText_B12 n1) (nI j) re0 = if b2i ok = 0 then some (0, w) else if (nI q) = (nI L) then some (1, pF w 2 (nI (j + 1))) else bd2 (f_X10_passOver 59 (pF w 2 (nI (j + 1)))) fun r_15 w_16 => if r_15 = 0 then some (0, w_16) else lz2 f_X10_understandText_B12 n1 (nI j + 1) w_16 := by
    have z2 : w.1 2 + 1 = nI (j + 1) := by rw [a3.2.1, hc, nI_1]
    have z1 : (pF w 2 (nI (j + 1))).1 1 = nI q := a5
    have z0 : (pF w 2 (nI (j + 1))).1 0 = nI L := a3.1.trans C.2.1
    unfold f_X10_understandText_B12
    rw [q20, if_neg (nI_ge hj (by omega)), a1, bd2_s, z2, nm_s, z1, z0]
  have FX : MFX u' u0 := ⟨a4.1, a4.2.1⟩
  have T' : TXC T L (w.2 0) := by rw [a3.2.2.1]; exact C.1
  have Cq : RDC T L q (pF w 2 (nI (j + 1))) := ⟨T', a3.1.trans C.2.1, a5⟩
  have Dq : RDM T L q u' := ⟨by rw [a4.2.1 8 (by decide) (by decide)]; exact D.1, (a4.1 11 (by decide) (by decide) (by decide)).trans D.2.1, a6⟩
  rw [X, Y, Xu]
  by_cases o : ok = true
  · subst o
    obtain ⟨b1, b2, b3⟩ := a9 rfl
    have E1 : EN (j + 1) (pF w 2 (nI (j + 1))) u' := EN_s (w := pF w 2 (nI (j + 1))) E a3.2.2.2 a4 b3
    rw [if_neg (show ¬ b2i true = 0 from n10)]
    by_cases e : q = L
    · subst e
      rw [if_pos rfl, m_K32e n2 Dq a7]
      exact ⟨true, q, _, _, rfl, rfl, a5, a6, rfl, a8, MFX_tr (MFX_14 _ _) FX, fun _ => ⟨j + 1, by omega, rfl, b2, E1⟩⟩
    · have ql : q < L := by omega
      have xp := x_pass Cq a8 (c := 59) (by omega)
      rw [if_neg (show ¬ nI q = nI L from fun h => e ((nI_eq (by omega) (by omega)).mp h)), q59, xp]
      by_cases t : T q = 59
      · rw [if_pos ⟨ql, t⟩, bd2_s, if_neg n10, m_K32s n2 Dq ql t a7, nI_1]
        obtain ⟨ok', q', re', u'', c1, c2, c3, c4, c5, c6, c7, c8⟩ := ih (q + 1) (pF (pF w 2 (nI (j + 1))) 1 (nI (q + 1))) (pF u' 12 (nI (q + 1))) (by omega) ql (RDC_m Cq) ⟨Dq.1, Dq.2.1, rfl⟩ (by omega) b2 a7 rfl E1
        exact ⟨ok', q', re', u'', c1, c2, c3, c4, c5, c6, MFX_tr c7 (MFX_tr (MFX_12 _ _) FX), c8⟩
      · rw [if_neg (fun h => t h.2), bd2_s, if_pos rfl, m_K32x n2 Dq ql t a7]
        exact ⟨false, q, _, _, rfl, rfl, a5, a6, rfl, a8, MFX_tr (MFX_14 _ _) FX, fun h => by cases h⟩
  · have of : ok = false := by simpa using o
    subst of
    rw [if_pos (show b2i false = 0 from rfl), m_K32w n2 a7]
    exact ⟨false, q, _, _, rfl, rfl, a5, a6, rfl, a8, MFX_tr (MFX_14 _ _) FX, fun h => by cases h⟩
theorem q_text {T : Nat → Nat} {L : Nat} : ∀ (m p j n1 n2 : Nat) (re u : SV), L - p ≤ m → m < n1 → m < n2 → RDC T L p re → RDM T L p u → p ≤ L → 4 * j ≤ p → u.1 13 = nI j → u.1 14 = 0 → re.1 2 = nI j → EN j re u → ∃ ok q re' u', lz2 f_X10_understandText_B12 n1 (nI j) re = some (b2i ok, re') ∧ mG n2 u = some u' ∧ re'.1 1 = nI q ∧ u'.1 12 = nI q ∧ u'.1 14 = b2i (!ok) ∧ q ≤ L ∧ MFX u' u ∧ (ok = true → ∃ N, N ≤ 20 ∧ re'.1 2 = nI N ∧ u'.1 13 = nI N ∧ EN N re' u') := by
  intro m
  induction m with
  | zero =>
    intro p j n1 n2 re u hm h1 h2 C D hp h4 h13 h14 hc E
    rcases n1 with _ | n1
    · omega
    rcases n2 with _ | n2
    · omega
    exact q_step C D hp h4 h13 h14 hc E (fun p' re u g1 g2 => by omega)
  | succ m ih =>
    intro p j n1 n2 re u hm h1 h2 C D hp h4 h13 h14 hc E
    rcases n1 with _ | n1
    · omega
    rcases n2 with _ | n2
    · omega
    exact q_step C D hp h4 h13 h14 hc E (fun p' re u g1 g2 k1 k2 k3 k4 k5 k6 k7 => ih p' (j + 1) n1 n2 re u (by omega) (by omega) (by omega) k1 k2 g2 k3 k4 k5 k6 k7)
/-- both sides read the text alike -/
theorem q_understand {T : Nat → Nat} {L : Nat} {re u : SV} (hr : TXC T L (re.2 0)) (h0 : re.1 0 = nI L) (hu : TXC T L (u.2 8)) (h10 : u.1 10 = nI L) : ∃ ok q re' u', f_X10_understandText re = some (b2i ok, re') ∧ f_X13_reads u = some u' ∧ re'.1 1 = nI q ∧ u'.1 12 = nI q ∧ u'.1 14 = b2i (!ok) ∧ q ≤ 60 ∧ (∀ i, i ≠ 10 → i ≠ 11 → i ≠ 12 → i ≠ 13 → i ≠ 14 → u'.1 i = u.1 i) ∧ u'.1 10 = 0 ∧ (∀ r, r ≠ 9 → r ≠ 10 → u'.2 r = u.2 r) ∧ (ok = true → ∃ N, N ≤ 20 ∧ re'.1 2 = nI N ∧ u'.1 13 = nI N ∧ EN N re' u') := by
  have hL := hr.1
  have f60 : 60 < FU := by unfold FU; omega
  obtain ⟨ok, q, re', u', c1, c2, c3, c4, c5, c6, c7, c8⟩ := q_text (T := T) (L := L) 60 0 0 FU FU (pF (pF re 1 0) 2 0) (pF (pF (pF (pF (pF u 11 (nI L)) 10 0) 12 0) 13 0) 14 0) (by omega) f60 f60 ⟨hr, h0, nI_0.symm⟩ ⟨hu, rfl, nI_0.symm⟩ (Nat.zero_le _) (Nat.zero_le _) nI_0.symm rfl nI_0.symm (fun i hi => absurd hi (Nat.not_lt_zero _))
  refine ⟨ok, q, re', u', ?_, ?_, c3, c4, c5, by omega, fun i h1 h2 h3 h4 h5 => ?_, ?_, fun r h1 h2 => c7.2 r h1 h2, c8⟩
  · unfold f_X10_understandText
    rw [nm_s, nm_s, ← nI_0]
    rw [nI_0] at c1 ⊢
    exact c1
  · unfold f_X13_reads
    rw [h10, nm_s, nm_s, nm_s, nm_s, nm_s]
    exact c2
  · rw [c7.1 i h3 h4 h5]
    show (if i = 14 then _ else if i = 13 then _ else if i = 12 then _ else if i = 10 then _ else if i = 11 then _ else u.1 i) = _
    rw [if_neg h5, if_neg h4, if_neg h3, if_neg h1, if_neg h2]
  · exact c7.1 10 (by decide) (by decide) (by decide)
