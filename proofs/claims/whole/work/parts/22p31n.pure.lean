/-! PURE: read: which word stands there; numbers. -/
theorem pF_1 (v : SV) (k j : Nat) (x : Int32) : (pF v k x).1 j = if j = k then x else v.1 j := rfl
theorem pF_2 (v : SV) (k : Nat) (x : Int32) : (pF v k x).2 = v.2 := rfl
theorem pF_pF (v : SV) (k : Nat) (x y : Int32) : pF (pF v k x) k y = pF v k y := by
  unfold pF
  refine Prod.ext ?_ rfl
  funext j
  show (if j = k then y else if j = k then x else v.1 j) = if j = k then y else v.1 j
  split <;> rfl
theorem pF_self {v : SV} {k : Nat} {x : Int32} (h : v.1 k = x) : pF v k x = v := by
  unfold pF
  refine Prod.ext ?_ rfl
  funext j
  show (if j = k then x else v.1 j) = v.1 j
  split
  · rename_i e; rw [e, h]
  · rfl
/-- the model's place and fault -/
def uF (u : SV) (q : Nat) (f : Int32) : SV := pF (pF u 12 (nI q)) 14 f
theorem uF_uF (u : SV) (q q' : Nat) (f f' : Int32) : uF (uF u q f) q' f' = uF u q' f' := by
  unfold uF pF
  refine Prod.ext ?_ rfl
  funext j
  show (if j = 14 then f' else if j = 12 then nI q' else if j = 14 then f else if j = 12 then nI q else u.1 j) = if j = 14 then f' else if j = 12 then nI q' else u.1 j
  by_cases a : j = 14
  · rw [if_pos a, if_pos a]
  · by_cases b : j = 12
    · rw [if_neg a, if_pos b, if_neg a, if_pos b]
    · rw [if_neg a, if_neg b, if_neg a, if_neg b, if_neg a, if_neg b]
theorem uF_self {u : SV} {q : Nat} {f : Int32} (h1 : u.1 12 = nI q) (h2 : u.1 14 = f) : uF u q f = u := by
  unfold uF; rw [pF_self h1, pF_self h2]
theorem uF_12 (u : SV) (q : Nat) (f : Int32) : (uF u q f).1 12 = nI q := rfl
theorem uF_14 (u : SV) (q : Nat) (f : Int32) : (uF u q f).1 14 = f := rfl
theorem uF_o (u : SV) (q : Nat) (f : Int32) {j : Nat} (h1 : j ≠ 12) (h2 : j ≠ 14) : (uF u q f).1 j = u.1 j := by
  show (if j = 14 then f else if j = 12 then nI q else u.1 j) = u.1 j
  rw [if_neg h2, if_neg h1]
theorem uF_2 (u : SV) (q : Nat) (f : Int32) : (uF u q f).2 = u.2 := rfl
/-- what both sides hold of the text, at place p -/
def RDC (T : Nat → Nat) (L p : Nat) (re : SV) : Prop := TXC T L (re.2 0) ∧ re.1 0 = nI L ∧ re.1 1 = nI p
def RDM (T : Nat → Nat) (L p : Nat) (u : SV) : Prop := TXC T L (u.2 8) ∧ u.1 11 = nI L ∧ u.1 12 = nI p
theorem RDC_m {T : Nat → Nat} {L p q : Nat} {re : SV} (h : RDC T L p re) : RDC T L q (pF re 1 (nI q)) := ⟨h.1, h.2.1, rfl⟩
theorem RDM_m {T : Nat → Nat} {L p q : Nat} {u : SV} {f : Int32} (h : RDM T L p u) : RDM T L q (uF u q f) := ⟨h.1, h.2.1, rfl⟩
theorem m_mark0 {T : Nat → Nat} {L p : Nat} {u : SV} (h : RDM T L p u) (hp : p ≤ L) (h14 : u.1 14 = 0) : f_X13_mark u = if p < L then some (nI (T p)) else some (-1) := by
  obtain ⟨⟨hL, hc⟩, h11, h12⟩ := h
  unfold f_X13_mark
  rw [h14, if_pos rfl, h11, h12]
  by_cases c : p < L
  · rw [if_neg (by rw [nI_leI (by omega) (by omega)]; omega), ckI_n (by omega) (by omega), nI_cl (by omega), (hc p c).2.2, if_pos c]
  · rw [if_pos (by rw [nI_leI (by omega) (by omega)]; omega), if_neg c]
theorem m_mark1 {u : SV} (h14 : u.1 14 = 1) : f_X13_mark u = some (-1) := by
  unfold f_X13_mark; rw [h14]; rfl
/-- a digit at p -/
abbrev DG (T : Nat → Nat) (L p : Nat) : Prop := p < L ∧ 48 ≤ T p ∧ T p ≤ 57
theorem m_dig0 {T : Nat → Nat} {L p : Nat} {u : SV} (h : RDM T L p u) (hp : p ≤ L) (h14 : u.1 14 = 0) : (DG T L p ∧ f_X13_isDigit u = some 1) ∨ (¬ DG T L p ∧ f_X13_isDigit u = some 0) := by
  have hm := m_mark0 h hp h14
  obtain ⟨⟨hL, hc⟩, h11, h12⟩ := h
  unfold DG f_X13_isDigit
  by_cases c : p < L
  · have := hc p c
    rw [if_pos c] at hm
    rw [hm, bd1_s]
    have e48 : (48 : Int32) = nI 48 := rfl
    have e57 : (57 : Int32) = nI 57 := rfl
    unfold f_X13_in
    rw [e48, e57]
    by_cases a : T p < 48
    · exact Or.inr ⟨by omega, by rw [if_pos (by rw [nI_ltI (by omega) (by omega)]; exact a)]; rfl⟩
    · rw [if_neg (by rw [nI_ltI (by omega) (by omega)]; exact a)]
      by_cases b : 57 < T p
      · exact Or.inr ⟨by omega, by rw [if_pos (by rw [nI_ltI (by omega) (by omega)]; exact b)]; rfl⟩
      · exact Or.inl ⟨by omega, by rw [if_neg (by rw [nI_ltI (by omega) (by omega)]; exact b)]; rfl⟩
  · rw [if_neg c] at hm
    exact Or.inr ⟨fun h => c h.1, by rw [hm]; rfl⟩
theorem m_dig1 {u : SV} (h14 : u.1 14 = 1) : f_X13_isDigit u = some 0 := by
  unfold f_X13_isDigit; rw [m_mark1 h14]; rfl
theorem x_wb3 : ∀ k, k < 8 → 3 ≤ (wb k).length := by decide +kernel
theorem q8n : Int32.ofNat 8 = nI 8 := rfl
/-- word q leads at p (8: none) -/
def LDW (T : Nat → Nat) (L p q e : Nat) : Prop := q ≤ 8 ∧ e ≤ 1 ∧ (q = 8 → e = 0) ∧ (q < 8 → e ≤ cp T L (wd q) p) ∧ ∀ k, k < 8 → k ≠ q → cp T L (wb k) p ≤ e ∧ cp T L (wd k) p ≤ e
theorem q_ld {T : Nat → Nat} {L : Nat} (p : Nat) : ∃ q e, LDW T L p q e := by
  rcases q_lead (T := T) (L := L) p with h | ⟨q, h1, h2, h3⟩
  · exact ⟨8, 0, Nat.le_refl 8, Nat.zero_le 1, fun _ => rfl, fun h => absurd h (by omega), fun k hk _ => ⟨Nat.le_of_eq (h k hk).1, Nat.le_of_eq (h k hk).2⟩⟩
  · exact ⟨q, 1, by omega, Nat.le_refl 1, fun h => by omega, fun _ => h2, h3⟩
theorem w_max {s a : Nat} {c : Int32} (hc : c = nI s) (hs : s < 1000) (ha : a < 1000) : (if c < nI a then nI a else c) = nI (max s a) := by
  subst hc
  simp (disch := omega) only [nI_ltI]
  split
  · rw [Nat.max_eq_right (by omega)]
  · rw [Nat.max_eq_left (by omega)]
theorem x_readWord {T : Nat → Nat} {L p q e : Nat} {re : SV} (C : RDC T L p re) (hp : p ≤ L) (H : LDW T L p q e) (hb : q < 8 → e ≤ cp T L (wb q) p) : f_X10_readWord re = some (if q < 8 ∧ cp T L (wb q) p = (wb q).length then nI q else -1, pF re 1 (nI (p + if q < 8 then cp T L (wb q) p else 0))) := by
  obtain ⟨hq, he, h8, _, ho⟩ := H
  obtain ⟨hT, h0, h1⟩ := C
  have hL := hT.1
  unfold f_X10_readWord
  refine lz3_inv0 (N := 8) (fun (k : Nat) (b c : Int32) => (k ≤ q → b = -1 ∧ ∃ s, s ≤ e ∧ c = nI s) ∧ (q < k → b = (if cp T L (wb q) p = (wb q).length then nI q else -1) ∧ c = nI (cp T L (wb q) p))) (fun (x : Option (Int32 × SV)) => x = some (if q < 8 ∧ cp T L (wb q) p = (wb q).length then nI q else -1, pF re 1 (nI (p + if q < 8 then cp T L (wb q) p else 0)))) ?_ ?_ (by omega) (-1) 0 ⟨fun _ => ⟨rfl, 0, Nat.zero_le _, rfl⟩, fun h => absurd h (Nat.not_lt_zero _)⟩
  · intro self k b c hk hI kk
    have wl := x_wbl k hk
    have ca := cp_le (T := T) (L := L) (wb k) p
    simp (disch := omega) only [f_X10_readWord_B6, q8n, nI_leI, ckI_n, nI_cl, x_alike hT h0 h1 hp hk, bd1_s, nm, x_len k hk, nI_1]
    rw [if_neg (show ¬ 8 ≤ k by omega)]
    simp (disch := omega) only [nI_eq]
    rcases Nat.lt_trichotomy k q with a | a | a
    · obtain ⟨e1, s, e2, e3⟩ := hI.1 (by omega)
      have := ho k hk (by omega)
      rw [if_neg (show ¬ cp T L (wb k) p = (wb k).length by have h4 := this.1; have h3 := x_wb3 k hk; omega), w_max e3 (by omega) (by omega)]
      exact kk _ _ ⟨fun _ => ⟨e1, _, by have := this.1; omega, rfl⟩, fun h => by omega⟩
    · subst a
      obtain ⟨e1, s, e2, e3⟩ := hI.1 (by omega)
      have h9 := hb hk
      rw [w_max e3 (by omega) (by omega), Nat.max_eq_right (by omega)]
      by_cases f : cp T L (wb k) p = (wb k).length
      · rw [if_pos f]; exact kk _ _ ⟨fun h => by omega, fun _ => ⟨by rw [if_pos f], rfl⟩⟩
      · rw [if_neg f]; exact kk _ _ ⟨fun h => by omega, fun _ => ⟨by rw [if_neg f]; exact e1, rfl⟩⟩
    · obtain ⟨e1, e3⟩ := hI.2 a
      have := ho k hk (by omega)
      have h9 := hb (by omega)
      have cq := cp_le (T := T) (L := L) (wb q) p
      have wq := x_wbl q (by omega)
      rw [if_neg (show ¬ cp T L (wb k) p = (wb k).length by have h4 := this.1; have h3 := x_wb3 k hk; omega), w_max e3 (by omega) (by omega), Nat.max_eq_left (by omega)]
      exact kk _ _ ⟨fun h => by omega, fun _ => ⟨e1, rfl⟩⟩
  · intro self b c hI
    simp (disch := omega) only [f_X10_readWord_B6, q8n, nI_leI, f_X10_readWord_K6, nm, h1]
    rw [if_pos (Nat.le_refl 8)]
    rcases Nat.lt_or_ge q 8 with a | a
    · obtain ⟨e1, e3⟩ := hI.2 a
      rw [e1, e3, nI_add, if_pos a]
      simp only [a, true_and]
    · obtain ⟨e1, s, e2, e3⟩ := hI.1 (by omega)
      have hs : s = 0 := by have := h8 (by omega); omega
      rw [e1, e3, hs, nI_add, if_neg (show ¬ (q < 8 ∧ cp T L (wb q) p = (wb q).length) by omega), if_neg (show ¬ q < 8 by omega)]
theorem m_ksH {T : Nat → Nat} {L p k : Nat} {u : SV} (D : RDM T L p u) (hp : p ≤ L) (hk : k < 8) (x13 : Int32) (self : Int32 → Int32 → Option (Int32 × SV)) : ∀ (m : List Nat) (i n : Nat), (wd k).drop i = m → i ≤ (wd k).length → m.length < n → lz1 (f_X13_kindHere_B12 (nI k) u x13 self) n (nI i) = f_X13_kindHere_K12 (nI k) u x13 self (nI (i + cp T L m (p + i))) := by
  obtain ⟨⟨hL, hc⟩, h11, h12⟩ := D
  obtain ⟨w1, w2, w3⟩ := x_wbl k hk
  intro m
  induction m with
  | nil =>
    intro i n hd hi hn
    have hl := List.drop_eq_nil_iff.mp hd
    cases n with
    | zero => omega
    | succ n =>
      show f_X13_kindHere_B12 (nI k) u x13 self _ (nI i) = f_X13_kindHere_K12 (nI k) u x13 self (nI (i + 0))
      have hg : (wd k).getD i 0 = 0 := by rw [List.getD_eq_getElem?_getD, List.getElem?_eq_none hl]; rfl
      have hl0 : f_X13_letter (nI k) (nI i) = some 0 := by rw [m_let0 k hk i (by omega), hg, nI_0]
      have le0 : (0 : Int32) ≤ 0 := by decide
      unfold f_X13_kindHere_B12
      rw [hl0, bd1_s, if_pos le0, Nat.add_zero]
  | cons c m ih =>
    intro i n hd hi hn
    obtain ⟨g1, g2, g3⟩ := drop_at hd
    cases n with
    | zero => omega
    | succ n =>
      have hg : (wd k).getD i 0 = c := by rw [List.getD_eq_getElem?_getD, g1]; rfl
      have hcl := m_let1 k hk i g2
      rw [hg] at hcl
      show f_X13_kindHere_B12 (nI k) u x13 self _ (nI i) = f_X13_kindHere_K12 (nI k) u x13 self (nI (i + (if p + i < L ∧ T (p + i) = c then cp T L m (p + i + 1) + 1 else 0)))
      simp (disch := omega) only [f_X13_kindHere_B12, m_let0 k hk i (by omega), hg, bd1_s, h11, h12, nI_add, nI_leI, nI_1]
      rw [if_neg (nI_nle hcl.1 (by omega))]
      by_cases q : p + i < L
      · obtain ⟨c1, c2, c3⟩ := hc (p + i) q
        rw [if_neg (by omega), ckI_n (by omega) (by omega), nI_cl (by omega), c3]
        by_cases e : T (p + i) = c
        · rw [if_pos (by rw [e]), if_pos ⟨q, e⟩, ih (i + 1) n g3 (by omega) (by simpa using hn), show p + (i + 1) = p + i + 1 by omega, show i + 1 + cp T L m (p + i + 1) = i + (cp T L m (p + i + 1) + 1) by omega]
        · rw [if_neg (by rw [nI_eq (by omega) (by omega)]; exact e), if_neg (fun h => e h.2), Nat.add_zero]
      · rw [if_pos (by omega), if_neg (fun h => q h.1), Nat.add_zero]
theorem m_kstep {T : Nat → Nat} {L p k : Nat} {u : SV} (D : RDM T L p u) (hp : p ≤ L) (hk : k < 8) (x13 : Int32) (self : Int32 → Int32 → Option (Int32 × SV)) : lz1 (f_X13_kindHere_B12 (nI k) u x13 self) FU 0 = if cp T L (wd k) p = (wd k).length then some (nI k, pF u 12 (nI (p + cp T L (wd k) p))) else if nI (cp T L (wd k) p) ≤ x13 then self (nI (k + 1)) x13 else self (nI (k + 1)) (nI (cp T L (wd k) p)) := by
  have h12 := D.2.2
  obtain ⟨w1, w2, w3⟩ := x_wbl k hk
  have h600 : (wd k).length < FU := by unfold FU; omega
  have hd0 : (wd k).drop 0 = wd k := rfl
  have hz := m_ksH D hp hk x13 self (wd k) 0 FU hd0 (Nat.zero_le _) h600
  rw [nI_0, Nat.zero_add, Nat.add_zero] at hz
  refine hz.trans ?_
  have ca := cp_le (T := T) (L := L) (wd k) p
  simp (disch := omega) only [f_X13_kindHere_K12, m_let0 k hk (cp T L (wd k) p) (by omega), bd1_s, h12, nI_add, nm, nI_1]
  by_cases f : cp T L (wd k) p = (wd k).length
  · rw [if_pos f, if_pos]
    rw [f, List.getD_eq_getElem?_getD, List.getElem?_eq_none (Nat.le_refl _)]
    exact nI_0
  · have := m_let1 k hk (cp T L (wd k) p) (by omega)
    rw [if_neg f, if_neg (nI_ne0 this.1 (by omega))]
theorem m_kindHere {T : Nat → Nat} {L p q e : Nat} {u : SV} (D : RDM T L p u) (hp : p ≤ L) (H : LDW T L p q e) : f_X13_kindHere u = if q < 8 ∧ cp T L (wd q) p = (wd q).length then some (nI q, pF u 12 (nI (p + cp T L (wd q) p))) else some (0, uF u (p + if q < 8 then cp T L (wd q) p else 0) 1) := by
  obtain ⟨hq, he, h8, hb, ho⟩ := H
  have hL := D.1.1
  have h12 := D.2.2
  unfold f_X13_kindHere
  refine lz2_inv0 (N := 8) (fun (k : Nat) (c : Int32) => (k ≤ q → ∃ s, s ≤ e ∧ c = nI s) ∧ (q < k → cp T L (wd q) p ≠ (wd q).length ∧ c = nI (cp T L (wd q) p))) (fun (x : Option (Int32 × SV)) => x = if q < 8 ∧ cp T L (wd q) p = (wd q).length then some (nI q, pF u 12 (nI (p + cp T L (wd q) p))) else some (0, uF u (p + if q < 8 then cp T L (wd q) p else 0) 1)) ?_ ?_ (by omega) 0 ⟨fun _ => ⟨0, Nat.zero_le _, rfl⟩, fun h => absurd h (Nat.not_lt_zero _)⟩
  · intro self k c hk hI kk
    have wl := x_wbl k hk
    have ca := cp_le (T := T) (L := L) (wd k) p
    simp (disch := omega) only [f_X13_kindHere_B4, qL8, nI_leI]
    rw [if_neg (show ¬ 8 ≤ k by omega), m_kstep D hp hk]
    have mx : ∀ s, s < 1000 → c = nI s → (if nI (cp T L (wd k) p) ≤ c then self (nI (k + 1)) c else self (nI (k + 1)) (nI (cp T L (wd k) p))) = self (nI (k + 1)) (nI (max s (cp T L (wd k) p))) := by
      intro s hs hc
      subst hc
      simp (disch := omega) only [nI_leI]
      split
      · rw [Nat.max_eq_left (by omega)]
      · rw [Nat.max_eq_right (by omega)]
    rcases Nat.lt_trichotomy k q with a | a | a
    · obtain ⟨s, e2, e3⟩ := hI.1 (by omega)
      have := ho k hk (by omega)
      rw [if_neg (show ¬ cp T L (wd k) p = (wd k).length by omega), mx s (by omega) e3]
      exact kk _ ⟨fun _ => ⟨_, by omega, rfl⟩, fun h => by omega⟩
    · subst a
      obtain ⟨s, e2, e3⟩ := hI.1 (by omega)
      have h9 := hb hk
      by_cases f : cp T L (wd k) p = (wd k).length
      · rw [if_pos f, if_pos ⟨hk, f⟩]
      · rw [if_neg f, mx s (by omega) e3, Nat.max_eq_right (by omega)]
        exact kk _ ⟨fun h => by omega, fun _ => ⟨f, rfl⟩⟩
    · obtain ⟨e1, e3⟩ := hI.2 a
      have := ho k hk (by omega)
      have h9 := hb (by omega)
      have cq := cp_le (T := T) (L := L) (wd q) p
      have wq := x_wbl q (by omega)
      rw [if_neg (show ¬ cp T L (wd k) p = (wd k).length by omega), mx _ (by omega) e3, Nat.max_eq_left (by omega)]
      exact kk _ ⟨fun h => by omega, fun _ => ⟨e1, rfl⟩⟩
  · intro self c hI
    simp (disch := omega) only [f_X13_kindHere_B4, qL8, nI_leI, f_X13_kindHere_K4, nm, h12]
    rw [if_pos (Nat.le_refl 8)]
    rcases Nat.lt_or_ge q 8 with a | a
    · obtain ⟨e1, e3⟩ := hI.2 a
      rw [e3, nI_add, if_pos a, if_neg (fun h => e1 h.2)]; rfl
    · obtain ⟨s, e2, e3⟩ := hI.1 (by omega)
      have hs : s = 0 := by have := h8 (by omega); omega
      rw [e3, hs, nI_add, if_neg (show ¬ (q < 8 ∧ cp T L (wd q) p = (wd q).length) by omega), if_neg (show ¬ q < 8 by omega)]; rfl
