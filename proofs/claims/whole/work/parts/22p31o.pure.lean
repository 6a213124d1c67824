/-! PURE: read: numbers behind a blank, on both sides. -/
/-- a number behind a blank: whether it is wrong, the number, where the reading stands then -/
def bbS (T : Nat → Nat) (L : Nat) (two : Bool) (p : Nat) : Bool × Nat × Nat := if p < L ∧ T p = 32 then (if DG T L (p + 1) then (if two = true ∧ DG T L (p + 2) then (false, (T (p + 1) - 48) * 10 + (T (p + 2) - 48), p + 3) else (false, T (p + 1) - 48, p + 2)) else (true, 0, p + 1)) else (true, 0, p)
theorem bbS_nb {T : Nat → Nat} {L : Nat} {two : Bool} {p : Nat} (h : ¬ (p < L ∧ T p = 32)) : bbS T L two p = (true, 0, p) := if_neg h
theorem bbS_nd {T : Nat → Nat} {L : Nat} {two : Bool} {p : Nat} (h : p < L ∧ T p = 32) (d : ¬ DG T L (p + 1)) : bbS T L two p = (true, 0, p + 1) := by unfold bbS; rw [if_pos h, if_neg d]
theorem bbS_1 {T : Nat → Nat} {L : Nat} {two : Bool} {p : Nat} (h : p < L ∧ T p = 32) (d : DG T L (p + 1)) (e : ¬ (two = true ∧ DG T L (p + 2))) : bbS T L two p = (false, T (p + 1) - 48, p + 2) := by unfold bbS; rw [if_pos h, if_pos d, if_neg e]
theorem bbS_2 {T : Nat → Nat} {L : Nat} {p : Nat} (h : p < L ∧ T p = 32) (d : DG T L (p + 1)) (e : DG T L (p + 2)) : bbS T L true p = (false, (T (p + 1) - 48) * 10 + (T (p + 2) - 48), p + 3) := by unfold bbS; rw [if_pos h, if_pos d, if_pos ⟨rfl, e⟩]
theorem bbS_L {T : Nat → Nat} {L : Nat} {two : Bool} {p : Nat} (hp : p ≤ L) : p ≤ (bbS T L two p).2.2 ∧ (bbS T L two p).2.2 ≤ L := by
  unfold bbS
  split
  · rename_i h
    split
    · rename_i h2
      split
      · rename_i h3; exact ⟨Nat.le_add_right _ _, h3.2.1⟩
      · exact ⟨Nat.le_add_right _ _, h2.1⟩
    · exact ⟨Nat.le_add_right _ _, h.1⟩
  · exact ⟨Nat.le_refl _, hp⟩
theorem bbS_w {T : Nat → Nat} {L : Nat} {two : Bool} {p : Nat} (h : (bbS T L two p).1 = true) : (bbS T L two p).2.1 = 0 := by
  unfold bbS at *
  split at h
  · split at h
    · split at h
      · cases h
      · cases h
    · rename_i a b; rw [if_pos a, if_neg b]
  · rename_i a; rw [if_neg a]
theorem bbS_n {T : Nat → Nat} {L : Nat} {two : Bool} {p : Nat} : (bbS T L two p).2.1 < 100 := by
  unfold bbS
  split
  · split
    · rename_i h2
      split
      · rename_i h3
        show (T (p + 1) - 48) * 10 + (T (p + 2) - 48) < 100
        have := h2.2.2; have := h3.2.2.2; omega
      · show T (p + 1) - 48 < 100
        have := h2.2.2; omega
    · exact Nat.zero_lt_succ _
  · exact Nat.zero_lt_succ _
theorem uF_p14 (u : SV) (q : Nat) (f x : Int32) : pF (uF u q f) 14 x = uF u q x := pF_pF _ _ _ _
theorem uF_p12 (u : SV) (q q' : Nat) (f : Int32) : pF (uF u q f) 12 (nI q') = uF u q' f := by
  unfold uF pF
  refine Prod.ext ?_ rfl
  funext j
  show (if j = 12 then nI q' else if j = 14 then f else if j = 12 then nI q else u.1 j) = if j = 14 then f else if j = 12 then nI q' else u.1 j
  by_cases b : j = 12
  · rw [if_pos b, if_neg (by omega), if_pos b]
  · rw [if_neg b, if_neg b, if_neg b]
theorem lz3_FU {α β γ ρ : Type} (B : (α → β → γ → Option ρ) → α → β → γ → Option ρ) (a : α) (b : β) (c : γ) : lz3 B FU a b c = B (lz3 B 599) a b c := rfl
theorem lz3_599 {α β γ ρ : Type} (B : (α → β → γ → Option ρ) → α → β → γ → Option ρ) (a : α) (b : β) (c : γ) : lz3 B 599 a b c = B (lz3 B 598) a b c := rfl
theorem lz3_598 {α β γ ρ : Type} (B : (α → β → γ → Option ρ) → α → β → γ → Option ρ) (a : α) (b : β) (c : γ) : lz3 B 598 a b c = B (lz3 B 597) a b c := rfl
theorem ckB1 {ρ : Type} {x : Option ρ} : ckB 1 x = x := rfl
theorem ckB0 {ρ : Type} {x : Option ρ} : ckB 0 x = x := rfl
def aa (two : Bool) : Int32 := if two = true then 2 else 1
theorem aa0 (two : Bool) : ¬ aa two ≤ 0 := by cases two <;> decide
/-- wrong: it stays there -/
theorem m_b61w {u : SV} {q : Nat} {f j : Int32} (two : Bool) (h : f ||| j = 1) : f_X13_behindBlank_J61 (uF u q f) (aa two) j = some (0, uF u q 1) := by
  unfold f_X13_behindBlank_J61
  rw [uF_14, h, ckB1, nm_s, uF_p14, lz3_FU]
  unfold f_X13_behindBlank_B69
  rw [if_neg (aa0 two), m_dig1 (uF_14 u q 1), bd1_s, if_pos rfl]; rfl
theorem m_b40w {u : SV} {q : Nat} {f : Int32} (two : Bool) (h : f = 1) : f_X13_behindBlank_J40 (uF u q f) (aa two) 0 = some (0, uF u q 1) := by
  subst h
  unfold f_X13_behindBlank_J40
  rw [uF_12, Int32.add_zero, nm_s, uF_p12, m_dig1 (uF_14 u q 1), bd1_s, if_pos rfl]
  exact m_b61w two (by decide)
theorem m_b19w {u : SV} {q : Nat} {f j : Int32} (two : Bool) (h : f ||| j = 1) : f_X13_behindBlank_J19 (uF u q f) (aa two) j = some (0, uF u q 1) := by
  unfold f_X13_behindBlank_J19
  rw [uF_14, h, ckB1, nm_s, uF_p14, uF_14, if_neg n10]
  exact m_b40w two rfl
/-- a fault before: nothing more is read -/
theorem m_bbw {u : SV} {q : Nat} (two : Bool) (h12 : u.1 12 = nI q) (h14 : u.1 14 = 1) : f_X13_behindBlank (aa two) u = some (0, u) := by
  have hu : u = uF u q 1 := (uF_self h12 h14).symm
  unfold f_X13_behindBlank
  rw [m_mark1 h14, bd1_s, if_neg (by decide)]
  have := m_b19w (u := u) (q := q) (f := 1) (j := 1) two (by decide)
  rw [← hu] at this
  exact this
theorem q10 (a d : Nat) (hd : 48 ≤ d) : 10 * nI a + nI d - 48 = nI (a * 10 + (d - 48)) := by
  rw [qL10, nI_mul, nI_add, show (48 : Int32) = nI 48 from rfl, nI_subN (by omega)]
  exact congrArg nI (by omega)
theorem q10z (d : Nat) (hd : 48 ≤ d) : 10 * 0 + nI d - 48 = nI (d - 48) := by
  have := q10 0 d hd
  rw [nI_0, Nat.zero_mul, Nat.zero_add] at this
  exact this
theorem m_bb0 {T : Nat → Nat} {L p : Nat} {u : SV} (D : RDM T L p u) (hp : p ≤ L) (h14 : u.1 14 = 0) (two : Bool) : f_X13_behindBlank (aa two) u = some (nI (bbS T L two p).2.1, uF u (bbS T L two p).2.2 (b2i (bbS T L two p).1)) := by
  have hu : u = uF u p 0 := (uF_self D.2.2 h14).symm
  have hL := D.1.1
  unfold f_X13_behindBlank
  rw [m_mark0 D hp h14]
  by_cases b : p < L ∧ T p = 32
  · rw [if_pos b.1, bd1_s, show nI (T p) = 32 by rw [b.2]; rfl, if_pos rfl]
    have e19 : f_X13_behindBlank_J19 u (aa two) 0 = f_X13_behindBlank_J40 (uF u p 0) (aa two) 1 := by
      unfold f_X13_behindBlank_J19
      rw [h14, show (0 : Int32) ||| 0 = 0 by decide, ckB0, nm_s]
      have : pF u 14 0 = uF u p 0 := by rw [pF_self h14, ← hu]
      rw [this, uF_14, if_pos rfl]
    rw [e19]
    unfold f_X13_behindBlank_J40
    rw [uF_12, nI_1, nm_s, uF_p12]
    have D1 : RDM T L (p + 1) (uF u (p + 1) 0) := RDM_m D
    rcases m_dig0 D1 b.1 (uF_14 _ _ _) with ⟨g1, g2⟩ | ⟨g1, g2⟩
    · rw [g2, bd1_s, if_neg n10]
      have g0 := g1
      obtain ⟨g3, g4, g5⟩ := g1
      have ht := D.1.2 (p + 1) g3
      have D2 : RDM T L (p + 2) (uF u (p + 2) 0) := RDM_m D
      unfold f_X13_behindBlank_J61
      rw [uF_14, show (0 : Int32) ||| 0 = 0 by decide, ckB0, nm_s, uF_p14, lz3_FU]
      have e1 : ∀ self, f_X13_behindBlank_B69 (aa two) self 0 0 (uF u (p + 1) 0) = self (0 + 1) (nI (T (p + 1) - 48)) (uF u (p + 2) 0) := by
        intro self
        unfold f_X13_behindBlank_B69
        rw [if_neg (aa0 two), g2, bd1_s, if_neg n10, uF_12, ckI_n (by omega) (by omega), nI_cl (by omega), uF_2, ht.2.2, q10z _ g4, nI_1, nm_s, uF_p12, nm_s]
      rw [e1, show (0 : Int32) + 1 = 1 by decide, lz3_599]
      cases two with
      | false =>
        rw [bbS_1 b g0 (fun h => by cases h.1)]
        unfold f_X13_behindBlank_B69
        rw [if_pos (by decide)]; rfl
      | true =>
        rcases m_dig0 D2 g3 (uF_14 _ _ _) with ⟨k1, k2⟩ | ⟨k1, k2⟩
        · rw [bbS_2 b g0 k1]
          obtain ⟨k3, k4, k5⟩ := k1
          have ht2 := D.1.2 (p + 2) k3
          have e2 : ∀ self, f_X13_behindBlank_B69 (aa true) self 1 (nI (T (p + 1) - 48)) (uF u (p + 2) 0) = self (1 + 1) (nI ((T (p + 1) - 48) * 10 + (T (p + 2) - 48))) (uF u (p + 3) 0) := by
            intro self
            unfold f_X13_behindBlank_B69
            rw [if_neg (by decide), k2, bd1_s, if_neg n10, uF_12, ckI_n (by omega) (by omega), nI_cl (by omega), uF_2, ht2.2.2, q10 _ _ k4, nI_1, nm_s, uF_p12, nm_s]
          rw [e2, lz3_598]
          unfold f_X13_behindBlank_B69
          rw [if_pos (by decide)]; rfl
        · rw [bbS_1 b g0 (fun h => k1 h.2)]
          unfold f_X13_behindBlank_B69
          rw [if_neg (by decide), k2, bd1_s, if_pos rfl]; rfl
    · rw [g2, bd1_s, if_pos rfl, bbS_nd b g1, m_b61w two (by decide), nI_0]; rfl
  · rw [bbS_nb b]
    have e19 : f_X13_behindBlank_J19 u (aa two) 1 = some (nI 0, uF u p 1) := by
      have := m_b19w (u := u) (q := p) (f := 0) (j := 1) two (by decide)
      rw [← hu] at this
      rw [this, nI_0]
    by_cases c : p < L
    · have ht := D.1.2 p c
      rw [if_pos c, bd1_s, if_neg (show ¬ nI (T p) = 32 from fun h => b ⟨c, (nI_eq (by omega) (by omega)).mp h⟩)]
      exact e19
    · rw [if_neg c, bd1_s, if_neg (by decide)]
      exact e19
theorem x_pass {T : Nat → Nat} {L p : Nat} {re : SV} (C : RDC T L p re) (hp : p ≤ L) {c : Nat} (hc : c < 1000) : f_X10_passOver (nI c) re = if p < L ∧ T p = c then some (1, pF re 1 (nI (p + 1))) else some (0, re) := by
  obtain ⟨⟨hL, ht⟩, h0, h1⟩ := C
  unfold f_X10_passOver
  rw [h0, h1]
  by_cases a : p < L
  · have := ht p a
    rw [if_neg (by rw [nI_leI (by omega) (by omega)]; omega), ckI_n (by omega) (by omega), nI_cl (by omega), this.2.2]
    by_cases b : T p = c
    · rw [if_pos (by rw [b]), if_pos ⟨a, b⟩, nI_1, nm_s]
    · rw [if_neg (by rw [nI_eq (by omega) (by omega)]; exact b), if_neg (fun h => b h.2)]
  · rw [if_pos (by rw [nI_leI (by omega) (by omega)]; omega), if_neg (fun h => a h.1)]
theorem x_dig {T : Nat → Nat} {L p : Nat} {re : SV} (C : RDC T L p re) (hp : p ≤ L) : f_X10_readDigit re = if DG T L p then some (nI (T p - 48), pF re 1 (nI (p + 1))) else some (-1, re) := by
  obtain ⟨⟨hL, ht⟩, h0, h1⟩ := C
  have e48 : (48 : Int32) = nI 48 := rfl
  have e57 : (57 : Int32) = nI 57 := rfl
  unfold f_X10_readDigit
  rw [h0, h1]
  by_cases a : p < L
  · have := ht p a
    rw [if_neg (by rw [nI_leI (by omega) (by omega)]; omega), ckI_n (by omega) (by omega), nI_cl (by omega), this.2.2]
    by_cases b : T p < 48
    · rw [if_pos (by rw [e48, nI_ltI (by omega) (by omega)]; exact b), if_neg (fun h => by have := h.2.1; omega)]
    · rw [if_neg (by rw [e48, nI_ltI (by omega) (by omega)]; exact b), ckI_n (by omega) (by omega)]
      by_cases d : T p ≤ 57
      · rw [if_pos (by rw [e57, nI_leI (by omega) (by omega)]; exact d), ckI_n (by omega) (by omega), if_pos ⟨a, by omega, d⟩, e48, nI_subN (by omega), nI_1, nm_s, nm_s]
      · rw [if_neg (by rw [e57, nI_leI (by omega) (by omega)]; exact d), if_neg (fun h => d h.2.2)]
  · rw [if_pos (by rw [nI_leI (by omega) (by omega)]; omega), if_neg (fun h => a h.1)]
theorem x_num {T : Nat → Nat} {L p : Nat} {re : SV} (C : RDC T L (p + 1) re) (hp : p < L) (h32 : T p = 32) : f_X10_readNumber re = some (if (bbS T L true p).1 = true then -1 else nI (bbS T L true p).2.1, pF re 1 (nI (bbS T L true p).2.2)) := by
  unfold f_X10_readNumber
  rw [x_dig C hp]
  by_cases d : DG T L (p + 1)
  · have C2 : RDC T L (p + 2) (pF re 1 (nI (p + 2))) := RDC_m C
    rw [if_pos d, bd2_s, if_pos (nI_pos' (by have := d.2.2; omega)), show pF re 1 (nI (p + 1 + 1)) = pF re 1 (nI (p + 2)) from rfl, x_dig C2 d.1]
    by_cases e : DG T L (p + 2)
    · rw [if_pos e, bbS_2 ⟨hp, h32⟩ d e, bd2_s, if_pos (nI_pos' (by have := e.2.2; omega)), pF_pF, qL10, nI_mul, nI_add]; rfl
    · rw [if_neg e, bbS_1 ⟨hp, h32⟩ d (fun h => e h.2), bd2_s, if_neg (by decide)]; rfl
  · rw [if_neg d, bbS_nd ⟨hp, h32⟩ d, bd2_s, if_neg (by decide)]
    show some (-1, re) = some (-1, pF re 1 (nI (p + 1)))
    rw [pF_self C.2.2]
theorem x_bb2 {ρ : Type} (K : Int32 → SV → Option ρ) {T : Nat → Nat} {L p : Nat} {re : SV} (C : RDC T L p re) (hp : p ≤ L) : (bd2 (f_X10_passOver 32 re) fun r w => if r = 0 then K (-1) w else bd2 (f_X10_readNumber w) fun r' w' => K r' w') = K (if (bbS T L true p).1 = true then -1 else nI (bbS T L true p).2.1) (pF re 1 (nI (bbS T L true p).2.2)) := by
  have e := x_pass C hp (c := 32) (by omega)
  rw [show nI 32 = 32 from rfl] at e
  rw [e]
  by_cases b : p < L ∧ T p = 32
  · have C1 : RDC T L (p + 1) (pF re 1 (nI (p + 1))) := RDC_m C
    rw [if_pos b, bd2_s, if_neg n10, x_num C1 b.1 b.2, bd2_s, pF_pF]
  · rw [if_neg b, bd2_s, if_pos rfl]
    rw [bbS_nb b]
    show K (-1) re = K (-1) (pF re 1 (nI p))
    rw [pF_self C.2.2]
theorem x_bb1 {ρ : Type} (K : Int32 → SV → Option ρ) {T : Nat → Nat} {L p : Nat} {re : SV} (C : RDC T L p re) (hp : p ≤ L) : (bd2 (f_X10_passOver 32 re) fun r w => if r = 0 then K (-1) w else bd2 (f_X10_readDigit w) fun r' w' => K r' w') = K (if (bbS T L false p).1 = true then -1 else nI (bbS T L false p).2.1) (pF re 1 (nI (bbS T L false p).2.2)) := by
  have e := x_pass C hp (c := 32) (by omega)
  rw [show nI 32 = 32 from rfl] at e
  rw [e]
  by_cases b : p < L ∧ T p = 32
  · have C1 : RDC T L (p + 1) (pF re 1 (nI (p + 1))) := RDC_m C
    rw [if_pos b, bd2_s, if_neg n10, x_dig C1 b.1]
    by_cases d : DG T L (p + 1)
    · rw [if_pos d, bbS_1 b d (fun h => by cases h.1), bd2_s, pF_pF]; rfl
    · rw [if_neg d, bbS_nd b d, bd2_s]; rfl
  · rw [if_neg b, bbS_nb b, bd2_s, if_pos rfl]
    show K (-1) re = K (-1) (pF re 1 (nI p))
    rw [pF_self C.2.2]
