/-! PURE: steps, the fewest of them, and the search by steps (walkFrom). -/
/-- the balcony beside i in a direction -/
def nb (i d : Nat) : Option Nat := if d = 0 then (if 4 ≤ i then some (i - 4) else none) else if d = 1 then (if 0 < i % 4 then some (i - 1) else none) else if d = 2 then (if i % 4 < 3 then some (i + 1) else none) else (if i < 8 then some (i + 4) else none)
def oI (o : Option Nat) : Int32 := match o with
  | none => -1
  | some j => nI j
def oD (o : Option Nat) : Int32 := match o with
  | none => -4
  | some j => nI j
/-- whether they are beside each other -/
def bsB (i j : Nat) : Bool := decide (i + 4 = j ∨ j + 4 = i ∨ ((i + 1 = j ∨ j + 1 = i) ∧ i / 4 = j / 4))
/-- whether a cat steps from i to j -/
def stB (a : AS) (i j : Nat) : Bool := bsB i j && !(feB a i j)
theorem bsB_sym (i j : Nat) : bsB i j = bsB j i := by
  unfold bsB
  exact decide_eq_decide.mpr ⟨fun h => by omega, fun h => by omega⟩
theorem stB_sym (a : AS) (i j : Nat) : stB a i j = stB a j i := by unfold stB; rw [bsB_sym, feB_sym]
theorem nb_bs {i d j : Nat} (hi : i < 12) (h : nb i d = some j) : j < 12 ∧ bsB i j = true := by
  unfold nb at h
  have : j < 12 ∧ (i + 4 = j ∨ j + 4 = i ∨ ((i + 1 = j ∨ j + 1 = i) ∧ i / 4 = j / 4)) := by
    split at h
    · split at h
      · cases h; omega
      · cases h
    · split at h
      · split at h
        · cases h; omega
        · cases h
      · split at h
        · split at h
          · cases h; omega
          · cases h
        · split at h
          · cases h; omega
          · cases h
  exact ⟨this.1, decide_eq_true this.2⟩
theorem bs_nb {i j : Nat} (hi : i < 12) (hj : j < 12) (h : bsB i j = true) : ∃ d, d < 4 ∧ nb i d = some j := by
  have h := of_decide_eq_true h
  rcases h with h | h | ⟨h | h, h2⟩
  · exact ⟨3, by omega, by simp [nb, show i < 8 by omega, h]⟩
  · exact ⟨0, by omega, by simp [nb, show 4 ≤ i by omega]; omega⟩
  · exact ⟨2, by omega, by simp [nb, show i % 4 < 3 by omega, h]⟩
  · exact ⟨1, by omega, by simp [nb, show 0 < i % 4 by omega]; omega⟩
theorem nb_val {i d j : Nat} (h : nb i d = some j) : (d = 0 ∧ i = j + 4) ∨ (d = 1 ∧ i = j + 1) ∨ (d = 2 ∧ j = i + 1) ∨ (3 ≤ d ∧ j = i + 4) := by
  unfold nb at h
  split at h
  · split at h
    · cases h; omega
    · cases h
  · split at h
    · split at h
      · cases h; omega
      · cases h
    · split at h
      · split at h
        · cases h; omega
        · cases h
      · split at h
        · cases h; omega
        · cases h
theorem nb_mono {i d d' j j' : Nat} (hd : d < d') (hd' : d' < 4) (h : nb i d = some j) (h' : nb i d' = some j') : j < j' := by
  have h1 := nb_val h
  have h2 := nb_val h'
  omega
theorem x_besideOf {i d : Nat} (hi : i < 12) (hd : d < 4) : f_X6_besideOf (nI i) (nI d) = some (oI (nb i d)) := by
  have : ∀ i : Nat, i < 12 → ∀ d : Nat, d < 4 → f_X6_besideOf (nI i) (nI d) = some (oI (nb i d)) := by decide +kernel
  exact this i hi d hd
def stp (a : AS) (i d : Nat) : Option Nat := match nb i d with
  | none => none
  | some j => if feB a i j = true then none else some j
theorem x_stepFrom {h : SV} {a : AS} (R : RC h a) (W : WF a) {i d : Nat} (hi : i < 12) (hd : d < 4) : f_X6_stepFrom (nI i) (nI d) h = some (oI (stp a i d)) := by
  unfold f_X6_stepFrom stp
  rw [x_besideOf hi hd, bd1_s]
  cases e : nb i d with
  | none => rfl
  | some j =>
    have hj := nb_bs hi e
    show (if nI j < 0 then _ else _) = _
    rw [if_neg (nI_pos (by omega))]
    show bd1 (f_X6_isFeud (nI i) (nI j) h) _ = _
    rw [x_isFeud R W hi hj.1, bd1_s, qsel]
    show _ = some (oI (if feB a i j = true then none else some j))
    cases feB a i j <;> rfl
theorem stp_st {a : AS} {i d j : Nat} (hi : i < 12) (h : stp a i d = some j) : j < 12 ∧ stB a i j = true ∧ nb i d = some j := by
  unfold stp at h
  cases e : nb i d with
  | none => rw [e] at h; cases h
  | some k =>
    rw [e] at h
    have hj := nb_bs hi e
    by_cases c : feB a i k = true
    · simp [c] at h
    · simp [c] at h; subst h
      have c2 : feB a i k = false := by simpa using c
      exact ⟨hj.1, by unfold stB; rw [hj.2, c2]; rfl, rfl⟩
theorem st_stp {a : AS} {i j : Nat} (hi : i < 12) (hj : j < 12) (h : stB a i j = true) : ∃ d, d < 4 ∧ stp a i d = some j := by
  unfold stB at h
  rw [Bool.and_eq_true] at h
  obtain ⟨d, hd, e⟩ := bs_nb hi hj h.1
  refine ⟨d, hd, ?_⟩
  unfold stp
  rw [e]
  have : feB a i j = false := by simpa using h.2
  simp [this]
theorem m_isStep {v : SV} {a : AS} (R : RM (v.2 0) a) (W : WF a) {i j : Nat} (hi : i < 12) (hj : j < 12) : f_X13_isStep (nI i) (nI j) v = some (b2i (stB a i j)) := by
  have hb : ∀ i : Nat, i < 12 → ∀ j : Nat, j < 12 → f_X13_isBeside (nI i) (nI j) = some (b2i (bsB i j)) := by decide +kernel
  unfold f_X13_isStep stB
  rw [hb i hi j hj, bd1_s, qsel, m_areFeuding R W hi hj, bd1_s, qsel]
  cases bsB i j <;> cases feB a i j <;> rfl
/-- the fewest steps from s -/
def ID (a : AS) (s : Nat) (D : Nat → Option Nat) : Prop := D s = some 0 ∧ (∀ i, i < 12 → D i = some 0 → i = s) ∧ (∀ i n, i < 12 → D i = some (n + 1) → ∃ j, j < 12 ∧ stB a j i = true ∧ D j = some n) ∧ (∀ i j n, i < 12 → j < 12 → stB a i j = true → D i = some n → ∃ m, D j = some m ∧ m ≤ n + 1)
theorem ID_le {a : AS} {s : Nat} {D E : Nat → Option Nat} (h : ID a s D) (h' : ID a s E) : ∀ n i, i < 12 → D i = some n → ∃ m, E i = some m ∧ m ≤ n := by
  intro n
  induction n with
  | zero => intro i hi e; rw [h.2.1 i hi e]; exact ⟨0, h'.1, Nat.le_refl 0⟩
  | succ n ih =>
    intro i hi e
    obtain ⟨j, hj, hs, e2⟩ := h.2.2.1 i n hi e
    obtain ⟨m, e3, hm⟩ := ih j hj e2
    obtain ⟨k, e4, hk⟩ := h'.2.2.2 j i m hj hi hs e3
    exact ⟨k, e4, by omega⟩
theorem ID_eq {a : AS} {s : Nat} {D E : Nat → Option Nat} (h : ID a s D) (h' : ID a s E) {i : Nat} (hi : i < 12) : D i = E i := by
  cases e : D i with
  | none =>
    cases e' : E i with
    | none => rfl
    | some n => obtain ⟨m, e2, _⟩ := ID_le h' h n i hi e'; rw [e] at e2; cases e2
  | some n =>
    obtain ⟨m, e2, hm⟩ := ID_le h h' n i hi e
    obtain ⟨k, e3, hk⟩ := ID_le h' h m i hi e2
    rw [e] at e3; cases e3
    rw [e2]; congr 1; omega
/-- a walk of n steps from s to i -/
def RW (a : AS) : Nat → Nat → Nat → Prop
  | 0, i, s => i = s
  | n + 1, i, s => ∃ j, j < 12 ∧ stB a j i = true ∧ RW a n j s
theorem ID_RW {a : AS} {s : Nat} {D : Nat → Option Nat} (h : ID a s D) : ∀ n i, i < 12 → D i = some n → RW a n i s := by
  intro n
  induction n with
  | zero => intro i hi e; exact h.2.1 i hi e
  | succ n ih =>
    intro i hi e
    obtain ⟨j, hj, hs, e2⟩ := h.2.2.1 i n hi e
    exact ⟨j, hj, hs, ih j hj e2⟩
theorem RW_ID {a : AS} {s : Nat} {D : Nat → Option Nat} (h : ID a s D) : ∀ n i, i < 12 → RW a n i s → ∃ m, D i = some m ∧ m ≤ n := by
  intro n
  induction n with
  | zero => intro i hi e; have e : i = s := e; subst e; exact ⟨0, h.1, Nat.le_refl 0⟩
  | succ n ih =>
    intro i hi e
    obtain ⟨j, hj, hs, e2⟩ := e
    obtain ⟨m, e3, hm⟩ := ih j hj e2
    obtain ⟨k, e4, hk⟩ := h.2.2.2 j i m hj hi hs e3
    exact ⟨k, e4, by omega⟩
theorem RW_ext {a : AS} : ∀ (n s j i : Nat), i < 12 → RW a n s j → stB a i j = true → RW a (n + 1) s i := by
  intro n
  induction n with
  | zero => intro s j i hi e hs; have e : s = j := e; subst e; exact ⟨i, hi, hs, rfl⟩
  | succ n ih =>
    intro s j i hi e hs
    obtain ⟨k, hk, h1, h2⟩ := e
    exact ⟨k, hk, h1, ih k j i hi h2 hs⟩
theorem RW_rev {a : AS} : ∀ (n i s : Nat), i < 12 → RW a n i s → RW a n s i := by
  intro n
  induction n with
  | zero => intro i s _ e; exact Eq.symm e
  | succ n ih =>
    intro i s hi e
    obtain ⟨j, hj, h1, h2⟩ := e
    exact RW_ext n s j i hi (ih j s hj h2) (by rw [stB_sym]; exact h1)
theorem ID_sym {a : AS} {s t : Nat} {D E : Nat → Option Nat} (h : ID a s D) (h' : ID a t E) (hs : s < 12) (ht : t < 12) : D t = E s := by
  cases e : D t with
  | none =>
    cases e' : E s with
    | none => rfl
    | some n => obtain ⟨m, e2, _⟩ := RW_ID h n t ht (RW_rev n s t hs (ID_RW h' n s hs e')); rw [e] at e2; cases e2
  | some n =>
    obtain ⟨m, e2, hm⟩ := RW_ID h' n s hs (RW_rev n t s ht (ID_RW h n t ht e))
    obtain ⟨k, e3, hk⟩ := RW_ID h m t ht (RW_rev m s t hs (ID_RW h' m s hs e2))
    rw [e] at e3; cases e3
    rw [e2]; congr 1; omega
/-- of more than N numbers below N two are the same -/
theorem q_pigeon : ∀ (N : Nat) (f : Nat → Nat), (∀ i, i ≤ N → f i < N) → ∃ i j, i < j ∧ j ≤ N ∧ f i = f j := by
  intro N
  induction N with
  | zero => intro f h; exact absurd (h 0 (Nat.le_refl 0)) (by omega)
  | succ N ih =>
    intro f h
    by_cases c : ∃ i, i ≤ N ∧ f i = f (N + 1)
    · obtain ⟨i, hi, e⟩ := c
      exact ⟨i, N + 1, by omega, Nat.le_refl _, e⟩
    · have c2 : ∀ i, i ≤ N → f i ≠ f (N + 1) := fun i hi e => c ⟨i, hi, e⟩
      obtain ⟨i, j, h1, h2, h3⟩ := ih (fun i => if f i = N then f (N + 1) else f i) (fun i hi => by
        have := h i (by omega); have := h (N + 1) (Nat.le_refl _); have := c2 i hi
        show (if f i = N then f (N + 1) else f i) < N
        split <;> omega)
      refine ⟨i, j, h1, by omega, ?_⟩
      have e1 := c2 i (by omega)
      have e2 := c2 j h2
      have h3 : (if f i = N then f (N + 1) else f i) = (if f j = N then f (N + 1) else f j) := h3
      split at h3 <;> split at h3
      · omega
      · exact absurd h3.symm e2
      · exact absurd h3 e1
      · exact h3
theorem q_bound {s : Nat} {D : Nat → Option Nat} (h3 : ∀ i n, i < 12 → D i = some (n + 1) → ∃ j, j < 12 ∧ D j = some n) : ∀ i n, i < 12 → D i = some n → n ≤ 11 := by
  have chain : ∀ n i, i < 12 → D i = some n → ∀ m, m ≤ n → ∃ j, j < 12 ∧ D j = some m := by
    intro n
    induction n with
    | zero => intro i hi e m hm; have : m = 0 := by omega
              subst this; exact ⟨i, hi, e⟩
    | succ n ih =>
      intro i hi e m hm
      rcases Nat.lt_or_ge n m with c | c
      · have : m = n + 1 := by omega
        subst this; exact ⟨i, hi, e⟩
      · obtain ⟨j, hj, e2⟩ := h3 i n hi e
        exact ih j hj e2 m c
  intro i n hi e
  rcases Nat.lt_or_ge 11 n with c | c
  · have hc := chain n i hi e
    obtain ⟨f, hf⟩ := Classical.axiomOfChoice (r := fun m j => m ≤ n → j < 12 ∧ D j = some m) (fun m => by
      by_cases hm : m ≤ n
      · obtain ⟨j, hj⟩ := hc m hm; exact ⟨j, fun _ => hj⟩
      · exact ⟨0, fun h => absurd h hm⟩)
    obtain ⟨x, y, h1, h2, h4⟩ := q_pigeon 12 f (fun m hm => (hf m (by omega)).1)
    have e1 := (hf x (by omega)).2
    have e2 := (hf y (by omega)).2
    rw [h4, e2] at e1
    cases e1; omega
  · exact c
/-- a search by steps under way: step k, values up to b, P: what is done of step k -/
def BI (a : AS) (s k b : Nat) (P : Nat → Nat → Prop) (D : Nat → Option Nat) : Prop := D s = some 0 ∧ (∀ i, i < 12 → D i = some 0 → i = s) ∧ (∀ i n, i < 12 → D i = some (n + 1) → ∃ j, j < 12 ∧ stB a j i = true ∧ D j = some n) ∧ (∀ i n, i < 12 → D i = some n → n ≤ b) ∧ (∀ i j n, i < 12 → j < 12 → stB a i j = true → D i = some n → (n < k ∨ (n = k ∧ P i j)) → ∃ m, D j = some m ∧ m ≤ n + 1)
def updD (D : Nat → Option Nat) (j n : Nat) : Nat → Option Nat := fun i => if i = j then some n else D i
theorem BI_add {a : AS} {s k : Nat} {P : Nat → Nat → Prop} {D : Nat → Option Nat} (h : BI a s k (k + 1) P D) {j b : Nat} (hj : j < 12) (hn : D j = none) (hb : b < 12) (hs : stB a b j = true) (hD : D b = some k) : BI a s k (k + 1) P (updD D j (k + 1)) := by
  obtain ⟨h1, h2, h3, h4, h5⟩ := h
  have ne : ∀ i n, D i = some n → i ≠ j := fun i n e c => by rw [c, hn] at e; cases e
  have ev : ∀ i n, D i = some n → updD D j (k + 1) i = some n := fun i n e => by unfold updD; rw [if_neg (ne i n e)]; exact e
  refine ⟨ev s 0 h1, ?_, ?_, ?_, ?_⟩
  · intro i hi e
    unfold updD at e
    split at e
    · cases e
    · exact h2 i hi e
  · intro i n hi e
    unfold updD at e
    split at e
    · rename_i c
      cases e
      exact ⟨b, hb, by rw [c]; exact hs, ev b k hD⟩
    · obtain ⟨j', hj', e1, e2⟩ := h3 i n hi e
      exact ⟨j', hj', e1, ev j' n e2⟩
  · intro i n hi e
    unfold updD at e
    split at e
    · cases e; omega
    · exact h4 i n hi e
  · intro i j' n hi hj' hst e hP
    unfold updD at e
    split at e
    · cases e; omega
    · obtain ⟨m, e1, e2⟩ := h5 i j' n hi hj' hst e hP
      exact ⟨m, ev j' m e1, e2⟩
theorem BI_to {a : AS} {s k b : Nat} {P Q : Nat → Nat → Prop} {D : Nat → Option Nat} (h : BI a s k b P D) (hb : b ≤ k + 1) (hq : ∀ i j, i < 12 → j < 12 → stB a i j = true → D i = some k → Q i j → P i j ∨ ∃ m, D j = some m) : BI a s k b Q D := by
  obtain ⟨h1, h2, h3, h4, h5⟩ := h
  refine ⟨h1, h2, h3, h4, ?_⟩
  intro i j n hi hj hst e hP
  rcases hP with hP | ⟨rfl, hP⟩
  · exact h5 i j n hi hj hst e (Or.inl hP)
  · rcases hq i j hi hj hst e hP with h | ⟨m, e2⟩
    · exact h5 i j n hi hj hst e (Or.inr ⟨rfl, h⟩)
    · exact ⟨m, e2, by have := h4 j m hj e2; omega⟩
theorem oD_none {o : Option Nat} (h : ∀ n, o = some n → n < 2147483648) : oD o = -4 ↔ o = none := by
  cases o with
  | none => simp [oD]
  | some n =>
    have h := h n rfl
    have : ¬ nI n = -4 := fun e => by
      have := nI_pos h; rw [e] at this; exact this (by decide)
    simp [oD, this]
theorem oD_eq {o : Option Nat} {k : Nat} (h : ∀ n, o = some n → n < 2147483648) (hk : k < 2147483648) : oD o = nI k ↔ o = some k := by
  cases o with
  | none =>
    have : ¬ (-4 : Int32) = nI k := fun e => by
      have := nI_pos hk; rw [← e] at this; exact this (by decide)
    simp [oD, this]
  | some n =>
    have h := h n rfl
    simp (disch := omega) [oD, nI_eq]
