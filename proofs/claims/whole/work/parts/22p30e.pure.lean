/-! PURE: feuds and plants too many, each in two ways. -/
theorem lz2_accX {β ρ : Type} {B : (Int32 → β → Option ρ) → Int32 → β → Option ρ} {K : β → Option ρ} (ix : Nat → Int32) (f : Nat → β → β) {N : Nat} (hs : ∀ (self : Int32 → β → Option ρ) (i : Nat) (b : β), i < N → B self (ix i) b = self (ix (i + 1)) (f i b)) (hf : ∀ (self : Int32 → β → Option ρ) (b : β), B self (ix N) b = K b) :
    ∀ (k n i : Nat) (b : β), i + k = N → k < n → lz2 B n (ix i) b = K (accF f i k b) := by
  intro k
  induction k with
  | zero =>
    intro n i b h1 h2
    cases n with
    | zero => omega
    | succ n => have : i = N := by omega
                subst this; exact hf _ b
  | succ k ih =>
    intro n i b h1 h2
    cases n with
    | zero => omega
    | succ n =>
      show B (lz2 B n) (ix i) b = _
      rw [hs _ i b (by omega)]
      exact ih n (i + 1) (f i b) (by omega) (by omega)
theorem lz1_invX {ρ : Type} {B : (Int32 → Option ρ) → Int32 → Option ρ} (ix : Nat → Int32) {N : Nat} (I : Nat → Prop) (Q : Option ρ → Prop) (hs : ∀ (self : Int32 → Option ρ) (i : Nat), i < N → I i → (I (i + 1) → Q (self (ix (i + 1)))) → Q (B self (ix i))) (hf : ∀ (self : Int32 → Option ρ), I N → Q (B self (ix N))) :
    ∀ (k n i : Nat), i + k = N → k < n → I i → Q (lz1 B n (ix i)) := by
  intro k
  induction k with
  | zero =>
    intro n i h1 h2 h3
    cases n with
    | zero => omega
    | succ n => have : i = N := by omega
                subst this; exact hf _ h3
  | succ k ih =>
    intro n i h1 h2 h3
    cases n with
    | zero => omega
    | succ n => exact hs _ i (by omega) h3 (fun h => ih n (i + 1) (by omega) (by omega) h)
def bN (b : Bool) : Nat := if b = true then 1 else 0
theorem b2i_nI (b : Bool) : b2i b = nI (bN b) := by cases b <;> rfl
theorem bN_le (b : Bool) : bN b ≤ 1 := by cases b <;> decide
def smR (g : Nat → Nat) : Nat → Nat → Nat
  | _, 0 => 0
  | i, k + 1 => g i + smR g (i + 1) k
theorem accF_smR (g : Nat → Nat) : ∀ (k i b : Nat), accF (fun j b => b + nI (g j)) i k (nI b) = nI (b + smR g i k) := by
  intro k
  induction k with
  | zero => intro i b; rfl
  | succ k ih =>
    intro i b
    show accF _ (i + 1) k (nI b + nI (g i)) = nI (b + (g i + smR g (i + 1) k))
    rw [nI_add, ih, Nat.add_assoc]
theorem accF_smN (g : Nat → Nat) (N : Nat) : accF (fun j b => b + nI (g j)) 0 N 0 = nI (smN g N) := sm_nI g N
set_option maxRecDepth 100000 in
theorem q_sym (g : Nat → Nat → Nat) (hs : ∀ i j, g i j = g j i) (h0 : ∀ i, g i i = 0) : smN (fun i => smN (g i) 12) 12 = 2 * smN (fun i => smR (g i) (i + 1) (11 - i)) 12 := by
  simp only [smN, smR, Nat.reduceSub, Nat.reduceAdd, Nat.zero_add, Nat.add_zero, h0 0, h0 1, h0 2, h0 3, h0 4, h0 5, h0 6, h0 7, h0 8, h0 9, h0 10, h0 11, hs 1 0, hs 2 0, hs 2 1, hs 3 0, hs 3 1, hs 3 2, hs 4 0, hs 4 1, hs 4 2, hs 4 3, hs 5 0, hs 5 1, hs 5 2, hs 5 3, hs 5 4, hs 6 0, hs 6 1, hs 6 2, hs 6 3, hs 6 4, hs 6 5, hs 7 0, hs 7 1, hs 7 2, hs 7 3, hs 7 4, hs 7 5, hs 7 6, hs 8 0, hs 8 1, hs 8 2, hs 8 3, hs 8 4, hs 8 5, hs 8 6, hs 8 7, hs 9 0, hs 9 1, hs 9 2, hs 9 3, hs 9 4, hs 9 5, hs 9 6, hs 9 7, hs 9 8, hs 10 0, hs 10 1, hs 10 2, hs 10 3, hs 10 4, hs 10 5, hs 10 6, hs 10 7, hs 10 8, hs 10 9, hs 11 0, hs 11 1, hs 11 2, hs 11 3, hs 11 4, hs 11 5, hs 11 6, hs 11 7, hs 11 8, hs 11 9, hs 11 10]
  omega
def pr12 : List (Nat × Nat) := [(0, 4), (1, 5), (2, 6), (3, 7), (0, 8), (1, 9), (2, 10), (3, 11), (4, 8), (5, 9), (6, 10), (7, 11)]
def lsum {α : Type} (f : α → Nat) : List α → Nat
  | [] => 0
  | x :: l => f x + lsum f l
theorem lsum_congr {α : Type} {f g : α → Nat} {l : List α} (h : ∀ x ∈ l, f x = g x) : lsum f l = lsum g l := by
  induction l with
  | nil => rfl
  | cons x l ih => show f x + lsum f l = g x + lsum g l; rw [h x List.mem_cons_self, ih (fun y hy => h y (List.mem_cons_of_mem _ hy))]
theorem lsum_add {α : Type} (f g : α → Nat) (l : List α) : lsum (fun x => f x + g x) l = lsum f l + lsum g l := by
  induction l with
  | nil => rfl
  | cons x l ih => show f x + g x + lsum _ l = f x + lsum f l + (g x + lsum g l); rw [ih]; omega
theorem lsum_0 {α : Type} {f : α → Nat} {l : List α} (h : ∀ x ∈ l, f x = 0) : lsum f l = 0 := by
  induction l with
  | nil => rfl
  | cons x l ih => show f x + lsum f l = 0; rw [h x List.mem_cons_self, ih (fun y hy => h y (List.mem_cons_of_mem _ hy))]
theorem lsum_one (w : Nat × Nat → Nat) (p : Nat × Nat) : ∀ l : List (Nat × Nat), l.Nodup → lsum (fun k => if k = p then w k else 0) l = if p ∈ l then w p else 0 := by
  intro l
  induction l with
  | nil => intro _; rfl
  | cons x l ih =>
    intro hd
    obtain ⟨h1, h2⟩ := List.nodup_cons.mp hd
    show (if x = p then w x else 0) + lsum _ l = _
    rw [ih h2]
    by_cases c : x = p
    · subst c; simp [h1]
    · have : ¬ p = x := fun e => c e.symm
      simp [c, this]
theorem q_double (w : Nat × Nat → Nat) (B : List (Nat × Nat)) (hB : B.Nodup) : ∀ A : List (Nat × Nat), A.Nodup → lsum (fun p => if p ∈ B then w p else 0) A = lsum (fun k => if k ∈ A then w k else 0) B := by
  intro A
  induction A with
  | nil => intro _; exact (lsum_0 (fun x _ => by simp)).symm
  | cons p A ih =>
    intro hd
    obtain ⟨h1, h2⟩ := List.nodup_cons.mp hd
    show (if p ∈ B then w p else 0) + lsum _ A = _
    rw [ih h2, ← lsum_one w p B hB, ← lsum_add]
    refine lsum_congr (fun k _ => ?_)
    by_cases c : k = p
    · subst c; simp [h1]
    · simp [c]
theorem lsum_map {α β : Type} (f : β → Nat) (g : α → β) (l : List α) : lsum f (l.map g) = lsum (fun x => f (g x)) l := by
  induction l with
  | nil => rfl
  | cons x l ih => show f (g x) + lsum f (l.map g) = f (g x) + _; rw [ih]
theorem foldl_lsum {α : Type} (c : α → Prop) [DecidablePred c] (l : List α) : ∀ n : Nat, l.foldl (fun b x => if c x then b + 1 else b) (nI n) = nI (n + lsum (fun x => if c x then 1 else 0) l) := by
  induction l with
  | nil => intro n; rfl
  | cons x l ih =>
    intro n
    show l.foldl _ (if c x then nI n + 1 else nI n) = nI (n + ((if c x then 1 else 0) + lsum _ l))
    by_cases h : c x
    · rw [if_pos h, nI_1, ih, if_pos h]; congr 1; omega
    · rw [if_neg h, ih, if_neg h]; congr 1; omega
/-- feuds by pairs -/
def prN (a : AS) : Nat := smN (fun i => smR (fun j => bN (feB a i j)) (i + 1) (11 - i)) 12
theorem x_byPairs {h : SV} {a : AS} (R : RC h a) (W : WF a) : f_X3_byPairs h = some (nI (prN a)) := by
  unfold f_X3_byPairs prN
  rw [← accF_smN]
  refine lz2_acc0 (K := some) _ (N := 12) ?_ ?_ (by omega) 0
  · intro self i b hi
    simp (disch := omega) only [f_X3_byPairs_B4, nI_1, nI_add, nI_mul, nI_leI, nI_ltI, nI_eq, ckI_n, nI_cl, qL2, qL3, qL4, qL5, qL6, qL7, qL8, qL9, qL10, qL11, qL12, nm, bd1_s, bd2_s, bd3_s, bd4_s]
    simp only [show ¬ (12 ≤ i) by omega, Nat.lt_irrefl, Nat.le_refl, if_true, if_false, ite_true, ite_false, not_true_eq_false, not_false_eq_true, reduceIte]
    rw [lz2_acc (K := fun b => self (nI (i + 1)) b) (fun j b => b + nI (bN (feB a i j))) (N := 12) ?_ ?_ (11 - i) FU (i + 1) b (by omega) (by unfold FU; omega)]
    · have e : ∀ (k i : Nat) (b : Int32) (g : Nat → Nat), accF (fun j b => b + nI (g j)) i k b = b + nI (smR g i k) := by
        intro k
        induction k with
        | zero => intro i b g; show b = b + nI 0; rw [nI_0, Int32.add_zero]
        | succ k ih => intro i b g; show accF _ (i + 1) k (b + nI (g i)) = b + nI (g i + smR g (i + 1) k); rw [ih, ← nI_add, Int32.add_assoc]
      rw [e]
    · intro self2 j b hj
      simp (disch := omega) only [f_X3_byPairs_B14, nI_1, nI_add, nI_mul, nI_leI, nI_ltI, nI_eq, ckI_n, nI_cl, qL2, qL3, qL4, qL5, qL6, qL7, qL8, qL9, qL10, qL11, qL12, nm, bd1_s, bd2_s, bd3_s, bd4_s, x_isFeud R W hi hj, qsel]
      simp only [show ¬ (12 ≤ j) by omega, Nat.lt_irrefl, Nat.le_refl, if_true, if_false, ite_true, ite_false, not_true_eq_false, not_false_eq_true, reduceIte]
      cases feB a i j <;> simp [bN, nI_0]; rfl
    · intro self2 b
      simp (disch := omega) only [f_X3_byPairs_B14, f_X3_byPairs_K14, nI_1, nI_add, nI_mul, nI_leI, nI_ltI, nI_eq, ckI_n, nI_cl, qL2, qL3, qL4, qL5, qL6, qL7, qL8, qL9, qL10, qL11, qL12, nm, bd1_s, bd2_s, bd3_s, bd4_s]
      simp only [Nat.lt_irrefl, Nat.le_refl, if_true, if_false, ite_true, ite_false, not_true_eq_false, not_false_eq_true, reduceIte]
  · intro self b
    simp (disch := omega) only [f_X3_byPairs_B4, f_X3_byPairs_K4, nI_1, nI_add, nI_mul, nI_leI, nI_ltI, nI_eq, ckI_n, nI_cl, qL2, qL3, qL4, qL5, qL6, qL7, qL8, qL9, qL10, qL11, qL12, nm, bd1_s, bd2_s, bd3_s, bd4_s]
    simp only [Nat.lt_irrefl, Nat.le_refl, if_true, if_false, ite_true, ite_false, not_true_eq_false, not_false_eq_true, reduceIte]
theorem feB_sym (a : AS) (i j : Nat) : feB a i j = feB a j i := by
  unfold feB
  rw [Nat.min_comm, Nat.max_comm]
  congr 1
  exact decide_eq_decide.mpr ⟨fun h => ⟨Ne.symm h.1, h.2.symm⟩, fun h => ⟨Ne.symm h.1, h.2.symm⟩⟩
theorem q_half {x : Nat} (h : x < 200) : nI x / 2 = nI (x / 2) := by
  have : ∀ x : Nat, x < 200 → nI x / 2 = nI (x / 2) := by decide +kernel
  exact this x h
theorem q_allFeuds (a : AS) : sm (fdN a) 12 / 2 = nI (prN a) := by
  have e : sm (fdN a) 12 = nI (smN (fun i => smN (fun j => bN (feB a i j)) 12) 12) := by
    rw [← sm_nI]
    refine sm_congr (fun i _ => ?_)
    unfold fdN
    rw [← sm_nI]
    exact sm_congr (fun j _ => b2i_nI _)
  have hb : smN (fun i => smN (fun j => bN (feB a i j)) 12) 12 ≤ 12 * 12 := smN_le (fun i _ => smN_le (b := 1) (fun j _ => bN_le _))
  have hsy := q_sym (fun i j => bN (feB a i j)) (fun i j => by rw [feB_sym]) (fun i => by simp [feB, bN])
  rw [e, q_half (by omega)]
  unfold prN
  congr 1
  omega
theorem feB_lt {a : AS} {i j : Nat} (h : i < j) : feB a i j = (decide (i % 4 = j % 4) && tooM a i j) := by
  unfold feB
  rw [Nat.min_eq_left (by omega), Nat.max_eq_right (by omega)]
  congr 1
  exact decide_eq_decide.mpr ⟨fun h => h.2, fun h2 => ⟨by omega, h2⟩⟩
set_option maxRecDepth 100000 in
theorem q_prN (a : AS) : prN a = lsum (fun p => bN (tooM a p.1 p.2)) pr12 := by
  have e : ∀ i j : Nat, i < j → ¬ i % 4 = j % 4 → bN (feB a i j) = 0 := fun i j h h2 => by rw [feB_lt h]; simp [h2, bN]
  have e2 : ∀ i j : Nat, i < j → i % 4 = j % 4 → bN (feB a i j) = bN (tooM a i j) := fun i j h h2 => by rw [feB_lt h]; simp [h2]
  simp only [prN, smN, smR, Nat.reduceSub, Nat.reduceAdd, lsum, pr12]
  rw [e 0 1 (by decide) (by decide), e 0 2 (by decide) (by decide), e 0 3 (by decide) (by decide), e 0 5 (by decide) (by decide), e 0 6 (by decide) (by decide), e 0 7 (by decide) (by decide), e 0 9 (by decide) (by decide), e 0 10 (by decide) (by decide), e 0 11 (by decide) (by decide), e 1 2 (by decide) (by decide), e 1 3 (by decide) (by decide), e 1 4 (by decide) (by decide), e 1 6 (by decide) (by decide), e 1 7 (by decide) (by decide), e 1 8 (by decide) (by decide), e 1 10 (by decide) (by decide), e 1 11 (by decide) (by decide), e 2 3 (by decide) (by decide), e 2 4 (by decide) (by decide), e 2 5 (by decide) (by decide), e 2 7 (by decide) (by decide), e 2 8 (by decide) (by decide), e 2 9 (by decide) (by decide), e 2 11 (by decide) (by decide), e 3 4 (by decide) (by decide), e 3 5 (by decide) (by decide), e 3 6 (by decide) (by decide), e 3 8 (by decide) (by decide), e 3 9 (by decide) (by decide), e 3 10 (by decide) (by decide), e 4 5 (by decide) (by decide), e 4 6 (by decide) (by decide), e 4 7 (by decide) (by decide), e 4 9 (by decide) (by decide), e 4 10 (by decide) (by decide), e 4 11 (by decide) (by decide), e 5 6 (by decide) (by decide), e 5 7 (by decide) (by decide), e 5 8 (by decide) (by decide), e 5 10 (by decide) (by decide), e 5 11 (by decide) (by decide), e 6 7 (by decide) (by decide), e 6 8 (by decide) (by decide), e 6 9 (by decide) (by decide), e 6 11 (by decide) (by decide), e 7 8 (by decide) (by decide), e 7 9 (by decide) (by decide), e 7 10 (by decide) (by decide), e 8 9 (by decide) (by decide), e 8 10 (by decide) (by decide), e 8 11 (by decide) (by decide), e 9 10 (by decide) (by decide), e 9 11 (by decide) (by decide), e 10 11 (by decide) (by decide), e2 0 4 (by decide) (by decide), e2 0 8 (by decide) (by decide), e2 1 5 (by decide) (by decide), e2 1 9 (by decide) (by decide), e2 2 6 (by decide) (by decide), e2 2 10 (by decide) (by decide), e2 3 7 (by decide) (by decide), e2 3 11 (by decide) (by decide), e2 4 8 (by decide) (by decide), e2 5 9 (by decide) (by decide), e2 6 10 (by decide) (by decide), e2 7 11 (by decide) (by decide)]
  omega
/-- whether the balcony hi has too many plants for lo, lines aside -/
def rich (a : AS) (lo hi : Nat) : Bool := decide (aT a lo < aP a hi)
def trN (a : AS) : Nat := lsum (fun x => if x.1 % 4 = x.2.1 % 4 ∧ rich a x.1 x.2.1 = true then 1 else 0) (aL a)
theorem x_countTruces {h : SV} {a : AS} (R : RC h a) (W : WF a) : f_X3_countTruces h = some (nI (trN a)) := by
  unfold f_X3_countTruces trN
  have hl := wf_ln W
  have e := foldl_lsum (fun x : Nat × Nat × Nat => x.1 % 4 = x.2.1 % 4 ∧ rich a x.1 x.2.1 = true) (aL a) 0
  rw [Nat.zero_add] at e
  rw [← e, nI_0]
  refine lz2_lst (K := some) _ (aL a) ?_ ?_ (by omega) 0
  · intro self k x b hx
    have hk := ix_lt hx
    have hw := wf_l W hx
    have h1 : x.1 < 12 := by omega
    have hp := wf_p W hw.2.1
    have ht := wf_t W h1
    obtain ⟨e1, e2, e3⟩ := rc_l R hx
    simp (disch := omega) only [f_X3_countTruces_B4, rc_ln R, nI_1, nI_add, nI_mul, nI_leI, nI_ltI, nI_eq, ckI_n, nI_cl, qL2, qL3, qL4, qL5, qL6, qL7, qL8, qL9, qL10, qL11, qL12, nm, bd1_s, bd2_s, bd3_s, bd4_s, e1, e2, qL4, q_mod h1, q_mod hw.2.1, rc_p R hw.2.1, rc_t R h1]
    simp only [show ¬ ((aL a).length ≤ k) by omega, Nat.lt_irrefl, Nat.le_refl, if_true, if_false, ite_true, ite_false, not_true_eq_false, not_false_eq_true, reduceIte, rich, decide_eq_true_eq]
    by_cases c1 : x.1 % 4 = x.2.1 % 4
    · by_cases c2 : aP a x.2.1 ≤ aT a x.1
      · simp [c1, c2, Nat.not_lt.mpr c2]
      · simp [c1, c2, Nat.lt_of_not_le c2]
    · simp [c1]
  · intro self b
    simp (disch := omega) only [f_X3_countTruces_B4, f_X3_countTruces_K4, rc_ln R, nI_1, nI_add, nI_mul, nI_leI, nI_ltI, nI_eq, ckI_n, nI_cl, qL2, qL3, qL4, qL5, qL6, qL7, qL8, qL9, qL10, qL11, qL12, nm, bd1_s, bd2_s, bd3_s, bd4_s]
    simp only [Nat.lt_irrefl, Nat.le_refl, if_true, if_false, ite_true, ite_false, not_true_eq_false, not_false_eq_true, reduceIte]
def crN (a : AS) (lo : Nat) : Int32 := accF (fun i b => b + nI (bN (rich a lo (lo + 4 + 4 * i)))) 0 ((11 - lo) / 4) 0
theorem x_countTooRich {h : SV} {a : AS} (R : RC h a) (W : WF a) {lo : Nat} (h1 : lo < 12) : f_X3_countTooRichAbove (nI lo) h = some (crN a lo) := by
  unfold f_X3_countTooRichAbove crN
  have e0 : nI lo + 4 = nI (lo + 4 + 4 * 0) := by rw [qL4, nI_add]
  rw [e0]
  refine lz2_accX (K := some) (fun i => nI (lo + 4 + 4 * i)) _ (N := (11 - lo) / 4) ?_ ?_ _ FU 0 0 (by omega) (by unfold FU; omega)
  · intro self i b hi
    have hh : lo + 4 + 4 * i < 12 := by omega
    have hp := wf_p W hh
    have ht := wf_t W h1
    simp (disch := omega) only [f_X3_countTooRichAbove_B6, nI_1, nI_add, nI_mul, nI_leI, nI_ltI, nI_eq, ckI_n, nI_cl, qL2, qL3, qL4, qL5, qL6, qL7, qL8, qL9, qL10, qL11, qL12, nm, bd1_s, bd2_s, bd3_s, bd4_s, rc_p R hh, rc_t R h1, rich]
    simp only [show ¬ (12 ≤ lo + 4 + 4 * i) by omega, Nat.lt_irrefl, Nat.le_refl, if_true, if_false, ite_true, ite_false, not_true_eq_false, not_false_eq_true, reduceIte]
    rw [show lo + 4 + 4 * i + 4 = lo + 4 + 4 * (i + 1) by omega]
    by_cases c2 : aP a (lo + 4 + 4 * i) ≤ aT a lo
    · simp [c2, Nat.not_lt.mpr c2, bN, nI_0]
    · simp [c2, Nat.lt_of_not_le c2, bN]; rfl
  · intro self b
    simp (disch := omega) only [f_X3_countTooRichAbove_B6, f_X3_countTooRichAbove_K6, nI_1, nI_add, nI_mul, nI_leI, nI_ltI, nI_eq, ckI_n, nI_cl, qL2, qL3, qL4, qL5, qL6, qL7, qL8, qL9, qL10, qL11, qL12, nm, bd1_s, bd2_s, bd3_s, bd4_s]
    simp only [show 12 ≤ lo + 4 + 4 * ((11 - lo) / 4) by omega, Nat.lt_irrefl, Nat.le_refl, if_true, if_false, ite_true, ite_false, not_true_eq_false, not_false_eq_true, reduceIte]
theorem x_byColumnsI {h : SV} {a : AS} (R : RC h a) (W : WF a) : f_X3_byColumns h = some (accF (fun c b => accF (fun i b => b + crN a (c + 4 * i)) 0 3 b) 0 4 0 - nI (trN a)) := by
  unfold f_X3_byColumns
  refine lz2_acc0 (K := fun b => some (b - nI (trN a))) _ (N := 4) ?_ ?_ (by omega) 0
  · intro self c b hc
    simp (disch := omega) only [f_X3_byColumns_B4, nI_1, nI_add, nI_mul, nI_leI, nI_ltI, nI_eq, ckI_n, nI_cl, qL2, qL3, qL4, qL5, qL6, qL7, qL8, qL9, qL10, qL11, qL12, nm, bd1_s, bd2_s, bd3_s, bd4_s]
    simp only [show ¬ (4 ≤ c) by omega, Nat.lt_irrefl, Nat.le_refl, if_true, if_false, ite_true, ite_false, not_true_eq_false, not_false_eq_true, reduceIte]
    refine lz2_accX (K := fun b => self (nI (c + 1)) b) (fun i => nI (c + 4 * i)) (fun i b => b + crN a (c + 4 * i)) (N := 3) ?_ ?_ 3 FU 0 b (by omega) (by unfold FU; omega)
    · intro self2 j b hj
      have h1 : c + 4 * j < 12 := by omega
      simp (disch := omega) only [f_X3_byColumns_B11, nI_1, nI_add, nI_mul, nI_leI, nI_ltI, nI_eq, ckI_n, nI_cl, qL2, qL3, qL4, qL5, qL6, qL7, qL8, qL9, qL10, qL11, qL12, nm, bd1_s, bd2_s, bd3_s, bd4_s, x_countTooRich R W h1]
      simp only [show ¬ (12 ≤ c + 4 * j) by omega, Nat.lt_irrefl, Nat.le_refl, if_true, if_false, ite_true, ite_false, not_true_eq_false, not_false_eq_true, reduceIte]
      rw [show c + 4 * j + 4 = c + 4 * (j + 1) by omega]
    · intro self2 b
      simp (disch := omega) only [f_X3_byColumns_B11, f_X3_byColumns_K11, nI_1, nI_add, nI_mul, nI_leI, nI_ltI, nI_eq, ckI_n, nI_cl, qL2, qL3, qL4, qL5, qL6, qL7, qL8, qL9, qL10, qL11, qL12, nm, bd1_s, bd2_s, bd3_s, bd4_s]
      simp only [show 12 ≤ c + 4 * 3 by omega, Nat.lt_irrefl, Nat.le_refl, if_true, if_false, ite_true, ite_false, not_true_eq_false, not_false_eq_true, reduceIte]
  · intro self b
    simp (disch := omega) only [f_X3_byColumns_B4, f_X3_byColumns_K4, nI_1, nI_add, nI_mul, nI_leI, nI_ltI, nI_eq, ckI_n, nI_cl, qL2, qL3, qL4, qL5, qL6, qL7, qL8, qL9, qL10, qL11, qL12, nm, bd1_s, bd2_s, bd3_s, bd4_s, x_countTruces R W]
    simp only [Nat.lt_irrefl, Nat.le_refl, if_true, if_false, ite_true, ite_false, not_true_eq_false, not_false_eq_true, reduceIte]
theorem q_cols (a : AS) : accF (fun c b => accF (fun i b => b + crN a (c + 4 * i)) 0 3 b) 0 4 0 = nI (lsum (fun p => bN (rich a p.1 p.2)) pr12) := by
  simp only [crN, accF, Nat.reduceAdd, Nat.reduceMul, Nat.reduceSub, Nat.reduceDiv, qL0, nI_add, lsum, pr12, Nat.zero_add, Nat.add_zero]
  congr 1
  omega
theorem q_truce {a : AS} (W : WF a) : lsum (fun p => bN (rich a p.1 p.2)) pr12 = prN a + trN a := by
  rw [q_prN]
  have e1 : lsum (fun p => bN (rich a p.1 p.2)) pr12 = lsum (fun p => bN (tooM a p.1 p.2) + (if p ∈ (aL a).map (fun x => (x.1, x.2.1)) then bN (rich a p.1 p.2) else 0)) pr12 := by
    refine lsum_congr (fun p _ => ?_)
    have hh : hasL a p.1 p.2 = true ↔ p ∈ (aL a).map (fun x => (x.1, x.2.1)) := by
      unfold hasL
      rw [List.any_eq_true, List.mem_map]
      constructor
      · rintro ⟨x, hx, e⟩
        have e := of_decide_eq_true e
        exact ⟨x, hx, by rw [e.1, e.2]⟩
      · rintro ⟨x, hx, rfl⟩
        exact ⟨x, hx, by simp⟩
    have e0 : bN (tooM a p.1 p.2) = bN (rich a p.1 p.2 && !(hasL a p.1 p.2)) := rfl
    by_cases c : p ∈ (aL a).map (fun x => (x.1, x.2.1))
    · rw [if_pos c, e0, hh.mpr c]; simp [bN]
    · have : hasL a p.1 p.2 = false := by
        cases e : hasL a p.1 p.2 with
        | false => rfl
        | true => exact absurd (hh.mp e) c
      rw [if_neg c, e0, this]; simp
  rw [e1, lsum_add]
  congr 1
  rw [q_double (fun p => bN (rich a p.1 p.2)) _ W.2.2.2.2.1 pr12 (by decide), lsum_map]
  unfold trN
  refine lsum_congr (fun x hx => ?_)
  have hw := W.2.2.2.1 x hx
  have hm : ∀ j : Nat, j < 12 → ∀ i : Nat, i < j → ((i, j) ∈ pr12 ↔ i % 4 = j % 4) := by decide +kernel
  have := hm x.2.1 hw.2.1 x.1 hw.1
  by_cases c : x.1 % 4 = x.2.1 % 4
  · rw [if_pos (this.mpr c)]; simp [c, bN]
  · rw [if_neg (fun h => c (this.mp h))]; simp [c]
theorem nI_subN {a b : Nat} (h : b ≤ a) : nI a - nI b = nI (a - b) := by
  have e : nI a = nI (a - b) + nI b := by rw [nI_add]; congr 1; omega
  rw [e, Int32.add_sub_cancel]
theorem x_byColumns {h : SV} {a : AS} (R : RC h a) (W : WF a) : f_X3_byColumns h = some (nI (prN a)) := by
  rw [x_byColumnsI R W, q_cols, q_truce W, nI_subN (by omega), Nat.add_sub_cancel]
theorem m_allFeuds2 {v : SV} {a : AS} (R : RM (v.2 0) a) (W : WF a) : f_X13_allFeuds v = some (nI (prN a)) := by
  rw [m_allFeuds R W, q_allFeuds]
