/-! PURE: circles. The first rows (bt .. b_sshr) began as kit/laws/BITS.to-paste. -/
def bt (x : Int32) (i : Nat) : Bool := x.toBitVec.getLsbD i
theorem b_ext {x y : Int32} (h : ∀ i, i < 32 → bt x i = bt y i) : x = y := Int32.toBitVec_inj.mp (BitVec.eq_of_getLsbD_eq (fun i hi => h i hi))
theorem b_or (x y : Int32) (i : Nat) : bt (x ||| y) i = (bt x i || bt y i) := by unfold bt; rw [Int32.toBitVec_or, BitVec.getLsbD_or]
theorem b_and (x y : Int32) (i : Nat) : bt (x &&& y) i = (bt x i && bt y i) := by unfold bt; rw [Int32.toBitVec_and, BitVec.getLsbD_and]
theorem b_0 (i : Nat) : bt 0 i = false := BitVec.getLsbD_zero
theorem s_l : ∀ n, n < 32 → ((nI n &&& 31).toBitVec.smod 32).toNat = n := by decide +kernel
theorem b_shl (n : Nat) (hn : n < 32) (x : Int32) {i : Nat} (hi : i < 32) : bt (x <<< (nI n &&& 31)) i = (decide (n ≤ i) && bt x (i - n)) := by
  unfold bt
  rw [Int32.toBitVec_shiftLeft]
  show (x.toBitVec <<< ((nI n &&& 31).toBitVec.smod 32).toNat).getLsbD i = _
  rw [s_l n hn, BitVec.getLsbD_shiftLeft]
  rcases Nat.lt_or_ge i n with h | h
  · simp [h, Nat.not_le.mpr h]
  · simp [hi, h, Nat.not_lt.mpr h]
theorem b_sshr (n : Nat) (hn : n < 32) (x : Int32) {i : Nat} (hi : i < 32) : bt (x >>> (nI n &&& 31)) i = if n + i < 32 then bt x (n + i) else bt x 31 := by
  unfold bt
  rw [Int32.toBitVec_shiftRight]
  show (x.toBitVec.sshiftRight ((nI n &&& 31).toBitVec.smod 32).toNat).getLsbD i = _
  rw [s_l n hn, BitVec.getLsbD_sshiftRight, BitVec.msb_eq_getLsbD_last]
  simp [hi]
theorem bt_1 {k : Nat} (h : k < 32) : bt 1 k = decide (k = 0) := by
  have : ∀ k : Nat, k < 32 → bt 1 k = decide (k = 0) := by decide +kernel
  exact this k h
theorem bit_1 (x : Int32) {i : Nat} (hi : i < 32) : ((x >>> (nI i &&& 31)) &&& 1) = 1 ↔ bt x i = true := by
  constructor
  · intro h
    have h2 : bt ((x >>> (nI i &&& 31)) &&& 1) 0 = bt 1 0 := by rw [h]
    have e1 : bt ((x >>> (nI i &&& 31)) &&& 1) 0 = (bt (x >>> (nI i &&& 31)) 0 && bt 1 0) := by unfold bt; rw [Int32.toBitVec_and, BitVec.getLsbD_and]
    rw [e1, b_sshr i hi x (by omega), if_pos (by omega), bt_1 (by omega), Nat.add_zero] at h2
    simpa using h2
  · intro h
    refine b_ext (fun k hk => ?_)
    have e1 : bt ((x >>> (nI i &&& 31)) &&& 1) k = (bt (x >>> (nI i &&& 31)) k && bt 1 k) := by unfold bt; rw [Int32.toBitVec_and, BitVec.getLsbD_and]
    rw [e1, bt_1 hk]
    by_cases c : k = 0
    · subst c; rw [b_sshr i hi x (by omega), if_pos (by omega), Nat.add_zero, h]; rfl
    · simp [c]
theorem bit_0 (x : Int32) {i : Nat} (hi : i < 32) : ((x >>> (nI i &&& 31)) &&& 1) = 0 ↔ bt x i = false := by
  constructor
  · intro h
    cases e : bt x i with
    | false => rfl
    | true => rw [(bit_1 x hi).mpr e] at h; exact absurd h (by decide)
  · intro h
    refine b_ext (fun k hk => ?_)
    have e1 : bt ((x >>> (nI i &&& 31)) &&& 1) k = (bt (x >>> (nI i &&& 31)) k && bt 1 k) := by unfold bt; rw [Int32.toBitVec_and, BitVec.getLsbD_and]
    rw [e1, bt_1 hk, b_0]
    by_cases c : k = 0
    · subst c; rw [b_sshr i hi x (by omega), if_pos (by omega), Nat.add_zero, h]; rfl
    · simp [c]
theorem bt_sh {j i : Nat} (hj : j < 32) (hi : i < 32) : bt ((1 : Int32) <<< (nI j &&& 31)) i = decide (i = j) := by
  rw [b_shl j hj 1 hi]
  by_cases c : j ≤ i
  · rw [bt_1 (by omega)]
    by_cases c2 : i = j
    · subst c2; simp
    · simp [c2, show ¬ i - j = 0 by omega]
  · simp [c, show ¬ i = j by omega]
/-- z has x's bits, and one more below 12 if it is another -/
def grw (x z : Int32) : Prop := (∀ i, i < 32 → bt x i = true → bt z i = true) ∧ (z = x ∨ ∃ j, j < 12 ∧ bt x j = false ∧ bt z j = true)
/-- what is made of bits below 12 -/
def bs12 (y : Int32) : Prop := ∀ x z, grw x z → grw x (z ||| y)
theorem bs_0 : bs12 0 := fun x z h => by rw [Int32.or_zero]; exact h
theorem bs_or {y w : Int32} (h : bs12 y) (h2 : bs12 w) : bs12 (y ||| w) := fun x z g => by rw [← Int32.or_assoc]; exact h2 x _ (h x z g)
theorem bs_1 {j : Nat} (hj : j < 12) : bs12 (1 <<< (nI j &&& 31)) := by
  intro x z g
  obtain ⟨g1, g2⟩ := g
  have m : ∀ i, i < 32 → bt z i = true → bt (z ||| (1 <<< (nI j &&& 31))) i = true := fun i hi h => by rw [b_or, h, Bool.true_or]
  refine ⟨fun i hi h => m i hi (g1 i hi h), ?_⟩
  rcases g2 with rfl | ⟨k, hk, h1, h2⟩
  · cases c : bt z j with
    | true =>
      refine Or.inl (b_ext (fun i hi => ?_))
      rw [b_or, bt_sh (by omega) hi]
      by_cases c2 : i = j
      · subst c2; rw [c]; rfl
      · simp [c2]
    | false => exact Or.inr ⟨j, hj, c, by rw [b_or, bt_sh (by omega) (by omega)]; simp⟩
  · exact Or.inr ⟨k, hk, h1, m k (by omega) h2⟩
theorem bs_accF {f : Nat → Int32 → Int32} {N : Nat} (h : ∀ i b, i < N → bs12 b → bs12 (f i b)) : ∀ n, n ≤ N → bs12 (accF f 0 n 0) := by
  intro n
  induction n with
  | zero => intro _; exact bs_0
  | succ n ih =>
    intro hn
    rw [accF_succ, Nat.zero_add]
    exact h n _ (by omega) (ih (by omega))
theorem bs_frN (a : AS) (i : Nat) : bs12 (frN a i) := by
  refine bs_accF (N := 12) (fun j b hj hb => ?_) 12 (Nat.le_refl _)
  show bs12 (if aG a i j ≤ 0 then b else if aG a j i ≤ 0 then b else b ||| (1 <<< (nI j &&& 31)))
  split
  · exact hb
  · split
    · exact hb
    · exact bs_or hb (bs_1 hj)
/-- a set with its friends -/
def wfr (a : AS) (x : Int32) : Int32 := accF (fun o b => if ((x >>> (nI o &&& 31)) &&& 1) = 1 then b ||| frN a o else b) 0 12 x
theorem wfr_grw (a : AS) (x : Int32) : grw x (wfr a x) := by
  have h : ∀ n, n ≤ 12 → grw x (accF (fun o b => if ((x >>> (nI o &&& 31)) &&& 1) = 1 then b ||| frN a o else b) 0 n x) := by
    intro n
    induction n with
    | zero => intro _; exact ⟨fun _ _ h => h, Or.inl rfl⟩
    | succ n ih =>
      intro hn
      rw [accF_succ, Nat.zero_add]
      have g := ih (by omega)
      show grw x (if ((x >>> (nI n &&& 31)) &&& 1) = 1 then _ ||| frN a n else _)
      split
      · exact bs_frN a n x _ g
      · exact g
  exact h 12 (Nat.le_refl _)
def pcN (x : Int32) : Nat := smN (fun i => bN (bt x i)) 12
theorem smN_mono {f g : Nat → Nat} : ∀ N, (∀ i, i < N → f i ≤ g i) → smN f N ≤ smN g N := by
  intro N
  induction N with
  | zero => intro _; exact Nat.le_refl _
  | succ n ih => intro h; have := ih (fun i hi => h i (by omega)); have := h n (by omega); show smN f n + f n ≤ smN g n + g n; omega
theorem smN_lt {f g : Nat → Nat} {j : Nat} : ∀ N, (∀ i, i < N → f i ≤ g i) → j < N → f j < g j → smN f N < smN g N := by
  intro N
  induction N with
  | zero => intro _ h; omega
  | succ n ih =>
    intro h hj hl
    have h1 := h n (by omega)
    show smN f n + f n < smN g n + g n
    by_cases c : j = n
    · subst c
      have := smN_mono j (fun i hi => h i (by omega) : ∀ i, i < j → f i ≤ g i)
      omega
    · have := ih (fun i hi => h i (by omega)) (by omega) hl
      omega
theorem pcN_lt {a : AS} {x : Int32} (h : wfr a x ≠ x) : pcN x < pcN (wfr a x) := by
  obtain ⟨g1, g2⟩ := wfr_grw a x
  obtain ⟨j, hj, h1, h2⟩ := g2.resolve_left h
  refine smN_lt (j := j) 12 (fun i hi => ?_) hj (by rw [h1, h2]; decide)
  cases c : bt x i with
  | false => simp [bN]
  | true => rw [g1 i (by omega) c]; exact Nat.le_refl _
theorem pcN_le (x : Int32) : pcN x ≤ 12 := by
  have := smN_le (g := fun i => bN (bt x i)) (N := 12) (b := 1) (fun i _ => bN_le _)
  unfold pcN; omega
def itF (a : AS) (x : Int32) : Nat → Int32
  | 0 => x
  | k + 1 => wfr a (itF a x k)
theorem itF_stop (a : AS) {b : Nat} (hb : b < 12) : ∃ k, k < 12 ∧ itF a (1 <<< (nI b &&& 31)) (k + 1) = itF a (1 <<< (nI b &&& 31)) k ∧ ∀ j, j < k → itF a (1 <<< (nI b &&& 31)) (j + 1) ≠ itF a (1 <<< (nI b &&& 31)) j := by
  have h0 : 1 ≤ pcN (itF a (1 <<< (nI b &&& 31)) 0) := by
    have : smN (fun _ => 0) 12 < smN (fun i => bN (bt ((1 : Int32) <<< (nI b &&& 31)) i)) 12 := smN_lt (j := b) 12 (fun i hi => Nat.zero_le _) hb (by rw [bt_sh (by omega) (by omega)]; simp [bN])
    exact Nat.lt_of_le_of_lt (Nat.zero_le _) this
  have step : ∀ n, (∀ j, j < n → itF a (1 <<< (nI b &&& 31)) (j + 1) ≠ itF a (1 <<< (nI b &&& 31)) j) → n + 1 ≤ pcN (itF a (1 <<< (nI b &&& 31)) n) := by
    intro n
    induction n with
    | zero => intro _; exact h0
    | succ n ih =>
      intro h
      have h1 := ih (fun j hj => h j (by omega))
      have h2 := pcN_lt (h n (by omega))
      show n + 1 + 1 ≤ pcN (wfr a _)
      omega
  have find : ∀ n, (∃ k, k < n ∧ itF a (1 <<< (nI b &&& 31)) (k + 1) = itF a (1 <<< (nI b &&& 31)) k ∧ ∀ j, j < k → itF a (1 <<< (nI b &&& 31)) (j + 1) ≠ itF a (1 <<< (nI b &&& 31)) j) ∨ (∀ j, j < n → itF a (1 <<< (nI b &&& 31)) (j + 1) ≠ itF a (1 <<< (nI b &&& 31)) j) := by
    intro n
    induction n with
    | zero => exact Or.inr (fun j hj => by omega)
    | succ n ih =>
      rcases ih with ⟨k, hk, h1, h2⟩ | h
      · exact Or.inl ⟨k, by omega, h1, h2⟩
      · by_cases c : itF a (1 <<< (nI b &&& 31)) (n + 1) = itF a (1 <<< (nI b &&& 31)) n
        · exact Or.inl ⟨n, by omega, c, h⟩
        · refine Or.inr (fun j hj => ?_)
          rcases Nat.lt_succ_iff_lt_or_eq.mp hj with c2 | c2
          · exact h j c2
          · subst c2; exact c
  rcases find 12 with h | h
  · exact h
  · have h1 := step 12 h
    have h2 := pcN_le (itF a (1 <<< (nI b &&& 31)) 12)
    omega
theorem x_withFriends {h : SV} {a : AS} (R : RC h a) (x : Int32) : f_X4_withFriends x h = some (wfr a x) := by
  unfold f_X4_withFriends wfr
  refine lz2_acc0 (K := some) _ (N := 12) ?_ ?_ (by omega) x
  · intro self j b hj
    simp (disch := omega) only [f_X4_withFriends_B4, nI_1, nI_add, nI_mul, nI_leI, nI_ltI, nI_eq, ckI_n, nI_cl, qL2, qL3, qL4, qL5, qL6, qL7, qL8, qL9, qL10, qL11, qL12, nm, bd1_s, bd2_s, bd3_s, bd4_s, x_friendsOf R hj]
    simp only [show ¬ (12 ≤ j) by omega, Nat.lt_irrefl, Nat.le_refl, if_true, if_false, ite_true, ite_false, not_true_eq_false, not_false_eq_true, reduceIte]
    split <;> rfl
  · intro self b
    simp (disch := omega) only [f_X4_withFriends_B4, f_X4_withFriends_K4, nI_1, nI_add, nI_mul, nI_leI, nI_ltI, nI_eq, ckI_n, nI_cl, qL2, qL3, qL4, qL5, qL6, qL7, qL8, qL9, qL10, qL11, qL12, nm, bd1_s, bd2_s, bd3_s, bd4_s]
    simp only [Nat.lt_irrefl, Nat.le_refl, if_true, if_false, ite_true, ite_false, not_true_eq_false, not_false_eq_true, reduceIte]
/-- the circle of a balcony -/
theorem x_circleOf {h : SV} {a : AS} (R : RC h a) {b k : Nat} (hb : b < 12) (hk : k < 12) (h1 : itF a (1 <<< (nI b &&& 31)) (k + 1) = itF a (1 <<< (nI b &&& 31)) k) (h2 : ∀ j, j < k → itF a (1 <<< (nI b &&& 31)) (j + 1) ≠ itF a (1 <<< (nI b &&& 31)) j) : f_X4_circleOf (nI b) h = some (itF a (1 <<< (nI b &&& 31)) k) := by
  unfold f_X4_circleOf
  refine lz2_inv0 (N := k) (fun (i : Nat) (x : Int32) => x = itF a (1 <<< (nI b &&& 31)) i) (fun x => x = some (itF a (1 <<< (nI b &&& 31)) k)) ?_ ?_ (by omega) _ rfl
  · intro self i x hi hx kk
    subst hx
    simp (disch := omega) only [f_X4_circleOf_B6, nI_1, nI_add, nI_mul, nI_leI, nI_ltI, nI_eq, ckI_n, nI_cl, qL2, qL3, qL4, qL5, qL6, qL7, qL8, qL9, qL10, qL11, qL12, nm, bd1_s, bd2_s, bd3_s, bd4_s, x_withFriends R]
    rw [if_neg (by omega), if_neg (show ¬ (wfr a (itF a (1 <<< (nI b &&& 31)) i) = itF a (1 <<< (nI b &&& 31)) i) from h2 i hi)]
    exact kk _ rfl
  · intro self x hx
    subst hx
    simp (disch := omega) only [f_X4_circleOf_B6, nI_1, nI_add, nI_mul, nI_leI, nI_ltI, nI_eq, ckI_n, nI_cl, qL2, qL3, qL4, qL5, qL6, qL7, qL8, qL9, qL10, qL11, qL12, nm, bd1_s, bd2_s, bd3_s, bd4_s, x_withFriends R]
    rw [if_neg (by omega), if_pos (show wfr a (itF a (1 <<< (nI b &&& 31)) k) = itF a (1 <<< (nI b &&& 31)) k from h1)]
/-- one circle of the reference's -/
theorem m_circleB {v : SV} {a : AS} (M : RM (v.2 0) a) (self : Int32 → Int32 → Int32 → Option Int32) (x22 x23 x24 : Int32) {b k : Nat} (hb : b < 12) (hk : k < 12) (h1 : itF a (1 <<< (nI b &&& 31)) (k + 1) = itF a (1 <<< (nI b &&& 31)) k) (h2 : ∀ j, j < k → itF a (1 <<< (nI b &&& 31)) (j + 1) ≠ itF a (1 <<< (nI b &&& 31)) j) : lz2 (f_X13_circles_B35 self x22 x23 x24 v) FU 0 (1 <<< (nI b &&& 31)) = self (x22 + 1) (x23 ||| itF a (1 <<< (nI b &&& 31)) k) (x24 + 1) := by
  have inner : ∀ (s28 : Int32 → Int32 → Option Int32) (x : Int32), lz2 (f_X13_circles_B49 s28 x v) FU 0 x = s28 x (wfr a x) := by
    intro s28 x
    unfold wfr
    refine lz2_acc0 (K := fun y => s28 x y) _ (N := 12) ?_ ?_ (by omega) x
    · intro self j b hj
      simp (disch := omega) only [f_X13_circles_B49, nI_1, nI_add, nI_mul, nI_leI, nI_ltI, nI_eq, ckI_n, nI_cl, qL2, qL3, qL4, qL5, qL6, qL7, qL8, qL9, qL10, qL11, qL12, nm, bd1_s, bd2_s, bd3_s, bd4_s, m_friends M hj, Int32.or_zero]
      simp only [show ¬ (12 ≤ j) by omega, Nat.lt_irrefl, Nat.le_refl, if_true, if_false, ite_true, ite_false, not_true_eq_false, not_false_eq_true, reduceIte]
      split <;> rfl
    · intro self b
      simp (disch := omega) only [f_X13_circles_B49, f_X13_circles_K49, nI_1, nI_add, nI_mul, nI_leI, nI_ltI, nI_eq, ckI_n, nI_cl, qL2, qL3, qL4, qL5, qL6, qL7, qL8, qL9, qL10, qL11, qL12, nm, bd1_s, bd2_s, bd3_s, bd4_s]
      simp only [Nat.lt_irrefl, Nat.le_refl, if_true, if_false, ite_true, ite_false, not_true_eq_false, not_false_eq_true, reduceIte]
  have main : ∀ (r i n : Nat), i + r = k → r < n → lz2 (f_X13_circles_B35 self x22 x23 x24 v) n (itF a (1 <<< (nI b &&& 31)) i) (itF a (1 <<< (nI b &&& 31)) (i + 1)) = self (x22 + 1) (x23 ||| itF a (1 <<< (nI b &&& 31)) k) (x24 + 1) := by
    intro r
    induction r with
    | zero =>
      intro i n hi hn
      have : i = k := by omega
      subst this
      cases n with
      | zero => omega
      | succ n =>
        show f_X13_circles_B35 self x22 x23 x24 v (lz2 _ n) _ _ = _
        unfold f_X13_circles_B35 f_X13_circles_K35
        rw [if_pos h1, h1]
    | succ r ih =>
      intro i n hi hn
      cases n with
      | zero => omega
      | succ n =>
        show f_X13_circles_B35 self x22 x23 x24 v (lz2 _ n) _ _ = _
        unfold f_X13_circles_B35
        rw [if_neg (h2 i (by omega)), inner]
        exact ih (i + 1) n (by omega) (by omega)
  show f_X13_circles_B35 self x22 x23 x24 v (lz2 _ 599) 0 _ = _
  unfold f_X13_circles_B35
  have hz : ¬ ((1 : Int32) <<< (nI b &&& 31)) = 0 := fun e => by
    have := bt_sh (j := b) (i := b) (by omega) (by omega)
    rw [e, b_0] at this; simp at this
  rw [if_neg hz, inner]
  exact main k 0 599 (by omega) (by omega)
theorem q_circles {h v : SV} {a : AS} (R : RC h a) (M : RM (v.2 0) a) : ∃ r, f_X4_countCircles h = some r ∧ f_X13_circles v = some r := by
  have main : ∀ (r i n n' : Nat) (x c : Int32), i + r = 12 → r < n → r < n' → ∃ z, lz3 (f_X4_countCircles_B6 h) n (nI i) x c = some z ∧ lz3 (f_X13_circles_B6 v) n' (nI i) x c = some z := by
    intro r
    induction r with
    | zero =>
      intro i n n' x c hi hn hn'
      have : i = 12 := by omega
      subst this
      cases n with
      | zero => omega
      | succ n =>
        cases n' with
        | zero => omega
        | succ n' => exact ⟨c, rfl, rfl⟩
    | succ r ih =>
      intro i n n' x c hi hn hn'
      have hb : i < 12 := by omega
      cases n with
      | zero => omega
      | succ n =>
        cases n' with
        | zero => omega
        | succ n' =>
          obtain ⟨k, hk, h1, h2⟩ := itF_stop a hb
          show ∃ z, f_X4_countCircles_B6 h (lz3 _ n) (nI i) x c = some z ∧ f_X13_circles_B6 v (lz3 _ n') (nI i) x c = some z
          simp (disch := omega) only [f_X4_countCircles_B6, f_X13_circles_B6, nI_1, nI_add, nI_mul, nI_leI, nI_ltI, nI_eq, ckI_n, nI_cl, qL2, qL3, qL4, qL5, qL6, qL7, qL8, qL9, qL10, qL11, qL12, nm, bd1_s, bd2_s, bd3_s, bd4_s, x_circleOf R hb hk h1 h2, m_circleB M _ _ _ _ hb hk h1 h2]
          simp only [show ¬ 12 ≤ i by omega, if_false]
          cases e : bt x i with
          | true =>
            rw [if_neg (fun q => by rw [(bit_0 x (by omega)).mp q] at e; cases e), if_pos ((bit_1 x (by omega)).mpr e)]
            exact ih (i + 1) n n' _ _ (by omega) (by omega) (by omega)
          | false =>
            rw [if_pos ((bit_0 x (by omega)).mpr e), if_neg (fun q => by rw [(bit_1 x (by omega)).mp q] at e; cases e)]
            exact ih (i + 1) n n' _ _ (by omega) (by omega) (by omega)
  unfold f_X4_countCircles f_X13_circles
  obtain ⟨z, h1, h2⟩ := main 12 0 FU FU 0 0 (by omega) (by unfold FU; omega) (by unfold FU; omega)
  exact ⟨z, h1, h2⟩
