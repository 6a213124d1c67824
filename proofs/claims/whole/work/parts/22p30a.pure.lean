/-! PURE: numbers and loops. -/
theorem nI_mul (a b : Nat) : nI a * nI b = nI (a * b) := (Int32.ofNat_mul a b).symm
theorem nI_cl {n : Nat} (h : n < 2147483648) : (nI n).toNatClampNeg = n := nI_clamp h
theorem ckI_n {ρ : Type} {i n : Nat} {x : Option ρ} (h : i < n) (hn : n < 2147483648) : ckI (nI i) n x = x := by unfold ckI; exact if_neg (nI_in h hn)
theorem qL0 : (0 : Int32) = nI 0 := rfl
theorem qL1 : (1 : Int32) = nI 1 := rfl
theorem qL2 : (2 : Int32) = nI 2 := rfl
theorem qL3 : (3 : Int32) = nI 3 := rfl
theorem qL4 : (4 : Int32) = nI 4 := rfl
theorem qL5 : (5 : Int32) = nI 5 := rfl
theorem qL6 : (6 : Int32) = nI 6 := rfl
theorem qL7 : (7 : Int32) = nI 7 := rfl
theorem qL8 : (8 : Int32) = nI 8 := rfl
theorem qL9 : (9 : Int32) = nI 9 := rfl
theorem qL10 : (10 : Int32) = nI 10 := rfl
theorem qL11 : (11 : Int32) = nI 11 := rfl
theorem qL12 : (12 : Int32) = nI 12 := rfl
theorem qL22 : (22 : Int32) = nI 22 := rfl
theorem qL34 : (34 : Int32) = nI 34 := rfl
theorem qL46 : (46 : Int32) = nI 46 := rfl
theorem qL190 : (190 : Int32) = nI 190 := rfl
theorem qL208 : (208 : Int32) = nI 208 := rfl
theorem qL240 : (240 : Int32) = nI 240 := rfl
theorem qc0 : (0 : Int32).toNatClampNeg = 0 := rfl
theorem qc1 : (1 : Int32).toNatClampNeg = 1 := rfl
theorem qc2 : (2 : Int32).toNatClampNeg = 2 := rfl
theorem qc3 : (3 : Int32).toNatClampNeg = 3 := rfl
theorem qc4 : (4 : Int32).toNatClampNeg = 4 := rfl
theorem qc5 : (5 : Int32).toNatClampNeg = 5 := rfl
theorem qc6 : (6 : Int32).toNatClampNeg = 6 := rfl
theorem qc7 : (7 : Int32).toNatClampNeg = 7 := rfl
theorem ckI_l {ρ : Type} {i : Int32} {n : Nat} {x : Option ρ} (h : vp_in i n) : ckI i n x = x := by unfold ckI; exact if_neg h
theorem ck240_0 {ρ : Type} {x : Option ρ} : ckI 0 240 x = x := ckI_n (i := 0) (by omega) (by omega)
theorem ck240_1 {ρ : Type} {x : Option ρ} : ckI 1 240 x = x := ckI_n (i := 1) (by omega) (by omega)
theorem ck240_2 {ρ : Type} {x : Option ρ} : ckI 2 240 x = x := ckI_n (i := 2) (by omega) (by omega)
theorem ck240_3 {ρ : Type} {x : Option ρ} : ckI 3 240 x = x := ckI_n (i := 3) (by omega) (by omega)
theorem ck240_4 {ρ : Type} {x : Option ρ} : ckI 4 240 x = x := ckI_n (i := 4) (by omega) (by omega)
theorem ck240_5 {ρ : Type} {x : Option ρ} : ckI 5 240 x = x := ckI_n (i := 5) (by omega) (by omega)
theorem ck240_6 {ρ : Type} {x : Option ρ} : ckI 6 240 x = x := ckI_n (i := 6) (by omega) (by omega)
theorem ck240_7 {ρ : Type} {x : Option ρ} : ckI 7 240 x = x := ckI_n (i := 7) (by omega) (by omega)
/-- a loop's state after k rounds that begin with number i -/
def accF {β : Type} (f : Nat → β → β) : Nat → Nat → β → β
  | _, 0, b => b
  | i, k + 1, b => accF f (i + 1) k (f i b)
theorem accF_congr {β : Type} {f g : Nat → β → β} : ∀ (k i : Nat) (b : β), (∀ j, i ≤ j → j < i + k → ∀ b, f j b = g j b) → accF f i k b = accF g i k b := by
  intro k
  induction k with
  | zero => intro i b _; rfl
  | succ k ih =>
    intro i b h
    show accF f (i + 1) k (f i b) = accF g (i + 1) k (g i b)
    rw [h i (Nat.le_refl i) (by omega) b]
    exact ih (i + 1) _ (fun j h1 h2 => h j (by omega) (by omega))
theorem accF_succ {β : Type} {f : Nat → β → β} : ∀ (k i : Nat) (b : β), accF f i (k + 1) b = f (i + k) (accF f i k b) := by
  intro k
  induction k with
  | zero => intro i b; rfl
  | succ k ih =>
    intro i b
    show accF f (i + 1) (k + 1) (f i b) = f (i + (k + 1)) (accF f (i + 1) k (f i b))
    rw [ih (i + 1) (f i b), show i + 1 + k = i + (k + 1) by omega]
theorem lz2_acc {β ρ : Type} {B : (Int32 → β → Option ρ) → Int32 → β → Option ρ} {K : β → Option ρ} (f : Nat → β → β) {N : Nat} (hs : ∀ (self : Int32 → β → Option ρ) (i : Nat) (b : β), i < N → B self (nI i) b = self (nI (i + 1)) (f i b)) (hf : ∀ (self : Int32 → β → Option ρ) (b : β), B self (nI N) b = K b) :
    ∀ (k n i : Nat) (b : β), i + k = N → k < n → lz2 B n (nI i) b = K (accF f i k b) := by
  intro k
  induction k with
  | zero =>
    intro n i b h1 h2
    cases n with
    | zero => omega
    | succ n => have : i = N := by omega
                subst this; exact hf _ b
  | succ k ih =>
    intro n i b h1 h2
    cases n with
    | zero => omega
    | succ n =>
      show B (lz2 B n) (nI i) b = _
      rw [hs _ i b (by omega)]
      exact ih n (i + 1) (f i b) (by omega) (by omega)
theorem lz2_acc0 {β ρ : Type} {B : (Int32 → β → Option ρ) → Int32 → β → Option ρ} {K : β → Option ρ} (f : Nat → β → β) {N : Nat} (hs : ∀ (self : Int32 → β → Option ρ) (i : Nat) (b : β), i < N → B self (nI i) b = self (nI (i + 1)) (f i b)) (hf : ∀ (self : Int32 → β → Option ρ) (b : β), B self (nI N) b = K b) (hN : N < 600) (b : β) : lz2 B FU 0 b = K (accF f 0 N b) := by
  rw [← nI_0]
  exact lz2_acc f hs hf N FU 0 b (by omega) hN
theorem lz1_inv {ρ : Type} {B : (Int32 → Option ρ) → Int32 → Option ρ} {N : Nat} (I : Nat → Prop) (Q : Option ρ → Prop) (hs : ∀ (self : Int32 → Option ρ) (i : Nat), i < N → I i → (I (i + 1) → Q (self (nI (i + 1)))) → Q (B self (nI i))) (hf : ∀ (self : Int32 → Option ρ), I N → Q (B self (nI N))) :
    ∀ (k n i : Nat), i + k = N → k < n → I i → Q (lz1 B n (nI i)) := by
  intro k
  induction k with
  | zero =>
    intro n i h1 h2 h3
    cases n with
    | zero => omega
    | succ n => have : i = N := by omega
                subst this; exact hf _ h3
  | succ k ih =>
    intro n i h1 h2 h3
    cases n with
    | zero => omega
    | succ n => exact hs _ i (by omega) h3 (fun h => ih n (i + 1) (by omega) (by omega) h)
theorem lz2_inv {β ρ : Type} {B : (Int32 → β → Option ρ) → Int32 → β → Option ρ} {N : Nat} (I : Nat → β → Prop) (Q : Option ρ → Prop) (hs : ∀ (self : Int32 → β → Option ρ) (i : Nat) (b : β), i < N → I i b → (∀ b', I (i + 1) b' → Q (self (nI (i + 1)) b')) → Q (B self (nI i) b)) (hf : ∀ (self : Int32 → β → Option ρ) (b : β), I N b → Q (B self (nI N) b)) :
    ∀ (k n i : Nat) (b : β), i + k = N → k < n → I i b → Q (lz2 B n (nI i) b) := by
  intro k
  induction k with
  | zero =>
    intro n i b h1 h2 h3
    cases n with
    | zero => omega
    | succ n => have : i = N := by omega
                subst this; exact hf _ b h3
  | succ k ih =>
    intro n i b h1 h2 h3
    cases n with
    | zero => omega
    | succ n => exact hs _ i b (by omega) h3 (fun b' h => ih n (i + 1) b' (by omega) (by omega) h)
theorem lz3_inv {β γ ρ : Type} {B : (Int32 → β → γ → Option ρ) → Int32 → β → γ → Option ρ} {N : Nat} (I : Nat → β → γ → Prop) (Q : Option ρ → Prop) (hs : ∀ (self : Int32 → β → γ → Option ρ) (i : Nat) (b : β) (c : γ), i < N → I i b c → (∀ b' c', I (i + 1) b' c' → Q (self (nI (i + 1)) b' c')) → Q (B self (nI i) b c)) (hf : ∀ (self : Int32 → β → γ → Option ρ) (b : β) (c : γ), I N b c → Q (B self (nI N) b c)) :
    ∀ (k n i : Nat) (b : β) (c : γ), i + k = N → k < n → I i b c → Q (lz3 B n (nI i) b c) := by
  intro k
  induction k with
  | zero =>
    intro n i b c h1 h2 h3
    cases n with
    | zero => omega
    | succ n => have : i = N := by omega
                subst this; exact hf _ b c h3
  | succ k ih =>
    intro n i b c h1 h2 h3
    cases n with
    | zero => omega
    | succ n => exact hs _ i b c (by omega) h3 (fun b' c' h => ih n (i + 1) b' c' (by omega) (by omega) h)
theorem lz1_inv0 {ρ : Type} {B : (Int32 → Option ρ) → Int32 → Option ρ} {N : Nat} (I : Nat → Prop) (Q : Option ρ → Prop) (hs : ∀ (self : Int32 → Option ρ) (i : Nat), i < N → I i → (I (i + 1) → Q (self (nI (i + 1)))) → Q (B self (nI i))) (hf : ∀ (self : Int32 → Option ρ), I N → Q (B self (nI N))) (hN : N < 600) (h0 : I 0) : Q (lz1 B FU 0) := by
  rw [← nI_0]; exact lz1_inv I Q hs hf N FU 0 (by omega) hN h0
theorem lz2_inv0 {β ρ : Type} {B : (Int32 → β → Option ρ) → Int32 → β → Option ρ} {N : Nat} (I : Nat → β → Prop) (Q : Option ρ → Prop) (hs : ∀ (self : Int32 → β → Option ρ) (i : Nat) (b : β), i < N → I i b → (∀ b', I (i + 1) b' → Q (self (nI (i + 1)) b')) → Q (B self (nI i) b)) (hf : ∀ (self : Int32 → β → Option ρ) (b : β), I N b → Q (B self (nI N) b)) (hN : N < 600) (b : β) (h0 : I 0 b) : Q (lz2 B FU 0 b) := by
  rw [← nI_0]; exact lz2_inv I Q hs hf N FU 0 b (by omega) hN h0
theorem lz3_inv0 {β γ ρ : Type} {B : (Int32 → β → γ → Option ρ) → Int32 → β → γ → Option ρ} {N : Nat} (I : Nat → β → γ → Prop) (Q : Option ρ → Prop) (hs : ∀ (self : Int32 → β → γ → Option ρ) (i : Nat) (b : β) (c : γ), i < N → I i b c → (∀ b' c', I (i + 1) b' c' → Q (self (nI (i + 1)) b' c')) → Q (B self (nI i) b c)) (hf : ∀ (self : Int32 → β → γ → Option ρ) (b : β) (c : γ), I N b c → Q (B self (nI N) b c)) (hN : N < 600) (b : β) (c : γ) (h0 : I 0 b c) : Q (lz3 B FU 0 b c) := by
  rw [← nI_0]; exact lz3_inv I Q hs hf N FU 0 b c (by omega) hN h0
/-- the first of a row that .. -/
def fnd {α : Type} (p : α → Bool) (d : Int32) : List α → Nat → Int32
  | [], _ => d
  | x :: l, k => if p x = true then nI k else fnd p d l (k + 1)
theorem lz1_fnd {α ρ : Type} {B : (Int32 → Option ρ) → Int32 → Option ρ} {K : Int32 → Option ρ} (p : α → Bool) (d : Int32) (l : List α) (hs : ∀ (self : Int32 → Option ρ) (k : Nat) (x : α), l[k]? = some x → B self (nI k) = if p x = true then K (nI k) else self (nI (k + 1))) (hf : ∀ (self : Int32 → Option ρ), B self (nI l.length) = K d) (hl : l.length < 600) : lz1 B FU 0 = K (fnd p d l 0) := by
  have h : ∀ (m : List α) (i n : Nat), l.drop i = m → i ≤ l.length → l.length < n + i → lz1 B n (nI i) = K (fnd p d m i) := by
    intro m
    induction m with
    | nil =>
      intro i n hd hi hn
      have hi2 : i = l.length := by have := List.drop_eq_nil_iff.mp hd; omega
      cases n with
      | zero => omega
      | succ n => subst hi2; exact hf _
    | cons x m ih =>
      intro i n hd hi hn
      have hlt : i < l.length := by
        rcases Nat.lt_or_ge i l.length with h | h
        · exact h
        · rw [List.drop_eq_nil_of_le h] at hd; cases hd
      have hx : l[i]? = some x := by
        have h2 := congrArg (fun z => z[0]?) hd
        simpa [List.getElem?_drop] using h2
      cases n with
      | zero => omega
      | succ n =>
        show B (lz1 B n) (nI i) = K (if p x = true then nI i else fnd p d m (i + 1))
        rw [hs _ i x hx]
        split
        · rfl
        · refine ih (i + 1) n ?_ (by omega) (by omega)
          have h2 := congrArg (List.drop 1) hd
          simpa [List.drop_drop, Nat.add_comm] using h2
  rw [← nI_0]
  exact h l 0 FU rfl (by omega) (by unfold FU; omega)
theorem fnd_ge {α : Type} (p : α → Bool) (l : List α) : ∀ (k : Nat) (d : Int32), d < 0 → k + l.length < 2147483648 → (0 ≤ fnd p d l k ↔ l.any p = true) := by
  induction l with
  | nil => intro k d hd _; simp only [fnd, List.any_nil]; exact ⟨fun h => absurd hd (Int32.not_lt.mpr h), fun h => by cases h⟩
  | cons x l ih =>
    intro k d hd hk
    simp only [fnd, List.any_cons, List.length_cons] at *
    by_cases h : p x = true
    · simp only [h, if_true, Bool.true_or, iff_true]; exact nI_pos' (by omega)
    · have h2 : p x = false := by simpa using h
      simp only [h2, Bool.false_or, if_neg h]; simpa using ih (k + 1) d hd (by omega)
theorem fnd_lt {α : Type} (p : α → Bool) (l : List α) (k : Nat) (d : Int32) (hd : d < 0) (hk : k + l.length < 2147483648) : (fnd p d l k < 0 ↔ l.any p = false) := by
  have h := fnd_ge p l k d hd hk
  rw [← Int32.not_le, h]; simp
/-- what it finds -/
theorem fnd_at {α : Type} (p : α → Bool) (d : Int32) (l : List α) : ∀ k : Nat, l.any p = true → ∃ (j : Nat) (x : α), fnd p d l k = nI (k + j) ∧ l[j]? = some x ∧ p x = true ∧ j < l.length := by
  induction l with
  | nil => intro k h; cases h
  | cons x l ih =>
    intro k h
    by_cases hx : p x = true
    · exact ⟨0, x, by simp [fnd, hx], rfl, hx, by simp⟩
    · have h2 : p x = false := by simpa using hx
      rw [List.any_cons, h2, Bool.false_or] at h
      obtain ⟨j, y, h3, h4, h5, h6⟩ := ih (k + 1) h
      refine ⟨j + 1, y, ?_, by simpa using h4, h5, by simp; omega⟩
      simp only [fnd, if_neg hx, h3]
      congr 1; omega
theorem fnd_no {α : Type} (p : α → Bool) (d : Int32) (l : List α) : ∀ k : Nat, l.any p = false → fnd p d l k = d := by
  induction l with
  | nil => intro k _; rfl
  | cons x l ih =>
    intro k h
    rw [List.any_cons, Bool.or_eq_false_iff] at h
    simp only [fnd, h.1]; exact ih _ h.2
/-- true as 1, false as 0 -/
def b2i (b : Bool) : Int32 := if b = true then 1 else 0
theorem b2i_0 {b : Bool} : b2i b = 0 ↔ b = false := by cases b <;> decide
theorem qsel {α : Type} {c : Bool} {x y : α} : (if b2i c = 0 then x else y) = if c = true then y else x := by cases c <;> rfl
/-- a sum of N numbers -/
def sm (g : Nat → Int32) (N : Nat) : Int32 := accF (fun i b => b + g i) 0 N 0
theorem sm_congr {f g : Nat → Int32} {N : Nat} (h : ∀ i, i < N → f i = g i) : sm f N = sm g N := accF_congr N 0 0 (fun j _ h2 b => by rw [h j (by omega)])
theorem sm_succ {g : Nat → Int32} {N : Nat} : sm g (N + 1) = sm g N + g N := by
  show accF _ 0 (N + 1) 0 = _
  rw [accF_succ, Nat.zero_add]; rfl
def smN (g : Nat → Nat) : Nat → Nat
  | 0 => 0
  | n + 1 => smN g n + g n
theorem sm_nI (g : Nat → Nat) (N : Nat) : sm (fun i => nI (g i)) N = nI (smN g N) := by
  induction N with
  | zero => rfl
  | succ n ih => rw [sm_succ, ih, nI_add]; rfl
theorem smN_le {g : Nat → Nat} {N b : Nat} (h : ∀ i, i < N → g i ≤ b) : smN g N ≤ N * b := by
  induction N with
  | zero => simp [smN]
  | succ n ih =>
    have h1 := ih (fun i hi => h i (by omega))
    have h2 := h n (by omega)
    have h3 : (n + 1) * b = n * b + b := Nat.succ_mul n b
    show smN g n + g n ≤ _
    omega
