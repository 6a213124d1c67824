/-! What holds at the law's points. -/
def LwB (p : Program) (l : Launch) (s : State) (m : MethodId) (c : Code) (b L : Nat) (xs : Nat → Int32) (D : va_G) (G : Nat → ClassId) (X : Nat → Nat → Nat) : Prop :=
  p.tables.exec = Jvm.exec ∧ c.code = code ∧ c.maxLocals = 8 ∧ s.vm.findClass RL = some m.cls ∧ (∀ w ∈ wsL_lawB, w.before #[Value.ref b] s = true) ∧ va_X b L xs s s.heap ∧ b < s.heap.size ∧ kN s ∧ va_K D vwCl (tyG G) s ∧ kL X (fun q : Nat => s.heap.size ≤ q) s
