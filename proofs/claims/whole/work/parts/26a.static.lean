/-! What the claim gives of the start: the classes, the constants. -/
def nmC : List String := ["PLANT", "BEAR", "HANG", "GREET", "GIVE", "CAT", "SWAP", "DAY"]
def ixC : List Nat := [60, 66, 69, 72, 75, 78, 81, 84]
theorem st_narrow {args : Array Value} {s : State} (h : (Jvm.Cond.and given_1 narrow_1).before args s = true) : ∀ c ∈ flatC narrow_1, c.before args s = true := by
  rw [Cond.before_and, Bool.and_eq_true] at h
  exact flat_of_before _ h.2
theorem st_enum {args : Array Value} {s : State} {N : Nat} {E d : String} {nm : List String} {A : Nat → Prop} (hex : ∀ i, i < N → (Cond.exactly (.static E (nm.getD i "") d) E).before args s = true) (hA : ∀ a : Nat, a < s.heap.size → ¬ A a) : ∃ ad : Nat → Nat, ∀ i, i < N → (Term.static E (nm.getD i "") d).eval args s none [] s = some (.ref (ad i)) ∧ va_O E (ad i) A s s.heap := by
  have h0 : ∀ i : Nat, ∃ t : Nat, i < N → (Term.static E (nm.getD i "") d).eval args s none [] s = some (.ref t) ∧ va_O E t A s s.heap := by
    intro i
    by_cases hi : i < N
    · obtain ⟨a, c, cell, k, q1, q2, q3, q4, q5, q6, -⟩ := Cond.exactly_spec (hex i hi)
      exact ⟨a, fun _ => ⟨q1, cell, q3, q5, by rw [q6]; exact q2, hA a (Array.getElem?_eq_some_iff.mp q3).1⟩⟩
    · exact ⟨0, fun h => absurd h hi⟩
  obtain ⟨ad, had⟩ := Classical.axiomOfChoice h0
  exact ⟨ad, had⟩
theorem st_arr {args : Array Value} {s : State} {ty : FieldType} (h : (Cond.arrayClass ty).before args s = true) : ∃ cA : ClassId, ArrOfT s cA ty ∧ s.vm.findClass ("[" ++ ty.toString) = some cA := by
  obtain ⟨cA, kA, comp, h1, h2, h3⟩ := Cond.arrayClass_spec h
  exact ⟨cA, fun n z => ⟨fun k h => (by cases h), kA, h2, comp, h3⟩, h1⟩
theorem st_arrO {args : Array Value} {s : State} {C : String} (h : (Cond.arrayOver (.object C)).before args s = true) : ∃ cA : ClassId, ArrOfT s cA (.object C) ∧ va_RA s cA (.object C) := by
  obtain ⟨comp, c, k, h1, h2, h3, h4, h5⟩ := Cond.arrayOver_spec h
  exact ⟨c, fun n z => ⟨fun k h => (by cases h), k, h3, comp, h4⟩, k, comp, h3, h4, h1, h5⟩
theorem st_nests : ∀ q ∈ nests, Cond.methodLinkNest q.1 q.2.1 q.2.2 "BalconyCensus" ∈ lw_tbl := by decide +kernel
theorem st_kN {args : Array Value} {s : State} (hts : ∀ w ∈ lw_tbl, w.before args s = true) : kN s := fun q hq => va_Nw.of rfl (hts _ (st_nests q hq))
theorem st_inst : Cond.instantiable RJ4 4 ∈ lw_tbl ∧ Cond.instantiable RX1 4 ∈ lw_tbl ∧ Cond.instantiable RX4 2 ∈ lw_tbl ∧ Cond.instantiable RX5 3 ∈ lw_tbl ∧ Cond.instantiable RX6 10 ∈ lw_tbl ∧ Cond.instantiable RX7 5 ∈ lw_tbl ∧ Cond.instantiable RX8 2 ∈ lw_tbl ∧ Cond.instantiable RX9 2 ∈ lw_tbl ∧ Cond.instantiable RX10 8 ∈ lw_tbl ∧ Cond.instantiable RX11 4 ∈ lw_tbl ∧ Cond.instantiable RX12 11 ∈ lw_tbl ∧ Cond.instantiable RX13 27 ∈ lw_tbl := by decide +kernel
theorem st_cls {args : Array Value} {s : State} (hts : ∀ w ∈ lw_tblX, w.before args s = true) : ∀ k : Nat, ∃ r : ClassId × (Nat → Nat), ∀ q, vwCl[k]? = some q → u_Kn s q.1 q.2.1 q.2.2 r.1 r.2 := by
  obtain ⟨i0, i1, i2, i3, i4, i5, i6, i7, i8, i9, i10, i11⟩ := st_inst
  intro k
  match k with
  | 0 =>
    obtain ⟨c, f, h⟩ := u_known (C := RJ4) (T := TJ4) (N := 4) (n := 4) hts inJ4 (hts _ (List.mem_append_left _ i0))
    exact ⟨(c, f), fun q hq => by cases hq; exact h⟩
  | 1 =>
    obtain ⟨c, f, h⟩ := u_known (C := RX1) (T := TX1) (N := 4) (n := 4) hts inX1 (hts _ (List.mem_append_left _ i1))
    exact ⟨(c, f), fun q hq => by cases hq; exact h⟩
  | 2 =>
    obtain ⟨c, f, h⟩ := u_known (C := RX4) (T := TX4) (N := 2) (n := 2) hts inX4 (hts _ (List.mem_append_left _ i2))
    exact ⟨(c, f), fun q hq => by cases hq; exact h⟩
  | 3 =>
    obtain ⟨c, f, h⟩ := u_known (C := RX5) (T := TX5) (N := 3) (n := 3) hts inX5 (hts _ (List.mem_append_left _ i3))
    exact ⟨(c, f), fun q hq => by cases hq; exact h⟩
  | 4 =>
    obtain ⟨c, f, h⟩ := u_known (C := RX6) (T := TX6) (N := 10) (n := 10) hts inX6 (hts _ (List.mem_append_left _ i4))
    exact ⟨(c, f), fun q hq => by cases hq; exact h⟩
  | 5 =>
    obtain ⟨c, f, h⟩ := u_known (C := RX7) (T := TX7) (N := 5) (n := 5) hts inX7 (hts _ (List.mem_append_left _ i5))
    exact ⟨(c, f), fun q hq => by cases hq; exact h⟩
  | 6 =>
    obtain ⟨c, f, h⟩ := u_known (C := RX8) (T := TX8) (N := 2) (n := 2) hts inX8 (hts _ (List.mem_append_left _ i6))
    exact ⟨(c, f), fun q hq => by cases hq; exact h⟩
  | 7 =>
    obtain ⟨c, f, h⟩ := u_known (C := RX9) (T := TX9) (N := 2) (n := 2) hts inX9 (hts _ (List.mem_append_left _ i7))
    exact ⟨(c, f), fun q hq => by cases hq; exact h⟩
  | 8 =>
    obtain ⟨c, f, h⟩ := u_known (C := RX10) (T := TX10) (N := 8) (n := 8) hts inX10 (hts _ (List.mem_append_left _ i8))
    exact ⟨(c, f), fun q hq => by cases hq; exact h⟩
  | 9 =>
    obtain ⟨c, f, h⟩ := u_known (C := RX11) (T := TX11) (N := 4) (n := 4) hts inX11 (hts _ (List.mem_append_left _ i9))
    exact ⟨(c, f), fun q hq => by cases hq; exact h⟩
  | 10 =>
    obtain ⟨c, f, h⟩ := u_known (C := RX12) (T := TX12) (N := 11) (n := 11) hts inX12 (hts _ (List.mem_append_left _ i10))
    exact ⟨(c, f), fun q hq => by cases hq; exact h⟩
  | 11 =>
    obtain ⟨c, f, h⟩ := u_known (C := RX13) (T := TX13) (N := 27) (n := 27) hts inX13 (hts _ (List.mem_append_left _ i11))
    exact ⟨(c, f), fun q hq => by cases hq; exact h⟩
  | k + 12 => exact ⟨(default, fun _ => 0), fun q hq => by simp [vwCl] at hq⟩
theorem st_arrs : Cond.arrayClass .int ∈ lw_tbl ∧ Cond.arrayClass .char ∈ lw_tbl ∧ Cond.arrayClass .byte ∈ lw_tbl ∧ Cond.arrayOver (.object "BalconyCensus$House") ∈ lw_tbl := by decide +kernel
theorem st_K {args : Array Value} {s : State} (hts : ∀ w ∈ lw_tbl, w.before args s = true) : ∃ (D : va_G) (G : Nat → ClassId), va_K D vwCl (tyG G) s := by
  obtain ⟨r, hr⟩ := Classical.axiomOfChoice (st_cls (lw_htx hts))
  obtain ⟨a0, a1, a2, a3⟩ := st_arrs
  obtain ⟨g0, p0, q0⟩ := st_arr (hts _ a0)
  obtain ⟨g1, p1, q1⟩ := st_arr (hts _ a1)
  obtain ⟨g2, p2, q2⟩ := st_arr (hts _ a2)
  obtain ⟨g3, p3, q3⟩ := st_arrO (hts _ a3)
  refine ⟨(fun k => (r k).1, fun k => (r k).2), fun k => if k = 0 then g0 else if k = 1 then g1 else if k = 2 then g2 else g3, fun c q hq => hr c q hq, fun k q hq => ?_⟩
  match k, hq with
  | 0, hq => cases hq; exact ⟨p0, q0⟩
  | 1, hq => cases hq; exact ⟨p1, q1⟩
  | 2, hq => cases hq; exact ⟨p2, q2⟩
  | 3, hq => cases hq; exact ⟨p3, q3⟩
  | k + 4, hq => simp at hq
theorem st_m1 : Cond.arrayOf (.static "BalconyCensus" "COMMANDS" "[LBalconyCensus$Command;") (.object "BalconyCensus$Command") ∈ flatC narrow_1 ∧ Cond.eq (.length (.static "BalconyCensus" "COMMANDS" "[LBalconyCensus$Command;")) (.int 8) ∈ flatC narrow_1 ∧ Cond.arrayOf (.static "BalconyCensus$1" "$SwitchMap$BalconyCensus$Command" "[I") .int ∈ flatC narrow_1 ∧ Cond.eq (.length (.static "BalconyCensus$1" "$SwitchMap$BalconyCensus$Command" "[I")) (.int 8) ∈ flatC narrow_1 ∧ Cond.arrayOf (.static "java/lang/Integer" "DigitOnes" "[B") .byte ∈ flatC narrow_1 ∧ Cond.eq (.length (.static "java/lang/Integer" "DigitOnes" "[B")) (.int 100) ∈ flatC narrow_1 ∧ Cond.arrayOf (.static "java/lang/Integer" "DigitTens" "[B") .byte ∈ flatC narrow_1 ∧ Cond.eq (.length (.static "java/lang/Integer" "DigitTens" "[B")) (.int 100) ∈ flatC narrow_1 := by decide +kernel
theorem st_m2 : Cond.eq (.static "java/lang/String" "COMPACT_STRINGS" "Z") (.int 1) ∈ flatC narrow_1 ∧ Cond.isRef (.static "jdk/internal/util/Preconditions" "SIOOBE_FORMATTER" "Ljava/util/function/BiFunction;") ∈ flatC narrow_1 := by decide +kernel
theorem st_m3 : ∀ i, i < 8 → Cond.eq (.elem (.static "BalconyCensus" "COMMANDS" "[LBalconyCensus$Command;") (.int (Int32.ofNat i))) (.static "BalconyCensus$Command" (nmC.getD i "") "LBalconyCensus$Command;") ∈ flatC narrow_1 := by decide +kernel
theorem st_m4 : ∀ i, i < 8 → Cond.eq (.elem (.static "BalconyCensus$1" "$SwitchMap$BalconyCensus$Command" "[I") (.int (Int32.ofNat i))) (.int (swM i)) ∈ flatC narrow_1 := by decide +kernel
theorem st_m5 : (List.range 100).map (fun i => Cond.eq (.elem (.static "java/lang/Integer" "DigitOnes" "[B") (.int (Int32.ofNat i))) (.int (dgO i))) = ((flatC narrow_1).drop 34).take 100 := by decide +kernel
theorem st_m6 : (List.range 100).map (fun i => Cond.eq (.elem (.static "java/lang/Integer" "DigitTens" "[B") (.int (Int32.ofNat i))) (.int (dgT i))) = ((flatC narrow_1).drop 137).take 100 := by decide +kernel
theorem st_m7 : ∀ i, i < 8 → Cond.exactly (.static "BalconyCensus$Command" (nmC.getD i "") "LBalconyCensus$Command;") "BalconyCensus$Command" ∈ flatC narrow_1 := by decide +kernel
theorem st_m8 : ∀ i, i < 8 → Cond.eq (.field (.static "BalconyCensus$Command" (nmC.getD i "") "LBalconyCensus$Command;") "java/lang/Enum" "ordinal" "I") (.int (nI i)) ∈ flatC narrow_1 := by decide +kernel
theorem st_m9 : ∀ i, i < 8 → Cond.eq (.field (.static "BalconyCensus$Command" (nmC.getD i "") "LBalconyCensus$Command;") "BalconyCensus$Command" "numbers" "I") (.int (cNum i)) ∈ flatC narrow_1 := by decide +kernel
theorem st_m10 : ∀ i, i < 8 → Cond.eq (.field (.static "BalconyCensus$Command" (nmC.getD i "") "LBalconyCensus$Command;") "BalconyCensus$Command" "isDigitLast" "Z") (.int (cDig i)) ∈ flatC narrow_1 := by decide +kernel
theorem st_m11 : ∀ i, i < 8 → Cond.eq (.field (.static "BalconyCensus$Command" (nmC.getD i "") "LBalconyCensus$Command;") "BalconyCensus$Command" "word" "Ljava/lang/String;") (.string "BalconyCensus$Command" (ixC.getD i 0)) ∈ flatC narrow_1 := by decide +kernel
theorem st_m12 : ∀ i, i < 8 → Cond.exactly (.string "BalconyCensus$Command" (ixC.getD i 0)) "java/lang/String" ∈ flatC narrow_1 := by decide +kernel
theorem st_m13 : ∀ i, i < 8 → Cond.eq (.field (.string "BalconyCensus$Command" (ixC.getD i 0)) "java/lang/String" "coder" "B") (.int 0) ∈ flatC narrow_1 := by decide +kernel
theorem st_m14 : ∀ i, i < 8 → Cond.arrayOf (.field (.string "BalconyCensus$Command" (ixC.getD i 0)) "java/lang/String" "value" "[B") .byte ∈ flatC narrow_1 := by decide +kernel
theorem st_m15 : ∀ i, i < 8 → Cond.eq (.length (.field (.string "BalconyCensus$Command" (ixC.getD i 0)) "java/lang/String" "value" "[B")) (.int (Int32.ofNat (wLen.getD i 0))) ∈ flatC narrow_1 := by decide +kernel
theorem st_m16 : ∀ i, i < 8 → ∀ j, j < wLen.getD i 0 → Cond.eq (.elem (.field (.string "BalconyCensus$Command" (ixC.getD i 0)) "java/lang/String" "value" "[B") (.int (Int32.ofNat j))) (.int ((wByt.getD i []).getD j 0)) ∈ flatC narrow_1 := by decide +kernel
theorem st_m17 : ∀ i, i < 8 → ∀ j, j < i → Cond.not (Cond.eq (.string "BalconyCensus$Command" (ixC.getD j 0)) (.string "BalconyCensus$Command" (ixC.getD i 0))) ∈ flatC narrow_1 := by decide +kernel
theorem st_m18 : Cond.laysStatic "BalconyCensus" "COMMANDS" "[LBalconyCensus$Command;" ∈ lw_tbl ∧ Cond.laysStatic "BalconyCensus$1" "$SwitchMap$BalconyCensus$Command" "[I" ∈ lw_tbl ∧ Cond.laysStatic "java/lang/Integer" "DigitOnes" "[B" ∈ lw_tbl ∧ Cond.laysStatic "java/lang/Integer" "DigitTens" "[B" ∈ lw_tbl ∧ Cond.laysStatic "java/lang/String" "COMPACT_STRINGS" "Z" ∈ lw_tbl ∧ Cond.laysStatic "jdk/internal/util/Preconditions" "SIOOBE_FORMATTER" "Ljava/util/function/BiFunction;" ∈ lw_tbl := by decide +kernel
theorem st_m19 : Cond.initialized "BalconyCensus" ∈ lw_tbl ∧ Cond.initialized "BalconyCensus$1" ∈ lw_tbl ∧ Cond.initialized "java/lang/Integer" ∈ lw_tbl ∧ Cond.initialized "java/lang/String" ∈ lw_tbl ∧ Cond.initialized "jdk/internal/util/Preconditions" ∈ lw_tbl ∧ Cond.fieldLinkNest RX10 50 "BalconyCensus" "COMMANDS" "[LBalconyCensus$Command;" "BalconyCensus" ∈ lw_tbl := by decide +kernel
theorem st_sio {s : State} {A : Nat → Prop} (h : va_Zq "jdk/internal/util/Preconditions" "SIOOBE_FORMATTER" "Ljava/util/function/BiFunction;" A s s.heap) : ∃ a b : Nat, va_Z "jdk/internal/util/Preconditions" "SIOOBE_FORMATTER" "Ljava/util/function/BiFunction;" (if a = 0 then .null else .ref b) A s s.heap := by
  rcases h with h | ⟨t, h⟩
  · exact ⟨0, 0, h⟩
  · exact ⟨1, t, h⟩
/-- all of it -/
theorem st_L {args : Array Value} {s : State} (hts : ∀ w ∈ lw_tbl, w.before args s = true) (hg : (Jvm.Cond.and given_1 narrow_1).before args s = true) : ∃ X : Nat → Nat → Nat, kL X (fun q : Nat => s.heap.size ≤ q) s := by
  have hn := st_narrow hg
  have hA : ∀ a : Nat, a < s.heap.size → ¬ (fun q : Nat => s.heap.size ≤ q) a := fun a h => Nat.not_le.mpr h
  obtain ⟨a1, a2, a3, a4, a5, a6, a7, a8⟩ := st_m1
  obtain ⟨b1, b2⟩ := st_m2
  obtain ⟨c1, c2, c3, c4, c5, c6⟩ := st_m18
  obtain ⟨d1, d2, d3, d4, d5, d6⟩ := st_m19
  obtain ⟨ad, had⟩ := st_enum (N := 8) (E := "BalconyCensus$Command") (d := "LBalconyCensus$Command;") (nm := nmC) (fun i hi => hn _ (st_m7 i hi)) hA
  obtain ⟨adK, adV, hS, hSe⟩ := vk_Sof (args := args) (s := s) (N := 8) (tm := fun i => .string "BalconyCensus$Command" (ixC.getD i 0)) (len := wLen) (byt := wByt) (by decide) (fun i hi => hn _ (st_m12 i hi)) (fun i hi => hn _ (st_m13 i hi)) (fun i hi => hn _ (st_m14 i hi)) (fun i hi => hn _ (st_m15 i hi)) (fun i hi j hj => hn _ (st_m16 i hi j hj)) (fun i j hi hj hne => by
    rcases Nat.lt_or_ge i j with q | q
    · exact Or.inl (hn _ (st_m17 j hj i q))
    · exact Or.inr (hn _ (st_m17 i hi j (by omega)))) hA
  obtain ⟨tc, ec, Tc⟩ := va_Tof (args := args) (s := s) (tm := (.static "BalconyCensus" "COMMANDS" "[LBalconyCensus$Command;")) (ty := .object "BalconyCensus$Command") (N := 8) (f := fun j => .ref (ad j)) (by decide) (hn _ a1) (va_eqt (hn _ a2)) (fun j hj => va_eqv (hn _ (st_m3 j hj)) (had j hj).1) hA
  obtain ⟨tw, ew, Tw⟩ := va_Tof (args := args) (s := s) (tm := (.static "BalconyCensus$1" "$SwitchMap$BalconyCensus$Command" "[I")) (ty := .int) (N := 8) (f := fun j => .int (swM j)) (by decide) (hn _ a3) (va_eqt (hn _ a4)) (fun j hj => va_eqt (hn _ (st_m4 j hj))) hA
  obtain ⟨t1, e1, T1⟩ := va_Tof (args := args) (s := s) (tm := (.static "java/lang/Integer" "DigitOnes" "[B")) (ty := .byte) (N := 100) (f := fun j => .int (dgO j)) (by decide) (hn _ a5) (va_eqt (hn _ a6)) (fun j hj => va_eqt (hn _ (va_run st_m5 j hj))) hA
  obtain ⟨t2, e2, T2⟩ := va_Tof (args := args) (s := s) (tm := (.static "java/lang/Integer" "DigitTens" "[B")) (ty := .byte) (N := 100) (f := fun j => .int (dgT j)) (by decide) (hn _ a7) (va_eqt (hn _ a8)) (fun j hj => va_eqt (hn _ (va_run st_m6 j hj))) hA
  obtain ⟨sa, sb, hsio⟩ := st_sio (va_Zqof (hts _ c6) (hts _ d5) (hn _ b2) hA)
  refine ⟨fun k j => if k = 0 then (if j = 0 then tc else if j = 1 then tw else if j = 2 then sb else if j = 3 then sa else if j = 4 then t1 else t2) else if k = 1 then ad j else if k = 2 then adK j else adV j, ⟨⟨⟨va_Zref (hts _ c1) (hts _ d1) ec hA, Tc, va_Zref (hts _ c2) (hts _ d2) ew hA, Tw, fun i hi => (had i hi).2, ?_, ?_, ?_, ?_, hS, va_Zof (hts _ c5) (hts _ d4) (va_eqt (hn _ b1)) hA, va_Nw.of rfl (hts _ d6)⟩, hsio⟩, va_Zref (hts _ c3) (hts _ d3) e1 hA, T1, va_Zref (hts _ c4) (hts _ d3) e2 hA, T2⟩, va_AO.of (hts _ st_arrs.2.2.2)⟩
  · exact va_Efof (N := 8) (nm := nmC) (tm := fun i => .int (nI i)) (fun i hi => (had i hi).1) (fun i hi => hn _ (st_m8 i hi)) (fun i hi => rfl) hA
  · exact va_Efof (N := 8) (nm := nmC) (tm := fun i => .int (cNum i)) (fun i hi => (had i hi).1) (fun i hi => hn _ (st_m9 i hi)) (fun i hi => rfl) hA
  · exact va_Efof (N := 8) (nm := nmC) (tm := fun i => .int (cDig i)) (fun i hi => (had i hi).1) (fun i hi => hn _ (st_m10 i hi)) (fun i hi => rfl) hA
  · exact va_Efof (N := 8) (nm := nmC) (tm := fun i => .string "BalconyCensus$Command" (ixC.getD i 0)) (fun i hi => (had i hi).1) (fun i hi => hn _ (st_m11 i hi)) (fun i hi => hSe i hi) hA
