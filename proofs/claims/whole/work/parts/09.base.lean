/-! The base: partial functions that the walks follow, contracts over a world, one row a call. -/
def ckI {ρ : Type} (i : Int32) (n : Nat) (x : Option ρ) : Option ρ := if i < 0 ∨ n ≤ i.toNatClampNeg then none else x
theorem ckI_of {ρ : Type} {i : Int32} {n : Nat} {x : Option ρ} {r : ρ} (h : ckI i n x = some r) : vp_in i n ∧ x = some r := by
  unfold ckI at h
  split at h
  · cases h
  · exact ⟨‹_›, h⟩
def ckB {ρ : Type} (i : Int32) (x : Option ρ) : Option ρ := if i = 0 ∨ i = 1 then x else none
theorem ckB_of {ρ : Type} {i : Int32} {x : Option ρ} {r : ρ} (h : ckB i x = some r) : (i = 0 ∨ i = 1) ∧ x = some r := by
  unfold ckB at h
  split at h
  · exact ⟨‹_›, h⟩
  · cases h
def ckP {ρ : Type} (c : Prop) [Decidable c] (x : Option ρ) : Option ρ := if c then x else none
theorem ckP_of {ρ : Type} {c : Prop} [Decidable c] {x : Option ρ} {r : ρ} (h : ckP c x = some r) : c ∧ x = some r := by
  unfold ckP at h
  split at h
  · exact ⟨‹_›, h⟩
  · cases h
theorem narB {i : Int32} (h : i = 0 ∨ i = 1) : narrow .boolean (.int i) = .int i := by
  rcases h with rfl | rfl <;> decide +kernel
theorem fitB {i : Int32} (h : i = 0 ∨ i = 1) : fits .boolean (.int i) = true := by
  rcases h with rfl | rfl <;> decide +kernel
theorem ifT {ρ : Type} {c : Prop} [Decidable c] {a b : Option ρ} {r : ρ} (hc : c) (h : (if c then a else b) = some r) : a = some r := by rwa [if_pos hc] at h
theorem ifF {ρ : Type} {c : Prop} [Decidable c] {a b : Option ρ} {r : ρ} (hc : ¬ c) (h : (if c then a else b) = some r) : b = some r := by rwa [if_neg hc] at h
def bd1 {α ρ : Type} (x : Option α) (k : α → Option ρ) : Option ρ := match x with
  | none => none
  | some a => k a
theorem bd1_of {α ρ : Type} {x : Option α} {k : α → Option ρ} {r : ρ} (h : bd1 x k = some r) : ∃ a, x = some a ∧ k a = some r := by
  cases x with
  | none => cases h
  | some a => exact ⟨a, rfl, h⟩
theorem bd1_s {α ρ : Type} (a : α) (k : α → Option ρ) : bd1 (some a) k = k a := rfl
def bd2 {α β ρ : Type} (x : Option (α × β)) (k : α → β → Option ρ) : Option ρ := match x with
  | none => none
  | some (a, b) => k a b
theorem bd2_of {α β ρ : Type} {x : Option (α × β)} {k : α → β → Option ρ} {r : ρ} (h : bd2 x k = some r) : ∃ a b, x = some (a, b) ∧ k a b = some r := by
  cases x with
  | none => cases h
  | some a => exact ⟨a.1, a.2, rfl, h⟩
theorem bd2_s {α β ρ : Type} (a : α) (b : β) (k : α → β → Option ρ) : bd2 (some (a, b)) k = k a b := rfl
def bd3 {α β γ ρ : Type} (x : Option (α × β × γ)) (k : α → β → γ → Option ρ) : Option ρ := match x with
  | none => none
  | some (a, b, c) => k a b c
theorem bd3_of {α β γ ρ : Type} {x : Option (α × β × γ)} {k : α → β → γ → Option ρ} {r : ρ} (h : bd3 x k = some r) : ∃ a b c, x = some (a, b, c) ∧ k a b c = some r := by
  cases x with
  | none => cases h
  | some a => exact ⟨a.1, a.2.1, a.2.2, rfl, h⟩
theorem bd3_s {α β γ ρ : Type} (a : α) (b : β) (c : γ) (k : α → β → γ → Option ρ) : bd3 (some (a, b, c)) k = k a b c := rfl
def bd4 {α β γ δ ρ : Type} (x : Option (α × β × γ × δ)) (k : α → β → γ → δ → Option ρ) : Option ρ := match x with
  | none => none
  | some (a, b, c, d) => k a b c d
theorem bd4_of {α β γ δ ρ : Type} {x : Option (α × β × γ × δ)} {k : α → β → γ → δ → Option ρ} {r : ρ} (h : bd4 x k = some r) : ∃ a b c d, x = some (a, b, c, d) ∧ k a b c d = some r := by
  cases x with
  | none => cases h
  | some a => exact ⟨a.1, a.2.1, a.2.2.1, a.2.2.2, rfl, h⟩
theorem bd4_s {α β γ δ ρ : Type} (a : α) (b : β) (c : γ) (d : δ) (k : α → β → γ → δ → Option ρ) : bd4 (some (a, b, c, d)) k = k a b c d := rfl
/-- a loop: n rounds at most -/
def lzF {α ρ : Type} (B : (α → Option ρ) → α → Option ρ) : Nat → α → Option ρ
  | 0 => fun _ => none
  | n + 1 => B (lzF B n)
theorem lzF_s {α ρ : Type} {B : (α → Option ρ) → α → Option ρ} {n : Nat} {a : α} {r : ρ} (h : lzF B (n + 1) a = some r) : B (lzF B n) a = some r := h
/-- rounds that are more than any loop here has -/
def FU : Nat := 600
/-- a value by a name -/
def nm {α ρ : Type} (x : α) (k : α → Option ρ) : Option ρ := k x
theorem nm_of {α ρ : Type} {x : α} {k : α → Option ρ} {r : ρ} (h : nm x k = some r) : ∃ y, y = x ∧ k y = some r := ⟨x, rfl, h⟩
/-- a state: its numbers, its rows -/
abbrev SV : Type := (Nat → Int32) × (Nat → Nat → Int32)
def pF (v : SV) (k : Nat) (x : Int32) : SV := (fun j => if j = k then x else v.1 j, v.2)
def pA (v : SV) (k : Nat) (i x : Int32) : SV := (v.1, fun j => if j = k then upd (v.2 k) i.toNatClampNeg x else v.2 j)
def pR (v : SV) (k : Nat) (g : Nat → Int32) : SV := (v.1, fun j => if j = k then g else v.2 j)
def rd (f : Nat → Int32) (i : Int32) : Int32 := f i.toNatClampNeg
/-- a contract: from the world W to the world W', the answer v -/
def mB (D : va_G) (A : Nat → Prop) (W' : va_W) : State → Prop := fun t => va_P D vwCl W' t.heap ∧ va_D A W'
def mQ (v : Option Value) (B : State → Prop) (A : Nat → Prop) : Array Value → State → Outcome → State → Prop := fun _ st oc t => (oc = .returned v ∧ B t) ∧ va_F A st t
/-- the private members of nest mates that are called -/
def nests : List (String × Nat × MethodName) := [(RX12, 35, yX10_init), (RX12, 42, yX11_init), (RX12, 49, yX9_init), (RX12, 56, yX8_init), (RX6, 20, yX7_init), (RX6, 27, yX4_init), (RX6, 34, yX1_init), (RX6, 82, yX12_isBalcony), (RX6, 92, yX12_areBalconies)]
def kN (U : State) : Prop := ∀ q ∈ nests, va_Nw (.methodLinkNest q.1 q.2.1 q.2.2 "BalconyCensus") U
theorem kN.moved {s U : State} (h : kN s) (hW : s.WarmedH U.vm) : kN U := fun q hq => va_Nw.warmM hW (h q hq)
theorem kN.same {s U : State} (h : kN s) (hv : s.vm = U.vm) : kN U := fun q hq => va_Nw.same rfl hv (h q hq)
/-- what else a contract needs: of the cells that are never written, and of the tables -/
abbrev JT : Type := (Nat → Prop) → State → Prop
def kT : JT := fun _ _ => True
def kBl (J : JT) : Prop := ∀ (A : Nat → Prop) (U V : State), U.vm = V.vm → U.heap = V.heap → J A U → J A V
theorem kT_bl : kBl kT := fun _ _ _ _ _ _ => trivial
def mP (D : va_G) (tys : List (ClassId × FieldType)) (J : JT) (W : va_W) (sz : Nat) : State → Prop := fun U => U.heap.size = sz ∧ va_P D vwCl W U.heap ∧ va_K D vwCl tys U ∧ va_D (fun _ => True) W ∧ kN U ∧ J (va_A W sz) U
def mC (l : Launch) (y : MethodName) (ws : List Cond) (rm : Room) (D : va_G) (tys : List (ClassId × FieldType)) (J : JT) (av : List Value) (W W' : va_W) (sz : Nat) (v : Option Value) (mc ms : Nat) : Prop :=
  Met l y ws rm (va_Pc av (mP D tys J W sz)) (mQ v (mB D (va_A W sz) W') (va_A W sz)) mc ms (va_A W sz)
theorem mC_of {l : Launch} {y : MethodName} {ws ws' : List Cond} {rm : Room} {D : va_G} {tys : List (ClassId × FieldType)} {J : JT} {av : List Value} {W0 W' : va_W} {sz : Nat} {v : Option Value} {mc ms : Nat} {cc : ByteArray} {maxL : Nat} {ret : Option FieldType}
    (hy : plainName y.cls = true) (hw : ws = Cond.code y cc maxL ret :: ws') (hn : (lg_sl av).length ≤ maxL)
    (body : ∀ (p : Program) (e : Env) (s : State) (m : MethodId) (args : Array Value) (below : List Frame) (meth : Method) (c : Code), p.tables.exec = Jvm.exec → c.code = cc → meth.sig.returnType = ret → c.maxLocals = maxL → (∀ w ∈ ws, w.before args s = true) → s.vm.findClass y.cls = some m.cls → meth.locks = false → meth.name = y.name →
      kN s → va_K D vwCl tys s → va_P D vwCl W0 s.heap → ∀ (A : Nat → Prop), va_D A W0 → (∀ q : Nat, s.heap.size ≤ q → A q) → va_S A s.heap s.heap [] → J A s → ∀ ls : Array Slot, lv_has ls maxL (lv_args 0 av) →
      W p l e (headSpec ws rm).room s m args below meth c s.heap [] 0 0 (MQ below (mQ v (mB D A W') A) args s mc ms A) (F0 m 0 ls [])) : mC l y ws rm D tys J av W0 W' sz v mc ms := by
  refine Met.ofW hy hw ?_
  intro p e s m args below meth c s₁ B hml hv
  obtain ⟨rfl, hsz, hP, hK, hD0, hN, hJ⟩ := hv
  subst hsz
  have hl := lv_entry av (n := maxL) hn
  rw [lg_entry_eq]
  exact body p e s m _ below meth c B.exec B.bytes B.returns hml (atoms_spec (ws := ws) B.pre) (findClass_of_methodNamed B.named) B.notSynchronized (name_of_methodNamed B.named B.method).1 hN hK hP _ (hD0.self (sz := s.heap.size)) (fun q h => Or.inr h) va_S.rf hJ _ hl
theorem mP_blind (D : va_G) (tys : List (ClassId × FieldType)) {J : JT} (hJ : kBl J) (av : List Value) (W : va_W) (sz : Nat) : FrameBlind (va_Pc av (mP D tys J W sz)) := fun a U g mk q => by
  obtain ⟨q0, q1, qP, qK, qD, qN, qJ⟩ := q
  exact ⟨q0, q1, qP, va_K.moved (u := U) (U := U.calling g mk a) (Vm.Alike.refl U.vm) qK, qD, kN.same qN rfl, hJ _ U _ rfl rfl qJ⟩
section KC
variable {p : Program} {l : Launch} {e : Env} {R : Room} {s : State} {m : MethodId} {args : Array Value} {below : List Frame} {meth : Method} {c : Code} {H : Heap} {locs : List Loc} {cells slots : Nat} {Q : State → Prop}
variable {pc : Nat} {ls : Array Slot} {rest st0 : List Value} {A : Nat → Prop} {mc ms : Nat} {D : va_G} {tys tysc : List (ClassId × FieldType)} {Wc Wc' ws0 ws1 : va_W} {v : Option Value}
theorem k_call {av : Array Value} (hr : va_Run p l e R s m args below meth c H locs cells slots mc ms (F0 m pc ls st0) rest (mQ v (mB D (va_A Wc H.size) Wc') (va_A Wc H.size) av) (va_A Wc H.size)) (hP : va_P D vwCl ws0 H) (hD : va_D A ws0) (hS : va_S A s.heap H locs) (hA : ∀ q : Nat, s.heap.size ≤ q → A q)
    (isC isR isP : List Nat) (hC : isC.map (fun i => ws0[i]?) = Wc.map some) (hR : isR.map (fun i => ws0[i]?) = (isR.filterMap (fun i => ws0[i]?)).map some) (hn : va_nd isR = true) (hdis : ∀ i ∈ isR, i ∉ isC) (hp : isP.map (fun i => (isR.filterMap (fun i => ws0[i]?) ++ Wc')[i]?) = ws1.map some) (hnp : va_nd isP = true)
    (kk : ∀ (H1 : Heap) (locs1 : List Loc), va_P D vwCl ws1 H1 → va_D A ws1 → va_S A s.heap H1 locs1 → W p l e R s m args below meth c H1 locs1 (cells + mc) (slots + ms) Q (F0 m (pc + 3) ls (v.toList ++ rest))) : W p l e R s m args below meth c H locs cells slots Q (F0 m pc ls st0) := by
  have hF := va_free (wc := Wc) hD hS hA isC hC
  intro T hT X
  obtain ⟨v', st₀, t, T', L, h0, X', hL, e1, e2, ⟨⟨hv, hb⟩, hz, hk⟩, st⟩ := hr T hT X
  cases hv
  rw [h0] at hz hk
  obtain ⟨hPb, hDb⟩ := hb
  obtain ⟨hP1, hD1⟩ := va_join (wr := isR.filterMap (fun i => ws0[i]?)) hP hD isC isR hC hR hn hdis hk hF hPb hDb
  have hP2 : va_P D vwCl ws1 t.heap := by
    intro k q hq
    have h1 : (isP.map (fun i => (isR.filterMap (fun i => ws0[i]?) ++ Wc')[i]?))[k]? = some (some q) := by rw [hp, List.getElem?_map, hq]; rfl
    rw [List.getElem?_map] at h1
    cases hi : isP[k]? with
    | none => rw [hi] at h1; cases h1
    | some i => rw [hi] at h1; exact hP1 i q (Option.some.inj h1)
  have hD2 := hD1.sub isP hnp hp
  obtain ⟨t2, a1, b1⟩ := kk T'.heap (locs ++ L) (by rw [e1]; exact hP2) hD2
    ⟨Nat.le_trans hS.1 (by rw [e1]; exact hz), fun q h1 h2 => by rw [e1, hk q (Nat.lt_of_lt_of_le h1 hS.1) (fun z => h2 (hF q z))]; exact hS.2.1 q h1 h2, fun q hq => by
      rcases List.mem_append.mp hq with h | h
      · exact hS.2.2 q h
      · exact hF _ (hL q h)⟩ T' rfl X'
  exact ⟨t2, st t2 a1, b1⟩
variable {y : MethodName} {bytes cc : ByteArray} {maxL nL n index : Nat} {ret : Option FieldType} {ws ws' : List Cond} {rm : Room} {Ts : List Cond} {own C host : String} {b : Addr} {As : List Value}
theorem k_pre {av : List Value} {Jc : JT} (hJb : kBl Jc) (hJc : ∀ U : State, U.heap = H → s.WarmedH U.vm → Jc (va_A Wc H.size) U) (hN : kN s) (hP : va_P D vwCl ws0 H) (hD : va_D A ws0) (hK : va_K D vwCl tys s) (isC isK : List Nat) (hn : va_nd isC = true) (hC : isC.map (fun i => ws0[i]?) = Wc.map some) (hk : isK.filterMap (fun i => tys[i]?) = tysc) : FrameBlind (va_Pc av (mP D tysc Jc Wc H.size)) ∧ ∀ U : State, U.heap = H → s.WarmedH U.vm → va_Pc av (mP D tysc Jc Wc H.size) av.toArray U := by
  refine ⟨mP_blind _ _ hJb _ _ _, fun U hU hW => ⟨rfl, by rw [hU], ?_, va_K.moved hW.alike (hK.sub isK hk), (hD.sub isC hn hC).weaken (fun _ _ _ _ => trivial), hN.moved hW, hJc U hU hW⟩⟩
  rw [hU]
  intro k q hq
  have h1 : (isC.map (fun i => ws0[i]?))[k]? = some (some q) := by rw [hC, List.getElem?_map, hq]; rfl
  rw [List.getElem?_map] at h1
  cases hi : isC[k]? with
  | none => rw [hi] at h1; cases h1
  | some i => rw [hi] at h1; exact hP i q (Option.some.inj h1)
/-- a call of an object's method -/
theorem k_V {Jc : JT} (S : CallFix p m c cc nL s args Ts own) (hM : mC l y ws rm D tysc Jc (.ref b :: As) Wc Wc' H.size v mc ms) (cw : CallW R s args own C index y bytes maxL ret ws rm mc ms As.length) (hsize : ls.size = nL) (hW : (rest.map fun v => v.category).sum ≤ 8) (hdg : decode cc pc = .ok (.invokevirtual index, 3)) (hf : cells + mc ≤ R.cells ∧ slots + ms ≤ R.slots) (hstack : st0 = As.reverse ++ .ref b :: rest)
    (hJb : kBl Jc) (hJc : ∀ U : State, U.heap = H → s.WarmedH U.vm → Jc (va_A Wc H.size) U) (hN : kN s) (hK : va_K D vwCl tys s) (hP : va_P D vwCl ws0 H) (hD : va_D A ws0) (hS : va_S A s.heap H locs) (hA : ∀ q : Nat, s.heap.size ≤ q → A q) (k ci : Nat) {cq : vw_C} {fs : List Value} (hcl : vwCl[ci]? = some cq) (hcn : cq.1 = C) (hb0 : ws0[k]? = some (b, .inr (ci, fs)))
    (isC isR isP isK : List Nat) (hC : isC.map (fun i => ws0[i]?) = Wc.map some) (hk : isK.filterMap (fun i => tys[i]?) = tysc) (hR : isR.map (fun i => ws0[i]?) = (isR.filterMap (fun i => ws0[i]?)).map some) (hn : va_nd isC = true ∧ va_nd isR = true ∧ va_nd isP = true ∧ ∀ i ∈ isR, i ∉ isC) (hp : isP.map (fun i => (isR.filterMap (fun i => ws0[i]?) ++ Wc')[i]?) = ws1.map some)
    (kk : ∀ (H1 : Heap) (locs1 : List Loc), va_P D vwCl ws1 H1 → va_D A ws1 → va_S A s.heap H1 locs1 → W p l e R s m args below meth c H1 locs1 (cells + mc) (slots + ms) Q (F0 m (pc + 3) ls (v.toList ++ rest))) : W p l e R s m args below meth c H locs cells slots Q (F0 m pc ls st0) := by
  have pr := k_pre (av := .ref b :: As) hJb hJc hN hP hD hK isC isK hn.1 hC hk
  refine k_call (va_runV S hM cw ⟨pr.1, ?_, pr.2⟩ rfl rfl hsize hstack (lv_room hW) hdg hf) hP hD hS hA isC isR isP hC hR hn.2.1 hn.2.2.2 hp hn.2.2.1 kk
  rw [← hcn]
  exact va_recv hK hP hcl hb0
/-- a call of a static method -/
theorem k_S {Jc : JT} (S : CallFix p m c cc nL s args Ts own) (hM : mC l y ws rm D tysc Jc As Wc Wc' H.size v mc ms) (cw : CallB R s args own index y bytes maxL ret ws rm mc ms As.length ∧ (Cond.static y).before args s = true) (hsize : ls.size = nL) (hW : (rest.map fun v => v.category).sum ≤ 8) (hdg : decode cc pc = .ok (.invokestatic index, 3)) (hf : cells + mc ≤ R.cells ∧ slots + ms ≤ R.slots) (hstack : st0 = As.reverse ++ rest)
    (hJb : kBl Jc) (hJc : ∀ U : State, U.heap = H → s.WarmedH U.vm → Jc (va_A Wc H.size) U) (hN : kN s) (hK : va_K D vwCl tys s) (hP : va_P D vwCl ws0 H) (hD : va_D A ws0) (hS : va_S A s.heap H locs) (hA : ∀ q : Nat, s.heap.size ≤ q → A q)
    (isC isR isP isK : List Nat) (hC : isC.map (fun i => ws0[i]?) = Wc.map some) (hk : isK.filterMap (fun i => tys[i]?) = tysc) (hR : isR.map (fun i => ws0[i]?) = (isR.filterMap (fun i => ws0[i]?)).map some) (hn : va_nd isC = true ∧ va_nd isR = true ∧ va_nd isP = true ∧ ∀ i ∈ isR, i ∉ isC) (hp : isP.map (fun i => (isR.filterMap (fun i => ws0[i]?) ++ Wc')[i]?) = ws1.map some)
    (kk : ∀ (H1 : Heap) (locs1 : List Loc), va_P D vwCl ws1 H1 → va_D A ws1 → va_S A s.heap H1 locs1 → W p l e R s m args below meth c H1 locs1 (cells + mc) (slots + ms) Q (F0 m (pc + 3) ls (v.toList ++ rest))) : W p l e R s m args below meth c H locs cells slots Q (F0 m pc ls st0) := by
  have pr := k_pre (av := As) hJb hJc hN hP hD hK isC isK hn.1 hC hk
  exact k_call (va_runS S hM cw pr rfl rfl hsize hstack (lv_room hW) hdg hf) hP hD hS hA isC isR isP hC hR hn.2.1 hn.2.2.2 hp hn.2.2.1 kk
/-- a call of a constructor -/
theorem k_I {Jc : JT} (S : CallFix p m c cc nL s args Ts own) (hM : mC l y ws rm D tysc Jc (.ref b :: As) Wc Wc' H.size v mc ms) (cw : CallB R s args own index y bytes maxL none ws rm mc ms As.length ∧ y.name = "<init>" ∧ (Cond.instanceMethod y).before args s = true) (hsize : ls.size = nL) (hW : (rest.map fun v => v.category).sum ≤ 8) (hdg : decode cc pc = .ok (.invokespecial index, 3)) (hf : cells + mc ≤ R.cells ∧ slots + ms ≤ R.slots) (hstack : st0 = As.reverse ++ .ref b :: rest)
    (hJb : kBl Jc) (hJc : ∀ U : State, U.heap = H → s.WarmedH U.vm → Jc (va_A Wc H.size) U) (hN : kN s) (hK : va_K D vwCl tys s) (hP : va_P D vwCl ws0 H) (hD : va_D A ws0) (hS : va_S A s.heap H locs) (hA : ∀ q : Nat, s.heap.size ≤ q → A q)
    (isC isR isP isK : List Nat) (hC : isC.map (fun i => ws0[i]?) = Wc.map some) (hk : isK.filterMap (fun i => tys[i]?) = tysc) (hR : isR.map (fun i => ws0[i]?) = (isR.filterMap (fun i => ws0[i]?)).map some) (hn : va_nd isC = true ∧ va_nd isR = true ∧ va_nd isP = true ∧ ∀ i ∈ isR, i ∉ isC) (hp : isP.map (fun i => (isR.filterMap (fun i => ws0[i]?) ++ Wc')[i]?) = ws1.map some)
    (kk : ∀ (H1 : Heap) (locs1 : List Loc), va_P D vwCl ws1 H1 → va_D A ws1 → va_S A s.heap H1 locs1 → W p l e R s m args below meth c H1 locs1 (cells + mc) (slots + ms) Q (F0 m (pc + 3) ls (v.toList ++ rest))) : W p l e R s m args below meth c H locs cells slots Q (F0 m pc ls st0) := by
  have pr := k_pre (av := .ref b :: As) hJb hJc hN hP hD hK isC isK hn.1 hC hk
  exact k_call (va_runI S hM cw ⟨pr.1, pr.2⟩ rfl rfl hsize hstack (lv_room hW) hdg hf) hP hD hS hA isC isR isP hC hR hn.2.1 hn.2.2.2 hp hn.2.2.1 kk
/-- a call of a nest mate's static method -/
theorem k_SN {Jc : JT} (S : CallFix p m c cc nL s args Ts own) (hM : mC l y ws rm D tysc Jc As Wc Wc' H.size v mc ms) (cw : va_CN R s args own index y host bytes maxL ret ws rm mc ms As.length ∧ (Cond.static y).before args s = true ∧ True) (hsize : ls.size = nL) (hW : (rest.map fun v => v.category).sum ≤ 8) (hdg : decode cc pc = .ok (.invokestatic index, 3)) (hf : cells + mc ≤ R.cells ∧ slots + ms ≤ R.slots) (hstack : st0 = As.reverse ++ rest)
    (hJb : kBl Jc) (hJc : ∀ U : State, U.heap = H → s.WarmedH U.vm → Jc (va_A Wc H.size) U) (hN : kN s) (hK : va_K D vwCl tys s) (hP : va_P D vwCl ws0 H) (hD : va_D A ws0) (hS : va_S A s.heap H locs) (hA : ∀ q : Nat, s.heap.size ≤ q → A q)
    (isC isR isP isK : List Nat) (hC : isC.map (fun i => ws0[i]?) = Wc.map some) (hk : isK.filterMap (fun i => tys[i]?) = tysc) (hR : isR.map (fun i => ws0[i]?) = (isR.filterMap (fun i => ws0[i]?)).map some) (hn : va_nd isC = true ∧ va_nd isR = true ∧ va_nd isP = true ∧ ∀ i ∈ isR, i ∉ isC) (hp : isP.map (fun i => (isR.filterMap (fun i => ws0[i]?) ++ Wc')[i]?) = ws1.map some)
    (kk : ∀ (H1 : Heap) (locs1 : List Loc), va_P D vwCl ws1 H1 → va_D A ws1 → va_S A s.heap H1 locs1 → W p l e R s m args below meth c H1 locs1 (cells + mc) (slots + ms) Q (F0 m (pc + 3) ls (v.toList ++ rest))) : W p l e R s m args below meth c H locs cells slots Q (F0 m pc ls st0) := by
  have pr := k_pre (av := As) hJb hJc hN hP hD hK isC isK hn.1 hC hk
  exact k_call (va_runSN S hM cw pr rfl rfl hsize hstack (lv_room hW) hdg hf) hP hD hS hA isC isR isP hC hR hn.2.1 hn.2.2.2 hp hn.2.2.1 kk
/-- a call of a nest mate's constructor -/
theorem k_IN {Jc : JT} (S : CallFix p m c cc nL s args Ts own) (hM : mC l y ws rm D tysc Jc (.ref b :: As) Wc Wc' H.size v mc ms) (cw : va_CN R s args own index y host bytes maxL none ws rm mc ms As.length ∧ y.name = "<init>" ∧ (Cond.instanceMethod y).before args s = true) (hsize : ls.size = nL) (hW : (rest.map fun v => v.category).sum ≤ 8) (hdg : decode cc pc = .ok (.invokespecial index, 3)) (hf : cells + mc ≤ R.cells ∧ slots + ms ≤ R.slots) (hstack : st0 = As.reverse ++ .ref b :: rest)
    (hJb : kBl Jc) (hJc : ∀ U : State, U.heap = H → s.WarmedH U.vm → Jc (va_A Wc H.size) U) (hN : kN s) (hK : va_K D vwCl tys s) (hP : va_P D vwCl ws0 H) (hD : va_D A ws0) (hS : va_S A s.heap H locs) (hA : ∀ q : Nat, s.heap.size ≤ q → A q)
    (isC isR isP isK : List Nat) (hC : isC.map (fun i => ws0[i]?) = Wc.map some) (hk : isK.filterMap (fun i => tys[i]?) = tysc) (hR : isR.map (fun i => ws0[i]?) = (isR.filterMap (fun i => ws0[i]?)).map some) (hn : va_nd isC = true ∧ va_nd isR = true ∧ va_nd isP = true ∧ ∀ i ∈ isR, i ∉ isC) (hp : isP.map (fun i => (isR.filterMap (fun i => ws0[i]?) ++ Wc')[i]?) = ws1.map some)
    (kk : ∀ (H1 : Heap) (locs1 : List Loc), va_P D vwCl ws1 H1 → va_D A ws1 → va_S A s.heap H1 locs1 → W p l e R s m args below meth c H1 locs1 (cells + mc) (slots + ms) Q (F0 m (pc + 3) ls (v.toList ++ rest))) : W p l e R s m args below meth c H locs cells slots Q (F0 m pc ls st0) := by
  have pr := k_pre (av := .ref b :: As) hJb hJc hN hP hD hK isC isK hn.1 hC hk
  exact k_call (va_runIN S hM cw ⟨pr.1, pr.2⟩ rfl rfl hsize hstack (lv_room hW) hdg hf) hP hD hS hA isC isR isP hC hR hn.2.1 hn.2.2.2 hp hn.2.2.1 kk
/-- the end of a method -/
theorem k_iret {x : Int32} {W' : va_W} (hx : p.tables.exec = Jvm.exec) (hb : c.code = cc) (hr : meth.sig.returnType = some .int) (hlocks : meth.locks = false) (hP : va_P D vwCl W' H) (hD : va_D A W') (hS : va_S A s.heap H locs) (hdg : decode cc pc = .ok (.ireturn, 1)) : W p l e R s m args below meth c H locs cells slots (MQ below (mQ (some (.int x)) (mB D A W') A) args s cells slots A) (F0 m pc ls [.int x]) :=
  W.iret hx hb hr (fun t ht _ => ⟨⟨rfl, by rw [mB, ht]; exact ⟨hP, hD⟩⟩, hS.F ht⟩) hS.2.2 hdg
theorem k_zret {x : Int32} {W' : va_W} (hx : p.tables.exec = Jvm.exec) (hb : c.code = cc) (hr : meth.sig.returnType = some .boolean) (hlocks : meth.locks = false) (h01 : x = 0 ∨ x = 1) (hP : va_P D vwCl W' H) (hD : va_D A W') (hS : va_S A s.heap H locs) (hdg : decode cc pc = .ok (.ireturn, 1)) : W p l e R s m args below meth c H locs cells slots (MQ below (mQ (some (.int x)) (mB D A W') A) args s cells slots A) (F0 m pc ls [.int x]) :=
  W.zret hx hb hr (narB h01) (fun t ht _ => ⟨⟨rfl, by rw [mB, ht]; exact ⟨hP, hD⟩⟩, hS.F ht⟩) hS.2.2 hdg
theorem k_vret {W' : va_W} (hx : p.tables.exec = Jvm.exec) (hb : c.code = cc) (hr : meth.sig.returnType = none) (hlocks : meth.locks = false) (hP : va_P D vwCl W' H) (hD : va_D A W') (hS : va_S A s.heap H locs) (hdg : decode cc pc = .ok (.return_, 1)) : W p l e R s m args below meth c H locs cells slots (MQ below (mQ none (mB D A W') A) args s cells slots A) (F0 m pc ls []) :=
  W.vret hx hb hr (fun t ht _ => ⟨⟨rfl, by rw [mB, ht]; exact ⟨hP, hD⟩⟩, hS.F ht⟩) hS.2.2 hdg
end KC
section MCOF
variable {l : Launch} {y : MethodName} {ws ws' : List Cond} {rm : Room} {D : va_G} {tys : List (ClassId × FieldType)} {J : JT} {av : List Value} {W0 W' : va_W} {sz : Nat} {mc ms : Nat} {cc : ByteArray} {maxL : Nat} {ret : Option FieldType}
theorem mC_ofI {r : Int32} (hy : plainName y.cls = true) (hw : ws = Cond.code y cc maxL ret :: ws') (hret : ret = some .int) (hn : (lg_sl av).length ≤ maxL)
    (body : ∀ (p : Program) (e : Env) (s : State) (m : MethodId) (args : Array Value) (below : List Frame) (meth : Method) (c : Code) (Q0 : State → Prop), p.tables.exec = Jvm.exec → c.code = cc → c.maxLocals = maxL → (∀ w ∈ ws, w.before args s = true) → s.vm.findClass y.cls = some m.cls → kN s → va_K D vwCl tys s → ∀ (A : Nat → Prop), va_D A W0 → (∀ q : Nat, s.heap.size ≤ q → A q) →
      (∀ {H : Heap} {locs : List Loc} {pc : Nat} {ls : Array Slot}, va_P D vwCl W' H → va_D A W' → va_S A s.heap H locs → decode cc pc = .ok (.ireturn, 1) → W p l e rm s m args below meth c H locs mc ms Q0 (F0 m pc ls [.int r])) →
      va_P D vwCl W0 s.heap → va_S A s.heap s.heap [] → J A s → ∀ ls : Array Slot, lv_has ls maxL (lv_args 0 av) → W p l e rm s m args below meth c s.heap [] 0 0 Q0 (F0 m 0 ls [])) : mC l y ws rm D tys J av W0 W' sz (some (.int r)) mc ms := by
  refine mC_of hy hw hn ?_
  intro p e s m args below meth c hx hb hr hml hts hown hlocks hnm hN hK hP A hD hA hS hJ ls hl
  exact body p e s m args below meth c _ hx hb hml hts hown hN hK A hD hA (fun h1 h2 h3 h4 => k_iret hx hb (by rw [hr, hret]) hlocks h1 h2 h3 h4) hP hS hJ ls hl
theorem mC_ofZ {r : Int32} (hy : plainName y.cls = true) (hw : ws = Cond.code y cc maxL ret :: ws') (hret : ret = some .boolean) (hn : (lg_sl av).length ≤ maxL)
    (body : ∀ (p : Program) (e : Env) (s : State) (m : MethodId) (args : Array Value) (below : List Frame) (meth : Method) (c : Code) (Q0 : State → Prop), p.tables.exec = Jvm.exec → c.code = cc → c.maxLocals = maxL → (∀ w ∈ ws, w.before args s = true) → s.vm.findClass y.cls = some m.cls → kN s → va_K D vwCl tys s → ∀ (A : Nat → Prop), va_D A W0 → (∀ q : Nat, s.heap.size ≤ q → A q) →
      (∀ {H : Heap} {locs : List Loc} {pc : Nat} {ls : Array Slot}, (r = 0 ∨ r = 1) → va_P D vwCl W' H → va_D A W' → va_S A s.heap H locs → decode cc pc = .ok (.ireturn, 1) → W p l e rm s m args below meth c H locs mc ms Q0 (F0 m pc ls [.int r])) →
      va_P D vwCl W0 s.heap → va_S A s.heap s.heap [] → J A s → ∀ ls : Array Slot, lv_has ls maxL (lv_args 0 av) → W p l e rm s m args below meth c s.heap [] 0 0 Q0 (F0 m 0 ls [])) : mC l y ws rm D tys J av W0 W' sz (some (.int r)) mc ms := by
  refine mC_of hy hw hn ?_
  intro p e s m args below meth c hx hb hr hml hts hown hlocks hnm hN hK hP A hD hA hS hJ ls hl
  exact body p e s m args below meth c _ hx hb hml hts hown hN hK A hD hA (fun h0 h1 h2 h3 h4 => k_zret hx hb (by rw [hr, hret]) hlocks h0 h1 h2 h3 h4) hP hS hJ ls hl
theorem mC_ofV (hy : plainName y.cls = true) (hw : ws = Cond.code y cc maxL ret :: ws') (hret : ret = none) (hn : (lg_sl av).length ≤ maxL)
    (body : ∀ (p : Program) (e : Env) (s : State) (m : MethodId) (args : Array Value) (below : List Frame) (meth : Method) (c : Code) (Q0 : State → Prop), p.tables.exec = Jvm.exec → c.code = cc → c.maxLocals = maxL → (∀ w ∈ ws, w.before args s = true) → s.vm.findClass y.cls = some m.cls → kN s → va_K D vwCl tys s → ∀ (A : Nat → Prop), va_D A W0 → (∀ q : Nat, s.heap.size ≤ q → A q) →
      (∀ {H : Heap} {locs : List Loc} {pc : Nat} {ls : Array Slot}, va_P D vwCl W' H → va_D A W' → va_S A s.heap H locs → decode cc pc = .ok (.return_, 1) → W p l e rm s m args below meth c H locs mc ms Q0 (F0 m pc ls [])) →
      va_P D vwCl W0 s.heap → va_S A s.heap s.heap [] → J A s → ∀ ls : Array Slot, lv_has ls maxL (lv_args 0 av) → W p l e rm s m args below meth c s.heap [] 0 0 Q0 (F0 m 0 ls [])) : mC l y ws rm D tys J av W0 W' sz none mc ms := by
  refine mC_of hy hw hn ?_
  intro p e s m args below meth c hx hb hr hml hts hown hlocks hnm hN hK hP A hD hA hS hJ ls hl
  exact body p e s m args below meth c _ hx hb hml hts hown hN hK A hD hA (fun h1 h2 h3 h4 => k_vret hx hb (by rw [hr, hret]) hlocks h1 h2 h3 h4) hP hS hJ ls hl
end MCOF
def lz1 {α ρ : Type} (B : (α → Option ρ) → α → Option ρ) : Nat → α → Option ρ
  | 0 => fun _ => none
  | n + 1 => B (lz1 B n)
theorem lz1_s {α ρ : Type} {B : (α → Option ρ) → α → Option ρ} {n : Nat} {a0 : α} {r : ρ} (h : lz1 B (n + 1) a0 = some r) : B (lz1 B n) a0 = some r := h
def lz2 {α β ρ : Type} (B : (α → β → Option ρ) → α → β → Option ρ) : Nat → α → β → Option ρ
  | 0 => fun _ _ => none
  | n + 1 => B (lz2 B n)
theorem lz2_s {α β ρ : Type} {B : (α → β → Option ρ) → α → β → Option ρ} {n : Nat} {a0 : α} {a1 : β} {r : ρ} (h : lz2 B (n + 1) a0 a1 = some r) : B (lz2 B n) a0 a1 = some r := h
def lz3 {α β γ ρ : Type} (B : (α → β → γ → Option ρ) → α → β → γ → Option ρ) : Nat → α → β → γ → Option ρ
  | 0 => fun _ _ _ => none
  | n + 1 => B (lz3 B n)
theorem lz3_s {α β γ ρ : Type} {B : (α → β → γ → Option ρ) → α → β → γ → Option ρ} {n : Nat} {a0 : α} {a1 : β} {a2 : γ} {r : ρ} (h : lz3 B (n + 1) a0 a1 a2 = some r) : B (lz3 B n) a0 a1 a2 = some r := h
def lz4 {α β γ δ ρ : Type} (B : (α → β → γ → δ → Option ρ) → α → β → γ → δ → Option ρ) : Nat → α → β → γ → δ → Option ρ
  | 0 => fun _ _ _ _ => none
  | n + 1 => B (lz4 B n)
theorem lz4_s {α β γ δ ρ : Type} {B : (α → β → γ → δ → Option ρ) → α → β → γ → δ → Option ρ} {n : Nat} {a0 : α} {a1 : β} {a2 : γ} {a3 : δ} {r : ρ} (h : lz4 B (n + 1) a0 a1 a2 a3 = some r) : B (lz4 B n) a0 a1 a2 a3 = some r := h
def lz5 {α β γ δ ε ρ : Type} (B : (α → β → γ → δ → ε → Option ρ) → α → β → γ → δ → ε → Option ρ) : Nat → α → β → γ → δ → ε → Option ρ
  | 0 => fun _ _ _ _ _ => none
  | n + 1 => B (lz5 B n)
theorem lz5_s {α β γ δ ε ρ : Type} {B : (α → β → γ → δ → ε → Option ρ) → α → β → γ → δ → ε → Option ρ} {n : Nat} {a0 : α} {a1 : β} {a2 : γ} {a3 : δ} {a4 : ε} {r : ρ} (h : lz5 B (n + 1) a0 a1 a2 a3 a4 = some r) : B (lz5 B n) a0 a1 a2 a3 a4 = some r := h
def lz6 {α β γ δ ε ζ ρ : Type} (B : (α → β → γ → δ → ε → ζ → Option ρ) → α → β → γ → δ → ε → ζ → Option ρ) : Nat → α → β → γ → δ → ε → ζ → Option ρ
  | 0 => fun _ _ _ _ _ _ => none
  | n + 1 => B (lz6 B n)
theorem lz6_s {α β γ δ ε ζ ρ : Type} {B : (α → β → γ → δ → ε → ζ → Option ρ) → α → β → γ → δ → ε → ζ → Option ρ} {n : Nat} {a0 : α} {a1 : β} {a2 : γ} {a3 : δ} {a4 : ε} {a5 : ζ} {r : ρ} (h : lz6 B (n + 1) a0 a1 a2 a3 a4 a5 = some r) : B (lz6 B n) a0 a1 a2 a3 a4 a5 = some r := h
def lz7 {α β γ δ ε ζ η ρ : Type} (B : (α → β → γ → δ → ε → ζ → η → Option ρ) → α → β → γ → δ → ε → ζ → η → Option ρ) : Nat → α → β → γ → δ → ε → ζ → η → Option ρ
  | 0 => fun _ _ _ _ _ _ _ => none
  | n + 1 => B (lz7 B n)
theorem lz7_s {α β γ δ ε ζ η ρ : Type} {B : (α → β → γ → δ → ε → ζ → η → Option ρ) → α → β → γ → δ → ε → ζ → η → Option ρ} {n : Nat} {a0 : α} {a1 : β} {a2 : γ} {a3 : δ} {a4 : ε} {a5 : ζ} {a6 : η} {r : ρ} (h : lz7 B (n + 1) a0 a1 a2 a3 a4 a5 a6 = some r) : B (lz7 B n) a0 a1 a2 a3 a4 a5 a6 = some r := h
def lz8 {α β γ δ ε ζ η θ ρ : Type} (B : (α → β → γ → δ → ε → ζ → η → θ → Option ρ) → α → β → γ → δ → ε → ζ → η → θ → Option ρ) : Nat → α → β → γ → δ → ε → ζ → η → θ → Option ρ
  | 0 => fun _ _ _ _ _ _ _ _ => none
  | n + 1 => B (lz8 B n)
theorem lz8_s {α β γ δ ε ζ η θ ρ : Type} {B : (α → β → γ → δ → ε → ζ → η → θ → Option ρ) → α → β → γ → δ → ε → ζ → η → θ → Option ρ} {n : Nat} {a0 : α} {a1 : β} {a2 : γ} {a3 : δ} {a4 : ε} {a5 : ζ} {a6 : η} {a7 : θ} {r : ρ} (h : lz8 B (n + 1) a0 a1 a2 a3 a4 a5 a6 a7 = some r) : B (lz8 B n) a0 a1 a2 a3 a4 a5 a6 a7 = some r := h
def lz9 {α β γ δ ε ζ η θ ι ρ : Type} (B : (α → β → γ → δ → ε → ζ → η → θ → ι → Option ρ) → α → β → γ → δ → ε → ζ → η → θ → ι → Option ρ) : Nat → α → β → γ → δ → ε → ζ → η → θ → ι → Option ρ
  | 0 => fun _ _ _ _ _ _ _ _ _ => none
  | n + 1 => B (lz9 B n)
theorem lz9_s {α β γ δ ε ζ η θ ι ρ : Type} {B : (α → β → γ → δ → ε → ζ → η → θ → ι → Option ρ) → α → β → γ → δ → ε → ζ → η → θ → ι → Option ρ} {n : Nat} {a0 : α} {a1 : β} {a2 : γ} {a3 : δ} {a4 : ε} {a5 : ζ} {a6 : η} {a7 : θ} {a8 : ι} {r : ρ} (h : lz9 B (n + 1) a0 a1 a2 a3 a4 a5 a6 a7 a8 = some r) : B (lz9 B n) a0 a1 a2 a3 a4 a5 a6 a7 a8 = some r := h
def lz10 {α β γ δ ε ζ η θ ι κ ρ : Type} (B : (α → β → γ → δ → ε → ζ → η → θ → ι → κ → Option ρ) → α → β → γ → δ → ε → ζ → η → θ → ι → κ → Option ρ) : Nat → α → β → γ → δ → ε → ζ → η → θ → ι → κ → Option ρ
  | 0 => fun _ _ _ _ _ _ _ _ _ _ => none
  | n + 1 => B (lz10 B n)
theorem lz10_s {α β γ δ ε ζ η θ ι κ ρ : Type} {B : (α → β → γ → δ → ε → ζ → η → θ → ι → κ → Option ρ) → α → β → γ → δ → ε → ζ → η → θ → ι → κ → Option ρ} {n : Nat} {a0 : α} {a1 : β} {a2 : γ} {a3 : δ} {a4 : ε} {a5 : ζ} {a6 : η} {a7 : θ} {a8 : ι} {a9 : κ} {r : ρ} (h : lz10 B (n + 1) a0 a1 a2 a3 a4 a5 a6 a7 a8 a9 = some r) : B (lz10 B n) a0 a1 a2 a3 a4 a5 a6 a7 a8 a9 = some r := h
def bd5 {α β γ δ ε ρ : Type} (x : Option (α × β × γ × δ × ε)) (k : α → β → γ → δ → ε → Option ρ) : Option ρ := match x with
  | none => none
  | some (a0, a1, a2, a3, a4) => k a0 a1 a2 a3 a4
theorem bd5_of {α β γ δ ε ρ : Type} {x : Option (α × β × γ × δ × ε)} {k : α → β → γ → δ → ε → Option ρ} {r : ρ} (h : bd5 x k = some r) : ∃ a0 a1 a2 a3 a4, x = some (a0, a1, a2, a3, a4) ∧ k a0 a1 a2 a3 a4 = some r := by
  cases x with
  | none => cases h
  | some a => exact ⟨a.1, a.2.1, a.2.2.1, a.2.2.2.1, a.2.2.2.2, rfl, h⟩
theorem bd5_s {α β γ δ ε ρ : Type} (a0 : α) (a1 : β) (a2 : γ) (a3 : δ) (a4 : ε) (k : α → β → γ → δ → ε → Option ρ) : bd5 (some (a0, a1, a2, a3, a4)) k = k a0 a1 a2 a3 a4 := rfl
theorem re5 {α β γ δ ε : Type} {a0 r0 : α} {a1 r1 : β} {a2 r2 : γ} {a3 r3 : δ} {a4 r4 : ε} (h : some (a0, a1, a2, a3, a4) = some (r0, r1, r2, r3, r4)) : r0 = a0 ∧ r1 = a1 ∧ r2 = a2 ∧ r3 = a3 ∧ r4 = a4 := by cases h; exact ⟨rfl, rfl, rfl, rfl, rfl⟩
def bd6 {α β γ δ ε ζ ρ : Type} (x : Option (α × β × γ × δ × ε × ζ)) (k : α → β → γ → δ → ε → ζ → Option ρ) : Option ρ := match x with
  | none => none
  | some (a0, a1, a2, a3, a4, a5) => k a0 a1 a2 a3 a4 a5
theorem bd6_of {α β γ δ ε ζ ρ : Type} {x : Option (α × β × γ × δ × ε × ζ)} {k : α → β → γ → δ → ε → ζ → Option ρ} {r : ρ} (h : bd6 x k = some r) : ∃ a0 a1 a2 a3 a4 a5, x = some (a0, a1, a2, a3, a4, a5) ∧ k a0 a1 a2 a3 a4 a5 = some r := by
  cases x with
  | none => cases h
  | some a => exact ⟨a.1, a.2.1, a.2.2.1, a.2.2.2.1, a.2.2.2.2.1, a.2.2.2.2.2, rfl, h⟩
theorem bd6_s {α β γ δ ε ζ ρ : Type} (a0 : α) (a1 : β) (a2 : γ) (a3 : δ) (a4 : ε) (a5 : ζ) (k : α → β → γ → δ → ε → ζ → Option ρ) : bd6 (some (a0, a1, a2, a3, a4, a5)) k = k a0 a1 a2 a3 a4 a5 := rfl
theorem re6 {α β γ δ ε ζ : Type} {a0 r0 : α} {a1 r1 : β} {a2 r2 : γ} {a3 r3 : δ} {a4 r4 : ε} {a5 r5 : ζ} (h : some (a0, a1, a2, a3, a4, a5) = some (r0, r1, r2, r3, r4, r5)) : r0 = a0 ∧ r1 = a1 ∧ r2 = a2 ∧ r3 = a3 ∧ r4 = a4 ∧ r5 = a5 := by cases h; exact ⟨rfl, rfl, rfl, rfl, rfl, rfl⟩
def bd7 {α β γ δ ε ζ η ρ : Type} (x : Option (α × β × γ × δ × ε × ζ × η)) (k : α → β → γ → δ → ε → ζ → η → Option ρ) : Option ρ := match x with
  | none => none
  | some (a0, a1, a2, a3, a4, a5, a6) => k a0 a1 a2 a3 a4 a5 a6
theorem bd7_of {α β γ δ ε ζ η ρ : Type} {x : Option (α × β × γ × δ × ε × ζ × η)} {k : α → β → γ → δ → ε → ζ → η → Option ρ} {r : ρ} (h : bd7 x k = some r) : ∃ a0 a1 a2 a3 a4 a5 a6, x = some (a0, a1, a2, a3, a4, a5, a6) ∧ k a0 a1 a2 a3 a4 a5 a6 = some r := by
  cases x with
  | none => cases h
  | some a => exact ⟨a.1, a.2.1, a.2.2.1, a.2.2.2.1, a.2.2.2.2.1, a.2.2.2.2.2.1, a.2.2.2.2.2.2, rfl, h⟩
theorem bd7_s {α β γ δ ε ζ η ρ : Type} (a0 : α) (a1 : β) (a2 : γ) (a3 : δ) (a4 : ε) (a5 : ζ) (a6 : η) (k : α → β → γ → δ → ε → ζ → η → Option ρ) : bd7 (some (a0, a1, a2, a3, a4, a5, a6)) k = k a0 a1 a2 a3 a4 a5 a6 := rfl
theorem re7 {α β γ δ ε ζ η : Type} {a0 r0 : α} {a1 r1 : β} {a2 r2 : γ} {a3 r3 : δ} {a4 r4 : ε} {a5 r5 : ζ} {a6 r6 : η} (h : some (a0, a1, a2, a3, a4, a5, a6) = some (r0, r1, r2, r3, r4, r5, r6)) : r0 = a0 ∧ r1 = a1 ∧ r2 = a2 ∧ r3 = a3 ∧ r4 = a4 ∧ r5 = a5 ∧ r6 = a6 := by cases h; exact ⟨rfl, rfl, rfl, rfl, rfl, rfl, rfl⟩
theorem re1 {α : Type} {a r : α} (h : some a = some r) : r = a := (Option.some.inj h).symm
theorem re2 {α β : Type} {a r : α} {b s : β} (h : some (a, b) = some (r, s)) : r = a ∧ s = b := by cases h; exact ⟨rfl, rfl⟩
theorem re3 {α β γ : Type} {a r : α} {b s : β} {c t : γ} (h : some (a, b, c) = some (r, s, t)) : r = a ∧ s = b ∧ t = c := by cases h; exact ⟨rfl, rfl, rfl⟩
theorem re4 {α β γ δ : Type} {a r : α} {b s : β} {c t : γ} {d u : δ} (h : some (a, b, c, d) = some (r, s, t, u)) : r = a ∧ s = b ∧ t = c ∧ u = d := by cases h; exact ⟨rfl, rfl, rfl, rfl⟩
theorem sw_ne {x k : Int32} {z : Int} (h : ¬ x = k) (hk : k.toInt = z) : x.toInt ≠ z := fun e => h (Int32.toInt_inj.mp (e.trans hk.symm))
/-- the classes of the arrays: of int, char, byte, House -/
abbrev tyG (G : Nat → ClassId) : List (ClassId × FieldType) := [(G 0, .int), (G 1, .char), (G 2, .byte), (G 3, .object "BalconyCensus$House")]
def kHouse (G : Nat → ClassId) (q : Nat → Nat) (v : SV) : va_W := [(q 0, .inr (4, [.ref (q 1), .ref (q 2), .ref (q 3), .ref (q 7), .ref (q 10), .ref (q 14), .int (v.1 0), .int (v.1 1), .int (v.1 2), .int (v.1 3)])), (q 1, .inl (G 0, 12, .inl (v.2 0))), (q 2, .inl (G 0, 12, .inl (v.2 1))), (q 3, .inr (5, [.ref (q 4), .ref (q 5), .ref (q 6), .int (v.1 4), .int (v.1 5)])), (q 4, .inl (G 0, 6, .inl (v.2 2))), (q 5, .inl (G 0, 6, .inl (v.2 3))), (q 6, .inl (G 0, 6, .inl (v.2 4))), (q 7, .inr (2, [.ref (q 8), .ref (q 9)])), (q 8, .inl (G 0, 144, .inl (v.2 5))), (q 9, .inl (G 0, 12, .inl (v.2 6))), (q 10, .inr (1, [.ref (q 11), .ref (q 12), .ref (q 13), .int (v.1 6)])), (q 11, .inl (G 0, 6, .inl (v.2 7))), (q 12, .inl (G 0, 6, .inl (v.2 8))), (q 13, .inl (G 0, 6, .inl (v.2 9))), (q 14, .inl (G 0, 12, .inl (v.2 10)))]
def kHist (Q : Nat → Nat → Nat) (v : SV) : va_W := [(Q 4 0, .inr (3, [.ref (Q 4 1), .int (v.1 0), .int (v.1 1)]))]
def hu (h : Nat → SV) (k : Nat) (w : SV) : Nat → SV := fun j => if j = k then w else h j
def kHH (G : Nat → ClassId) (Q : Nat → Nat → Nat) (h : Nat → SV) : va_W := (Q 4 1, .inl (G 3, 8, .inr (.inr (.inr (.inr (fun k => some (Q (10 + k) 0))))))) :: (kHouse G (Q 10) (h 0) ++ kHouse G (Q 11) (h 1) ++ kHouse G (Q 12) (h 2) ++ kHouse G (Q 13) (h 3) ++ kHouse G (Q 14) (h 4) ++ kHouse G (Q 15) (h 5) ++ kHouse G (Q 16) (h 6) ++ kHouse G (Q 17) (h 7))
def kLines (G : Nat → ClassId) (q : Nat → Nat) (v : SV) : va_W := [(q 3, .inr (5, [.ref (q 4), .ref (q 5), .ref (q 6), .int (v.1 4), .int (v.1 5)])), (q 4, .inl (G 0, 6, .inl (v.2 2))), (q 5, .inl (G 0, 6, .inl (v.2 3))), (q 6, .inl (G 0, 6, .inl (v.2 4)))]
def kGreet (G : Nat → ClassId) (q : Nat → Nat) (v : SV) : va_W := [(q 7, .inr (2, [.ref (q 8), .ref (q 9)])), (q 8, .inl (G 0, 144, .inl (v.2 5))), (q 9, .inl (G 0, 12, .inl (v.2 6)))]
def kCats (G : Nat → ClassId) (q : Nat → Nat) (v : SV) : va_W := [(q 10, .inr (1, [.ref (q 11), .ref (q 12), .ref (q 13), .int (v.1 6)])), (q 11, .inl (G 0, 6, .inl (v.2 7))), (q 12, .inl (G 0, 6, .inl (v.2 8))), (q 13, .inl (G 0, 6, .inl (v.2 9)))]
def kRef (G : Nat → ClassId) (q : Nat → Nat) (v : SV) : va_W := [(q 0, .inr (9, [.int (v.1 0), .int (v.1 1), .int (v.1 2), .int (v.1 3)]))]
def kPaths (G : Nat → ClassId) (q : Nat → Nat) (v : SV) : va_W := [(q 0, .inr (7, [.ref (q 1), .ref (q 2)])), (q 1, .inl (G 0, 12, .inl (v.2 0))), (q 2, .inl (G 0, 12, .inl (v.2 1)))]
def kOrder (G : Nat → ClassId) (q : Nat → Nat) (v : SV) : va_W := [(q 0, .inr (6, [.ref (q 1), .ref (q 2)])), (q 1, .inl (G 0, 12, .inl (v.2 0))), (q 2, .inl (G 0, 12, .inl (v.2 1)))]
def kReader (G : Nat → ClassId) (q : Nat → Nat) (v : SV) : va_W := [(q 0, .inr (8, [.ref (q 1), .int (v.1 0), .int (v.1 1), .ref (q 2), .ref (q 3), .ref (q 4), .ref (q 5), .int (v.1 2)])), (q 1, .inl (G 1, 60, .inl (v.2 0))), (q 2, .inl (G 0, 20, .inl (v.2 1))), (q 3, .inl (G 0, 20, .inl (v.2 2))), (q 4, .inl (G 0, 20, .inl (v.2 3))), (q 5, .inl (G 0, 20, .inl (v.2 4)))]
def kModel (G : Nat → ClassId) (q : Nat → Nat) (v : SV) : va_W := [(q 0, .inr (11, [.ref (q 1), .ref (q 2), .ref (q 3), .ref (q 4), .ref (q 5), .int (v.1 0), .int (v.1 1), .int (v.1 2), .int (v.1 3), .int (v.1 4), .int (v.1 5), .int (v.1 6), .int (v.1 7), .int (v.1 8), .ref (q 6), .ref (q 7), .ref (q 8), .int (v.1 9), .ref (q 9), .ref (q 10), .ref (q 11), .int (v.1 10), .int (v.1 11), .int (v.1 12), .int (v.1 13), .int (v.1 14), .int (v.1 15)])), (q 1, .inl (G 0, 240, .inl (v.2 0))), (q 2, .inl (G 0, 240, .inl (v.2 1))), (q 3, .inl (G 0, 240, .inl (v.2 2))), (q 4, .inl (G 0, 240, .inl (v.2 3))), (q 5, .inl (G 0, 1920, .inl (v.2 4))), (q 6, .inl (G 0, 12, .inl (v.2 5))), (q 7, .inl (G 0, 12, .inl (v.2 6))), (q 8, .inl (G 0, 80, .inl (v.2 7))), (q 9, .inl (G 0, 60, .inl (v.2 8))), (q 10, .inl (G 0, 32, .inl (v.2 9))), (q 11, .inl (G 0, 96, .inl (v.2 10)))]
def kMain (Q : Nat → Nat → Nat) (v : SV) : va_W := [(Q 0 0, .inr (10, [.ref (Q 1 0), .ref (Q 2 0), .ref (Q 3 0), .int (v.1 0), .ref (Q 4 0), .ref (Q 5 0), .ref (Q 6 0), .ref (Q 7 0), .ref (Q 8 0), .ref (Q 9 0), .int (v.1 1)]))]
def mLines (v w : SV) : SV := (fun j => if j = 4 then w.1 4 else if j = 5 then w.1 5 else v.1 j, fun j => if j = 2 then w.2 2 else if j = 3 then w.2 3 else if j = 4 then w.2 4 else v.2 j)
def mGreetings (v w : SV) : SV := (fun j => v.1 j, fun j => if j = 5 then w.2 5 else if j = 6 then w.2 6 else v.2 j)
def mCats (v w : SV) : SV := (fun j => if j = 6 then w.1 6 else v.1 j, fun j => if j = 7 then w.2 7 else if j = 8 then w.2 8 else if j = 9 then w.2 9 else v.2 j)
def kArr (G : Nat → ClassId) (a n : Nat) (f : Nat → Int32) : va_W := [(a, .inl (G 0, n, .inl f))]
