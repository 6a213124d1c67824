/-! Contracts of constructors: they make cells; their addresses are told by some x. -/
def zSV : SV := (fun _ => 0, fun _ _ => 0)
def mQX {τ : Type} (v : τ → Option Value) (B : τ → State → Prop) (A : Nat → Prop) : Array Value → State → Outcome → State → Prop := fun _ st oc t => (∃ b : τ, oc = .returned (v b) ∧ B b t) ∧ va_F A st t
def mCX {τ : Type} (l : Launch) (y : MethodName) (ws : List Cond) (rm : Room) (D : va_G) (tys : List (ClassId × FieldType)) (J : JT) (av : List Value) (W : va_W) (W' : τ → va_W) (sz : Nat) (v : τ → Option Value) (mc ms : Nat) : Prop :=
  Met l y ws rm (va_Pc av (mP D tys J W sz)) (mQX v (fun b => mB D (va_A W sz) (W' b)) (va_A W sz)) mc ms (va_A W sz)
theorem mCX_of {τ : Type} {l : Launch} {y : MethodName} {ws ws' : List Cond} {rm : Room} {D : va_G} {tys : List (ClassId × FieldType)} {J : JT} {av : List Value} {W0 : va_W} {W' : τ → va_W} {sz : Nat} {v : τ → Option Value} {mc ms : Nat} {cc : ByteArray} {maxL : Nat}
    (hy : plainName y.cls = true) (hw : ws = Cond.code y cc maxL none :: ws') (hn : (lg_sl av).length ≤ maxL) (hname : y.name = "<init>")
    (body : ∀ (p : Program) (e : Env) (s : State) (m : MethodId) (args : Array Value) (below : List Frame) (meth : Method) (c : Code) (Q0 : State → Prop), p.tables.exec = Jvm.exec → c.code = cc → c.maxLocals = maxL → (∀ w ∈ ws, w.before args s = true) → s.vm.findClass y.cls = some m.cls → meth.name = "<init>" → kN s → va_K D vwCl tys s → ∀ (A : Nat → Prop), va_D A W0 → (∀ q : Nat, s.heap.size ≤ q → A q) →
      (∀ (b : τ) {H : Heap} {locs : List Loc} {pc : Nat} {ls : Array Slot}, v b = none → va_P D vwCl (W' b) H → va_D A (W' b) → va_S A s.heap H locs → decode cc pc = .ok (.return_, 1) → W p l e rm s m args below meth c H locs mc ms Q0 (F0 m pc ls [])) →
      va_P D vwCl W0 s.heap → va_S A s.heap s.heap [] → J A s → ∀ ls : Array Slot, lv_has ls maxL (lv_args 0 av) → W p l e rm s m args below meth c s.heap [] 0 0 Q0 (F0 m 0 ls [])) : mCX l y ws rm D tys J av W0 W' sz v mc ms := by
  refine Met.ofW hy hw ?_
  intro p e s m args below meth c s₁ B hml hv
  obtain ⟨rfl, hsz, hP, hK, hD0, hN, hJ⟩ := hv
  subst hsz
  have hl := lv_entry av (n := maxL) hn
  rw [lg_entry_eq]
  have hr := B.returns
  have hlocks := B.notSynchronized
  refine body p e s m _ below meth c _ B.exec B.bytes hml (atoms_spec (ws := ws) B.pre) (findClass_of_methodNamed B.named) ((name_of_methodNamed B.named B.method).1.trans hname) hN hK _ (hD0.self (sz := s.heap.size)) (fun q h => Or.inr h) ?_ hP va_S.rf hJ _ hl
  intro b H locs pc ls hvb h1 h2 h3 h4
  exact W.vret B.exec B.bytes hr (fun t ht _ => ⟨⟨b, by rw [hvb], by show va_P D vwCl (W' b) t.heap ∧ va_D _ (W' b); rw [ht]; exact ⟨h1, h2⟩⟩, h3.F ht⟩) h3.2.2 h4
section KX2
variable {p : Program} {l : Launch} {e : Env} {R : Room} {s : State} {m : MethodId} {args : Array Value} {below : List Frame} {meth : Method} {c : Code} {H : Heap} {locs : List Loc} {cells slots : Nat} {Q : State → Prop}
variable {pc : Nat} {ls : Array Slot} {rest st0 : List Value} {A : Nat → Prop} {mc ms : Nat} {D : va_G} {tys tysc : List (ClassId × FieldType)} {τ : Type} {Wr Wc : va_W} {Wc' : τ → va_W} {v : τ → Option Value}
theorem k_callXB {av : Array Value} (hr : va_Run p l e R s m args below meth c H locs cells slots mc ms (F0 m pc ls st0) rest (mQX v (fun b => mB D (va_A Wc H.size) (Wc' b)) (va_A Wc H.size) av) (va_A Wc H.size)) (hP : va_P D vwCl (Wr ++ Wc) H) (hD : va_D A (Wr ++ Wc)) (hS : va_S A s.heap H locs) (hA : ∀ q : Nat, s.heap.size ≤ q → A q)
    (kk : ∀ (b : τ) (H1 : Heap) (locs1 : List Loc), va_P D vwCl (Wr ++ Wc' b) H1 → va_D A (Wr ++ Wc' b) → va_S A s.heap H1 locs1 → W p l e R s m args below meth c H1 locs1 (cells + mc) (slots + ms) Q (F0 m (pc + 3) ls ((v b).toList ++ rest))) : W p l e R s m args below meth c H locs cells slots Q (F0 m pc ls st0) := by
  have hF := k_freeB hD hS hA
  intro T hT X
  obtain ⟨v', st₀, t, T', L, h0, X', hL, e1, e2, ⟨⟨b, hv, hb⟩, hz, hk⟩, st⟩ := hr T hT X
  cases hv
  rw [h0] at hz hk
  obtain ⟨hPb, hDb⟩ := hb
  obtain ⟨hP1, hD1⟩ := k_joinB hP hD hk hF hPb hDb
  obtain ⟨t2, a1, b1⟩ := kk b T'.heap (locs ++ L) (by rw [e1]; exact hP1) hD1
    ⟨Nat.le_trans hS.1 (by rw [e1]; exact hz), fun q h1 h2 => by rw [e1, hk q (Nat.lt_of_lt_of_le h1 hS.1) (fun z => h2 (hF q z))]; exact hS.2.1 q h1 h2, fun q hq => by
      rcases List.mem_append.mp hq with h | h
      · exact hS.2.2 q h
      · exact hF _ (hL q h)⟩ T' rfl X'
  exact ⟨t2, st t2 a1, b1⟩
variable {y : MethodName} {bytes cc : ByteArray} {maxL nL n index : Nat} {ret : Option FieldType} {ws ws' : List Cond} {rm : Room} {Ts : List Cond} {own C host : String} {b : Addr} {As : List Value}
theorem k_IX {Jc : JT} (S : CallFix p m c cc nL s args Ts own) (hM : mCX l y ws rm D tysc Jc (.ref b :: As) Wc Wc' H.size v mc ms) (cw : CallB R s args own index y bytes maxL none ws rm mc ms As.length ∧ y.name = "<init>" ∧ (Cond.instanceMethod y).before args s = true) (hsize : ls.size = nL) (hW : (rest.map fun v => v.category).sum ≤ 8) (hdg : decode cc pc = .ok (.invokespecial index, 3)) (hf : cells + mc ≤ R.cells ∧ slots + ms ≤ R.slots) (hstack : st0 = As.reverse ++ .ref b :: rest)
    (hJb : kBl Jc) (hJc : ∀ U : State, U.heap = H → s.WarmedH U.vm → Jc (va_A Wc H.size) U) (hN : kN s) (hK : va_K D vwCl tys s) (hP : va_P D vwCl (Wr ++ Wc) H) (hD : va_D A (Wr ++ Wc)) (hS : va_S A s.heap H locs) (hA : ∀ q : Nat, s.heap.size ≤ q → A q)
    (isK : List Nat) (hk : isK.filterMap (fun i => tys[i]?) = tysc)
    (kk : ∀ (b : τ) (H1 : Heap) (locs1 : List Loc), va_P D vwCl (Wr ++ Wc' b) H1 → va_D A (Wr ++ Wc' b) → va_S A s.heap H1 locs1 → W p l e R s m args below meth c H1 locs1 (cells + mc) (slots + ms) Q (F0 m (pc + 3) ls ((v b).toList ++ rest))) : W p l e R s m args below meth c H locs cells slots Q (F0 m pc ls st0) := by
  have pr := k_preB (av := .ref b :: As) hJb hJc hN hP hD hK isK hk
  exact k_callXB (va_runI S hM cw ⟨pr.1, pr.2⟩ rfl rfl hsize hstack (lv_room hW) hdg hf) hP hD hS hA kk
theorem k_INX {Jc : JT} (S : CallFix p m c cc nL s args Ts own) (hM : mCX l y ws rm D tysc Jc (.ref b :: As) Wc Wc' H.size v mc ms) (cw : va_CN R s args own index y host bytes maxL none ws rm mc ms As.length ∧ y.name = "<init>" ∧ (Cond.instanceMethod y).before args s = true) (hsize : ls.size = nL) (hW : (rest.map fun v => v.category).sum ≤ 8) (hdg : decode cc pc = .ok (.invokespecial index, 3)) (hf : cells + mc ≤ R.cells ∧ slots + ms ≤ R.slots) (hstack : st0 = As.reverse ++ .ref b :: rest)
    (hJb : kBl Jc) (hJc : ∀ U : State, U.heap = H → s.WarmedH U.vm → Jc (va_A Wc H.size) U) (hN : kN s) (hK : va_K D vwCl tys s) (hP : va_P D vwCl (Wr ++ Wc) H) (hD : va_D A (Wr ++ Wc)) (hS : va_S A s.heap H locs) (hA : ∀ q : Nat, s.heap.size ≤ q → A q)
    (isK : List Nat) (hk : isK.filterMap (fun i => tys[i]?) = tysc)
    (kk : ∀ (b : τ) (H1 : Heap) (locs1 : List Loc), va_P D vwCl (Wr ++ Wc' b) H1 → va_D A (Wr ++ Wc' b) → va_S A s.heap H1 locs1 → W p l e R s m args below meth c H1 locs1 (cells + mc) (slots + ms) Q (F0 m (pc + 3) ls ((v b).toList ++ rest))) : W p l e R s m args below meth c H locs cells slots Q (F0 m pc ls st0) := by
  have pr := k_preB (av := .ref b :: As) hJb hJc hN hP hD hK isK hk
  exact k_callXB (va_runIN S hM cw ⟨pr.1, pr.2⟩ rfl rfl hsize hstack (lv_room hW) hdg hf) hP hD hS hA kk
end KX2
