/-! Walks, laid by wip/whole/gen.py: for each method f_ (what it does to its world) and c_ (its contract). -/
/-! Contracts of methods that may make one new array: its address is some b. -/
def mQE (v : Nat → Option Value) (B : Nat → State → Prop) (A : Nat → Prop) : Array Value → State → Outcome → State → Prop := fun _ st oc t => (∃ b : Nat, oc = .returned (v b) ∧ B b t) ∧ va_F A st t
def mCE (l : Launch) (y : MethodName) (ws : List Cond) (rm : Room) (D : va_G) (tys : List (ClassId × FieldType)) (J : JT) (av : List Value) (W : va_W) (W' : Nat → va_W) (sz : Nat) (v : Nat → Option Value) (mc ms : Nat) : Prop :=
  Met l y ws rm (va_Pc av (mP D tys J W sz)) (mQE v (fun b => mB D (va_A W sz) (W' b)) (va_A W sz)) mc ms (va_A W sz)
theorem mCE_of {l : Launch} {y : MethodName} {ws ws' : List Cond} {rm : Room} {D : va_G} {tys : List (ClassId × FieldType)} {J : JT} {av : List Value} {W0 : va_W} {W' : Nat → va_W} {sz : Nat} {v : Nat → Option Value} {mc ms : Nat} {cc : ByteArray} {maxL : Nat} {ret : Option FieldType}
    (hy : plainName y.cls = true) (hw : ws = Cond.code y cc maxL ret :: ws') (hn : (lg_sl av).length ≤ maxL)
    (body : ∀ (p : Program) (e : Env) (s : State) (m : MethodId) (args : Array Value) (below : List Frame) (meth : Method) (c : Code) (Q0 : State → Prop), p.tables.exec = Jvm.exec → c.code = cc → c.maxLocals = maxL → (∀ w ∈ ws, w.before args s = true) → s.vm.findClass y.cls = some m.cls → kN s → va_K D vwCl tys s → ∀ (A : Nat → Prop), va_D A W0 → (∀ q : Nat, s.heap.size ≤ q → A q) →
      (∀ (b : Nat) {H : Heap} {locs : List Loc} {pc : Nat} {ls : Array Slot} {r : Value} {rt : FieldType}, v b = some r → ret = some rt → ((∃ n, rt = .object n) ∨ ∃ t, rt = .array t) → (r = .null ∨ ∃ a, r = .ref a) → va_P D vwCl (W' b) H → va_D A (W' b) → va_S A s.heap H locs → decode cc pc = .ok (.areturn, 1) → W p l e rm s m args below meth c H locs mc ms Q0 (F0 m pc ls [r])) →
      (∀ (b : Nat) {H : Heap} {locs : List Loc} {pc : Nat} {ls : Array Slot}, v b = none → ret = none → va_P D vwCl (W' b) H → va_D A (W' b) → va_S A s.heap H locs → decode cc pc = .ok (.return_, 1) → W p l e rm s m args below meth c H locs mc ms Q0 (F0 m pc ls [])) →
      (∀ (b : Nat) {H : Heap} {locs : List Loc} {pc : Nat} {ls : Array Slot} {r : Int32}, v b = some (.int r) → ret = some .int → va_P D vwCl (W' b) H → va_D A (W' b) → va_S A s.heap H locs → decode cc pc = .ok (.ireturn, 1) → W p l e rm s m args below meth c H locs mc ms Q0 (F0 m pc ls [.int r])) →
      va_P D vwCl W0 s.heap → va_S A s.heap s.heap [] → J A s → ∀ ls : Array Slot, lv_has ls maxL (lv_args 0 av) → W p l e rm s m args below meth c s.heap [] 0 0 Q0 (F0 m 0 ls [])) : mCE l y ws rm D tys J av W0 W' sz v mc ms := by
  refine Met.ofW hy hw ?_
  intro p e s m args below meth c s₁ B hml hv
  obtain ⟨rfl, hsz, hP, hK, hD0, hN, hJ⟩ := hv
  subst hsz
  have hl := lv_entry av (n := maxL) hn
  rw [lg_entry_eq]
  have hr := B.returns
  have hlocks := B.notSynchronized
  refine body p e s m _ below meth c _ B.exec B.bytes hml (atoms_spec (ws := ws) B.pre) (findClass_of_methodNamed B.named) hN hK _ (hD0.self (sz := s.heap.size)) (fun q h => Or.inr h) ?_ ?_ ?_ hP va_S.rf hJ _ hl
  · intro b H locs pc ls r rt hvb hret hrt hrv h1 h2 h3 h4
    exact W.aret B.exec B.bytes (by rw [hr, hret]) hrt hrv (fun t ht _ => ⟨⟨b, by rw [hvb], by show va_P D vwCl (W' b) t.heap ∧ va_D _ (W' b); rw [ht]; exact ⟨h1, h2⟩⟩, h3.F ht⟩) h3.2.2 h4
  · intro b H locs pc ls hvb hret h1 h2 h3 h4
    exact W.vret B.exec B.bytes (by rw [hr, hret]) (fun t ht _ => ⟨⟨b, by rw [hvb], by show va_P D vwCl (W' b) t.heap ∧ va_D _ (W' b); rw [ht]; exact ⟨h1, h2⟩⟩, h3.F ht⟩) h3.2.2 h4
  · intro b H locs pc ls r hvb hret h1 h2 h3 h4
    exact W.iret B.exec B.bytes (by rw [hr, hret]) (fun t ht _ => ⟨⟨b, by rw [hvb], by show va_P D vwCl (W' b) t.heap ∧ va_D _ (W' b); rw [ht]; exact ⟨h1, h2⟩⟩, h3.F ht⟩) h3.2.2 h4
section KE
variable {p : Program} {l : Launch} {e : Env} {R : Room} {s : State} {m : MethodId} {args : Array Value} {below : List Frame} {meth : Method} {c : Code} {H : Heap} {locs : List Loc} {cells slots : Nat} {Q : State → Prop}
variable {pc : Nat} {ls : Array Slot} {rest st0 : List Value} {A : Nat → Prop} {mc ms : Nat} {D : va_G} {tys tysc : List (ClassId × FieldType)} {Wc ws0 : va_W} {Wc' ws1 : Nat → va_W} {v : Nat → Option Value}
theorem k_callE {av : Array Value} (hr : va_Run p l e R s m args below meth c H locs cells slots mc ms (F0 m pc ls st0) rest (mQE v (fun b => mB D (va_A Wc H.size) (Wc' b)) (va_A Wc H.size) av) (va_A Wc H.size)) (hP : va_P D vwCl ws0 H) (hD : va_D A ws0) (hS : va_S A s.heap H locs) (hA : ∀ q : Nat, s.heap.size ≤ q → A q)
    (isC isR isP : List Nat) (hC : isC.map (fun i => ws0[i]?) = Wc.map some) (hR : isR.map (fun i => ws0[i]?) = (isR.filterMap (fun i => ws0[i]?)).map some) (hn : va_nd isR = true) (hdis : ∀ i ∈ isR, i ∉ isC) (hp : ∀ b : Nat, isP.map (fun i => (isR.filterMap (fun i => ws0[i]?) ++ Wc' b)[i]?) = (ws1 b).map some) (hnp : va_nd isP = true)
    (kk : ∀ (b : Nat) (H1 : Heap) (locs1 : List Loc), va_P D vwCl (ws1 b) H1 → va_D A (ws1 b) → va_S A s.heap H1 locs1 → W p l e R s m args below meth c H1 locs1 (cells + mc) (slots + ms) Q (F0 m (pc + 3) ls ((v b).toList ++ rest))) : W p l e R s m args below meth c H locs cells slots Q (F0 m pc ls st0) := by
  have hF := va_free (wc := Wc) hD hS hA isC hC
  intro T hT X
  obtain ⟨v', st₀, t, T', L, h0, X', hL, e1, e2, ⟨⟨b, hv, hb⟩, hz, hk⟩, st⟩ := hr T hT X
  cases hv
  rw [h0] at hz hk
  obtain ⟨hPb, hDb⟩ := hb
  obtain ⟨hP1, hD1⟩ := va_join (wr := isR.filterMap (fun i => ws0[i]?)) hP hD isC isR hC hR hn hdis hk hF hPb hDb
  have hP2 : va_P D vwCl (ws1 b) t.heap := by
    intro k q hq
    have h1 : (isP.map (fun i => (isR.filterMap (fun i => ws0[i]?) ++ Wc' b)[i]?))[k]? = some (some q) := by rw [hp, List.getElem?_map, hq]; rfl
    rw [List.getElem?_map] at h1
    cases hi : isP[k]? with
    | none => rw [hi] at h1; cases h1
    | some i => rw [hi] at h1; exact hP1 i q (Option.some.inj h1)
  have hD2 := hD1.sub isP hnp (hp b)
  obtain ⟨t2, a1, b1⟩ := kk b T'.heap (locs ++ L) (by rw [e1]; exact hP2) hD2
    ⟨Nat.le_trans hS.1 (by rw [e1]; exact hz), fun q h1 h2 => by rw [e1, hk q (Nat.lt_of_lt_of_le h1 hS.1) (fun z => h2 (hF q z))]; exact hS.2.1 q h1 h2, fun q hq => by
      rcases List.mem_append.mp hq with h | h
      · exact hS.2.2 q h
      · exact hF _ (hL q h)⟩ T' rfl X'
  exact ⟨t2, st t2 a1, b1⟩
variable {y : MethodName} {bytes cc : ByteArray} {maxL nL n index : Nat} {ret : Option FieldType} {ws ws' : List Cond} {rm : Room} {Ts : List Cond} {own C host : String} {b : Addr} {As : List Value}

theorem k_VE {Jc : JT} (S : CallFix p m c cc nL s args Ts own) (hM : mCE l y ws rm D tysc Jc (.ref b :: As) Wc Wc' H.size v mc ms) (cw : CallW R s args own C index y bytes maxL ret ws rm mc ms As.length) (hsize : ls.size = nL) (hW : (rest.map fun v => v.category).sum ≤ 8) (hdg : decode cc pc = .ok (.invokevirtual index, 3)) (hf : cells + mc ≤ R.cells ∧ slots + ms ≤ R.slots) (hstack : st0 = As.reverse ++ .ref b :: rest)
    (hJb : kBl Jc) (hJc : ∀ U : State, U.heap = H → s.WarmedH U.vm → Jc (va_A Wc H.size) U) (hN : kN s) (hK : va_K D vwCl tys s) (hP : va_P D vwCl ws0 H) (hD : va_D A ws0) (hS : va_S A s.heap H locs) (hA : ∀ q : Nat, s.heap.size ≤ q → A q) (k ci : Nat) {cq : vw_C} {fs : List Value} (hcl : vwCl[ci]? = some cq) (hcn : cq.1 = C) (hb0 : ws0[k]? = some (b, .inr (ci, fs)))
    (isC isR isP isK : List Nat) (hC : isC.map (fun i => ws0[i]?) = Wc.map some) (hk : isK.filterMap (fun i => tys[i]?) = tysc) (hR : isR.map (fun i => ws0[i]?) = (isR.filterMap (fun i => ws0[i]?)).map some) (hn : va_nd isC = true ∧ va_nd isR = true ∧ va_nd isP = true ∧ ∀ i ∈ isR, i ∉ isC) (hp : ∀ b : Nat, isP.map (fun i => (isR.filterMap (fun i => ws0[i]?) ++ Wc' b)[i]?) = (ws1 b).map some)
    (kk : ∀ (b : Nat) (H1 : Heap) (locs1 : List Loc), va_P D vwCl (ws1 b) H1 → va_D A (ws1 b) → va_S A s.heap H1 locs1 → W p l e R s m args below meth c H1 locs1 (cells + mc) (slots + ms) Q (F0 m (pc + 3) ls ((v b).toList ++ rest))) : W p l e R s m args below meth c H locs cells slots Q (F0 m pc ls st0) := by
  have pr := k_pre (av := (.ref b :: As)) hJb hJc hN hP hD hK isC isK hn.1 hC hk
  exact k_callE (va_runV S hM cw ⟨pr.1, by rw [← hcn]; exact va_recv hK hP hcl hb0, pr.2⟩ rfl rfl hsize hstack (lv_room hW) hdg hf) hP hD hS hA isC isR isP hC hR hn.2.1 hn.2.2.2 hp hn.2.2.1 kk
theorem k_U0 {Jc : JT} {owner : String} {x : MethodName} {Wd' wd1 : va_W} {vd : Option Value} (S : CallFix p m c cc nL s args Ts own) (hM : mC l y ws rm D tysc Jc (.ref b :: As) Wc Wd' H.size vd mc ms) (cw : va_CU R s args own C owner index x y bytes maxL ret ws rm mc ms As.length) (hsize : ls.size = nL) (hW : (rest.map fun v => v.category).sum ≤ 8) (hdg : decode cc pc = .ok (.invokevirtual index, 3)) (hf : cells + mc ≤ R.cells ∧ slots + ms ≤ R.slots) (hstack : st0 = As.reverse ++ .ref b :: rest)
    (hJb : kBl Jc) (hJc : ∀ U : State, U.heap = H → s.WarmedH U.vm → Jc (va_A Wc H.size) U) (hN : kN s) (hK : va_K D vwCl tys s) (hP : va_P D vwCl ws0 H) (hD : va_D A ws0) (hS : va_S A s.heap H locs) (hA : ∀ q : Nat, s.heap.size ≤ q → A q) (k ci : Nat) {cq : vw_C} {fs : List Value} (hcl : vwCl[ci]? = some cq) (hcn : cq.1 = C) (hb0 : ws0[k]? = some (b, .inr (ci, fs)))
    (isC isR isP isK : List Nat) (hC : isC.map (fun i => ws0[i]?) = Wc.map some) (hk : isK.filterMap (fun i => tys[i]?) = tysc) (hR : isR.map (fun i => ws0[i]?) = (isR.filterMap (fun i => ws0[i]?)).map some) (hn : va_nd isC = true ∧ va_nd isR = true ∧ va_nd isP = true ∧ ∀ i ∈ isR, i ∉ isC) (hp : isP.map (fun i => (isR.filterMap (fun i => ws0[i]?) ++ Wd')[i]?) = wd1.map some)
    (kk : ∀ (H1 : Heap) (locs1 : List Loc), va_P D vwCl wd1 H1 → va_D A wd1 → va_S A s.heap H1 locs1 → W p l e R s m args below meth c H1 locs1 (cells + mc) (slots + ms) Q (F0 m (pc + 3) ls (vd.toList ++ rest))) : W p l e R s m args below meth c H locs cells slots Q (F0 m pc ls st0) := by
  have pr := k_pre (av := (.ref b :: As)) hJb hJc hN hP hD hK isC isK hn.1 hC hk
  exact k_call (va_runU S hM cw ⟨pr.1, by rw [← hcn]; exact va_recv hK hP hcl hb0, pr.2⟩ rfl rfl hsize hstack (lv_room hW) hdg hf) hP hD hS hA isC isR isP hC hR hn.2.1 hn.2.2.2 hp hn.2.2.1 kk
theorem k_UE {Jc : JT} {owner : String} {x : MethodName} (S : CallFix p m c cc nL s args Ts own) (hM : mCE l y ws rm D tysc Jc (.ref b :: As) Wc Wc' H.size v mc ms) (cw : va_CU R s args own C owner index x y bytes maxL ret ws rm mc ms As.length) (hsize : ls.size = nL) (hW : (rest.map fun v => v.category).sum ≤ 8) (hdg : decode cc pc = .ok (.invokevirtual index, 3)) (hf : cells + mc ≤ R.cells ∧ slots + ms ≤ R.slots) (hstack : st0 = As.reverse ++ .ref b :: rest)
    (hJb : kBl Jc) (hJc : ∀ U : State, U.heap = H → s.WarmedH U.vm → Jc (va_A Wc H.size) U) (hN : kN s) (hK : va_K D vwCl tys s) (hP : va_P D vwCl ws0 H) (hD : va_D A ws0) (hS : va_S A s.heap H locs) (hA : ∀ q : Nat, s.heap.size ≤ q → A q) (k ci : Nat) {cq : vw_C} {fs : List Value} (hcl : vwCl[ci]? = some cq) (hcn : cq.1 = C) (hb0 : ws0[k]? = some (b, .inr (ci, fs)))
    (isC isR isP isK : List Nat) (hC : isC.map (fun i => ws0[i]?) = Wc.map some) (hk : isK.filterMap (fun i => tys[i]?) = tysc) (hR : isR.map (fun i => ws0[i]?) = (isR.filterMap (fun i => ws0[i]?)).map some) (hn : va_nd isC = true ∧ va_nd isR = true ∧ va_nd isP = true ∧ ∀ i ∈ isR, i ∉ isC) (hp : ∀ b : Nat, isP.map (fun i => (isR.filterMap (fun i => ws0[i]?) ++ Wc' b)[i]?) = (ws1 b).map some)
    (kk : ∀ (b : Nat) (H1 : Heap) (locs1 : List Loc), va_P D vwCl (ws1 b) H1 → va_D A (ws1 b) → va_S A s.heap H1 locs1 → W p l e R s m args below meth c H1 locs1 (cells + mc) (slots + ms) Q (F0 m (pc + 3) ls ((v b).toList ++ rest))) : W p l e R s m args below meth c H locs cells slots Q (F0 m pc ls st0) := by
  have pr := k_pre (av := (.ref b :: As)) hJb hJc hN hP hD hK isC isK hn.1 hC hk
  exact k_callE (va_runU S hM cw ⟨pr.1, by rw [← hcn]; exact va_recv hK hP hcl hb0, pr.2⟩ rfl rfl hsize hstack (lv_room hW) hdg hf) hP hD hS hA isC isR isP hC hR hn.2.1 hn.2.2.2 hp hn.2.2.1 kk
theorem k_SE {Jc : JT} (S : CallFix p m c cc nL s args Ts own) (hM : mCE l y ws rm D tysc Jc As Wc Wc' H.size v mc ms) (cw : CallB R s args own index y bytes maxL ret ws rm mc ms As.length ∧ (Cond.static y).before args s = true) (hsize : ls.size = nL) (hW : (rest.map fun v => v.category).sum ≤ 8) (hdg : decode cc pc = .ok (.invokestatic index, 3)) (hf : cells + mc ≤ R.cells ∧ slots + ms ≤ R.slots) (hstack : st0 = As.reverse ++ rest)
    (hJb : kBl Jc) (hJc : ∀ U : State, U.heap = H → s.WarmedH U.vm → Jc (va_A Wc H.size) U) (hN : kN s) (hK : va_K D vwCl tys s) (hP : va_P D vwCl ws0 H) (hD : va_D A ws0) (hS : va_S A s.heap H locs) (hA : ∀ q : Nat, s.heap.size ≤ q → A q) 
    (isC isR isP isK : List Nat) (hC : isC.map (fun i => ws0[i]?) = Wc.map some) (hk : isK.filterMap (fun i => tys[i]?) = tysc) (hR : isR.map (fun i => ws0[i]?) = (isR.filterMap (fun i => ws0[i]?)).map some) (hn : va_nd isC = true ∧ va_nd isR = true ∧ va_nd isP = true ∧ ∀ i ∈ isR, i ∉ isC) (hp : ∀ b : Nat, isP.map (fun i => (isR.filterMap (fun i => ws0[i]?) ++ Wc' b)[i]?) = (ws1 b).map some)
    (kk : ∀ (b : Nat) (H1 : Heap) (locs1 : List Loc), va_P D vwCl (ws1 b) H1 → va_D A (ws1 b) → va_S A s.heap H1 locs1 → W p l e R s m args below meth c H1 locs1 (cells + mc) (slots + ms) Q (F0 m (pc + 3) ls ((v b).toList ++ rest))) : W p l e R s m args below meth c H locs cells slots Q (F0 m pc ls st0) := by
  have pr := k_pre (av := As) hJb hJc hN hP hD hK isC isK hn.1 hC hk
  exact k_callE (va_runS S hM cw pr rfl rfl hsize hstack (lv_room hW) hdg hf) hP hD hS hA isC isR isP hC hR hn.2.1 hn.2.2.2 hp hn.2.2.1 kk
theorem k_P0 {Jc : JT} {cC : ClassId} {Wd' wd1 : va_W} {vd : Option Value} (hat : ClassAt s C cC) (S : CallFix p m c cc nL s args Ts own) (hM : mC l y ws rm D tysc Jc (.ref b :: As) Wc Wd' H.size vd mc ms) (cw : va_CS R s args own index y bytes maxL ret ws rm mc ms As.length) (hsize : ls.size = nL) (hW : (rest.map fun v => v.category).sum ≤ 8) (hdg : decode cc pc = .ok (.invokespecial index, 3)) (hf : cells + mc ≤ R.cells ∧ slots + ms ≤ R.slots) (hstack : st0 = As.reverse ++ .ref b :: rest)
    (hJb : kBl Jc) (hJc : ∀ U : State, U.heap = H → s.WarmedH U.vm → Jc (va_A Wc H.size) U) (hN : kN s) (hK : va_K D vwCl tys s) (hP : va_P D vwCl ws0 H) (hD : va_D A ws0) (hS : va_S A s.heap H locs) (hA : ∀ q : Nat, s.heap.size ≤ q → A q) (k ci : Nat) {cq : vw_C} {fs : List Value} (hcl : vwCl[ci]? = some cq) (hcn : cq.1 = C) (hb0 : ws0[k]? = some (b, .inr (ci, fs)))
    (isC isR isP isK : List Nat) (hC : isC.map (fun i => ws0[i]?) = Wc.map some) (hk : isK.filterMap (fun i => tys[i]?) = tysc) (hR : isR.map (fun i => ws0[i]?) = (isR.filterMap (fun i => ws0[i]?)).map some) (hn : va_nd isC = true ∧ va_nd isR = true ∧ va_nd isP = true ∧ ∀ i ∈ isR, i ∉ isC) (hp : isP.map (fun i => (isR.filterMap (fun i => ws0[i]?) ++ Wd')[i]?) = wd1.map some)
    (kk : ∀ (H1 : Heap) (locs1 : List Loc), va_P D vwCl wd1 H1 → va_D A wd1 → va_S A s.heap H1 locs1 → W p l e R s m args below meth c H1 locs1 (cells + mc) (slots + ms) Q (F0 m (pc + 3) ls (vd.toList ++ rest))) : W p l e R s m args below meth c H locs cells slots Q (F0 m pc ls st0) := by
  have pr := k_pre (av := (.ref b :: As)) hJb hJc hN hP hD hK isC isK hn.1 hC hk
  exact k_call (va_runSU hat S hM cw ⟨pr.1, by rw [← hcn]; exact va_recv hK hP hcl hb0, pr.2⟩ rfl rfl hsize hstack (lv_room hW) hdg hf) hP hD hS hA isC isR isP hC hR hn.2.1 hn.2.2.2 hp hn.2.2.1 kk
theorem k_PE {Jc : JT} {cC : ClassId} (hat : ClassAt s C cC) (S : CallFix p m c cc nL s args Ts own) (hM : mCE l y ws rm D tysc Jc (.ref b :: As) Wc Wc' H.size v mc ms) (cw : va_CS R s args own index y bytes maxL ret ws rm mc ms As.length) (hsize : ls.size = nL) (hW : (rest.map fun v => v.category).sum ≤ 8) (hdg : decode cc pc = .ok (.invokespecial index, 3)) (hf : cells + mc ≤ R.cells ∧ slots + ms ≤ R.slots) (hstack : st0 = As.reverse ++ .ref b :: rest)
    (hJb : kBl Jc) (hJc : ∀ U : State, U.heap = H → s.WarmedH U.vm → Jc (va_A Wc H.size) U) (hN : kN s) (hK : va_K D vwCl tys s) (hP : va_P D vwCl ws0 H) (hD : va_D A ws0) (hS : va_S A s.heap H locs) (hA : ∀ q : Nat, s.heap.size ≤ q → A q) (k ci : Nat) {cq : vw_C} {fs : List Value} (hcl : vwCl[ci]? = some cq) (hcn : cq.1 = C) (hb0 : ws0[k]? = some (b, .inr (ci, fs)))
    (isC isR isP isK : List Nat) (hC : isC.map (fun i => ws0[i]?) = Wc.map some) (hk : isK.filterMap (fun i => tys[i]?) = tysc) (hR : isR.map (fun i => ws0[i]?) = (isR.filterMap (fun i => ws0[i]?)).map some) (hn : va_nd isC = true ∧ va_nd isR = true ∧ va_nd isP = true ∧ ∀ i ∈ isR, i ∉ isC) (hp : ∀ b : Nat, isP.map (fun i => (isR.filterMap (fun i => ws0[i]?) ++ Wc' b)[i]?) = (ws1 b).map some)
    (kk : ∀ (b : Nat) (H1 : Heap) (locs1 : List Loc), va_P D vwCl (ws1 b) H1 → va_D A (ws1 b) → va_S A s.heap H1 locs1 → W p l e R s m args below meth c H1 locs1 (cells + mc) (slots + ms) Q (F0 m (pc + 3) ls ((v b).toList ++ rest))) : W p l e R s m args below meth c H locs cells slots Q (F0 m pc ls st0) := by
  have pr := k_pre (av := (.ref b :: As)) hJb hJc hN hP hD hK isC isK hn.1 hC hk
  exact k_callE (va_runSU hat S hM cw ⟨pr.1, by rw [← hcn]; exact va_recv hK hP hcl hb0, pr.2⟩ rfl rfl hsize hstack (lv_room hW) hdg hf) hP hD hS hA isC isR isP hC hR hn.2.1 hn.2.2.2 hp hn.2.2.1 kk
end KE

/-! The StringBuilder: (its capacity, its numbers and bytes); the digits' tables; the one place where an array is made. -/
def kSB (G : Nat → ClassId) (o b : Nat) (w : Nat × SV) : va_W := [(o, .inr (0, [.ref b, .int (w.2.1 0), .int (w.2.1 1), .int (w.2.1 2)])), (b, .inl (G 2, w.1, .inl (w.2.2 0)))]
def kArB (G : Nat → ClassId) (a n : Nat) (f : Nat → Int32) : va_W := [(a, .inl (G 2, n, .inl f))]
def pBF (w : Nat × SV) (k : Nat) (x : Int32) : Nat × SV := (w.1, pF w.2 k x)
def pBA (w : Nat × SV) (i x : Int32) : Nat × SV := (w.1, pA w.2 0 i x)
def pBR (w : Nat × SV) (g : Nat → Int32) : Nat × SV := (w.1, pR w.2 0 g)
def dgO (j : Nat) : Int32 := nI (48 + j % 10)
def dgT (j : Nat) : Int32 := nI (48 + j / 10)
def kW (X : Nat → Nat → Nat) : JT := fun A U => kY X A U ∧ va_Z "java/lang/Integer" "DigitOnes" "[B" (.ref (X 0 4)) A U U.heap ∧ va_T .byte (X 0 4) 100 (fun j => .int (dgO j)) A U U.heap ∧ va_Z "java/lang/Integer" "DigitTens" "[B" (.ref (X 0 5)) A U U.heap ∧ va_T .byte (X 0 5) 100 (fun j => .int (dgT j)) A U U.heap
theorem kW_bl (X : Nat → Nat → Nat) : kBl (kW X) := by
  intro A U V hv hh h
  obtain ⟨h1, h2, h3, h4, h5⟩ := h
  have ha := al_of hv
  rw [hh] at h2 h3 h4 h5
  exact ⟨kY_bl X A U V hv hh h1, h2.moved ha, h3.moved ha, h4.moved ha, h5.moved ha⟩
theorem kW_pass {X : Nat → Nat → Nat} {A B : Nat → Prop} {s : State} {H : Heap} {locs : List Loc} (hJ : kW X A s) (hS : va_S A s.heap H locs) (hB : ∀ q : Nat, B q → A q) : ∀ U : State, U.heap = H → s.WarmedH U.vm → kW X B U := by
  intro U hU hW
  refine ⟨kY_pass hJ.1 hS hB U hU hW, ?_⟩
  subst hU
  have hq : ∀ a : Nat, a < s.heap.size → ¬ A a → U.heap[a]? = s.heap[a]? := fun a h1 h2 => hS.2.1 a h1 h2
  have ha := hW.alike
  obtain ⟨-, h2, h3, h4, h5⟩ := hJ
  exact ⟨((h2.kept hq).moved ha).narrow hB, ((h3.kept hq).moved ha).narrow hB, ((h4.kept hq).moved ha).narrow hB, ((h5.kept hq).moved ha).narrow hB⟩
def f_J7_copyOf_9075b (a1 : Int32) (n0 : Nat) (v0 : Nat → Int32) : Option (Nat × (Nat → Int32)) :=
  ckP (¬ a1 < 0 ∧ ¬ a1 = Int32.ofNat n0 ∧ a1.toNatClampNeg ≤ 80 ∧ ¬ (if a1 < Int32.ofNat n0 then a1 else Int32.ofNat n0) < 0 ∧ (if a1 < Int32.ofNat n0 then a1 else Int32.ofNat n0).toNatClampNeg ≤ n0 ∧ (if a1 < Int32.ofNat n0 then a1 else Int32.ofNat n0).toNatClampNeg ≤ a1.toNatClampNeg ∧ (List.range (if a1 < Int32.ofNat n0 then a1 else Int32.ofNat n0).toNatClampNeg).all (fun i => fits .byte (.int (v0 i))) = true) <|
  some (a1.toNatClampNeg, va_cpy v0 (fun _ => 0) (0 : Int32).toNatClampNeg (0 : Int32).toNatClampNeg (if a1 < Int32.ofNat n0 then a1 else Int32.ofNat n0).toNatClampNeg)
abbrev rm_J7_copyOf_9075b : Room := { frames := 1, cells := 1, slots := 80, locals := 18 }
set_option maxHeartbeats 4000000 in
set_option maxRecDepth 100000 in
/-- Arrays.copyOf of bytes to another length: one new row -/
theorem c_J7_copyOf_9075b (l : Launch) (D : va_G) (G : Nat → ClassId) (b0 n0 : Nat) (a1 : Int32) (v0 : Nat → Int32) (n' : Nat) (v' : Nat → Int32) (hf : f_J7_copyOf_9075b a1 n0 v0 = some (n', v')) (sz : Nat) : mCE l yJ7_copyOf_9075b wsJ7_copyOf_9075b rm_J7_copyOf_9075b D (tyG G) kT [.ref b0, .int a1] (kArB G b0 n0 v0) (fun bb => kArB G b0 n0 v0 ++ kArB G bb n' v') sz (fun bb => some (.ref bb)) 1 80 := by
  unfold f_J7_copyOf_9075b at hf
  obtain ⟨⟨h1, h2, h3, h4, h5, h6, h7⟩, hf⟩ := ckP_of hf
  obtain ⟨rfl, rfl⟩ := re2 hf
  refine mCE_of (cc := cJ7_copyOf_9075b) (maxL := 3) (ret := (some (.array .byte))) (by decide) rfl (Nat.le_of_ble_eq_true rfl) ?_
  intro p e s m args below meth c Q0 hx hb hml hts hown hN hK A hD hA hEr hEv hEi hP hS hJ ls hl
  have hl : lv_has ls 3 [(0, .ref b0), (1, .int a1)] := hl
  refine lv_iload_n hx hb dJ7_copyOf_9075b_0 rfl (lv_at hl 1 rfl) ?_
  refine lv_aload_n hx hb dJ7_copyOf_9075b_1 rfl (lv_at hl 0 rfl) ?_
  refine va_alen (D := D) (v := Int32.ofNat n0) hx hb hK hP 0 2 rfl rfl rfl dJ7_copyOf_9075b_2 ?_
  refine lv_icmp_ne (tgt := 14) hx hb dJ7_copyOf_9075b_3 (by decide) (fun cc => ?_) (fun cc => absurd cc h2)
  refine lv_iload_n hx hb dJ7_copyOf_9075b_14 rfl (lv_at hl 1 rfl) ?_
  refine va_newa (atype := .byte) (ty := .byte) (a0 := (a1.toNatClampNeg, .inl (fun _ => 0))) hx hb (hts (.arrayClass .byte) (by decide +kernel)) rfl hK hP hD hS hA (fun cA => rfl) h1 rfl (Nat.le_trans (Nat.mul_le_mul_right _ h3) (by decide)) (by show _ ≤ 1; omega) (by show _ ≤ 80; omega) dJ7_copyOf_9075b_15 (fun q cA H hK2 hP hD hS => ?_)
  have hcA : G 2 = cA := Option.some.inj ((hK.2 2 _ rfl).2.symm.trans (hK2.2 4 _ rfl).2)
  subst hcA
  have hP : va_P D vwCl (kArB G b0 n0 v0 ++ kArB G q a1.toNatClampNeg (fun _ => 0)) H := hP
  have hD : va_D A (kArB G b0 n0 v0 ++ kArB G q a1.toNatClampNeg (fun _ => 0)) := hD
  refine W.widen (k := 1) (n := 80) (by omega) (by omega) ?_
  refine lv_astore_n (lv' := [(2, .ref q), (0, .ref b0), (1, .int a1)]) hx hb dJ7_copyOf_9075b_17 rfl hl (by decide) rfl (fun ls hl => ?_)
  refine lv_aload_n hx hb dJ7_copyOf_9075b_18 rfl (lv_at hl 1 rfl) ?_
  refine lv_iconst (v := 0) hx hb dJ7_copyOf_9075b_19 (by decide) ?_
  refine lv_aload_n hx hb dJ7_copyOf_9075b_20 rfl (lv_at hl 0 rfl) ?_
  refine lv_iconst (v := 0) hx hb dJ7_copyOf_9075b_21 (by decide) ?_
  refine lv_aload_n hx hb dJ7_copyOf_9075b_22 rfl (lv_at hl 1 rfl) ?_
  refine va_alen (D := D) (v := Int32.ofNat n0) hx hb hK hP 0 2 rfl rfl rfl dJ7_copyOf_9075b_23 ?_
  refine lv_iload_n hx hb dJ7_copyOf_9075b_24 rfl (lv_at hl 2 rfl) ?_
  refine va_mmin hx hb (hml.trans hl.1.symm) hown (hts (.methodLink RJ7 304 Lib.Math.min.name) (by decide +kernel)) (hts (.static Lib.Math.min.name) (by decide +kernel)) (hts (.initialized "java/lang/Math") (by decide +kernel)) (hts (.code Lib.Math.min.name Lib.Math.min.code 2 (some .int)) (by decide +kernel)) (Nat.le_of_ble_eq_true rfl) (Nat.le_of_ble_eq_true rfl) (Nat.le_of_ble_eq_true rfl) (Nat.le_of_ble_eq_true rfl) dJ7_copyOf_9075b_25 ?_
  refine va_copyi (D := D) (ty := .byte) (c0 := G 2) (c1 := G 2) hx hb (hml.trans hl.1.symm) hown (hts (.methodLink RJ7 150 arraycopyName) (by decide +kernel)) (hts (.native arraycopyName) (by decide +kernel)) (hts (.static arraycopyName) (by decide +kernel)) (hts (.initialized "java/lang/System") (by decide +kernel)) hK hP hD hS 0 1 2 2 rfl rfl rfl rfl rfl (by decide) (by decide) h4 (by have := h5; simpa using this) (by have := h6; simpa using this) (fun i hi => ?_) (Nat.le_of_ble_eq_true rfl) (Nat.le_of_ble_eq_true rfl) dJ7_copyOf_9075b_28 (fun H locs hP hD hS => ?_)
  · have h8 := List.all_eq_true.mp h7 i (List.mem_range.mpr hi)
    have e0 : (0 : Int32).toNatClampNeg + i = i := by
      show 0 + i = i
      omega
    rw [e0]
    exact h8
  have hP : va_P D vwCl (kArB G b0 n0 v0 ++ kArB G q a1.toNatClampNeg (va_cpy v0 (fun _ => 0) (0 : Int32).toNatClampNeg (0 : Int32).toNatClampNeg (if a1 < Int32.ofNat n0 then a1 else Int32.ofNat n0).toNatClampNeg)) H := hP
  have hD : va_D A (kArB G b0 n0 v0 ++ kArB G q a1.toNatClampNeg (va_cpy v0 (fun _ => 0) (0 : Int32).toNatClampNeg (0 : Int32).toNatClampNeg (if a1 < Int32.ofNat n0 then a1 else Int32.ofNat n0).toNatClampNeg)) := hD
  refine lv_aload_n hx hb dJ7_copyOf_9075b_31 rfl (lv_at hl 0 rfl) ?_
  exact hEr q rfl rfl (.inr ⟨_, rfl⟩) (.inr ⟨_, rfl⟩) hP hD hS dJ7_copyOf_9075b_32

