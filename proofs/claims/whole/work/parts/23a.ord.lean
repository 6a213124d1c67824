/-! Enum.ordinal, walked: its class's initialisation is no word of the claim's. -/
theorem w_ord {p : Program} {l : Launch} {e : Env} {R : Room} {s : State} {m : MethodId} {below : List Frame} {meth : Method} {c : Code} {A : Nat → Prop} {X : Nat → Nat → Nat} {k0 : Nat} (hx : p.tables.exec = Jvm.exec) (hb : c.code = cJx29ce0_ordinal_8abf5) (hr : meth.sig.returnType = some .int) (hlk : meth.locks = false) (hk0 : k0 < 8)
    (hX6 : va_Ef 8 "java/lang/Enum" "ordinal" "I" (fun i => .int (nI i)) (X 1) A s s.heap) (hown : s.vm.findClass RJx29ce0 = some m.cls) (hw1 : (Cond.fieldLink RJx29ce0 7 "java/lang/Enum" "ordinal" "I").before #[Value.ref (X 1 k0)] s = true) : W p l e R s m #[Value.ref (X 1 k0)] below meth c s.heap [] 0 0 (MQ below (fun _ st o t => o = .returned (some (.int (nI k0))) ∧ t.heap = st.heap) #[Value.ref (X 1 k0)] s 0 0 (fun _ => False)) (entryFrame m ([Value.ref (X 1 k0)] : List Value).toArray 1) := by
  have hl := lv_entry ([.ref (X 1 k0)]) (n := 1) (Nat.le_of_ble_eq_true rfl)
  rw [lg_entry_eq]
  generalize (lg_sl ([.ref (X 1 k0)]) ++ List.replicate (1 - (lg_sl ([.ref (X 1 k0)])).length) Slot.unset).toArray = ls at hl ⊢
  have hl : lv_has ls 1 [(0, .ref (X 1 k0))] := hl
  refine lv_aload_n hx hb dJx29ce0_ordinal_8abf5_0 rfl (lv_at hl 0 rfl) ?_
  refine va_getX (A := A) hx hb hX6 hk0 va_S.rf hown hw1 (fun _ h9 => h9) dJx29ce0_ordinal_8abf5_1 ?_
  exact W.iret hx hb hr (fun t ht _ => ⟨rfl, ht⟩) (fun q hq => by cases hq) dJx29ce0_ordinal_8abf5_4 hlk
theorem back_ord {l : Launch} {R : Room} {p : Program} {e : Env} {below : List Frame} {s : State} {sargs : Array Value} (hx : p.tables.exec = Jvm.exec) {A0 : Nat → Prop} {X : Nat → Nat → Nat} {k0 : Nat} {H : Heap} (hk0 : k0 < 8) (hfr : 1 ≤ R.frames) (hlo : 20 ≤ R.locals)
    (hE : ∀ U : State, U.heap = H → s.WarmedH U.vm → va_Ef 8 "java/lang/Enum" "ordinal" "I" (fun i => .int (nI i)) (X 1) A0 U U.heap)
    (hws : ∀ w ∈ wsJx29ce0_ordinal_8abf5, ∀ (a' : Array Value) (U : State), s.WarmedH U.vm → w.before a' U = true) :
    Back l R p e below s sargs yJx29ce0_ordinal_8abf5 3 8 (fun A a => a = #[Value.ref (X 1 k0)] ∧ A.U.heap = H ∧ A.cells ≤ R.cells ∧ A.slots ≤ R.slots) (fun A _ v B => v = some (.int (nI k0)) ∧ B.U.heap = H ∧ B.locs = A.locs ∧ B.cells = A.cells ∧ B.slots = A.slots) := by
  intro m meth c A g ig mk a X0 hg hsize hdg hW hn hp
  obtain ⟨U, Ls, c0, s0⟩ := A
  dsimp only [Pt.U, Pt.locs, Pt.cells, Pt.slots] at X0 hn hp ⊢
  obtain ⟨rfl, hH, hc, hs⟩ := hp
  have hcode := hws (.code yJx29ce0_ordinal_8abf5 cJx29ce0_ordinal_8abf5 1 (some .int)) List.mem_cons_self #[Value.ref (X 1 k0)] U X0.warmed
  obtain ⟨methY, cY, hmY, hcY, hbY, hlY, hrY, hkY, -, -⟩ := Cond.code_spec hn hcode
  have h : At U g.method c below := by rw [hg]; exact X0.here
  have hfE := State.frames_calling h.top g mk #[Value.ref (X 1 k0)]
  have hcur := State.cur_lt_of_frames hfE
  have hf1 : ((U.calling g mk #[Value.ref (X 1 k0)]).setFrames (.java (entryFrame mk #[Value.ref (X 1 k0)] 1) :: .java g :: U.frames.tail)).frames = .java (entryFrame mk #[Value.ref (X 1 k0)] 1) :: .java g :: U.frames.tail := State.frames_setFrames _ hcur
  have ht1 := State.topJava?_of_frames hf1
  have hplain : ((U.calling g mk #[Value.ref (X 1 k0)]).setFrames (.java (entryFrame mk #[Value.ref (X 1 k0)] 1) :: .java g :: U.frames.tail)).plainMethod mk := by
    refine State.plainMethod.of_name ?_
    intro k hk
    obtain ⟨k', hk', hn'⟩ := className_of_methodNamed hn
    cases (show U.vm.classes[mk.cls]? = some k from hk).symm.trans hk'
    rw [hn']; decide
  have hAt : At ((U.calling g mk #[Value.ref (X 1 k0)]).setFrames (.java (entryFrame mk #[Value.ref (X 1 k0)] 1) :: .java g :: U.frames.tail)) mk cY (.java g :: U.frames.tail) :=
    ⟨by rw [ht1]; rfl, ⟨[], by rw [hf1]; rfl⟩, h.running, by simpa [State.calling] using h.runnable, by simpa [State.calling] using h.alone, by rw [State.code?_eq]; simp [State.calling, State.pushFrame, State.setFrames, hmY, hcY], hplain⟩
  have hcg : (U.calling g mk #[Value.ref (X 1 k0)]).code? g.method = some c := by
    have := h.code
    rw [State.code?_eq] at this ⊢
    simpa [State.calling, State.pushFrame, State.setFrames] using this
  have hhears : (U.calling g mk #[Value.ref (X 1 k0)]).hears mk (.java g :: U.frames.tail) = true := by simp [State.hears, hcg, hdg, Except.toOption]
  have hroom : (U.calling g mk #[Value.ref (X 1 k0)]).hasRoom e.platform { frames := 0, cells := 0, slots := 0, locals := 0 } = true :=
    X0.room_calling (g := g) (R' := { frames := 0, cells := 0, slots := 0, locals := 0 }) hsize hmY hcY hfr (by rw [hlY]; show _ + (1 + 11) + 0 ≤ _; omega) hc hs
  obtain ⟨tt, htt, -⟩ := State.frames_cons hfE
  have X1 : Stand p l e { frames := 0, cells := 0, slots := 0, locals := 0 } (U.calling g mk #[Value.ref (X 1 k0)]) mk #[Value.ref (X 1 k0)] (.java g :: U.frames.tail) methY cY ((U.calling g mk #[Value.ref (X 1 k0)]).setFrames (.java (entryFrame mk #[Value.ref (X 1 k0)] 1) :: .java g :: U.frames.tail)) [] 0 0 :=
    ⟨X0.admits, X0.cas, X0.clock, hfE, hroom, hhears, hmY, hcY, hAt, by rw [hf1]; rfl, State.WarmedH.refl _, by rw [State.stackLimits_setFrames], by rw [State.stackBytes_setFrames], (State.sameButNew.refl (U.calling g mk #[Value.ref (X 1 k0)]) htt).setFrames (.java (entryFrame mk #[Value.ref (X 1 k0)] 1) :: .java g :: U.frames.tail) hcur⟩
  have hWE : s.WarmedH (U.calling g mk #[Value.ref (X 1 k0)]).vm := X0.warmed
  have hX6 := hE (U.calling g mk #[Value.ref (X 1 k0)]) hH hWE
  have hw1 := hws (.fieldLink RJx29ce0 7 "java/lang/Enum" "ordinal" "I") (List.mem_cons_of_mem _ List.mem_cons_self) #[Value.ref (X 1 k0)] (U.calling g mk #[Value.ref (X 1 k0)]) hWE
  have hfc : (U.calling g mk #[Value.ref (X 1 k0)]).vm.findClass RJx29ce0 = some mk.cls := findClass_of_methodNamed (s := U) hn
  obtain ⟨s₂, a1, o, b1, hend, ⟨rfl, hh2⟩, L, hfe, hL⟩ := w_ord (l := l) (e := e) (R := { frames := 0, cells := 0, slots := 0, locals := 0 }) (below := .java g :: U.frames.tail) hx hbY hrY hkY hk0 hX6 hfc hw1 ((U.calling g mk #[Value.ref (X 1 k0)]).setFrames (.java (entryFrame mk #[Value.ref (X 1 k0)] 1) :: .java g :: U.frames.tail)) rfl X1
  have hL0 : L = [] := by
    cases L with
    | nil => rfl
    | cons q L => exact (hL q List.mem_cons_self).elim
  subst hL0
  have hfull := X0.notFull (g := g) hsize (vars := cY.maxLocals) hfr (by rw [hlY]; omega)
  have hent : (doInvoke e (U.setTop g) [] mk #[Value.ref (X 1 k0)]).1 = ((U.calling g mk #[Value.ref (X 1 k0)]).setFrames (.java (entryFrame mk #[Value.ref (X 1 k0)] 1) :: .java g :: U.frames.tail)).setTop (entryFrame mk #[Value.ref (X 1 k0)] 1) := by
    have hpf : (U.setTop g).pushFrame (.java (entryFrame mk #[Value.ref (X 1 k0)] 1)) = (U.calling g mk #[Value.ref (X 1 k0)]).setFrames (.java (entryFrame mk #[Value.ref (X 1 k0)] 1) :: .java g :: U.frames.tail) := by
      rw [State.pushFrame, State.frames_setTop' g h.top, State.calling, State.pushFrame, State.setFrames_setFrames]
    rw [doInvoke_enter h.top [] hmY hcY hkY hfull, hlY, hpf]
  obtain ⟨mid, hmid⟩ := h.above
  have hsteps : Steps p.tables e below (doInvoke e (U.setTop g) [] mk #[Value.ref (X 1 k0)]).1 s₂ := by
    rw [hent]
    have wk : ∀ S : State, Within S (.java g :: U.frames.tail) → Within S below := fun S w => by
      rw [hmid] at w
      exact Within.weaken (mid := Frame.java g :: mid) w
    obtain ⟨n, hn1, w1⟩ := a1
    exact ⟨n, hn1, fun k hk => wk _ (w1 k hk)⟩
  obtain ⟨⟨v, hv⟩, hW₂, e2, q2, q3, q4, q5, q6⟩ := id hfe
  cases hv
  have e3 : s₂ = ({ (U.calling g mk #[Value.ref (X 1 k0)]).setFrames s₂.frames with heap := s₂.heap, slotsUsed := s₂.slotsUsed } : State).setVm s₂.vm := by
    have : s₂ = ({ s₂ with vm := (U.calling g mk #[Value.ref (X 1 k0)]).vm } : State).setVm s₂.vm := rfl
    rw [e2] at this
    exact this
  obtain ⟨c₂, i₂, len₂, hc₂, hd₂, hf₂⟩ := hend
  have hW' : U.WarmedH s₂.vm := hW₂
  have hcc : c₂ = c := by
    have h1 : s₂.code? g.method = U.code? g.method := by
      rw [State.code?_eq, State.code?_eq, hW'.alike.method?]
    exact Option.some.inj (hc₂.symm.trans (h1.trans h.code))
  subst hcc
  have hlen : len₂ = 3 := by rw [hdg] at hd₂; cases hd₂; rfl
  subst hlen
  obtain ⟨g₀, hg0⟩ := Option.isSome_iff_exists.mp h.top
  obtain ⟨r, hr⟩ := State.topJava?_eq_some.mp hg0
  have hs₂ : s₂ = (({ U with heap := s₂.heap, slotsUsed := s₂.slotsUsed } : State).setVm s₂.vm).setTop { g with pc := g.pc + 3, stack := (some (Value.int (nI k0))).toList ++ g.stack } := by
    have hr' : (({ U with heap := s₂.heap, slotsUsed := s₂.slotsUsed } : State).setVm s₂.vm).frames = .java g₀ :: r := hr
    refine e3.trans ?_
    rw [hf₂, State.calling_eq h.top, State.setFrames_setFrames, State.setTop_of_frames _ hr', hr]
    rfl
  have hsame : U.sameButNew ({ U with heap := s₂.heap, slotsUsed := s₂.slotsUsed } : State) [] 0 0 := by
    refine ⟨?_, q2, q3, q4, q5, q6⟩
    obtain ⟨t, ht, -⟩ := State.frames_cons hr
    show ({ U with heap := s₂.heap, slotsUsed := s₂.slotsUsed } : State) = { U.setFrames U.frames with heap := s₂.heap, slotsUsed := s₂.slotsUsed }
    rw [State.setFrames_self ht]
  subst hg
  refine ⟨some (.int (nI k0)), ⟨(({ U with heap := s₂.heap, slotsUsed := s₂.slotsUsed } : State).setVm s₂.vm), Ls, c0, s0⟩,
    ⟨X0.admits, X0.cas, X0.clock, X0.frames, X0.room, X0.hears, X0.method, X0.code, (X0.here.setHeapUsed s₂.heap s₂.slotsUsed).setVm hW'.alike, X0.tail, State.WarmedH.trans X0.warmed hW', X0.limits, X0.bytes, ?_⟩,
    ⟨rfl, hh2.trans hH, rfl, rfl, rfl⟩, ?_⟩
  · have := X0.same.trans (hsame.setVm s.vm)
    rw [List.append_nil] at this
    exact this
  · show Steps p.tables e below _ ((({ U with heap := s₂.heap, slotsUsed := s₂.slotsUsed } : State).setVm s₂.vm).setTop { g with pc := g.pc + 3, stack := (some (Value.int (nI k0))).toList ++ g.stack })
    rw [← hs₂]
    exact hsteps
section ORD
variable {p : Program} {l : Launch} {e : Env} {R : Room} {s : State} {m : MethodId} {args : Array Value} {below : List Frame} {meth : Method} {c : Code} {H : Heap} {locs : List Loc} {cells slots : Nat} {Q : State → Prop}
theorem k_ord {pc nL : Nat} {ls : Array Slot} {rest : List Value} {A : Nat → Prop} {Ts : List Cond} {own : String} {index : Nat} {cc : ByteArray} {X : Nat → Nat → Nat} {k0 : Nat} (S : CallFix p m c cc nL s args Ts own) (hk0 : k0 < 8) (hfr : 1 ≤ R.frames) (hlo : 20 ≤ R.locals) (hce : cells ≤ R.cells) (hsl : slots ≤ R.slots)
    (hG : GoodIn Ts wsJx29ce0_ordinal_8abf5) (hlink : Cond.methodLink own index ⟨"BalconyCensus$Command", "ordinal", "()I"⟩ ∈ Ts) (hsame : Cond.sameMethod "BalconyCensus$Command" "java/lang/Enum" "ordinal" "()I" ∈ Ts) (hsel : Cond.selects RX2 ⟨"BalconyCensus$Command", "ordinal", "()I"⟩ yJx29ce0_ordinal_8abf5 ∈ Ts) (hinst : Cond.instanceMethod yJx29ce0_ordinal_8abf5 ∈ Ts)
    (hX5 : ∀ i : Nat, i < 8 → va_O "BalconyCensus$Command" (X 1 i) A s s.heap) (hX6 : va_Ef 8 "java/lang/Enum" "ordinal" "I" (fun i => .int (nI i)) (X 1) A s s.heap) (hS : va_S A s.heap H locs) (hsize : ls.size = nL) (hW : (rest.map fun v => v.category).sum ≤ 8) (hdg : decode cc pc = .ok (.invokevirtual index, 3))
    (kk : W p l e R s m args below meth c H locs cells slots Q (F0 m (pc + 3) ls (.int (nI k0) :: rest))) : W p l e R s m args below meth c H locs cells slots Q (F0 m pc ls (.ref (X 1 k0) :: rest)) := by
  obtain ⟨hx, hb, hml, hown, hts⟩ := S
  have hcode : (Cond.code yJx29ce0_ordinal_8abf5 cJx29ce0_ordinal_8abf5 1 (some .int)).before args s = true := hts _ (hG _ List.mem_cons_self).1
  obtain ⟨cellB, hcB, hoB, hclB⟩ := kX_recvC hX5 hS hk0
  intro T hT X0
  have hE : ∀ U : State, U.heap = H → s.WarmedH U.vm → va_Ef 8 "java/lang/Enum" "ordinal" "I" (fun i => .int (nI i)) (X 1) A U U.heap := fun U hU hWm => by
    rw [hU]; exact (hX6.kept hS.2.1).moved hWm.alike
  obtain ⟨v, vm₁, B, hW₁, X', ⟨hv, h1, h2, h3, h4⟩, st⟩ := va_callVU X0 hx (C := RX2) (owner := "java/lang/Enum") (bytes := cJx29ce0_ordinal_8abf5) (maxL := 1) (ret := some .int) hown (hts _ hlink) (hts _ hsame) (va_Decl.of (hts _ hinst) hcode) ⟨by decide, by decide⟩ (hts _ hsel) (hts _ hinst) hcode (back_ord (l := l) (e := e) (below := below) (sargs := args) hx hk0 hfr hlo hE (pay_in hts hG)) (by rw [hT]; exact hcB) hoB hclB (g := F0 m pc ls (.ref (X 1 k0) :: rest)) rfl (hsize.trans hml.symm) (argsL := []) (rest := rest) (fun sig h => by
      have : parseMethodDescriptor "()I" = some ⟨[], some .int⟩ := by decide
      rw [this] at h; cases h; rfl) rfl (by show 2 * 0 + _ ≤ _; omega) (by rw [hb]; exact hdg) (fun vm₁ _ => ⟨rfl, hT, hce, hsl⟩)
  obtain ⟨BU, BL, Bc, Bs⟩ := B
  dsimp only [Pt.U, Pt.locs, Pt.cells, Pt.slots] at X' h1 h2 h3 h4 st
  subst hv; subst h2; subst h3; subst h4
  obtain ⟨t, a1, b1⟩ := kk BU h1 X'
  exact ⟨t, st t a1, b1⟩
end ORD
