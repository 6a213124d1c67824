/-! Worlds in blocks: a call's world is cut out of the whole by blocks, not by places. -/
def Dj (a b : va_W) : Prop := ∀ (i j : Nat) (p q : Nat × va_E), a[i]? = some p → b[j]? = some q → p.1 ≠ q.1
theorem Dj.symm {a b : va_W} (h : Dj a b) : Dj b a := fun i j p q hi hj e => h j i q p hj hi e.symm
theorem app_in {a b : va_W} {k : Nat} {q : Nat × va_E} (h : (a ++ b)[k]? = some q) : (∃ i : Nat, a[i]? = some q) ∨ ∃ i : Nat, b[i]? = some q := by
  rcases List.mem_append.mp (List.mem_of_getElem? h) with h | h
  · exact Or.inl (List.getElem?_of_mem h)
  · exact Or.inr (List.getElem?_of_mem h)
theorem app_l {a b : va_W} {k : Nat} {q : Nat × va_E} (h : a[k]? = some q) : (a ++ b)[k]? = some q := by
  rw [List.getElem?_append_left (List.getElem?_eq_some_iff.mp h).1]; exact h
theorem app_r {a b : va_W} {k : Nat} {q : Nat × va_E} (h : b[k]? = some q) : (a ++ b)[a.length + k]? = some q := by
  rw [List.getElem?_append_right (Nat.le_add_right _ _), Nat.add_sub_cancel_left]; exact h
theorem pP_app {D : va_G} {cl : List vw_C} {a b : va_W} {H : Heap} : va_P D cl (a ++ b) H ↔ va_P D cl a H ∧ va_P D cl b H :=
  ⟨fun h => ⟨fun k q hk => h k q (app_l hk), fun k q hk => h _ q (app_r hk)⟩, fun h => va_P.app h.1 h.2⟩
theorem pD_app {A : Nat → Prop} {a b : va_W} : va_D A (a ++ b) ↔ va_D A a ∧ va_D A b ∧ Dj a b ∧ Dj b a := by
  constructor
  · intro h
    have hx : Dj a b := fun i j p q hi hj e => by
      have := h.1 i (a.length + j) p q (app_l hi) (app_r hj) e
      have := (List.getElem?_eq_some_iff.mp hi).1
      omega
    refine ⟨⟨fun i j p q hi hj e => h.1 i j p q (app_l hi) (app_l hj) e, fun k q hk => h.2 k q (app_l hk)⟩, ⟨fun i j p q hi hj e => ?_, fun k q hk => h.2 _ q (app_r hk)⟩, hx, hx.symm⟩
    have := h.1 _ _ p q (app_r hi) (app_r hj) e
    omega
  · exact fun h => va_D.app h.1 h.2.1 h.2.2.1
theorem Dj_l {a b c : va_W} : Dj (a ++ b) c ↔ Dj a c ∧ Dj b c := by
  constructor
  · exact fun h => ⟨fun i j p q hi hj => h i j p q (app_l hi) hj, fun i j p q hi hj => h _ j p q (app_r hi) hj⟩
  · intro h i j p q hi hj
    rcases app_in hi with ⟨k, hk⟩ | ⟨k, hk⟩
    · exact h.1 k j p q hk hj
    · exact h.2 k j p q hk hj
theorem Dj_r {a b c : va_W} : Dj c (a ++ b) ↔ Dj c a ∧ Dj c b := by
  constructor
  · exact fun h => ⟨fun i j p q hi hj => h i j p q hi (app_l hj), fun i j p q hi hj => h i _ p q hi (app_r hj)⟩
  · intro h i j p q hi hj
    rcases app_in hj with ⟨k, hk⟩ | ⟨k, hk⟩
    · exact h.1 i k p q hi hk
    · exact h.2 i k p q hi hk
theorem k_freeB {A : Nat → Prop} {Wr Wc : va_W} {H0 H : Heap} {locs : List Loc} (hD : va_D A (Wr ++ Wc)) (hS : va_S A H0 H locs) (hA : ∀ q : Nat, H0.size ≤ q → A q) : ∀ q : Nat, va_A Wc H.size q → A q := by
  intro q h
  rcases h with ⟨k, e, h⟩ | h
  · exact hD.2 _ (q, e) (app_r h)
  · exact hA q (Nat.le_trans hS.1 h)
theorem k_joinB {A : Nat → Prop} {D : va_G} {cl : List vw_C} {Wr Wc Wc' : va_W} {H H1 : Heap} (hP : va_P D cl (Wr ++ Wc) H) (hD : va_D A (Wr ++ Wc)) (hk : ∀ q : Nat, q < H.size → ¬ va_A Wc H.size q → H1[q]? = H[q]?) (hF : ∀ q : Nat, va_A Wc H.size q → A q) (hP1 : va_P D cl Wc' H1) (hD1 : va_D (va_A Wc H.size) Wc') : va_P D cl (Wr ++ Wc') H1 ∧ va_D A (Wr ++ Wc') := by
  obtain ⟨p1, p2⟩ := pP_app.mp hP
  obtain ⟨d1, d2, d3, -⟩ := pD_app.mp hD
  have apart : ∀ (k : Nat) (q : Nat × va_E), Wr[k]? = some q → q.1 < H.size ∧ ¬ va_A Wc H.size q.1 := by
    intro k q hq
    have hl := (p1 k q hq).lt
    refine ⟨hl, fun h => ?_⟩
    rcases h with ⟨j, e, h⟩ | h
    · exact d3 k j q (q.1, e) hq h rfl
    · omega
  refine ⟨va_P.app (fun k q hq => ?_) hP1, va_D.app d1 (hD1.weaken (fun k q _ h => hF q.1 h)) (fun i j x y hx hy hxy => ?_)⟩
  · obtain ⟨g1, g2⟩ := apart k q hq
    exact (p1 k q hq).kept (hk q.1 g1 g2)
  · exact (apart i x hx).2 (by rw [hxy]; exact hD1.2 j y hy)
section KB
variable {p : Program} {l : Launch} {e : Env} {R : Room} {s : State} {m : MethodId} {args : Array Value} {below : List Frame} {meth : Method} {c : Code} {H : Heap} {locs : List Loc} {cells slots : Nat} {Q : State → Prop}
variable {pc : Nat} {ls : Array Slot} {rest st0 : List Value} {A : Nat → Prop} {mc ms : Nat} {D : va_G} {tys tysc : List (ClassId × FieldType)} {Wr Wc Wc' : va_W} {v : Option Value}
theorem k_callB {av : Array Value} (hr : va_Run p l e R s m args below meth c H locs cells slots mc ms (F0 m pc ls st0) rest (mQ v (mB D (va_A Wc H.size) Wc') (va_A Wc H.size) av) (va_A Wc H.size)) (hP : va_P D vwCl (Wr ++ Wc) H) (hD : va_D A (Wr ++ Wc)) (hS : va_S A s.heap H locs) (hA : ∀ q : Nat, s.heap.size ≤ q → A q)
    (kk : ∀ (H1 : Heap) (locs1 : List Loc), va_P D vwCl (Wr ++ Wc') H1 → va_D A (Wr ++ Wc') → va_S A s.heap H1 locs1 → W p l e R s m args below meth c H1 locs1 (cells + mc) (slots + ms) Q (F0 m (pc + 3) ls (v.toList ++ rest))) : W p l e R s m args below meth c H locs cells slots Q (F0 m pc ls st0) := by
  have hF := k_freeB hD hS hA
  intro T hT X
  obtain ⟨v', st₀, t, T', L, h0, X', hL, e1, e2, ⟨⟨hv, hb⟩, hz, hk⟩, st⟩ := hr T hT X
  cases hv
  rw [h0] at hz hk
  obtain ⟨hPb, hDb⟩ := hb
  obtain ⟨hP1, hD1⟩ := k_joinB hP hD hk hF hPb hDb
  obtain ⟨t2, a1, b1⟩ := kk T'.heap (locs ++ L) (by rw [e1]; exact hP1) hD1
    ⟨Nat.le_trans hS.1 (by rw [e1]; exact hz), fun q h1 h2 => by rw [e1, hk q (Nat.lt_of_lt_of_le h1 hS.1) (fun z => h2 (hF q z))]; exact hS.2.1 q h1 h2, fun q hq => by
      rcases List.mem_append.mp hq with h | h
      · exact hS.2.2 q h
      · exact hF _ (hL q h)⟩ T' rfl X'
  exact ⟨t2, st t2 a1, b1⟩
variable {y : MethodName} {bytes cc : ByteArray} {maxL nL n index : Nat} {ret : Option FieldType} {ws ws' : List Cond} {rm : Room} {Ts : List Cond} {own C host : String} {b : Addr} {As : List Value}
theorem k_preB {av : List Value} {Jc : JT} (hJb : kBl Jc) (hJc : ∀ U : State, U.heap = H → s.WarmedH U.vm → Jc (va_A Wc H.size) U) (hN : kN s) (hP : va_P D vwCl (Wr ++ Wc) H) (hD : va_D A (Wr ++ Wc)) (hK : va_K D vwCl tys s) (isK : List Nat) (hk : isK.filterMap (fun i => tys[i]?) = tysc) : FrameBlind (va_Pc av (mP D tysc Jc Wc H.size)) ∧ ∀ U : State, U.heap = H → s.WarmedH U.vm → va_Pc av (mP D tysc Jc Wc H.size) av.toArray U :=
  ⟨mP_blind _ _ hJb _ _ _, fun U hU hW => ⟨rfl, by rw [hU], by rw [hU]; exact (pP_app.mp hP).2, va_K.moved hW.alike (hK.sub isK hk), (pD_app.mp hD).2.1.weaken (fun _ _ _ _ => trivial), hN.moved hW, hJc U hU hW⟩⟩
theorem k_VB {Jc : JT} (S : CallFix p m c cc nL s args Ts own) (hM : mC l y ws rm D tysc Jc (.ref b :: As) Wc Wc' H.size v mc ms) (cw : CallW R s args own C index y bytes maxL ret ws rm mc ms As.length) (hsize : ls.size = nL) (hW : (rest.map fun v => v.category).sum ≤ 8) (hdg : decode cc pc = .ok (.invokevirtual index, 3)) (hf : cells + mc ≤ R.cells ∧ slots + ms ≤ R.slots) (hstack : st0 = As.reverse ++ .ref b :: rest)
    (hJb : kBl Jc) (hJc : ∀ U : State, U.heap = H → s.WarmedH U.vm → Jc (va_A Wc H.size) U) (hN : kN s) (hK : va_K D vwCl tys s) (hP : va_P D vwCl (Wr ++ Wc) H) (hD : va_D A (Wr ++ Wc)) (hS : va_S A s.heap H locs) (hA : ∀ q : Nat, s.heap.size ≤ q → A q) (k ci : Nat) {cq : vw_C} {fs : List Value} (hcl : vwCl[ci]? = some cq) (hcn : cq.1 = C) (hb0 : Wc[k]? = some (b, .inr (ci, fs)))
    (isK : List Nat) (hk : isK.filterMap (fun i => tys[i]?) = tysc)
    (kk : ∀ (H1 : Heap) (locs1 : List Loc), va_P D vwCl (Wr ++ Wc') H1 → va_D A (Wr ++ Wc') → va_S A s.heap H1 locs1 → W p l e R s m args below meth c H1 locs1 (cells + mc) (slots + ms) Q (F0 m (pc + 3) ls (v.toList ++ rest))) : W p l e R s m args below meth c H locs cells slots Q (F0 m pc ls st0) := by
  have pr := k_preB (av := .ref b :: As) hJb hJc hN hP hD hK isK hk
  refine k_callB (va_runV S hM cw ⟨pr.1, ?_, pr.2⟩ rfl rfl hsize hstack (lv_room hW) hdg hf) hP hD hS hA kk
  rw [← hcn]
  exact va_recv hK (pP_app.mp hP).2 hcl hb0
theorem k_SB {Jc : JT} (S : CallFix p m c cc nL s args Ts own) (hM : mC l y ws rm D tysc Jc As Wc Wc' H.size v mc ms) (cw : CallB R s args own index y bytes maxL ret ws rm mc ms As.length ∧ (Cond.static y).before args s = true) (hsize : ls.size = nL) (hW : (rest.map fun v => v.category).sum ≤ 8) (hdg : decode cc pc = .ok (.invokestatic index, 3)) (hf : cells + mc ≤ R.cells ∧ slots + ms ≤ R.slots) (hstack : st0 = As.reverse ++ rest)
    (hJb : kBl Jc) (hJc : ∀ U : State, U.heap = H → s.WarmedH U.vm → Jc (va_A Wc H.size) U) (hN : kN s) (hK : va_K D vwCl tys s) (hP : va_P D vwCl (Wr ++ Wc) H) (hD : va_D A (Wr ++ Wc)) (hS : va_S A s.heap H locs) (hA : ∀ q : Nat, s.heap.size ≤ q → A q)
    (isK : List Nat) (hk : isK.filterMap (fun i => tys[i]?) = tysc)
    (kk : ∀ (H1 : Heap) (locs1 : List Loc), va_P D vwCl (Wr ++ Wc') H1 → va_D A (Wr ++ Wc') → va_S A s.heap H1 locs1 → W p l e R s m args below meth c H1 locs1 (cells + mc) (slots + ms) Q (F0 m (pc + 3) ls (v.toList ++ rest))) : W p l e R s m args below meth c H locs cells slots Q (F0 m pc ls st0) := by
  have pr := k_preB (av := As) hJb hJc hN hP hD hK isK hk
  exact k_callB (va_runS S hM cw pr rfl rfl hsize hstack (lv_room hW) hdg hf) hP hD hS hA kk
end KB
theorem pP_cons {D : va_G} {cl : List vw_C} {x : Nat × va_E} {a : va_W} {H : Heap} : va_P D cl (x :: a) H ↔ va_P D cl [x] H ∧ va_P D cl a H := pP_app (a := [x])
/-! What never changes: the constants of Command, the table of the switch, the words. -/
def wLen : List Nat := [6, 5, 5, 6, 5, 4, 5, 3]
def wByt : List (List Int32) := [[112, 108, 97, 110, 116, 32], [98, 101, 97, 114, 32], [104, 97, 110, 103, 32], [103, 114, 101, 101, 116, 32], [103, 105, 118, 101, 32], [99, 97, 116, 32], [115, 119, 97, 112, 32], [100, 97, 121]]
def cNum (i : Nat) : Int32 := [1, 1, 2, 2, 2, 1, 2, 0].getD i 0
def cDig (i : Nat) : Int32 := [1, 1, 1, 0, 1, 0, 0, 0].getD i 0
def swM (i : Nat) : Int32 := [1, 2, 3, 4, 5, 6, 7, 0].getD i 0
def kX (X : Nat → Nat → Nat) : JT := fun A U =>
  va_Z "BalconyCensus" "COMMANDS" "[LBalconyCensus$Command;" (.ref (X 0 0)) A U U.heap ∧
  va_T (.object "BalconyCensus$Command") (X 0 0) 8 (fun j => .ref (X 1 j)) A U U.heap ∧
  va_Z "BalconyCensus$1" "$SwitchMap$BalconyCensus$Command" "[I" (.ref (X 0 1)) A U U.heap ∧
  va_T .int (X 0 1) 8 (fun j => .int (swM j)) A U U.heap ∧
  (∀ i : Nat, i < 8 → va_O "BalconyCensus$Command" (X 1 i) A U U.heap) ∧
  va_Ef 8 "java/lang/Enum" "ordinal" "I" (fun i => .int (nI i)) (X 1) A U U.heap ∧
  va_Ef 8 "BalconyCensus$Command" "numbers" "I" (fun i => .int (cNum i)) (X 1) A U U.heap ∧
  va_Ef 8 "BalconyCensus$Command" "isDigitLast" "Z" (fun i => .int (cDig i)) (X 1) A U U.heap ∧
  va_Ef 8 "BalconyCensus$Command" "word" "Ljava/lang/String;" (fun i => .ref (X 2 i)) (X 1) A U U.heap ∧
  vk_S 8 wLen wByt (X 2) (X 3) A U U.heap ∧
  va_Z "java/lang/String" "COMPACT_STRINGS" "Z" (.int 1) A U U.heap ∧
  va_Nw (.fieldLinkNest RX10 50 "BalconyCensus" "COMMANDS" "[LBalconyCensus$Command;" "BalconyCensus") U
theorem al_of {U V : State} (h : U.vm = V.vm) : U.vm.Alike V.vm := by rw [h]; exact Vm.Alike.refl _
theorem kX_bl (X : Nat → Nat → Nat) : kBl (kX X) := by
  intro A U V hv hh h
  obtain ⟨h1, h2, h3, h4, h5, h6, h7, h8, h9, h10, h11, h12⟩ := h
  have ha := al_of hv
  rw [hh] at h1 h2 h3 h4 h5 h6 h7 h8 h9 h10 h11
  exact ⟨h1.moved ha, h2.moved ha, h3.moved ha, h4.moved ha, fun i hi => (h5 i hi).moved ha, h6.moved ha, h7.moved ha, h8.moved ha, h9.moved ha, h10.moved ha, h11.moved ha, va_Nw.same rfl hv h12⟩
theorem kX_pass {X : Nat → Nat → Nat} {A B : Nat → Prop} {s : State} {H : Heap} {locs : List Loc} (hJ : kX X A s) (hS : va_S A s.heap H locs) (hB : ∀ q : Nat, B q → A q) : ∀ U : State, U.heap = H → s.WarmedH U.vm → kX X B U := by
  intro U hU hW
  subst hU
  have hq : ∀ a : Nat, a < s.heap.size → ¬ A a → U.heap[a]? = s.heap[a]? := fun a h1 h2 => hS.2.1 a h1 h2
  have ha := hW.alike
  obtain ⟨h1, h2, h3, h4, h5, h6, h7, h8, h9, h10, h11, h12⟩ := hJ
  exact ⟨((h1.kept hq).moved ha).narrow hB, ((h2.kept hq).moved ha).narrow hB, ((h3.kept hq).moved ha).narrow hB, ((h4.kept hq).moved ha).narrow hB, fun i hi => (((h5 i hi).kept hq).moved ha).narrow hB, ((h6.kept hq).moved ha).narrow hB, ((h7.kept hq).moved ha).narrow hB, ((h8.kept hq).moved ha).narrow hB, ((h9.kept hq).moved ha).narrow hB, ((h10.kept hq).moved ha).narrow hB, ((h11.kept hq).moved ha).narrow hB, va_Nw.warmF hW h12⟩
theorem vp_lt {i : Int32} {n : Nat} (h : vp_in i n) : i.toNatClampNeg < n := Nat.not_le.mp fun q => h (Or.inr q)
section KX
variable {p : Program} {l : Launch} {e : Env} {R : Room} {s : State} {m : MethodId} {args : Array Value} {below : List Frame} {meth : Method} {c : Code} {H : Heap} {locs : List Loc} {cells slots : Nat} {Q : State → Prop}
variable {pc : Nat} {ls : Array Slot} {rest st0 : List Value} {A : Nat → Prop} {mc ms : Nat} {D : va_G} {tys tysc : List (ClassId × FieldType)} {Wc Wc' ws0 ws1 : va_W} {v : Option Value}
variable {y : MethodName} {bytes cc : ByteArray} {maxL nL n index : Nat} {ret : Option FieldType} {ws ws' : List Cond} {rm : Room} {Ts : List Cond} {own C host : String} {b : Addr} {As : List Value}
theorem k_VX {Jc : JT} (S : CallFix p m c cc nL s args Ts own) (hM : mC l y ws rm D tysc Jc (.ref b :: As) Wc Wc' H.size v mc ms) (cw : CallW R s args own C index y bytes maxL ret ws rm mc ms As.length) (hsize : ls.size = nL) (hW : (rest.map fun v => v.category).sum ≤ 8) (hdg : decode cc pc = .ok (.invokevirtual index, 3)) (hf : cells + mc ≤ R.cells ∧ slots + ms ≤ R.slots) (hstack : st0 = As.reverse ++ .ref b :: rest)
    (hJb : kBl Jc) (hJc : ∀ U : State, U.heap = H → s.WarmedH U.vm → Jc (va_A Wc H.size) U) (hN : kN s) (hK : va_K D vwCl tys s) (hP : va_P D vwCl ws0 H) (hD : va_D A ws0) (hS : va_S A s.heap H locs) (hA : ∀ q : Nat, s.heap.size ≤ q → A q) (hrecv : ∃ cellB : Cell, H[b]? = some cellB ∧ cellB.vm.isStatics = false ∧ s.vm.findClass C = some cellB.cls)
    (isC isR isP isK : List Nat) (hC : isC.map (fun i => ws0[i]?) = Wc.map some) (hk : isK.filterMap (fun i => tys[i]?) = tysc) (hR : isR.map (fun i => ws0[i]?) = (isR.filterMap (fun i => ws0[i]?)).map some) (hn : va_nd isC = true ∧ va_nd isR = true ∧ va_nd isP = true ∧ ∀ i ∈ isR, i ∉ isC) (hp : isP.map (fun i => (isR.filterMap (fun i => ws0[i]?) ++ Wc')[i]?) = ws1.map some)
    (kk : ∀ (H1 : Heap) (locs1 : List Loc), va_P D vwCl ws1 H1 → va_D A ws1 → va_S A s.heap H1 locs1 → W p l e R s m args below meth c H1 locs1 (cells + mc) (slots + ms) Q (F0 m (pc + 3) ls (v.toList ++ rest))) : W p l e R s m args below meth c H locs cells slots Q (F0 m pc ls st0) := by
  have pr := k_pre (av := .ref b :: As) hJb hJc hN hP hD hK isC isK hn.1 hC hk
  exact k_call (va_runV S hM cw ⟨pr.1, hrecv, pr.2⟩ rfl rfl hsize hstack (lv_room hW) hdg hf) hP hD hS hA isC isR isP hC hR hn.2.1 hn.2.2.2 hp hn.2.2.1 kk
theorem k_UX {Jc : JT} {owner : String} {x : MethodName} (S : CallFix p m c cc nL s args Ts own) (hM : mC l y ws rm D tysc Jc (.ref b :: As) Wc Wc' H.size v mc ms) (cw : va_CU R s args own C owner index x y bytes maxL ret ws rm mc ms As.length) (hsize : ls.size = nL) (hW : (rest.map fun v => v.category).sum ≤ 8) (hdg : decode cc pc = .ok (.invokevirtual index, 3)) (hf : cells + mc ≤ R.cells ∧ slots + ms ≤ R.slots) (hstack : st0 = As.reverse ++ .ref b :: rest)
    (hJb : kBl Jc) (hJc : ∀ U : State, U.heap = H → s.WarmedH U.vm → Jc (va_A Wc H.size) U) (hN : kN s) (hK : va_K D vwCl tys s) (hP : va_P D vwCl ws0 H) (hD : va_D A ws0) (hS : va_S A s.heap H locs) (hA : ∀ q : Nat, s.heap.size ≤ q → A q) (hrecv : ∃ cellB : Cell, H[b]? = some cellB ∧ cellB.vm.isStatics = false ∧ s.vm.findClass C = some cellB.cls)
    (isC isR isP isK : List Nat) (hC : isC.map (fun i => ws0[i]?) = Wc.map some) (hk : isK.filterMap (fun i => tys[i]?) = tysc) (hR : isR.map (fun i => ws0[i]?) = (isR.filterMap (fun i => ws0[i]?)).map some) (hn : va_nd isC = true ∧ va_nd isR = true ∧ va_nd isP = true ∧ ∀ i ∈ isR, i ∉ isC) (hp : isP.map (fun i => (isR.filterMap (fun i => ws0[i]?) ++ Wc')[i]?) = ws1.map some)
    (kk : ∀ (H1 : Heap) (locs1 : List Loc), va_P D vwCl ws1 H1 → va_D A ws1 → va_S A s.heap H1 locs1 → W p l e R s m args below meth c H1 locs1 (cells + mc) (slots + ms) Q (F0 m (pc + 3) ls (v.toList ++ rest))) : W p l e R s m args below meth c H locs cells slots Q (F0 m pc ls st0) := by
  have pr := k_pre (av := .ref b :: As) hJb hJc hN hP hD hK isC isK hn.1 hC hk
  exact k_call (va_runU S hM cw ⟨pr.1, hrecv, pr.2⟩ rfl rfl hsize hstack (lv_room hW) hdg hf) hP hD hS hA isC isR isP hC hR hn.2.1 hn.2.2.2 hp hn.2.2.1 kk
theorem kX_recvC {X : Nat → Nat → Nat} (h : ∀ i : Nat, i < 8 → va_O "BalconyCensus$Command" (X 1 i) A s s.heap) (hS : va_S A s.heap H locs) {i : Nat} (hi : i < 8) : ∃ cellB : Cell, H[X 1 i]? = some cellB ∧ cellB.vm.isStatics = false ∧ s.vm.findClass "BalconyCensus$Command" = some cellB.cls := by
  obtain ⟨cell, h1, h2, h3, h4⟩ := h i hi
  exact ⟨cell, by rw [hS.2.1 _ (Array.getElem?_eq_some_iff.mp h1).1 h4]; exact h1, h2, h3⟩
end KX
/-- the houses of a history but the one at 0 -/
def kHHx0 (G : Nat → ClassId) (Q : Nat → Nat → Nat) (h : Nat → SV) : va_W := (Q 4 1, .inl (G 3, 8, .inr (.inr (.inr (.inr (fun k => some (Q (10 + k) 0))))))) :: (kHouse G (Q 11) (h 1) ++ kHouse G (Q 12) (h 2) ++ kHouse G (Q 13) (h 3) ++ kHouse G (Q 14) (h 4) ++ kHouse G (Q 15) (h 5) ++ kHouse G (Q 16) (h 6) ++ kHouse G (Q 17) (h 7))
theorem kHHx0_hu (G : Nat → ClassId) (Q : Nat → Nat → Nat) (h : Nat → SV) (w : SV) : kHHx0 G Q (hu h 0 w) = kHHx0 G Q h := rfl
theorem kHH0_P {D : va_G} {cl : List vw_C} (G : Nat → ClassId) (Q : Nat → Nat → Nat) (h : Nat → SV) {H : Heap} : va_P D cl (kHH G Q h) H ↔ va_P D cl (kHHx0 G Q h ++ kHouse G (Q 10) (h 0)) H := by
  unfold kHH kHHx0
  rw [pP_cons, pP_app (a := _ :: _), pP_cons (a := kHouse G (Q 11) (h 1) ++ kHouse G (Q 12) (h 2) ++ kHouse G (Q 13) (h 3) ++ kHouse G (Q 14) (h 4) ++ kHouse G (Q 15) (h 5) ++ kHouse G (Q 16) (h 6) ++ kHouse G (Q 17) (h 7))]
  simp only [pP_app]
  constructor <;> (intro hh; simp only [hh, and_self])
theorem kHH0_D {A : Nat → Prop} (G : Nat → ClassId) (Q : Nat → Nat → Nat) (h : Nat → SV) : va_D A (kHH G Q h) ↔ va_D A (kHHx0 G Q h ++ kHouse G (Q 10) (h 0)) := by
  unfold kHH kHHx0
  rw [← List.singleton_append, ← List.singleton_append (l := kHouse G (Q 11) (h 1) ++ kHouse G (Q 12) (h 2) ++ kHouse G (Q 13) (h 3) ++ kHouse G (Q 14) (h 4) ++ kHouse G (Q 15) (h 5) ++ kHouse G (Q 16) (h 6) ++ kHouse G (Q 17) (h 7))]
  simp only [pD_app, Dj_l, Dj_r]
  constructor <;> (intro hh; simp only [hh, and_self])
theorem kHH0_j {W : va_W} (G : Nat → ClassId) (Q : Nat → Nat → Nat) (h : Nat → SV) : Dj (kHH G Q h) W ↔ Dj (kHHx0 G Q h ++ kHouse G (Q 10) (h 0)) W := by
  unfold kHH kHHx0
  rw [← List.singleton_append, ← List.singleton_append (l := kHouse G (Q 11) (h 1) ++ kHouse G (Q 12) (h 2) ++ kHouse G (Q 13) (h 3) ++ kHouse G (Q 14) (h 4) ++ kHouse G (Q 15) (h 5) ++ kHouse G (Q 16) (h 6) ++ kHouse G (Q 17) (h 7))]
  simp only [Dj_l]
  constructor <;> (intro hh; simp only [hh, and_self])
theorem kHH0_i {W : va_W} (G : Nat → ClassId) (Q : Nat → Nat → Nat) (h : Nat → SV) : Dj W (kHH G Q h) ↔ Dj W (kHHx0 G Q h ++ kHouse G (Q 10) (h 0)) := ⟨fun z => ((kHH0_j G Q h).mp z.symm).symm, fun z => ((kHH0_j G Q h).mpr z.symm).symm⟩
/-- the houses of a history but the one at 1 -/
def kHHx1 (G : Nat → ClassId) (Q : Nat → Nat → Nat) (h : Nat → SV) : va_W := (Q 4 1, .inl (G 3, 8, .inr (.inr (.inr (.inr (fun k => some (Q (10 + k) 0))))))) :: (kHouse G (Q 10) (h 0) ++ kHouse G (Q 12) (h 2) ++ kHouse G (Q 13) (h 3) ++ kHouse G (Q 14) (h 4) ++ kHouse G (Q 15) (h 5) ++ kHouse G (Q 16) (h 6) ++ kHouse G (Q 17) (h 7))
theorem kHHx1_hu (G : Nat → ClassId) (Q : Nat → Nat → Nat) (h : Nat → SV) (w : SV) : kHHx1 G Q (hu h 1 w) = kHHx1 G Q h := rfl
theorem kHH1_P {D : va_G} {cl : List vw_C} (G : Nat → ClassId) (Q : Nat → Nat → Nat) (h : Nat → SV) {H : Heap} : va_P D cl (kHH G Q h) H ↔ va_P D cl (kHHx1 G Q h ++ kHouse G (Q 11) (h 1)) H := by
  unfold kHH kHHx1
  rw [pP_cons, pP_app (a := _ :: _), pP_cons (a := kHouse G (Q 10) (h 0) ++ kHouse G (Q 12) (h 2) ++ kHouse G (Q 13) (h 3) ++ kHouse G (Q 14) (h 4) ++ kHouse G (Q 15) (h 5) ++ kHouse G (Q 16) (h 6) ++ kHouse G (Q 17) (h 7))]
  simp only [pP_app]
  constructor <;> (intro hh; simp only [hh, and_self])
theorem kHH1_D {A : Nat → Prop} (G : Nat → ClassId) (Q : Nat → Nat → Nat) (h : Nat → SV) : va_D A (kHH G Q h) ↔ va_D A (kHHx1 G Q h ++ kHouse G (Q 11) (h 1)) := by
  unfold kHH kHHx1
  rw [← List.singleton_append, ← List.singleton_append (l := kHouse G (Q 10) (h 0) ++ kHouse G (Q 12) (h 2) ++ kHouse G (Q 13) (h 3) ++ kHouse G (Q 14) (h 4) ++ kHouse G (Q 15) (h 5) ++ kHouse G (Q 16) (h 6) ++ kHouse G (Q 17) (h 7))]
  simp only [pD_app, Dj_l, Dj_r]
  constructor <;> (intro hh; simp only [hh, and_self])
theorem kHH1_j {W : va_W} (G : Nat → ClassId) (Q : Nat → Nat → Nat) (h : Nat → SV) : Dj (kHH G Q h) W ↔ Dj (kHHx1 G Q h ++ kHouse G (Q 11) (h 1)) W := by
  unfold kHH kHHx1
  rw [← List.singleton_append, ← List.singleton_append (l := kHouse G (Q 10) (h 0) ++ kHouse G (Q 12) (h 2) ++ kHouse G (Q 13) (h 3) ++ kHouse G (Q 14) (h 4) ++ kHouse G (Q 15) (h 5) ++ kHouse G (Q 16) (h 6) ++ kHouse G (Q 17) (h 7))]
  simp only [Dj_l]
  constructor <;> (intro hh; simp only [hh, and_self])
theorem kHH1_i {W : va_W} (G : Nat → ClassId) (Q : Nat → Nat → Nat) (h : Nat → SV) : Dj W (kHH G Q h) ↔ Dj W (kHHx1 G Q h ++ kHouse G (Q 11) (h 1)) := ⟨fun z => ((kHH1_j G Q h).mp z.symm).symm, fun z => ((kHH1_j G Q h).mpr z.symm).symm⟩
/-- the houses of a history but the one at 2 -/
def kHHx2 (G : Nat → ClassId) (Q : Nat → Nat → Nat) (h : Nat → SV) : va_W := (Q 4 1, .inl (G 3, 8, .inr (.inr (.inr (.inr (fun k => some (Q (10 + k) 0))))))) :: (kHouse G (Q 10) (h 0) ++ kHouse G (Q 11) (h 1) ++ kHouse G (Q 13) (h 3) ++ kHouse G (Q 14) (h 4) ++ kHouse G (Q 15) (h 5) ++ kHouse G (Q 16) (h 6) ++ kHouse G (Q 17) (h 7))
theorem kHHx2_hu (G : Nat → ClassId) (Q : Nat → Nat → Nat) (h : Nat → SV) (w : SV) : kHHx2 G Q (hu h 2 w) = kHHx2 G Q h := rfl
theorem kHH2_P {D : va_G} {cl : List vw_C} (G : Nat → ClassId) (Q : Nat → Nat → Nat) (h : Nat → SV) {H : Heap} : va_P D cl (kHH G Q h) H ↔ va_P D cl (kHHx2 G Q h ++ kHouse G (Q 12) (h 2)) H := by
  unfold kHH kHHx2
  rw [pP_cons, pP_app (a := _ :: _), pP_cons (a := kHouse G (Q 10) (h 0) ++ kHouse G (Q 11) (h 1) ++ kHouse G (Q 13) (h 3) ++ kHouse G (Q 14) (h 4) ++ kHouse G (Q 15) (h 5) ++ kHouse G (Q 16) (h 6) ++ kHouse G (Q 17) (h 7))]
  simp only [pP_app]
  constructor <;> (intro hh; simp only [hh, and_self])
theorem kHH2_D {A : Nat → Prop} (G : Nat → ClassId) (Q : Nat → Nat → Nat) (h : Nat → SV) : va_D A (kHH G Q h) ↔ va_D A (kHHx2 G Q h ++ kHouse G (Q 12) (h 2)) := by
  unfold kHH kHHx2
  rw [← List.singleton_append, ← List.singleton_append (l := kHouse G (Q 10) (h 0) ++ kHouse G (Q 11) (h 1) ++ kHouse G (Q 13) (h 3) ++ kHouse G (Q 14) (h 4) ++ kHouse G (Q 15) (h 5) ++ kHouse G (Q 16) (h 6) ++ kHouse G (Q 17) (h 7))]
  simp only [pD_app, Dj_l, Dj_r]
  constructor <;> (intro hh; simp only [hh, and_self])
theorem kHH2_j {W : va_W} (G : Nat → ClassId) (Q : Nat → Nat → Nat) (h : Nat → SV) : Dj (kHH G Q h) W ↔ Dj (kHHx2 G Q h ++ kHouse G (Q 12) (h 2)) W := by
  unfold kHH kHHx2
  rw [← List.singleton_append, ← List.singleton_append (l := kHouse G (Q 10) (h 0) ++ kHouse G (Q 11) (h 1) ++ kHouse G (Q 13) (h 3) ++ kHouse G (Q 14) (h 4) ++ kHouse G (Q 15) (h 5) ++ kHouse G (Q 16) (h 6) ++ kHouse G (Q 17) (h 7))]
  simp only [Dj_l]
  constructor <;> (intro hh; simp only [hh, and_self])
theorem kHH2_i {W : va_W} (G : Nat → ClassId) (Q : Nat → Nat → Nat) (h : Nat → SV) : Dj W (kHH G Q h) ↔ Dj W (kHHx2 G Q h ++ kHouse G (Q 12) (h 2)) := ⟨fun z => ((kHH2_j G Q h).mp z.symm).symm, fun z => ((kHH2_j G Q h).mpr z.symm).symm⟩
/-- the houses of a history but the one at 3 -/
def kHHx3 (G : Nat → ClassId) (Q : Nat → Nat → Nat) (h : Nat → SV) : va_W := (Q 4 1, .inl (G 3, 8, .inr (.inr (.inr (.inr (fun k => some (Q (10 + k) 0))))))) :: (kHouse G (Q 10) (h 0) ++ kHouse G (Q 11) (h 1) ++ kHouse G (Q 12) (h 2) ++ kHouse G (Q 14) (h 4) ++ kHouse G (Q 15) (h 5) ++ kHouse G (Q 16) (h 6) ++ kHouse G (Q 17) (h 7))
theorem kHHx3_hu (G : Nat → ClassId) (Q : Nat → Nat → Nat) (h : Nat → SV) (w : SV) : kHHx3 G Q (hu h 3 w) = kHHx3 G Q h := rfl
theorem kHH3_P {D : va_G} {cl : List vw_C} (G : Nat → ClassId) (Q : Nat → Nat → Nat) (h : Nat → SV) {H : Heap} : va_P D cl (kHH G Q h) H ↔ va_P D cl (kHHx3 G Q h ++ kHouse G (Q 13) (h 3)) H := by
  unfold kHH kHHx3
  rw [pP_cons, pP_app (a := _ :: _), pP_cons (a := kHouse G (Q 10) (h 0) ++ kHouse G (Q 11) (h 1) ++ kHouse G (Q 12) (h 2) ++ kHouse G (Q 14) (h 4) ++ kHouse G (Q 15) (h 5) ++ kHouse G (Q 16) (h 6) ++ kHouse G (Q 17) (h 7))]
  simp only [pP_app]
  constructor <;> (intro hh; simp only [hh, and_self])
theorem kHH3_D {A : Nat → Prop} (G : Nat → ClassId) (Q : Nat → Nat → Nat) (h : Nat → SV) : va_D A (kHH G Q h) ↔ va_D A (kHHx3 G Q h ++ kHouse G (Q 13) (h 3)) := by
  unfold kHH kHHx3
  rw [← List.singleton_append, ← List.singleton_append (l := kHouse G (Q 10) (h 0) ++ kHouse G (Q 11) (h 1) ++ kHouse G (Q 12) (h 2) ++ kHouse G (Q 14) (h 4) ++ kHouse G (Q 15) (h 5) ++ kHouse G (Q 16) (h 6) ++ kHouse G (Q 17) (h 7))]
  simp only [pD_app, Dj_l, Dj_r]
  constructor <;> (intro hh; simp only [hh, and_self])
theorem kHH3_j {W : va_W} (G : Nat → ClassId) (Q : Nat → Nat → Nat) (h : Nat → SV) : Dj (kHH G Q h) W ↔ Dj (kHHx3 G Q h ++ kHouse G (Q 13) (h 3)) W := by
  unfold kHH kHHx3
  rw [← List.singleton_append, ← List.singleton_append (l := kHouse G (Q 10) (h 0) ++ kHouse G (Q 11) (h 1) ++ kHouse G (Q 12) (h 2) ++ kHouse G (Q 14) (h 4) ++ kHouse G (Q 15) (h 5) ++ kHouse G (Q 16) (h 6) ++ kHouse G (Q 17) (h 7))]
  simp only [Dj_l]
  constructor <;> (intro hh; simp only [hh, and_self])
theorem kHH3_i {W : va_W} (G : Nat → ClassId) (Q : Nat → Nat → Nat) (h : Nat → SV) : Dj W (kHH G Q h) ↔ Dj W (kHHx3 G Q h ++ kHouse G (Q 13) (h 3)) := ⟨fun z => ((kHH3_j G Q h).mp z.symm).symm, fun z => ((kHH3_j G Q h).mpr z.symm).symm⟩
/-- the houses of a history but the one at 4 -/
def kHHx4 (G : Nat → ClassId) (Q : Nat → Nat → Nat) (h : Nat → SV) : va_W := (Q 4 1, .inl (G 3, 8, .inr (.inr (.inr (.inr (fun k => some (Q (10 + k) 0))))))) :: (kHouse G (Q 10) (h 0) ++ kHouse G (Q 11) (h 1) ++ kHouse G (Q 12) (h 2) ++ kHouse G (Q 13) (h 3) ++ kHouse G (Q 15) (h 5) ++ kHouse G (Q 16) (h 6) ++ kHouse G (Q 17) (h 7))
theorem kHHx4_hu (G : Nat → ClassId) (Q : Nat → Nat → Nat) (h : Nat → SV) (w : SV) : kHHx4 G Q (hu h 4 w) = kHHx4 G Q h := rfl
theorem kHH4_P {D : va_G} {cl : List vw_C} (G : Nat → ClassId) (Q : Nat → Nat → Nat) (h : Nat → SV) {H : Heap} : va_P D cl (kHH G Q h) H ↔ va_P D cl (kHHx4 G Q h ++ kHouse G (Q 14) (h 4)) H := by
  unfold kHH kHHx4
  rw [pP_cons, pP_app (a := _ :: _), pP_cons (a := kHouse G (Q 10) (h 0) ++ kHouse G (Q 11) (h 1) ++ kHouse G (Q 12) (h 2) ++ kHouse G (Q 13) (h 3) ++ kHouse G (Q 15) (h 5) ++ kHouse G (Q 16) (h 6) ++ kHouse G (Q 17) (h 7))]
  simp only [pP_app]
  constructor <;> (intro hh; simp only [hh, and_self])
theorem kHH4_D {A : Nat → Prop} (G : Nat → ClassId) (Q : Nat → Nat → Nat) (h : Nat → SV) : va_D A (kHH G Q h) ↔ va_D A (kHHx4 G Q h ++ kHouse G (Q 14) (h 4)) := by
  unfold kHH kHHx4
  rw [← List.singleton_append, ← List.singleton_append (l := kHouse G (Q 10) (h 0) ++ kHouse G (Q 11) (h 1) ++ kHouse G (Q 12) (h 2) ++ kHouse G (Q 13) (h 3) ++ kHouse G (Q 15) (h 5) ++ kHouse G (Q 16) (h 6) ++ kHouse G (Q 17) (h 7))]
  simp only [pD_app, Dj_l, Dj_r]
  constructor <;> (intro hh; simp only [hh, and_self])
theorem kHH4_j {W : va_W} (G : Nat → ClassId) (Q : Nat → Nat → Nat) (h : Nat → SV) : Dj (kHH G Q h) W ↔ Dj (kHHx4 G Q h ++ kHouse G (Q 14) (h 4)) W := by
  unfold kHH kHHx4
  rw [← List.singleton_append, ← List.singleton_append (l := kHouse G (Q 10) (h 0) ++ kHouse G (Q 11) (h 1) ++ kHouse G (Q 12) (h 2) ++ kHouse G (Q 13) (h 3) ++ kHouse G (Q 15) (h 5) ++ kHouse G (Q 16) (h 6) ++ kHouse G (Q 17) (h 7))]
  simp only [Dj_l]
  constructor <;> (intro hh; simp only [hh, and_self])
theorem kHH4_i {W : va_W} (G : Nat → ClassId) (Q : Nat → Nat → Nat) (h : Nat → SV) : Dj W (kHH G Q h) ↔ Dj W (kHHx4 G Q h ++ kHouse G (Q 14) (h 4)) := ⟨fun z => ((kHH4_j G Q h).mp z.symm).symm, fun z => ((kHH4_j G Q h).mpr z.symm).symm⟩
/-- the houses of a history but the one at 5 -/
def kHHx5 (G : Nat → ClassId) (Q : Nat → Nat → Nat) (h : Nat → SV) : va_W := (Q 4 1, .inl (G 3, 8, .inr (.inr (.inr (.inr (fun k => some (Q (10 + k) 0))))))) :: (kHouse G (Q 10) (h 0) ++ kHouse G (Q 11) (h 1) ++ kHouse G (Q 12) (h 2) ++ kHouse G (Q 13) (h 3) ++ kHouse G (Q 14) (h 4) ++ kHouse G (Q 16) (h 6) ++ kHouse G (Q 17) (h 7))
theorem kHHx5_hu (G : Nat → ClassId) (Q : Nat → Nat → Nat) (h : Nat → SV) (w : SV) : kHHx5 G Q (hu h 5 w) = kHHx5 G Q h := rfl
theorem kHH5_P {D : va_G} {cl : List vw_C} (G : Nat → ClassId) (Q : Nat → Nat → Nat) (h : Nat → SV) {H : Heap} : va_P D cl (kHH G Q h) H ↔ va_P D cl (kHHx5 G Q h ++ kHouse G (Q 15) (h 5)) H := by
  unfold kHH kHHx5
  rw [pP_cons, pP_app (a := _ :: _), pP_cons (a := kHouse G (Q 10) (h 0) ++ kHouse G (Q 11) (h 1) ++ kHouse G (Q 12) (h 2) ++ kHouse G (Q 13) (h 3) ++ kHouse G (Q 14) (h 4) ++ kHouse G (Q 16) (h 6) ++ kHouse G (Q 17) (h 7))]
  simp only [pP_app]
  constructor <;> (intro hh; simp only [hh, and_self])
theorem kHH5_D {A : Nat → Prop} (G : Nat → ClassId) (Q : Nat → Nat → Nat) (h : Nat → SV) : va_D A (kHH G Q h) ↔ va_D A (kHHx5 G Q h ++ kHouse G (Q 15) (h 5)) := by
  unfold kHH kHHx5
  rw [← List.singleton_append, ← List.singleton_append (l := kHouse G (Q 10) (h 0) ++ kHouse G (Q 11) (h 1) ++ kHouse G (Q 12) (h 2) ++ kHouse G (Q 13) (h 3) ++ kHouse G (Q 14) (h 4) ++ kHouse G (Q 16) (h 6) ++ kHouse G (Q 17) (h 7))]
  simp only [pD_app, Dj_l, Dj_r]
  constructor <;> (intro hh; simp only [hh, and_self])
theorem kHH5_j {W : va_W} (G : Nat → ClassId) (Q : Nat → Nat → Nat) (h : Nat → SV) : Dj (kHH G Q h) W ↔ Dj (kHHx5 G Q h ++ kHouse G (Q 15) (h 5)) W := by
  unfold kHH kHHx5
  rw [← List.singleton_append, ← List.singleton_append (l := kHouse G (Q 10) (h 0) ++ kHouse G (Q 11) (h 1) ++ kHouse G (Q 12) (h 2) ++ kHouse G (Q 13) (h 3) ++ kHouse G (Q 14) (h 4) ++ kHouse G (Q 16) (h 6) ++ kHouse G (Q 17) (h 7))]
  simp only [Dj_l]
  constructor <;> (intro hh; simp only [hh, and_self])
theorem kHH5_i {W : va_W} (G : Nat → ClassId) (Q : Nat → Nat → Nat) (h : Nat → SV) : Dj W (kHH G Q h) ↔ Dj W (kHHx5 G Q h ++ kHouse G (Q 15) (h 5)) := ⟨fun z => ((kHH5_j G Q h).mp z.symm).symm, fun z => ((kHH5_j G Q h).mpr z.symm).symm⟩
/-- the houses of a history but the one at 6 -/
def kHHx6 (G : Nat → ClassId) (Q : Nat → Nat → Nat) (h : Nat → SV) : va_W := (Q 4 1, .inl (G 3, 8, .inr (.inr (.inr (.inr (fun k => some (Q (10 + k) 0))))))) :: (kHouse G (Q 10) (h 0) ++ kHouse G (Q 11) (h 1) ++ kHouse G (Q 12) (h 2) ++ kHouse G (Q 13) (h 3) ++ kHouse G (Q 14) (h 4) ++ kHouse G (Q 15) (h 5) ++ kHouse G (Q 17) (h 7))
theorem kHHx6_hu (G : Nat → ClassId) (Q : Nat → Nat → Nat) (h : Nat → SV) (w : SV) : kHHx6 G Q (hu h 6 w) = kHHx6 G Q h := rfl
theorem kHH6_P {D : va_G} {cl : List vw_C} (G : Nat → ClassId) (Q : Nat → Nat → Nat) (h : Nat → SV) {H : Heap} : va_P D cl (kHH G Q h) H ↔ va_P D cl (kHHx6 G Q h ++ kHouse G (Q 16) (h 6)) H := by
  unfold kHH kHHx6
  rw [pP_cons, pP_app (a := _ :: _), pP_cons (a := kHouse G (Q 10) (h 0) ++ kHouse G (Q 11) (h 1) ++ kHouse G (Q 12) (h 2) ++ kHouse G (Q 13) (h 3) ++ kHouse G (Q 14) (h 4) ++ kHouse G (Q 15) (h 5) ++ kHouse G (Q 17) (h 7))]
  simp only [pP_app]
  constructor <;> (intro hh; simp only [hh, and_self])
theorem kHH6_D {A : Nat → Prop} (G : Nat → ClassId) (Q : Nat → Nat → Nat) (h : Nat → SV) : va_D A (kHH G Q h) ↔ va_D A (kHHx6 G Q h ++ kHouse G (Q 16) (h 6)) := by
  unfold kHH kHHx6
  rw [← List.singleton_append, ← List.singleton_append (l := kHouse G (Q 10) (h 0) ++ kHouse G (Q 11) (h 1) ++ kHouse G (Q 12) (h 2) ++ kHouse G (Q 13) (h 3) ++ kHouse G (Q 14) (h 4) ++ kHouse G (Q 15) (h 5) ++ kHouse G (Q 17) (h 7))]
  simp only [pD_app, Dj_l, Dj_r]
  constructor <;> (intro hh; simp only [hh, and_self])
theorem kHH6_j {W : va_W} (G : Nat → ClassId) (Q : Nat → Nat → Nat) (h : Nat → SV) : Dj (kHH G Q h) W ↔ Dj (kHHx6 G Q h ++ kHouse G (Q 16) (h 6)) W := by
  unfold kHH kHHx6
  rw [← List.singleton_append, ← List.singleton_append (l := kHouse G (Q 10) (h 0) ++ kHouse G (Q 11) (h 1) ++ kHouse G (Q 12) (h 2) ++ kHouse G (Q 13) (h 3) ++ kHouse G (Q 14) (h 4) ++ kHouse G (Q 15) (h 5) ++ kHouse G (Q 17) (h 7))]
  simp only [Dj_l]
  constructor <;> (intro hh; simp only [hh, and_self])
theorem kHH6_i {W : va_W} (G : Nat → ClassId) (Q : Nat → Nat → Nat) (h : Nat → SV) : Dj W (kHH G Q h) ↔ Dj W (kHHx6 G Q h ++ kHouse G (Q 16) (h 6)) := ⟨fun z => ((kHH6_j G Q h).mp z.symm).symm, fun z => ((kHH6_j G Q h).mpr z.symm).symm⟩
/-- the houses of a history but the one at 7 -/
def kHHx7 (G : Nat → ClassId) (Q : Nat → Nat → Nat) (h : Nat → SV) : va_W := (Q 4 1, .inl (G 3, 8, .inr (.inr (.inr (.inr (fun k => some (Q (10 + k) 0))))))) :: (kHouse G (Q 10) (h 0) ++ kHouse G (Q 11) (h 1) ++ kHouse G (Q 12) (h 2) ++ kHouse G (Q 13) (h 3) ++ kHouse G (Q 14) (h 4) ++ kHouse G (Q 15) (h 5) ++ kHouse G (Q 16) (h 6))
theorem kHHx7_hu (G : Nat → ClassId) (Q : Nat → Nat → Nat) (h : Nat → SV) (w : SV) : kHHx7 G Q (hu h 7 w) = kHHx7 G Q h := rfl
theorem kHH7_P {D : va_G} {cl : List vw_C} (G : Nat → ClassId) (Q : Nat → Nat → Nat) (h : Nat → SV) {H : Heap} : va_P D cl (kHH G Q h) H ↔ va_P D cl (kHHx7 G Q h ++ kHouse G (Q 17) (h 7)) H := by
  unfold kHH kHHx7
  rw [pP_cons, pP_app (a := _ :: _), pP_cons (a := kHouse G (Q 10) (h 0) ++ kHouse G (Q 11) (h 1) ++ kHouse G (Q 12) (h 2) ++ kHouse G (Q 13) (h 3) ++ kHouse G (Q 14) (h 4) ++ kHouse G (Q 15) (h 5) ++ kHouse G (Q 16) (h 6))]
  simp only [pP_app]
  constructor <;> (intro hh; simp only [hh, and_self])
theorem kHH7_D {A : Nat → Prop} (G : Nat → ClassId) (Q : Nat → Nat → Nat) (h : Nat → SV) : va_D A (kHH G Q h) ↔ va_D A (kHHx7 G Q h ++ kHouse G (Q 17) (h 7)) := by
  unfold kHH kHHx7
  rw [← List.singleton_append, ← List.singleton_append (l := kHouse G (Q 10) (h 0) ++ kHouse G (Q 11) (h 1) ++ kHouse G (Q 12) (h 2) ++ kHouse G (Q 13) (h 3) ++ kHouse G (Q 14) (h 4) ++ kHouse G (Q 15) (h 5) ++ kHouse G (Q 16) (h 6))]
  simp only [pD_app, Dj_l, Dj_r]
  constructor <;> (intro hh; simp only [hh, and_self])
theorem kHH7_j {W : va_W} (G : Nat → ClassId) (Q : Nat → Nat → Nat) (h : Nat → SV) : Dj (kHH G Q h) W ↔ Dj (kHHx7 G Q h ++ kHouse G (Q 17) (h 7)) W := by
  unfold kHH kHHx7
  rw [← List.singleton_append, ← List.singleton_append (l := kHouse G (Q 10) (h 0) ++ kHouse G (Q 11) (h 1) ++ kHouse G (Q 12) (h 2) ++ kHouse G (Q 13) (h 3) ++ kHouse G (Q 14) (h 4) ++ kHouse G (Q 15) (h 5) ++ kHouse G (Q 16) (h 6))]
  simp only [Dj_l]
  constructor <;> (intro hh; simp only [hh, and_self])
theorem kHH7_i {W : va_W} (G : Nat → ClassId) (Q : Nat → Nat → Nat) (h : Nat → SV) : Dj W (kHH G Q h) ↔ Dj W (kHHx7 G Q h ++ kHouse G (Q 17) (h 7)) := ⟨fun z => ((kHH7_j G Q h).mp z.symm).symm, fun z => ((kHH7_j G Q h).mpr z.symm).symm⟩
theorem hu_s (h : Nat → SV) (k : Nat) (w : SV) : hu h k w k = w := if_pos rfl
theorem or_of {α : Type} {x y : Option α} {r : α} (h : Option.or x y = some r) : x = some r ∨ y = some r := by
  cases x with
  | none => exact Or.inr h
  | some a => exact Or.inl h
theorem pP_nil {D : va_G} {cl : List vw_C} {H : Heap} : va_P D cl [] H ↔ True := ⟨fun _ => trivial, fun _ k q h => by simp at h⟩
theorem pD_nil {A : Nat → Prop} : va_D A [] ↔ True := ⟨fun _ => trivial, fun _ => ⟨fun i j p q h => by simp at h, fun k q h => by simp at h⟩⟩
theorem Dj_nl {W : va_W} : Dj [] W ↔ True := ⟨fun _ => trivial, fun _ i j p q h => by simp at h⟩
theorem Dj_nr {W : va_W} : Dj W [] ↔ True := ⟨fun _ => trivial, fun _ i j p q _ h => by simp at h⟩
def ckC {ρ : Type} (i : Int32) (x : Option ρ) : Option ρ := if (i.toUInt32 % 65536).toInt32 = i then x else none
theorem ckC_of {ρ : Type} {i : Int32} {x : Option ρ} {r : ρ} (h : ckC i x = some r) : (i.toUInt32 % 65536).toInt32 = i ∧ x = some r := by
  unfold ckC at h
  split at h
  · exact ⟨‹_›, h⟩
  · cases h
theorem narC {i : Int32} (h : (i.toUInt32 % 65536).toInt32 = i) : narrow .char (.int i) = .int i := by
  have := pk_nc i
  rw [h] at this
  exact this
section KC2
variable {p : Program} {l : Launch} {e : Env} {R : Room} {s : State} {m : MethodId} {args : Array Value} {below : List Frame} {meth : Method} {c : Code} {H : Heap} {locs : List Loc} {cells slots : Nat} {Q : State → Prop}
variable {pc : Nat} {ls : Array Slot} {rest st0 : List Value} {A : Nat → Prop} {mc ms : Nat} {D : va_G} {tys tysc : List (ClassId × FieldType)} {Wc Wc' ws0 ws1 : va_W} {v : Option Value}
variable {cc : ByteArray}
theorem k_nret {x : Int32} {ty : FieldType} {W' : va_W} (hx : p.tables.exec = Jvm.exec) (hb : c.code = cc) (hr : meth.sig.returnType = some ty) (hlocks : meth.locks = false) (hn : narrow ty (.int x) = .int x) (hP : va_P D vwCl W' H) (hD : va_D A W') (hS : va_S A s.heap H locs) (hdg : decode cc pc = .ok (.ireturn, 1)) : W p l e R s m args below meth c H locs cells slots (MQ below (mQ (some (.int x)) (mB D A W') A) args s cells slots A) (F0 m pc ls [.int x]) :=
  W.zret hx hb hr hn (fun t ht _ => ⟨⟨rfl, by rw [mB, ht]; exact ⟨hP, hD⟩⟩, hS.F ht⟩) hS.2.2 hdg
end KC2
section MCOF2
variable {l : Launch} {y : MethodName} {ws ws' : List Cond} {rm : Room} {D : va_G} {tys : List (ClassId × FieldType)} {J : JT} {av : List Value} {W0 W' : va_W} {sz : Nat} {mc ms : Nat} {cc : ByteArray} {maxL : Nat} {ret : Option FieldType}
theorem mC_ofN {r : Int32} {ty : FieldType} (hy : plainName y.cls = true) (hw : ws = Cond.code y cc maxL ret :: ws') (hret : ret = some ty) (hn : (lg_sl av).length ≤ maxL)
    (body : ∀ (p : Program) (e : Env) (s : State) (m : MethodId) (args : Array Value) (below : List Frame) (meth : Method) (c : Code) (Q0 : State → Prop), p.tables.exec = Jvm.exec → c.code = cc → c.maxLocals = maxL → (∀ w ∈ ws, w.before args s = true) → s.vm.findClass y.cls = some m.cls → kN s → va_K D vwCl tys s → ∀ (A : Nat → Prop), va_D A W0 → (∀ q : Nat, s.heap.size ≤ q → A q) →
      (∀ {H : Heap} {locs : List Loc} {pc : Nat} {ls : Array Slot}, narrow ty (.int r) = .int r → va_P D vwCl W' H → va_D A W' → va_S A s.heap H locs → decode cc pc = .ok (.ireturn, 1) → W p l e rm s m args below meth c H locs mc ms Q0 (F0 m pc ls [.int r])) →
      va_P D vwCl W0 s.heap → va_S A s.heap s.heap [] → J A s → ∀ ls : Array Slot, lv_has ls maxL (lv_args 0 av) → W p l e rm s m args below meth c s.heap [] 0 0 Q0 (F0 m 0 ls [])) : mC l y ws rm D tys J av W0 W' sz (some (.int r)) mc ms := by
  refine mC_of hy hw hn ?_
  intro p e s m args below meth c hx hb hr hml hts hown hlocks hnm hN hK hP A hD hA hS hJ ls hl
  exact body p e s m args below meth c _ hx hb hml hts hown hN hK A hD hA (fun h0 h1 h2 h3 h4 => k_nret hx hb (by rw [hr, hret]) hlocks h0 h1 h2 h3 h4) hP hS hJ ls hl
end MCOF2
def ckD {ρ : Type} (i : UInt64) (x : Option ρ) : Option ρ := if i &&& 0x7fffffffffffffff ≤ 0x7ff0000000000000 then x else none
theorem ckD_of {ρ : Type} {i : UInt64} {x : Option ρ} {r : ρ} (h : ckD i x = some r) : vf_n64 i ∧ x = some r := by
  unfold ckD at h
  split at h
  · exact ⟨‹_›, h⟩
  · cases h
def ckF {ρ : Type} (i : UInt32) (x : Option ρ) : Option ρ := if i &&& 0x7fffffff ≤ 0x7f800000 then x else none
theorem ckF_of {ρ : Type} {i : UInt32} {x : Option ρ} {r : ρ} (h : ckF i x = some r) : vf_n32 i ∧ x = some r := by
  unfold ckF at h
  split at h
  · exact ⟨‹_›, h⟩
  · cases h
section MCOF3
variable {l : Launch} {y : MethodName} {ws ws' : List Cond} {rm : Room} {D : va_G} {tys : List (ClassId × FieldType)} {J : JT} {av : List Value} {W0 W' : va_W} {sz : Nat} {mc ms : Nat} {cc : ByteArray} {maxL : Nat} {ret : Option FieldType}
theorem mC_ofD {r : UInt64} (hy : plainName y.cls = true) (hw : ws = Cond.code y cc maxL ret :: ws') (hret : ret = some .double) (hn : (lg_sl av).length ≤ maxL)
    (body : ∀ (p : Program) (e : Env) (s : State) (m : MethodId) (args : Array Value) (below : List Frame) (meth : Method) (c : Code) (Q0 : State → Prop), p.tables.exec = Jvm.exec → c.code = cc → c.maxLocals = maxL → (∀ w ∈ ws, w.before args s = true) → s.vm.findClass y.cls = some m.cls → kN s → va_K D vwCl tys s → ∀ (A : Nat → Prop), va_D A W0 → (∀ q : Nat, s.heap.size ≤ q → A q) →
      (∀ {H : Heap} {locs : List Loc} {pc : Nat} {ls : Array Slot}, va_P D vwCl W' H → va_D A W' → va_S A s.heap H locs → decode cc pc = .ok (.dreturn, 1) → W p l e rm s m args below meth c H locs mc ms Q0 (F0 m pc ls [.double r])) →
      va_P D vwCl W0 s.heap → va_S A s.heap s.heap [] → J A s → ∀ ls : Array Slot, lv_has ls maxL (lv_args 0 av) → W p l e rm s m args below meth c s.heap [] 0 0 Q0 (F0 m 0 ls [])) : mC l y ws rm D tys J av W0 W' sz (some (.double r)) mc ms := by
  refine mC_of hy hw hn ?_
  intro p e s m args below meth c hx hb hr hml hts hown hlocks hnm hN hK hP A hD hA hS hJ ls hl
  exact body p e s m args below meth c _ hx hb hml hts hown hN hK A hD hA (fun h1 h2 h3 h4 => W.dret hx hb (by rw [hr, hret]) (fun t ht _ => ⟨⟨rfl, by rw [mB, ht]; exact ⟨h1, h2⟩⟩, h3.F ht⟩) h3.2.2 h4) hP hS hJ ls hl
theorem mC_ofF {r : UInt32} (hy : plainName y.cls = true) (hw : ws = Cond.code y cc maxL ret :: ws') (hret : ret = some .float) (hn : (lg_sl av).length ≤ maxL)
    (body : ∀ (p : Program) (e : Env) (s : State) (m : MethodId) (args : Array Value) (below : List Frame) (meth : Method) (c : Code) (Q0 : State → Prop), p.tables.exec = Jvm.exec → c.code = cc → c.maxLocals = maxL → (∀ w ∈ ws, w.before args s = true) → s.vm.findClass y.cls = some m.cls → kN s → va_K D vwCl tys s → ∀ (A : Nat → Prop), va_D A W0 → (∀ q : Nat, s.heap.size ≤ q → A q) →
      (∀ {H : Heap} {locs : List Loc} {pc : Nat} {ls : Array Slot}, va_P D vwCl W' H → va_D A W' → va_S A s.heap H locs → decode cc pc = .ok (.freturn, 1) → W p l e rm s m args below meth c H locs mc ms Q0 (F0 m pc ls [.float r])) →
      va_P D vwCl W0 s.heap → va_S A s.heap s.heap [] → J A s → ∀ ls : Array Slot, lv_has ls maxL (lv_args 0 av) → W p l e rm s m args below meth c s.heap [] 0 0 Q0 (F0 m 0 ls [])) : mC l y ws rm D tys J av W0 W' sz (some (.float r)) mc ms := by
  refine mC_of hy hw hn ?_
  intro p e s m args below meth c hx hb hr hml hts hown hlocks hnm hN hK hP A hD hA hS hJ ls hl
  exact body p e s m args below meth c _ hx hb hml hts hown hN hK A hD hA (fun h1 h2 h3 h4 => W.fret hx hb (by rw [hr, hret]) (fun t ht _ => ⟨⟨rfl, by rw [mB, ht]; exact ⟨h1, h2⟩⟩, h3.F ht⟩) h3.2.2 h4) hP hS hJ ls hl
end MCOF3
