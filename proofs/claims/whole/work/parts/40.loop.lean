/-! The law's loop, from its start to its end. -/
theorem iv_0 {w : Nat → Int32} {v0' : SV} (hw : f_J7_fill_53178 3 12 (fun _ => 0) = some w) (hv : f_X13_clears vMo0 = some v0') : IV 0 vMn0 (vHo0 w) (vHo0 w) (vHo0 w) zSV (fun _ => vHo0 w) zSV vRf0 zSV zSV (16, zSV) v0' := by
  obtain ⟨g, e1, k1⟩ := x_fill 3 (n := 12) (by omega) (fun _ => 0)
  obtain ⟨u, e2, M, k2⟩ := m_clears vMo0
  have eg : g = w := Option.some.inj (e1.symm.trans hw)
  have eu : u = v0' := Option.some.inj (e2.symm.trans hv)
  subst eg
  subst eu
  have R : RC (vHo0 g) newA := by
    refine ⟨fun i hi => nI_0.symm, fun i hi => ?_, fun i j hi hj => rfl, fun i hi => rfl, nI_0.symm, (fun k x hx => by cases hx), nI_0.symm, (fun k x hx => by cases hx), rfl, rfl, rfl, rfl, rfl⟩
    show g i = _
    rw [k1 i, if_pos hi]; rfl
  have z : ∀ i, u.1 i = vMo0.1 i := fun i => by rw [k2.1]
  refine ⟨⟨newA, R, M, wf_new, gb_new⟩, Or.inl ⟨rfl, z 8⟩, ⟨[], ⟨Nat.zero_le _, nI_0.symm, (z 0).trans nI_0.symm, 0, by decide, nI_0.symm, fun j b hj => by cases hj⟩, fun b hb => by cases hb⟩, Or.inl ⟨rfl, z 7⟩, ⟨Or.inl ⟨z 3, rfl, rfl⟩, Or.inl ⟨z 5, rfl, rfl⟩⟩, ⟨0, Nat.zero_le _, nI_0.symm, (z 10).trans nI_0.symm, fun i hi => absurd hi (Nat.not_lt_zero _)⟩, ⟨rfl, Or.inl rfl, fun i hi => ⟨0, by decide, nI_0.symm⟩, 0, Nat.zero_le _, nI_0.symm, (z 9).trans nI_0.symm, fun i hi => absurd hi (Nat.not_lt_zero _)⟩⟩
theorem lw_63 (x : Int32) : ∃ k, k < 64 ∧ x &&& 63 = nI k := by
  refine ⟨x.toBitVec.toNat % 64, Nat.mod_lt _ (by decide), ?_⟩
  apply Int32.toBitVec_inj.mp
  rw [Int32.toBitVec_and]
  show x.toBitVec &&& 63#32 = BitVec.ofNat 32 (x.toBitVec.toNat % 64)
  apply BitVec.eq_of_toNat_eq
  rw [BitVec.toNat_and, show (63#32).toNat = 2 ^ 6 - 1 from rfl, Nat.and_two_pow_sub_one_eq_mod, BitVec.toNat_ofNat]
  exact (Nat.mod_eq_of_lt (Nat.lt_of_lt_of_le (Nat.mod_lt _ (by decide)) (by decide))).symm
theorem lw_more {L i : Nat} (hL : L ≤ 2048) (hi : i ≤ L) (h : ¬ nI L - 4 < nI i) : i + 3 < L := by
  rcases Nat.lt_or_ge (i + 3) L with q | q
  · exact q
  · refine absurd ?_ h
    rcases Nat.lt_or_ge L 4 with z | z
    · rw [Int32.lt_iff_toInt_lt, nI_toInt (by omega)]
      have : ∀ L, L < 4 → (nI L - 4).toInt < 0 := by decide
      have := this L z
      omega
    · rw [show (4 : Int32) = nI 4 from rfl, nI_subN z]
      exact nI_lt (by omega) (by omega)
theorem LwK_mono {p : Program} {l : Launch} {e : Env} {s : State} {m : MethodId} {below : List Frame} {meth : Method} {c : Code} {b : Nat} {D : va_G} {G : Nat → ClassId} {Q : Nat → Nat → Nat} {q0 : Nat → Nat} {N M i cells slots : Nat} {Z : State → Prop} (h : LwK p l e s m below meth c b D G Q q0 (IV M) i cells slots Z) (hm : N ≤ M) : LwK p l e s m below meth c b D G Q q0 (IV N) i cells slots Z :=
  fun vmn vho vdr vsa vhi vhh vre vrf vpa vod vsb v bb H locs hI => h vmn vho vdr vsa vhi vhh vre vrf vpa vod vsb v bb H locs (IV_le hI hm)
set_option maxHeartbeats 4000000 in
set_option maxRecDepth 100000 in
theorem lw_sw0 {p : Program} {l : Launch} {e : Env} {s : State} {m : MethodId} {below : List Frame} {meth : Method} {c : Code} {b L : Nat} {xs : Nat → Int32} {D : va_G} {G : Nat → ClassId} {X Q : Nat → Nat → Nat} {q0 : Nat → Nat} (C0 : LwB p l s m c b L xs D G X) (hL : L ≤ 2048) {i N : Nat} (hi : i + 3 < L) (hN : N < 900000) {cells slots : Nat} (hce : cells + 49 ≤ 600000) (hsl : slots + 3920 ≤ 7302250) {Z : State → Prop} {vmn vho vdr vsa vhi : SV} {vhh : Nat → SV} {vre vrf vpa vod : SV} {vsb : Nat × SV} {v : SV} {bb : Nat} {H : Heap} {locs : List Loc} (hI : IV N vmn vho vdr vsa vhi vhh vre vrf vpa vod vsb v) (hP : va_P D vwCl (kAll G Q bb vmn vho vdr vsa vhi vhh vre vrf vpa vod vsb ++ kModel G q0 v) H) (hD : va_D (fun q : Nat => s.heap.size ≤ q) (kAll G Q bb vmn vho vdr vsa vhi vhh vre vrf vpa vod vsb ++ kModel G q0 v)) (hS : va_S (fun q : Nat => s.heap.size ≤ q) s.heap H locs) {ls : Array Slot} (hl : lv_has ls 8 [(0, .ref b), (1, .ref (Q 0 0)), (2, .ref (q0 0)), (3, .int (nI i))]) {k : Nat} (h1 : 0 ≤ k) (h2 : k < 10)
    (kk : LwK p l e s m below meth c b D G Q q0 (IV (N + 20)) i (cells + 49) (slots + 3920) Z) : W p l e room_1 s m #[Value.ref b] below meth c H locs cells slots Z (F0 m 32 ls [.int (nI k)]) := by
  obtain ⟨hx, hb, -⟩ := id C0
  have kk1 := LwK_mono kk (show N + 1 ≤ N + 20 by omega)
  by_cases c0 : k = 0
  · rw [c0]
    refine lv_tableIn (off := 180) (tgt := 212) hx hb dL_law_32 (by decide) (by decide) (by decide) (by decide) ?_
    exact lo_clear p_clear C0 hL hi hce hsl _ _ _ _ _ _ _ _ _ _ _ _ hI hP hD hS hl kk1
  by_cases c1 : k = 1
  · rw [c1]
    refine lv_tableIn (off := 193) (tgt := 225) hx hb dL_law_32 (by decide) (by decide) (by decide) (by decide) ?_
    exact lo_append p_append C0 hL hi hce hsl _ _ _ _ _ _ _ _ _ _ _ _ hI hP hD hS hl kk1
  by_cases c2 : k = 2
  · rw [c2]
    refine lv_tableIn (off := 218) (tgt := 250) hx hb dL_law_32 (by decide) (by decide) (by decide) (by decide) ?_
    exact lo_plant p_plant C0 hL hi hce hsl _ _ _ _ _ _ _ _ _ _ _ _ hI hP hD hS hl kk1
  by_cases c3 : k = 3
  · rw [c3]
    refine lv_tableIn (off := 251) (tgt := 283) hx hb dL_law_32 (by decide) (by decide) (by decide) (by decide) ?_
    exact lo_bear p_bear C0 hL hi hce hsl _ _ _ _ _ _ _ _ _ _ _ _ hI hP hD hS hl kk1
  by_cases c4 : k = 4
  · rw [c4]
    refine lv_tableIn (off := 284) (tgt := 316) hx hb dL_law_32 (by decide) (by decide) (by decide) (by decide) ?_
    exact lo_hang p_hang C0 hL hi hce hsl _ _ _ _ _ _ _ _ _ _ _ _ hI hP hD hS hl kk1
  by_cases c5 : k = 5
  · rw [c5]
    refine lv_tableIn (off := 327) (tgt := 359) hx hb dL_law_32 (by decide) (by decide) (by decide) (by decide) ?_
    exact lo_greet (p_greet (by omega)) C0 hL hi hce hsl _ _ _ _ _ _ _ _ _ _ _ _ hI hP hD hS hl kk1
  by_cases c6 : k = 6
  · rw [c6]
    refine lv_tableIn (off := 360) (tgt := 392) hx hb dL_law_32 (by decide) (by decide) (by decide) (by decide) ?_
    exact lo_give p_give C0 hL hi hce hsl _ _ _ _ _ _ _ _ _ _ _ _ hI hP hD hS hl kk1
  by_cases c7 : k = 7
  · rw [c7]
    refine lv_tableIn (off := 403) (tgt := 435) hx hb dL_law_32 (by decide) (by decide) (by decide) (by decide) ?_
    exact lo_cat p_cat C0 hL hi hce hsl _ _ _ _ _ _ _ _ _ _ _ _ hI hP hD hS hl kk1
  by_cases c8 : k = 8
  · rw [c8]
    refine lv_tableIn (off := 426) (tgt := 458) hx hb dL_law_32 (by decide) (by decide) (by decide) (by decide) ?_
    exact lo_swap p_swap C0 hL hi hce hsl _ _ _ _ _ _ _ _ _ _ _ _ hI hP hD hS hl kk1
  by_cases c9 : k = 9
  · rw [c9]
    refine lv_tableIn (off := 459) (tgt := 491) hx hb dL_law_32 (by decide) (by decide) (by decide) (by decide) ?_
    exact lo_day p_day C0 hL hi hce hsl _ _ _ _ _ _ _ _ _ _ _ _ hI hP hD hS hl kk1
  omega
set_option maxHeartbeats 4000000 in
set_option maxRecDepth 100000 in
theorem lw_sw1 {p : Program} {l : Launch} {e : Env} {s : State} {m : MethodId} {below : List Frame} {meth : Method} {c : Code} {b L : Nat} {xs : Nat → Int32} {D : va_G} {G : Nat → ClassId} {X Q : Nat → Nat → Nat} {q0 : Nat → Nat} (C0 : LwB p l s m c b L xs D G X) (hL : L ≤ 2048) {i N : Nat} (hi : i + 3 < L) (hN : N < 900000) {cells slots : Nat} (hce : cells + 49 ≤ 600000) (hsl : slots + 3920 ≤ 7302250) {Z : State → Prop} {vmn vho vdr vsa vhi : SV} {vhh : Nat → SV} {vre vrf vpa vod : SV} {vsb : Nat × SV} {v : SV} {bb : Nat} {H : Heap} {locs : List Loc} (hI : IV N vmn vho vdr vsa vhi vhh vre vrf vpa vod vsb v) (hP : va_P D vwCl (kAll G Q bb vmn vho vdr vsa vhi vhh vre vrf vpa vod vsb ++ kModel G q0 v) H) (hD : va_D (fun q : Nat => s.heap.size ≤ q) (kAll G Q bb vmn vho vdr vsa vhi vhh vre vrf vpa vod vsb ++ kModel G q0 v)) (hS : va_S (fun q : Nat => s.heap.size ≤ q) s.heap H locs) {ls : Array Slot} (hl : lv_has ls 8 [(0, .ref b), (1, .ref (Q 0 0)), (2, .ref (q0 0)), (3, .int (nI i))]) {k : Nat} (h1 : 10 ≤ k) (h2 : k < 20)
    (kk : LwK p l e s m below meth c b D G Q q0 (IV (N + 20)) i (cells + 49) (slots + 3920) Z) : W p l e room_1 s m #[Value.ref b] below meth c H locs cells slots Z (F0 m 32 ls [.int (nI k)]) := by
  obtain ⟨hx, hb, -⟩ := id C0
  have kk1 := LwK_mono kk (show N + 1 ≤ N + 20 by omega)
  by_cases c10 : k = 10
  · rw [c10]
    refine lv_tableIn (off := 472) (tgt := 504) hx hb dL_law_32 (by decide) (by decide) (by decide) (by decide) ?_
    exact lo_read (p_read hN) C0 hL hi hce hsl _ _ _ _ _ _ _ _ _ _ _ _ hI hP hD hS hl kk
  by_cases c11 : k = 11
  · rw [c11]
    refine lv_tableIn (off := 485) (tgt := 517) hx hb dL_law_32 (by decide) (by decide) (by decide) (by decide) ?_
    exact lo_fault p_fault C0 hL hi hce hsl _ _ _ _ _ _ _ _ _ _ _ _ hI hP hD hS hl kk1
  by_cases c12 : k = 12
  · rw [c12]
    refine lv_tableIn (off := 498) (tgt := 530) hx hb dL_law_32 (by decide) (by decide) (by decide) (by decide) ?_
    exact lo_reason p_reason C0 hL hi hce hsl _ _ _ _ _ _ _ _ _ _ _ _ hI hP hD hS hl kk1
  by_cases c13 : k = 13
  · rw [c13]
    refine lv_tableIn (off := 547) (tgt := 579) hx hb dL_law_32 (by decide) (by decide) (by decide) (by decide) ?_
    exact lo_balconyOf p_balconyOf C0 hL hi hce hsl _ _ _ _ _ _ _ _ _ _ _ _ hI hP hD hS hl kk1
  by_cases c14 : k = 14
  · rw [c14]
    refine lv_tableIn (off := 580) (tgt := 612) hx hb dL_law_32 (by decide) (by decide) (by decide) (by decide) ?_
    exact lo_feud p_feud C0 hL hi hce hsl _ _ _ _ _ _ _ _ _ _ _ _ hI hP hD hS hl kk1
  by_cases c15 : k = 15
  · rw [c15]
    refine lv_tableIn (off := 613) (tgt := 645) hx hb dL_law_32 (by decide) (by decide) (by decide) (by decide) ?_
    exact lo_greeted p_greeted C0 hL hi hce hsl _ _ _ _ _ _ _ _ _ _ _ _ hI hP hD hS hl kk1
  by_cases c16 : k = 16
  · rw [c16]
    refine lv_tableIn (off := 646) (tgt := 678) hx hb dL_law_32 (by decide) (by decide) (by decide) (by decide) ?_
    exact lo_catOf p_catOf C0 hL hi hce hsl _ _ _ _ _ _ _ _ _ _ _ _ hI hP hD hS hl kk1
  by_cases c17 : k = 17
  · rw [c17]
    refine lv_tableIn (off := 679) (tgt := 711) hx hb dL_law_32 (by decide) (by decide) (by decide) (by decide) ?_
    exact lo_lineOf p_lineOf C0 hL hi hce hsl _ _ _ _ _ _ _ _ _ _ _ _ hI hP hD hS hl kk1
  by_cases c18 : k = 18
  · rw [c18]
    refine lv_tableIn (off := 712) (tgt := 744) hx hb dL_law_32 (by decide) (by decide) (by decide) (by decide) ?_
    exact lo_feuds p_feuds C0 hL hi hce hsl _ _ _ _ _ _ _ _ _ _ _ _ hI hP hD hS hl kk1
  by_cases c19 : k = 19
  · rw [c19]
    refine lv_tableIn (off := 725) (tgt := 757) hx hb dL_law_32 (by decide) (by decide) (by decide) (by decide) ?_
    exact lo_feudsAgain p_feudsAgain C0 hL hi hce hsl _ _ _ _ _ _ _ _ _ _ _ _ hI hP hD hS hl kk1
  omega
set_option maxHeartbeats 4000000 in
set_option maxRecDepth 100000 in
theorem lw_sw2 {p : Program} {l : Launch} {e : Env} {s : State} {m : MethodId} {below : List Frame} {meth : Method} {c : Code} {b L : Nat} {xs : Nat → Int32} {D : va_G} {G : Nat → ClassId} {X Q : Nat → Nat → Nat} {q0 : Nat → Nat} (C0 : LwB p l s m c b L xs D G X) (hL : L ≤ 2048) {i N : Nat} (hi : i + 3 < L) (hN : N < 900000) {cells slots : Nat} (hce : cells + 49 ≤ 600000) (hsl : slots + 3920 ≤ 7302250) {Z : State → Prop} {vmn vho vdr vsa vhi : SV} {vhh : Nat → SV} {vre vrf vpa vod : SV} {vsb : Nat × SV} {v : SV} {bb : Nat} {H : Heap} {locs : List Loc} (hI : IV N vmn vho vdr vsa vhi vhh vre vrf vpa vod vsb v) (hP : va_P D vwCl (kAll G Q bb vmn vho vdr vsa vhi vhh vre vrf vpa vod vsb ++ kModel G q0 v) H) (hD : va_D (fun q : Nat => s.heap.size ≤ q) (kAll G Q bb vmn vho vdr vsa vhi vhh vre vrf vpa vod vsb ++ kModel G q0 v)) (hS : va_S (fun q : Nat => s.heap.size ≤ q) s.heap H locs) {ls : Array Slot} (hl : lv_has ls 8 [(0, .ref b), (1, .ref (Q 0 0)), (2, .ref (q0 0)), (3, .int (nI i))]) {k : Nat} (h1 : 20 ≤ k) (h2 : k < 30)
    (kk : LwK p l e s m below meth c b D G Q q0 (IV (N + 20)) i (cells + 49) (slots + 3920) Z) : W p l e room_1 s m #[Value.ref b] below meth c H locs cells slots Z (F0 m 32 ls [.int (nI k)]) := by
  obtain ⟨hx, hb, -⟩ := id C0
  have kk1 := LwK_mono kk (show N + 1 ≤ N + 20 by omega)
  by_cases c20 : k = 20
  · rw [c20]
    refine lv_tableIn (off := 738) (tgt := 770) hx hb dL_law_32 (by decide) (by decide) (by decide) (by decide) ?_
    exact lo_excess p_excess C0 hL hi hce hsl _ _ _ _ _ _ _ _ _ _ _ _ hI hP hD hS hl kk1
  by_cases c21 : k = 21
  · rw [c21]
    refine lv_tableIn (off := 751) (tgt := 783) hx hb dL_law_32 (by decide) (by decide) (by decide) (by decide) ?_
    exact lo_excessAgain p_excessAgain C0 hL hi hce hsl _ _ _ _ _ _ _ _ _ _ _ _ hI hP hD hS hl kk1
  by_cases c22 : k = 22
  · rw [c22]
    refine lv_tableIn (off := 764) (tgt := 796) hx hb dL_law_32 (by decide) (by decide) (by decide) (by decide) ?_
    exact lo_census p_census C0 hL hi hce hsl _ _ _ _ _ _ _ _ _ _ _ _ hI hP hD hS hl kk1
  by_cases c23 : k = 23
  · rw [c23]
    refine lv_tableIn (off := 777) (tgt := 809) hx hb dL_law_32 (by decide) (by decide) (by decide) (by decide) ?_
    exact lo_censusAgain p_censusAgain C0 hL hi hce hsl _ _ _ _ _ _ _ _ _ _ _ _ hI hP hD hS hl kk1
  by_cases c24 : k = 24
  · rw [c24]
    refine lv_tableIn (off := 790) (tgt := 822) hx hb dL_law_32 (by decide) (by decide) (by decide) (by decide) ?_
    exact lo_steps p_steps C0 hL hi hce hsl _ _ _ _ _ _ _ _ _ _ _ _ hI hP hD hS hl kk1
  by_cases c25 : k = 25
  · rw [c25]
    refine lv_tableIn (off := 823) (tgt := 855) hx hb dL_law_32 (by decide) (by decide) (by decide) (by decide) ?_
    exact lo_stepsAgain p_stepsAgain C0 hL hi hce hsl _ _ _ _ _ _ _ _ _ _ _ _ hI hP hD hS hl kk1
  by_cases c26 : k = 26
  · rw [c26]
    refine lv_tableIn (off := 856) (tgt := 888) hx hb dL_law_32 (by decide) (by decide) (by decide) (by decide) ?_
    exact lo_way p_way C0 hL hi hce hsl _ _ _ _ _ _ _ _ _ _ _ _ hI hP hD hS hl kk1
  by_cases c27 : k = 27
  · rw [c27]
    refine lv_tableIn (off := 899) (tgt := 931) hx hb dL_law_32 (by decide) (by decide) (by decide) (by decide) ?_
    exact lo_circles p_circles C0 hL hi hce hsl _ _ _ _ _ _ _ _ _ _ _ _ hI hP hD hS hl kk1
  by_cases c28 : k = 28
  · rw [c28]
    refine lv_tableIn (off := 912) (tgt := 944) hx hb dL_law_32 (by decide) (by decide) (by decide) (by decide) ?_
    exact lo_wouldGrow p_wouldGrow C0 hL hi hce hsl _ _ _ _ _ _ _ _ _ _ _ _ hI hP hD hS hl kk1
  by_cases c29 : k = 29
  · rw [c29]
    refine lv_tableIn (off := 935) (tgt := 967) hx hb dL_law_32 (by decide) (by decide) (by decide) (by decide) ?_
    exact lo_kindest p_kindest C0 hL hi hce hsl _ _ _ _ _ _ _ _ _ _ _ _ hI hP hD hS hl kk1
  omega
set_option maxHeartbeats 4000000 in
set_option maxRecDepth 100000 in
theorem lw_sw3 {p : Program} {l : Launch} {e : Env} {s : State} {m : MethodId} {below : List Frame} {meth : Method} {c : Code} {b L : Nat} {xs : Nat → Int32} {D : va_G} {G : Nat → ClassId} {X Q : Nat → Nat → Nat} {q0 : Nat → Nat} (C0 : LwB p l s m c b L xs D G X) (hL : L ≤ 2048) {i N : Nat} (hi : i + 3 < L) (hN : N < 900000) {cells slots : Nat} (hce : cells + 49 ≤ 600000) (hsl : slots + 3920 ≤ 7302250) {Z : State → Prop} {vmn vho vdr vsa vhi : SV} {vhh : Nat → SV} {vre vrf vpa vod : SV} {vsb : Nat × SV} {v : SV} {bb : Nat} {H : Heap} {locs : List Loc} (hI : IV N vmn vho vdr vsa vhi vhh vre vrf vpa vod vsb v) (hP : va_P D vwCl (kAll G Q bb vmn vho vdr vsa vhi vhh vre vrf vpa vod vsb ++ kModel G q0 v) H) (hD : va_D (fun q : Nat => s.heap.size ≤ q) (kAll G Q bb vmn vho vdr vsa vhi vhh vre vrf vpa vod vsb ++ kModel G q0 v)) (hS : va_S (fun q : Nat => s.heap.size ≤ q) s.heap H locs) {ls : Array Slot} (hl : lv_has ls 8 [(0, .ref b), (1, .ref (Q 0 0)), (2, .ref (q0 0)), (3, .int (nI i))]) {k : Nat} (h1 : 30 ≤ k) (h2 : k < 41)
    (kk : LwK p l e s m below meth c b D G Q q0 (IV (N + 20)) i (cells + 49) (slots + 3920) Z) : W p l e room_1 s m #[Value.ref b] below meth c H locs cells slots Z (F0 m 32 ls [.int (nI k)]) := by
  obtain ⟨hx, hb, -⟩ := id C0
  have kk1 := LwK_mono kk (show N + 1 ≤ N + 20 by omega)
  by_cases c30 : k = 30
  · rw [c30]
    refine lv_tableIn (off := 958) (tgt := 990) hx hb dL_law_32 (by decide) (by decide) (by decide) (by decide) ?_
    exact lo_worst p_worst C0 hL hi hce hsl _ _ _ _ _ _ _ _ _ _ _ _ hI hP hD hS hl kk1
  by_cases c31 : k = 31
  · rw [c31]
    refine lv_tableIn (off := 981) (tgt := 1013) hx hb dL_law_32 (by decide) (by decide) (by decide) (by decide) ?_
    exact lo_write p_write C0 hL hi hce hsl _ _ _ _ _ _ _ _ _ _ _ _ hI hP hD hS hl kk1
  by_cases c32 : k = 32
  · rw [c32]
    refine lv_tableIn (off := 1004) (tgt := 1036) hx hb dL_law_32 (by decide) (by decide) (by decide) (by decide) ?_
    exact lo_writeLines p_writeLines C0 hL hi hce hsl _ _ _ _ _ _ _ _ _ _ _ _ hI hP hD hS hl kk1
  by_cases c33 : k = 33
  · rw [c33]
    refine lv_tableIn (off := 1017) (tgt := 1049) hx hb dL_law_32 (by decide) (by decide) (by decide) (by decide) ?_
    exact lo_written p_written C0 hL hi hce hsl _ _ _ _ _ _ _ _ _ _ _ _ hI hP hD hS hl kk1
  by_cases c34 : k = 34
  · rw [c34]
    refine lv_tableIn (off := 1040) (tgt := 1072) hx hb dL_law_32 (by decide) (by decide) (by decide) (by decide) ?_
    exact lo_isWell p_isWell C0 hL hi hce hsl _ _ _ _ _ _ _ _ _ _ _ _ hI hP hD hS hl kk1
  by_cases c35 : k = 35
  · rw [c35]
    refine lv_tableIn (off := 1053) (tgt := 1085) hx hb dL_law_32 (by decide) (by decide) (by decide) (by decide) ?_
    exact lo_meanPlants p_meanPlants C0 hL hi hce hsl _ _ _ _ _ _ _ _ _ _ _ _ hI hP hD hS hl kk1
  by_cases c36 : k = 36
  · rw [c36]
    refine lv_tableIn (off := 1094) (tgt := 1126) hx hb dL_law_32 (by decide) (by decide) (by decide) (by decide) ?_
    exact lo_homeShare p_homeShare C0 hL hi hce hsl _ _ _ _ _ _ _ _ _ _ _ _ hI hP hD hS hl kk1
  by_cases c37 : k = 37
  · rw [c37]
    refine lv_tableIn (off := 1137) (tgt := 1169) hx hb dL_law_32 (by decide) (by decide) (by decide) (by decide) ?_
    exact lo_account p_account C0 hL hi hce hsl _ _ _ _ _ _ _ _ _ _ _ _ hI hP hD hS hl kk1
  by_cases c38 : k = 38
  · rw [c38]
    refine lv_tableIn (off := 1160) (tgt := 1192) hx hb dL_law_32 (by decide) (by decide) (by decide) (by decide) ?_
    exact lo_undo p_undo C0 hL hi hce hsl _ _ _ _ _ _ _ _ _ _ _ _ hI hP hD hS hl kk1
  by_cases c39 : k = 39
  · rw [c39]
    refine lv_tableIn (off := 1173) (tgt := 1205) hx hb dL_law_32 (by decide) (by decide) (by decide) (by decide) ?_
    exact lo_save p_save C0 hL hi hce hsl _ _ _ _ _ _ _ _ _ _ _ _ hI hP hD hS hl kk1
  by_cases c40 : k = 40
  · rw [c40]
    refine lv_tableIn (off := 1186) (tgt := 1218) hx hb dL_law_32 (by decide) (by decide) (by decide) (by decide) ?_
    exact lo_restore p_restore C0 hL hi hce hsl _ _ _ _ _ _ _ _ _ _ _ _ hI hP hD hS hl kk1
  omega
set_option maxHeartbeats 4000000 in
set_option maxRecDepth 100000 in
theorem lw_sw {p : Program} {l : Launch} {e : Env} {s : State} {m : MethodId} {below : List Frame} {meth : Method} {c : Code} {b L : Nat} {xs : Nat → Int32} {D : va_G} {G : Nat → ClassId} {X Q : Nat → Nat → Nat} {q0 : Nat → Nat} (C0 : LwB p l s m c b L xs D G X) (hL : L ≤ 2048) {i N : Nat} (hi : i + 3 < L) (hN : N < 900000) {cells slots : Nat} (hce : cells + 49 ≤ 600000) (hsl : slots + 3920 ≤ 7302250) {Z : State → Prop} {vmn vho vdr vsa vhi : SV} {vhh : Nat → SV} {vre vrf vpa vod : SV} {vsb : Nat × SV} {v : SV} {bb : Nat} {H : Heap} {locs : List Loc} (hI : IV N vmn vho vdr vsa vhi vhh vre vrf vpa vod vsb v) (hP : va_P D vwCl (kAll G Q bb vmn vho vdr vsa vhi vhh vre vrf vpa vod vsb ++ kModel G q0 v) H) (hD : va_D (fun q : Nat => s.heap.size ≤ q) (kAll G Q bb vmn vho vdr vsa vhi vhh vre vrf vpa vod vsb ++ kModel G q0 v)) (hS : va_S (fun q : Nat => s.heap.size ≤ q) s.heap H locs) {ls : Array Slot} (hl : lv_has ls 8 [(0, .ref b), (1, .ref (Q 0 0)), (2, .ref (q0 0)), (3, .int (nI i))]) {k : Nat} (h2 : k < 64)
    (kk : LwK p l e s m below meth c b D G Q q0 (IV (N + 20)) i (cells + 49) (slots + 3920) Z) : W p l e room_1 s m #[Value.ref b] below meth c H locs cells slots Z (F0 m 32 ls [.int (nI k)]) := by
  rcases Nat.lt_or_ge k 10 with q | q
  · exact lw_sw0 C0 hL hi hN hce hsl hI hP hD hS hl (Nat.zero_le k) q kk
  rcases Nat.lt_or_ge k 20 with q2 | q2
  · exact lw_sw1 C0 hL hi hN hce hsl hI hP hD hS hl q q2 kk
  rcases Nat.lt_or_ge k 30 with q3 | q3
  · exact lw_sw2 C0 hL hi hN hce hsl hI hP hD hS hl q2 q3 kk
  rcases Nat.lt_or_ge k 41 with q4 | q4
  · exact lw_sw3 C0 hL hi hN hce hsl hI hP hD hS hl q3 q4 kk
  obtain ⟨hx, hb, -⟩ := id C0
  refine lv_tableOut (tgt := 1231) hx hb dL_law_32 (Or.inr (by rw [nI_toInt (by omega)]; omega)) (by decide) ?_
  refine W.widen (k := cells + 49) (n := slots + 3920) (by omega) (by omega) ?_
  exact kk vmn vho vdr vsa vhi vhh vre vrf vpa vod vsb v bb H locs (IV_le hI (by omega)) hP hD hS ls hl
set_option maxHeartbeats 4000000 in
set_option maxRecDepth 100000 in
/-- THE LAW'S LOOP -/
theorem law_loop {p : Program} {l : Launch} {e : Env} {s : State} {m : MethodId} {below : List Frame} {meth : Method} {c : Code} {b L : Nat} {xs : Nat → Int32} {D : va_G} {G : Nat → ClassId} {X Q : Nat → Nat → Nat} {q0 : Nat → Nat} (hL : L ≤ 2048) (C0 : LwB p l s m c b L xs D G X) (hr : meth.sig.returnType = ret) (hlocks : meth.locks = false) :
    ∀ (n i N cells slots : Nat), i ≤ L → L < i + 4 * n → N + 20 * n ≤ 900000 → cells + 49 * n ≤ 600000 → slots + 3920 * n ≤ 7302250 → ∀ (vmn vho vdr vsa vhi : SV) (vhh : Nat → SV) (vre vrf vpa vod : SV) (vsb : Nat × SV) (v : SV) (bb : Nat) (H : Heap) (locs : List Loc), IV N vmn vho vdr vsa vhi vhh vre vrf vpa vod vsb v → va_P D vwCl (kAll G Q bb vmn vho vdr vsa vhi vhh vre vrf vpa vod vsb ++ kModel G q0 v) H → va_D (fun q : Nat => s.heap.size ≤ q) (kAll G Q bb vmn vho vdr vsa vhi vhh vre vrf vpa vod vsb ++ kModel G q0 v) → va_S (fun q : Nat => s.heap.size ≤ q) s.heap H locs → ∀ ls : Array Slot, lv_has ls 8 [(0, .ref b), (1, .ref (Q 0 0)), (2, .ref (q0 0)), (3, .int (nI i))] → W p l e room_1 s m #[Value.ref b] below meth c H locs cells slots (lw_Z below #[Value.ref b] s) (F0 m 18 ls []) := by
  intro n
  induction n with
  | zero => intro i N cells slots h1 h2; exact absurd h2 (by omega)
  | succ n ih =>
    intro i N cells slots h1 h2 h3 h4 h5 vmn vho vdr vsa vhi vhh vre vrf vpa vod vsb v bb H locs hI hP hD hS ls hl
    obtain ⟨hx, hb, hml, hown, hts, hX, hbl, hN, hK, hJ⟩ := id C0
    have hbA : ¬ (fun q : Nat => s.heap.size ≤ q) b := Nat.not_le.mpr hbl
    refine lv_iload_n hx hb dL_law_18 rfl (lv_at hl 3 rfl) ?_
    refine lv_aload_n hx hb dL_law_19 rfl (lv_at hl 0 rfl) ?_
    refine va_slen hx hb hX hbl hbA hS dL_law_20 ?_
    refine lv_iconst (v := 4) hx hb dL_law_21 (by decide) ?_
    refine lv_isub hx hb dL_law_22 ?_
    refine lv_icmp_gt (tgt := 1237) hx hb dL_law_23 (by decide) (fun cc => ?_) (fun cc => ?_)
    · refine lv_iconst (v := 1) hx hb dL_law_1237 (by decide) ?_
      refine va_forget (fun q hq => hS.2.2 q hq) ?_
      refine W.widen (k := 600000) (n := 7302250) (by omega) (by omega) ?_
      refine W.base ?_
      exact lw_ret (Drawn.sameBut.refl s.drawn lw_cs) hx hb hr hlocks dL_law_1238
    · have hlt : i + 3 < L := lw_more hL h1 cc
      have h0 : vp_in (nI i) L := vp_in_nI (by omega) (by omega)
      refine lv_aload_n hx hb dL_law_26 rfl (lv_at hl 0 rfl) ?_
      refine lv_iload_n hx hb dL_law_27 rfl (lv_at hl 3 rfl) ?_
      refine va_sld hx hb hX hbl hbA hS h0 dL_law_28 ?_
      refine lv_bipush (v := 63) hx hb dL_law_29 (by decide) ?_
      refine lv_iand hx hb dL_law_31 ?_
      obtain ⟨k, hk, ek⟩ := lw_63 (xs (nI i).toNatClampNeg)
      rw [ek]
      refine lw_sw C0 hL hlt (by omega) (by omega) (by omega) hI hP hD hS hl hk ?_
      intro vmn vho vdr vsa vhi vhh vre vrf vpa vod vsb v bb H locs hI hP hD hS ls hl
      refine lv_iinc (v := nI (i + 4)) (lv' := [(3, .int (nI (i + 4))), (0, .ref b), (1, .ref (Q 0 0)), (2, .ref (q0 0))]) hx hb dL_law_1231 hl (k := 3) rfl (by rw [show Int32.ofInt 4 = nI 4 by decide]; exact nI_add i 4) (by decide) rfl (fun ls hl => ?_)
      refine lv_goto (tgt := 18) hx hb dL_law_1234 (by decide) ?_
      exact ih (i + 4) (N + 20) (cells + 49) (slots + 3920) (by omega) (by omega) (by omega) (by omega) (by omega) vmn vho vdr vsa vhi vhh vre vrf vpa vod vsb v bb H locs hI hP hD hS ls (lv_sub hl [1, 2, 3, 0] rfl)
theorem lw_i12 : Cond.classLink RL 7 RX12 ∈ wsL_lawB ∧ Cond.instantiable RX12 11 ∈ wsL_lawB ∧ Cond.initialized RX12 ∈ wsL_lawB ∧ Cond.classLink RL 10 RX13 ∈ wsL_lawB ∧ Cond.instantiable RX13 27 ∈ wsL_lawB ∧ Cond.initialized RX13 ∈ wsL_lawB ∧ Cond.methodLink RL 9 yX12_init ∈ wsL_lawB ∧ Cond.instanceMethod yX12_init ∈ wsL_lawB ∧ Cond.methodLink RL 12 yX13_init ∈ wsL_lawB ∧ Cond.instanceMethod yX13_init ∈ wsL_lawB := by decide +kernel
set_option maxHeartbeats 4000000 in
set_option maxRecDepth 100000 in
/-- THE LAW, from its entry -/
theorem whole_start {p : Program} {e : Env} {s : State} {m : MethodId} {below : List Frame} {meth : Method} {c : Code} (l : Launch) (hflags : l.flags = flags0) {b L : Nat} {xs : Nat → Int32} (hL : L ≤ 2048) (C0 : lw_At p s m meth c b L xs) : W p l e room_1 s m #[Value.ref b] below meth c s.heap [] 0 0 (lw_Z below #[Value.ref b] s) (entryFrame m ([Value.ref b] : List Value).toArray 8) := by
  obtain ⟨hx, hb, hr, hml, hown, htb, hX, hbl, hlocks, hgv⟩ := id C0
  obtain ⟨D, G, hK⟩ := st_K htb
  obtain ⟨X, hJ⟩ := st_L htb hgv
  have hN := st_kN htb
  have hts : ∀ w ∈ wsL_lawB, w.before #[Value.ref b] s = true := fun w h => lw_htx htb w (wsL_lawB_in w h)
  have CL : LwB p l s m c b L xs D G X := ⟨hx, hb, hml, hown, hts, hX, hbl, hN, hK, hJ⟩
  obtain ⟨w1, w2, w3, w4, w5, w6, w7, w8, w9, w10⟩ := lw_i12
  obtain ⟨w, hw, -⟩ := x_fill 3 (n := 12) (by omega) (fun _ => 0)
  obtain ⟨v0, hv, -⟩ := m_clears vMo0
  have hI := iv_0 hw hv
  have hA : ∀ q : Nat, s.heap.size ≤ q → (fun q : Nat => s.heap.size ≤ q) q := fun _ h => h
  have hS : va_S (fun q : Nat => s.heap.size ≤ q) s.heap s.heap [] := va_S.rf
  have hP : va_P D vwCl [] s.heap := fun k q h => by simp at h
  have hD : va_D (fun q : Nat => s.heap.size ≤ q) [] := ⟨fun i j p q h => by simp at h, fun k q h => by simp at h⟩
  have hl := lv_entry ([.ref b]) (n := 8) (Nat.le_of_ble_eq_true rfl)
  rw [lg_entry_eq]
  generalize (lg_sl ([.ref b]) ++ List.replicate (8 - (lg_sl ([.ref b])).length) Slot.unset).toArray = ls at hl ⊢
  have hl : lv_has ls 8 [(0, .ref b)] := hl
  refine va_new (ci := 10) (fs := [.null, .null, .null, .int 0, .null, .null, .null, .null, .null, .null, .int 0]) (C := RX12) (T := TX12) (N := 11) hx hb hts inlX12 tyX12 tyX12_ok hown (hts _ w1) (hts _ w2) (hts _ w3) hK hP hD hS hA rfl (fun j hj => by rcases (show j = 0 ∨ j = 1 ∨ j = 2 ∨ j = 3 ∨ j = 4 ∨ j = 5 ∨ j = 6 ∨ j = 7 ∨ j = 8 ∨ j = 9 ∨ j = 10 by omega) with rfl | rfl | rfl | rfl | rfl | rfl | rfl | rfl | rfl | rfl | rfl <;> rfl) (Nat.le_of_ble_eq_true rfl) (Nat.le_of_ble_eq_true rfl) dL_law_0 (fun p1 H hP hD hS => ?_)
  have hP : va_P D vwCl ([] ++ [(p1, .inr (10, [.null, .null, .null, .int 0, .null, .null, .null, .null, .null, .null, .int 0]))]) H := hP
  have hD : va_D (fun q : Nat => s.heap.size ≤ q) ([] ++ [(p1, .inr (10, [.null, .null, .null, .int 0, .null, .null, .null, .null, .null, .null, .int 0]))]) := hD
  refine W.widen (k := 1) (n := 11) (by omega) (by omega) ?_
  refine lv_dup hx hb dL_law_3 rfl ?_
  refine k_IX (As := []) (rest := [.ref p1]) ⟨hx, hb, hml, hown, hts⟩ (c_X12_init l D G X p1 w hw _) (cwI 0 hts gL_law_X12_init rfl rfl rfl (hts _ w3) (hts _ w7) (hts _ w8) rfl (by decide +kernel) ⟨Nat.le_of_ble_eq_true rfl, Nat.le_of_ble_eq_true rfl⟩) hl.1 (Nat.le_of_ble_eq_true rfl) dL_law_4 ⟨Nat.le_of_ble_eq_true rfl, Nat.le_of_ble_eq_true rfl⟩ rfl (kL_bl X) (kL_pass hJ hS (k_freeB hD hS hA)) hN hK hP hD hS hA [0, 1, 2, 3] rfl (fun x H locs hP hD hS => ?_)
  refine lv_astore_n (lv' := [(1, .ref p1), (0, .ref b)]) hx hb dL_law_7 rfl hl (by decide) rfl (fun ls hl => ?_)
  obtain ⟨Q, hQ⟩ : ∃ Q : Nat → Nat → Nat, Q = fun i j => if i = 0 ∧ j = 0 then p1 else x.1 i j := ⟨_, rfl⟩
  have hQ0 : Q 0 0 = p1 := by rw [hQ]; rfl
  have hP : va_P D vwCl (kAll G Q x.2 vMn0 (vHo0 w) (vHo0 w) (vHo0 w) zSV (fun _ => vHo0 w) zSV vRf0 zSV zSV (16, zSV)) H := by rw [hQ]; exact hP
  have hD : va_D (fun q : Nat => s.heap.size ≤ q) (kAll G Q x.2 vMn0 (vHo0 w) (vHo0 w) (vHo0 w) zSV (fun _ => vHo0 w) zSV vRf0 zSV zSV (16, zSV)) := by rw [hQ]; exact hD
  refine va_new (ci := 11) (fs := [.null, .null, .null, .null, .null, .int 0, .int 0, .int 0, .int 0, .int 0, .int 0, .int 0, .int 0, .int 0, .null, .null, .null, .int 0, .null, .null, .null, .int 0, .int 0, .int 0, .int 0, .int 0, .int 0]) (C := RX13) (T := TX13) (N := 27) hx hb hts inlX13 tyX13 tyX13_ok hown (hts _ w4) (hts _ w5) (hts _ w6) hK hP hD hS hA rfl (fun j hj => by rcases (show j = 0 ∨ j = 1 ∨ j = 2 ∨ j = 3 ∨ j = 4 ∨ j = 5 ∨ j = 6 ∨ j = 7 ∨ j = 8 ∨ j = 9 ∨ j = 10 ∨ j = 11 ∨ j = 12 ∨ j = 13 ∨ j = 14 ∨ j = 15 ∨ j = 16 ∨ j = 17 ∨ j = 18 ∨ j = 19 ∨ j = 20 ∨ j = 21 ∨ j = 22 ∨ j = 23 ∨ j = 24 ∨ j = 25 ∨ j = 26 by omega) with rfl | rfl | rfl | rfl | rfl | rfl | rfl | rfl | rfl | rfl | rfl | rfl | rfl | rfl | rfl | rfl | rfl | rfl | rfl | rfl | rfl | rfl | rfl | rfl | rfl | rfl | rfl <;> rfl) (Nat.le_of_ble_eq_true rfl) (Nat.le_of_ble_eq_true rfl) dL_law_8 (fun p2 H hP hD hS => ?_)
  refine W.widen (k := 184) (n := 3012) (by omega) (by omega) ?_
  refine lv_dup hx hb dL_law_11 rfl ?_
  refine k_IX (As := []) (rest := [.ref p2]) ⟨hx, hb, hml, hown, hts⟩ (c_X13_init l D G p2 v0 hv _) (cwI 0 hts gL_law_X13_init rfl rfl rfl (hts _ w6) (hts _ w9) (hts _ w10) rfl (by decide +kernel) ⟨Nat.le_of_ble_eq_true rfl, Nat.le_of_ble_eq_true rfl⟩) hl.1 (Nat.le_of_ble_eq_true rfl) dL_law_12 ⟨Nat.le_of_ble_eq_true rfl, Nat.le_of_ble_eq_true rfl⟩ rfl kT_bl (fun _ _ _ => trivial) hN hK hP hD hS hA [0, 1, 2, 3] rfl (fun y H locs hP hD hS => ?_)
  refine lv_astore_n (lv' := [(2, .ref p2), (1, .ref p1), (0, .ref b)]) hx hb dL_law_15 rfl hl (by decide) rfl (fun ls hl => ?_)
  refine lv_iconst (v := 0) hx hb dL_law_16 (by decide) ?_
  refine lv_istore_n (lv' := [(3, .int 0), (2, .ref p2), (1, .ref p1), (0, .ref b)]) hx hb dL_law_17 rfl hl (by decide) rfl (fun ls hl => ?_)
  obtain ⟨q0, hq⟩ : ∃ q0 : Nat → Nat, q0 = fun i => if i = 0 then p2 else y i := ⟨_, rfl⟩
  have hq0 : q0 0 = p2 := by rw [hq]; rfl
  have hP : va_P D vwCl (kAll G Q x.2 vMn0 (vHo0 w) (vHo0 w) (vHo0 w) zSV (fun _ => vHo0 w) zSV vRf0 zSV zSV (16, zSV) ++ kModel G q0 v0) H := by rw [hq]; exact hP
  have hD : va_D (fun q : Nat => s.heap.size ≤ q) (kAll G Q x.2 vMn0 (vHo0 w) (vHo0 w) (vHo0 w) zSV (fun _ => vHo0 w) zSV vRf0 zSV zSV (16, zSV) ++ kModel G q0 v0) := by rw [hq]; exact hD
  refine W.widen (k := 195) (n := 6184) (by omega) (by omega) ?_
  exact law_loop hL CL hr hlocks 513 0 0 195 6184 (Nat.zero_le L) (by omega) (by omega) (by omega) (by omega) _ _ _ _ _ _ _ _ _ _ _ _ x.2 H locs hI hP hD hS ls (by rw [hQ0, hq0, nI_0]; exact lv_sub hl [3, 2, 1, 0] rfl)
