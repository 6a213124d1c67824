/-! Walks, laid by wip/whole/gen.py: for each method f_ (what it does to its world) and c_ (its contract). -/
set_option maxHeartbeats 4000000 in
set_option maxRecDepth 100000 in
theorem lo_cat {p : Program} {l : Launch} {e : Env} {s : State} {m : MethodId} {below : List Frame} {meth : Method} {c : Code} {b L : Nat} {xs : Nat → Int32} {D : va_G} {G : Nat → ClassId} {X Q : Nat → Nat → Nat} {q0 : Nat → Nat} {I J : TI} (hp : P_cat I J) (C0 : LwB p l s m c b L xs D G X) (hL : L ≤ 2048) {i : Nat} (hi : i + 3 < L) {cells slots : Nat} (hce : cells + 49 ≤ 600000) (hsl : slots + 3920 ≤ 7302250) {Z : State → Prop} {bb : Nat} (vmn : SV) (vho : SV) (vdr : SV) (vsa : SV) (vhi : SV) (vhh : (Nat → SV)) (vre : SV) (vrf : SV) (vpa : SV) (vod : SV) (vsb : (Nat × SV)) (v : SV) (hI : I vmn vho vdr vsa vhi vhh vre vrf vpa vod vsb v) {H : Heap} {locs : List Loc} (hP : va_P D vwCl (kAll G Q bb vmn vho vdr vsa vhi vhh vre vrf vpa vod vsb ++ kModel G q0 v) H) (hD : va_D (fun q : Nat => s.heap.size ≤ q) (kAll G Q bb vmn vho vdr vsa vhi vhh vre vrf vpa vod vsb ++ kModel G q0 v)) (hS : va_S (fun q : Nat => s.heap.size ≤ q) s.heap H locs) {ls : Array Slot} (hl : lv_has ls 8 [(0, .ref b), (1, .ref (Q 0 0)), (2, .ref (q0 0)), (3, .int (nI i))])
    (kk : LwK p l e s m below meth c b D G Q q0 J i (cells + 49) (slots + 3920) Z) : W p l e room_1 s m #[Value.ref b] below meth c H locs cells slots Z (F0 m 435 ls []) := by
  obtain ⟨hx, hb, hml, hown, hts, hX, hbl, hN, hK, hJ⟩ := C0
  have hA : ∀ q : Nat, s.heap.size ≤ q → (fun q : Nat => s.heap.size ≤ q) q := fun _ h => h
  have hbA : ¬ (fun q : Nat => s.heap.size ≤ q) b := Nat.not_le.mpr hbl
  have h1 : vp_in (nI i + 1) L := lw_in 1 (by decide) (by omega) hL
  obtain ⟨r, vho', vdr', vhi', vrf', vhh', v', e1, e3, hI'⟩ := hp vmn vho vdr vsa vhi vhh vre vrf vpa vod vsb v hI (xs (nI i + 1).toNatClampNeg)
  refine lv_aload_n hx hb dL_law_435 rfl (lv_at hl 1 rfl) ?_
  refine lv_aload_n hx hb dL_law_436 rfl (lv_at hl 0 rfl) ?_
  refine lv_iload_n hx hb dL_law_437 rfl (lv_at hl 3 rfl) ?_
  refine lv_iconst (v := 1) hx hb dL_law_438 (by decide) ?_
  refine lv_iadd hx hb dL_law_439 ?_
  refine va_sld hx hb hX hbl hbA hS h1 dL_law_440 ?_
  have hPb : va_P D vwCl ((kHouse G (Q 3) vsa ++ kReader G (Q 5) vre ++ kPaths G (Q 7) vpa ++ kOrder G (Q 8) vod ++ kSB G (Q 9 0) bb vsb ++ kModel G q0 v) ++ (kMain Q vmn ++ kHouse G (Q 1) vho ++ kHouse G (Q 2) vdr ++ kHist Q vhi ++ kRef G (Q 6) vrf ++ kHH G Q vhh)) H := by simp only [kAll, pP_app] at hP ⊢; simp only [hP, and_self]
  have hDb : va_D (fun q : Nat => s.heap.size ≤ q) ((kHouse G (Q 3) vsa ++ kReader G (Q 5) vre ++ kPaths G (Q 7) vpa ++ kOrder G (Q 8) vod ++ kSB G (Q 9 0) bb vsb ++ kModel G q0 v) ++ (kMain Q vmn ++ kHouse G (Q 1) vho ++ kHouse G (Q 2) vdr ++ kHist Q vhi ++ kRef G (Q 6) vrf ++ kHH G Q vhh)) := by simp only [kAll, pD_app, Dj_l, Dj_r] at hD ⊢; simp only [hD, and_self]
  refine k_VB (As := [.int (xs (nI i + 1).toNatClampNeg)]) (rest := []) ⟨hx, hb, hml, hown, hts⟩ (c_X12_cat l D G Q (xs (nI i + 1).toNatClampNeg) vmn vho vdr vhi vrf vhh _ _ _ _ _ _ e1 _) (cwV 1 hts gL_law_X12_cat rfl rfl rfl (by decide +kernel) ⟨Nat.le_of_ble_eq_true rfl, Nat.le_of_ble_eq_true rfl⟩) hl.1 (Nat.le_of_ble_eq_true rfl) dL_law_441 ⟨by show _ ≤ 600000; omega, by show _ ≤ 7302250; omega⟩ rfl kT_bl (fun _ _ _ => trivial) hN hK hPb hDb hS hA 0 10 rfl rfl rfl [0, 1, 2, 3] rfl (fun H locs hP hD hS => ?_)
  refine W.widen (k := cells + 49) (n := slots + 3920) (by omega) (by omega) ?_
  have hP : va_P D vwCl (kAll G Q bb vmn vho' vdr' vsa vhi' vhh' vre vrf' vpa vod vsb ++ kModel G q0 v) H := by simp only [kAll, pP_app] at hP ⊢; simp only [hP, and_self]
  have hD : va_D (fun q : Nat => s.heap.size ≤ q) (kAll G Q bb vmn vho' vdr' vsa vhi' vhh' vre vrf' vpa vod vsb ++ kModel G q0 v) := by simp only [kAll, pD_app, Dj_l, Dj_r] at hD ⊢; simp only [hD, and_self]
  refine lv_aload_n hx hb dL_law_444 rfl (lv_at hl 2 rfl) ?_
  refine lv_aload_n hx hb dL_law_445 rfl (lv_at hl 0 rfl) ?_
  refine lv_iload_n hx hb dL_law_446 rfl (lv_at hl 3 rfl) ?_
  refine lv_iconst (v := 1) hx hb dL_law_447 (by decide) ?_
  refine lv_iadd hx hb dL_law_448 ?_
  refine va_sld hx hb hX hbl hbA hS h1 dL_law_449 ?_
  refine k_VB (As := [.int (xs (nI i + 1).toNatClampNeg)]) (rest := [.int r]) ⟨hx, hb, hml, hown, hts⟩ (c_X13_cat l D G q0 (xs (nI i + 1).toNatClampNeg) v _ _ e3 _) (cwV 1 hts gL_law_X13_cat rfl rfl rfl (by decide +kernel) ⟨Nat.le_of_ble_eq_true rfl, Nat.le_of_ble_eq_true rfl⟩) hl.1 (Nat.le_of_ble_eq_true rfl) dL_law_450 ⟨by show _ ≤ 600000; omega, by show _ ≤ 7302250; omega⟩ rfl kT_bl (fun _ _ _ => trivial) hN hK hP hD hS hA 0 11 rfl rfl rfl [0, 1, 2, 3] rfl (fun H locs hP hD hS => ?_)
  refine lv_icmp_eq (tgt := 1231) hx hb dL_law_453 (by decide) (fun _ => ?_) (fun cc => absurd rfl cc)
  exact kk vmn vho' vdr' vsa vhi' vhh' vre vrf' vpa vod vsb v' bb H locs hI' hP hD hS ls hl
set_option maxHeartbeats 4000000 in
set_option maxRecDepth 100000 in
theorem lo_swap {p : Program} {l : Launch} {e : Env} {s : State} {m : MethodId} {below : List Frame} {meth : Method} {c : Code} {b L : Nat} {xs : Nat → Int32} {D : va_G} {G : Nat → ClassId} {X Q : Nat → Nat → Nat} {q0 : Nat → Nat} {I J : TI} (hp : P_swap I J) (C0 : LwB p l s m c b L xs D G X) (hL : L ≤ 2048) {i : Nat} (hi : i + 3 < L) {cells slots : Nat} (hce : cells + 49 ≤ 600000) (hsl : slots + 3920 ≤ 7302250) {Z : State → Prop} {bb : Nat} (vmn : SV) (vho : SV) (vdr : SV) (vsa : SV) (vhi : SV) (vhh : (Nat → SV)) (vre : SV) (vrf : SV) (vpa : SV) (vod : SV) (vsb : (Nat × SV)) (v : SV) (hI : I vmn vho vdr vsa vhi vhh vre vrf vpa vod vsb v) {H : Heap} {locs : List Loc} (hP : va_P D vwCl (kAll G Q bb vmn vho vdr vsa vhi vhh vre vrf vpa vod vsb ++ kModel G q0 v) H) (hD : va_D (fun q : Nat => s.heap.size ≤ q) (kAll G Q bb vmn vho vdr vsa vhi vhh vre vrf vpa vod vsb ++ kModel G q0 v)) (hS : va_S (fun q : Nat => s.heap.size ≤ q) s.heap H locs) {ls : Array Slot} (hl : lv_has ls 8 [(0, .ref b), (1, .ref (Q 0 0)), (2, .ref (q0 0)), (3, .int (nI i))])
    (kk : LwK p l e s m below meth c b D G Q q0 J i (cells + 49) (slots + 3920) Z) : W p l e room_1 s m #[Value.ref b] below meth c H locs cells slots Z (F0 m 458 ls []) := by
  obtain ⟨hx, hb, hml, hown, hts, hX, hbl, hN, hK, hJ⟩ := C0
  have hA : ∀ q : Nat, s.heap.size ≤ q → (fun q : Nat => s.heap.size ≤ q) q := fun _ h => h
  have hbA : ¬ (fun q : Nat => s.heap.size ≤ q) b := Nat.not_le.mpr hbl
  have h1 : vp_in (nI i + 1) L := lw_in 1 (by decide) (by omega) hL
  have h2 : vp_in (nI i + 2) L := lw_in 2 (by decide) (by omega) hL
  obtain ⟨r, vho', vdr', vhi', vrf', vhh', v', e1, e3, hI'⟩ := hp vmn vho vdr vsa vhi vhh vre vrf vpa vod vsb v hI (xs (nI i + 1).toNatClampNeg) (xs (nI i + 2).toNatClampNeg)
  refine lv_aload_n hx hb dL_law_458 rfl (lv_at hl 1 rfl) ?_
  refine lv_aload_n hx hb dL_law_459 rfl (lv_at hl 0 rfl) ?_
  refine lv_iload_n hx hb dL_law_460 rfl (lv_at hl 3 rfl) ?_
  refine lv_iconst (v := 1) hx hb dL_law_461 (by decide) ?_
  refine lv_iadd hx hb dL_law_462 ?_
  refine va_sld hx hb hX hbl hbA hS h1 dL_law_463 ?_
  refine lv_aload_n hx hb dL_law_464 rfl (lv_at hl 0 rfl) ?_
  refine lv_iload_n hx hb dL_law_465 rfl (lv_at hl 3 rfl) ?_
  refine lv_iconst (v := 2) hx hb dL_law_466 (by decide) ?_
  refine lv_iadd hx hb dL_law_467 ?_
  refine va_sld hx hb hX hbl hbA hS h2 dL_law_468 ?_
  have hPb : va_P D vwCl ((kHouse G (Q 3) vsa ++ kReader G (Q 5) vre ++ kPaths G (Q 7) vpa ++ kOrder G (Q 8) vod ++ kSB G (Q 9 0) bb vsb ++ kModel G q0 v) ++ (kMain Q vmn ++ kHouse G (Q 1) vho ++ kHouse G (Q 2) vdr ++ kHist Q vhi ++ kRef G (Q 6) vrf ++ kHH G Q vhh)) H := by simp only [kAll, pP_app] at hP ⊢; simp only [hP, and_self]
  have hDb : va_D (fun q : Nat => s.heap.size ≤ q) ((kHouse G (Q 3) vsa ++ kReader G (Q 5) vre ++ kPaths G (Q 7) vpa ++ kOrder G (Q 8) vod ++ kSB G (Q 9 0) bb vsb ++ kModel G q0 v) ++ (kMain Q vmn ++ kHouse G (Q 1) vho ++ kHouse G (Q 2) vdr ++ kHist Q vhi ++ kRef G (Q 6) vrf ++ kHH G Q vhh)) := by simp only [kAll, pD_app, Dj_l, Dj_r] at hD ⊢; simp only [hD, and_self]
  refine k_VB (As := [.int (xs (nI i + 1).toNatClampNeg), .int (xs (nI i + 2).toNatClampNeg)]) (rest := []) ⟨hx, hb, hml, hown, hts⟩ (c_X12_swap l D G Q (xs (nI i + 1).toNatClampNeg) (xs (nI i + 2).toNatClampNeg) vmn vho vdr vhi vrf vhh _ _ _ _ _ _ e1 _) (cwV 2 hts gL_law_X12_swap rfl rfl rfl (by decide +kernel) ⟨Nat.le_of_ble_eq_true rfl, Nat.le_of_ble_eq_true rfl⟩) hl.1 (Nat.le_of_ble_eq_true rfl) dL_law_469 ⟨by show _ ≤ 600000; omega, by show _ ≤ 7302250; omega⟩ rfl kT_bl (fun _ _ _ => trivial) hN hK hPb hDb hS hA 0 10 rfl rfl rfl [0, 1, 2, 3] rfl (fun H locs hP hD hS => ?_)
  refine W.widen (k := cells + 49) (n := slots + 3920) (by omega) (by omega) ?_
  have hP : va_P D vwCl (kAll G Q bb vmn vho' vdr' vsa vhi' vhh' vre vrf' vpa vod vsb ++ kModel G q0 v) H := by simp only [kAll, pP_app] at hP ⊢; simp only [hP, and_self]
  have hD : va_D (fun q : Nat => s.heap.size ≤ q) (kAll G Q bb vmn vho' vdr' vsa vhi' vhh' vre vrf' vpa vod vsb ++ kModel G q0 v) := by simp only [kAll, pD_app, Dj_l, Dj_r] at hD ⊢; simp only [hD, and_self]
  refine lv_aload_n hx hb dL_law_472 rfl (lv_at hl 2 rfl) ?_
  refine lv_aload_n hx hb dL_law_473 rfl (lv_at hl 0 rfl) ?_
  refine lv_iload_n hx hb dL_law_474 rfl (lv_at hl 3 rfl) ?_
  refine lv_iconst (v := 1) hx hb dL_law_475 (by decide) ?_
  refine lv_iadd hx hb dL_law_476 ?_
  refine va_sld hx hb hX hbl hbA hS h1 dL_law_477 ?_
  refine lv_aload_n hx hb dL_law_478 rfl (lv_at hl 0 rfl) ?_
  refine lv_iload_n hx hb dL_law_479 rfl (lv_at hl 3 rfl) ?_
  refine lv_iconst (v := 2) hx hb dL_law_480 (by decide) ?_
  refine lv_iadd hx hb dL_law_481 ?_
  refine va_sld hx hb hX hbl hbA hS h2 dL_law_482 ?_
  refine k_VB (As := [.int (xs (nI i + 1).toNatClampNeg), .int (xs (nI i + 2).toNatClampNeg)]) (rest := [.int r]) ⟨hx, hb, hml, hown, hts⟩ (c_X13_swap l D G q0 (xs (nI i + 1).toNatClampNeg) (xs (nI i + 2).toNatClampNeg) v _ _ e3 _) (cwV 2 hts gL_law_X13_swap rfl rfl rfl (by decide +kernel) ⟨Nat.le_of_ble_eq_true rfl, Nat.le_of_ble_eq_true rfl⟩) hl.1 (Nat.le_of_ble_eq_true rfl) dL_law_483 ⟨by show _ ≤ 600000; omega, by show _ ≤ 7302250; omega⟩ rfl kT_bl (fun _ _ _ => trivial) hN hK hP hD hS hA 0 11 rfl rfl rfl [0, 1, 2, 3] rfl (fun H locs hP hD hS => ?_)
  refine lv_icmp_eq (tgt := 1231) hx hb dL_law_486 (by decide) (fun _ => ?_) (fun cc => absurd rfl cc)
  exact kk vmn vho' vdr' vsa vhi' vhh' vre vrf' vpa vod vsb v' bb H locs hI' hP hD hS ls hl
set_option maxHeartbeats 4000000 in
set_option maxRecDepth 100000 in
theorem lo_day {p : Program} {l : Launch} {e : Env} {s : State} {m : MethodId} {below : List Frame} {meth : Method} {c : Code} {b L : Nat} {xs : Nat → Int32} {D : va_G} {G : Nat → ClassId} {X Q : Nat → Nat → Nat} {q0 : Nat → Nat} {I J : TI} (hp : P_day I J) (C0 : LwB p l s m c b L xs D G X) (hL : L ≤ 2048) {i : Nat} (hi : i + 3 < L) {cells slots : Nat} (hce : cells + 49 ≤ 600000) (hsl : slots + 3920 ≤ 7302250) {Z : State → Prop} {bb : Nat} (vmn : SV) (vho : SV) (vdr : SV) (vsa : SV) (vhi : SV) (vhh : (Nat → SV)) (vre : SV) (vrf : SV) (vpa : SV) (vod : SV) (vsb : (Nat × SV)) (v : SV) (hI : I vmn vho vdr vsa vhi vhh vre vrf vpa vod vsb v) {H : Heap} {locs : List Loc} (hP : va_P D vwCl (kAll G Q bb vmn vho vdr vsa vhi vhh vre vrf vpa vod vsb ++ kModel G q0 v) H) (hD : va_D (fun q : Nat => s.heap.size ≤ q) (kAll G Q bb vmn vho vdr vsa vhi vhh vre vrf vpa vod vsb ++ kModel G q0 v)) (hS : va_S (fun q : Nat => s.heap.size ≤ q) s.heap H locs) {ls : Array Slot} (hl : lv_has ls 8 [(0, .ref b), (1, .ref (Q 0 0)), (2, .ref (q0 0)), (3, .int (nI i))])
    (kk : LwK p l e s m below meth c b D G Q q0 J i (cells + 49) (slots + 3920) Z) : W p l e room_1 s m #[Value.ref b] below meth c H locs cells slots Z (F0 m 491 ls []) := by
  obtain ⟨hx, hb, hml, hown, hts, hX, hbl, hN, hK, hJ⟩ := C0
  have hA : ∀ q : Nat, s.heap.size ≤ q → (fun q : Nat => s.heap.size ≤ q) q := fun _ h => h
  have hbA : ¬ (fun q : Nat => s.heap.size ≤ q) b := Nat.not_le.mpr hbl
  obtain ⟨r, vho', vdr', vhi', vhh', v', e1, e3, hI'⟩ := hp vmn vho vdr vsa vhi vhh vre vrf vpa vod vsb v hI ()
  refine lv_aload_n hx hb dL_law_491 rfl (lv_at hl 1 rfl) ?_
  have hPb : va_P D vwCl ((kHouse G (Q 3) vsa ++ kReader G (Q 5) vre ++ kRef G (Q 6) vrf ++ kPaths G (Q 7) vpa ++ kOrder G (Q 8) vod ++ kSB G (Q 9 0) bb vsb ++ kModel G q0 v) ++ (kMain Q vmn ++ kHouse G (Q 1) vho ++ kHouse G (Q 2) vdr ++ kHist Q vhi ++ kHH G Q vhh)) H := by simp only [kAll, pP_app] at hP ⊢; simp only [hP, and_self]
  have hDb : va_D (fun q : Nat => s.heap.size ≤ q) ((kHouse G (Q 3) vsa ++ kReader G (Q 5) vre ++ kRef G (Q 6) vrf ++ kPaths G (Q 7) vpa ++ kOrder G (Q 8) vod ++ kSB G (Q 9 0) bb vsb ++ kModel G q0 v) ++ (kMain Q vmn ++ kHouse G (Q 1) vho ++ kHouse G (Q 2) vdr ++ kHist Q vhi ++ kHH G Q vhh)) := by simp only [kAll, pD_app, Dj_l, Dj_r] at hD ⊢; simp only [hD, and_self]
  refine k_VB (As := []) (rest := []) ⟨hx, hb, hml, hown, hts⟩ (c_X12_day l D G Q  vmn vho vdr vhi vhh _ _ _ _ _ e1 _) (cwV 0 hts gL_law_X12_day rfl rfl rfl (by decide +kernel) ⟨Nat.le_of_ble_eq_true rfl, Nat.le_of_ble_eq_true rfl⟩) hl.1 (Nat.le_of_ble_eq_true rfl) dL_law_492 ⟨by show _ ≤ 600000; omega, by show _ ≤ 7302250; omega⟩ rfl kT_bl (fun _ _ _ => trivial) hN hK hPb hDb hS hA 0 10 rfl rfl rfl [0, 1, 2, 3] rfl (fun H locs hP hD hS => ?_)
  refine W.widen (k := cells + 49) (n := slots + 3920) (by omega) (by omega) ?_
  have hP : va_P D vwCl (kAll G Q bb vmn vho' vdr' vsa vhi' vhh' vre vrf vpa vod vsb ++ kModel G q0 v) H := by simp only [kAll, pP_app] at hP ⊢; simp only [hP, and_self]
  have hD : va_D (fun q : Nat => s.heap.size ≤ q) (kAll G Q bb vmn vho' vdr' vsa vhi' vhh' vre vrf vpa vod vsb ++ kModel G q0 v) := by simp only [kAll, pD_app, Dj_l, Dj_r] at hD ⊢; simp only [hD, and_self]
  refine lv_aload_n hx hb dL_law_495 rfl (lv_at hl 2 rfl) ?_
  refine k_VB (As := []) (rest := [.int r]) ⟨hx, hb, hml, hown, hts⟩ (c_X13_day l D G q0  v _ _ e3 _) (cwV 0 hts gL_law_X13_day rfl rfl rfl (by decide +kernel) ⟨Nat.le_of_ble_eq_true rfl, Nat.le_of_ble_eq_true rfl⟩) hl.1 (Nat.le_of_ble_eq_true rfl) dL_law_496 ⟨by show _ ≤ 600000; omega, by show _ ≤ 7302250; omega⟩ rfl kT_bl (fun _ _ _ => trivial) hN hK hP hD hS hA 0 11 rfl rfl rfl [0, 1, 2, 3] rfl (fun H locs hP hD hS => ?_)
  refine lv_icmp_eq (tgt := 1231) hx hb dL_law_499 (by decide) (fun _ => ?_) (fun cc => absurd rfl cc)
  exact kk vmn vho' vdr' vsa vhi' vhh' vre vrf vpa vod vsb v' bb H locs hI' hP hD hS ls hl
set_option maxHeartbeats 4000000 in
set_option maxRecDepth 100000 in
theorem lo_read {p : Program} {l : Launch} {e : Env} {s : State} {m : MethodId} {below : List Frame} {meth : Method} {c : Code} {b L : Nat} {xs : Nat → Int32} {D : va_G} {G : Nat → ClassId} {X Q : Nat → Nat → Nat} {q0 : Nat → Nat} {I J : TI} (hp : P_read I J) (C0 : LwB p l s m c b L xs D G X) (hL : L ≤ 2048) {i : Nat} (hi : i + 3 < L) {cells slots : Nat} (hce : cells + 49 ≤ 600000) (hsl : slots + 3920 ≤ 7302250) {Z : State → Prop} {bb : Nat} (vmn : SV) (vho : SV) (vdr : SV) (vsa : SV) (vhi : SV) (vhh : (Nat → SV)) (vre : SV) (vrf : SV) (vpa : SV) (vod : SV) (vsb : (Nat × SV)) (v : SV) (hI : I vmn vho vdr vsa vhi vhh vre vrf vpa vod vsb v) {H : Heap} {locs : List Loc} (hP : va_P D vwCl (kAll G Q bb vmn vho vdr vsa vhi vhh vre vrf vpa vod vsb ++ kModel G q0 v) H) (hD : va_D (fun q : Nat => s.heap.size ≤ q) (kAll G Q bb vmn vho vdr vsa vhi vhh vre vrf vpa vod vsb ++ kModel G q0 v)) (hS : va_S (fun q : Nat => s.heap.size ≤ q) s.heap H locs) {ls : Array Slot} (hl : lv_has ls 8 [(0, .ref b), (1, .ref (Q 0 0)), (2, .ref (q0 0)), (3, .int (nI i))])
    (kk : LwK p l e s m below meth c b D G Q q0 J i (cells + 49) (slots + 3920) Z) : W p l e room_1 s m #[Value.ref b] below meth c H locs cells slots Z (F0 m 504 ls []) := by
  obtain ⟨hx, hb, hml, hown, hts, hX, hbl, hN, hK, hJ⟩ := C0
  have hA : ∀ q : Nat, s.heap.size ≤ q → (fun q : Nat => s.heap.size ≤ q) q := fun _ h => h
  have hbA : ¬ (fun q : Nat => s.heap.size ≤ q) b := Nat.not_le.mpr hbl
  obtain ⟨r, vmn', vho', vdr', vhi', vre', vrf', vhh', v', e1, e3, hI'⟩ := hp vmn vho vdr vsa vhi vhh vre vrf vpa vod vsb v hI ()
  refine lv_aload_n hx hb dL_law_504 rfl (lv_at hl 1 rfl) ?_
  have hPb : va_P D vwCl ((kHouse G (Q 3) vsa ++ kPaths G (Q 7) vpa ++ kOrder G (Q 8) vod ++ kSB G (Q 9 0) bb vsb ++ kModel G q0 v) ++ (kMain Q vmn ++ kHouse G (Q 1) vho ++ kHouse G (Q 2) vdr ++ kHist Q vhi ++ kReader G (Q 5) vre ++ kRef G (Q 6) vrf ++ kHH G Q vhh)) H := by simp only [kAll, pP_app] at hP ⊢; simp only [hP, and_self]
  have hDb : va_D (fun q : Nat => s.heap.size ≤ q) ((kHouse G (Q 3) vsa ++ kPaths G (Q 7) vpa ++ kOrder G (Q 8) vod ++ kSB G (Q 9 0) bb vsb ++ kModel G q0 v) ++ (kMain Q vmn ++ kHouse G (Q 1) vho ++ kHouse G (Q 2) vdr ++ kHist Q vhi ++ kReader G (Q 5) vre ++ kRef G (Q 6) vrf ++ kHH G Q vhh)) := by simp only [kAll, pD_app, Dj_l, Dj_r] at hD ⊢; simp only [hD, and_self]
  refine k_VB (As := []) (rest := []) ⟨hx, hb, hml, hown, hts⟩ (c_X12_readB l D G X Q  vmn vho vdr vhi vre vrf vhh _ _ _ _ _ _ _ _ e1 _) (cwV 0 hts gL_law_X12_read rfl rfl rfl (by decide +kernel) ⟨Nat.le_of_ble_eq_true rfl, Nat.le_of_ble_eq_true rfl⟩) hl.1 (Nat.le_of_ble_eq_true rfl) dL_law_505 ⟨by show _ ≤ 600000; omega, by show _ ≤ 7302250; omega⟩ rfl (kY_bl X) (kY_pass hJ.1.1 hS (k_freeB hDb hS hA)) hN hK hPb hDb hS hA 0 10 rfl rfl rfl [0, 1, 2, 3] rfl (fun H locs hP hD hS => ?_)
  refine W.widen (k := cells + 49) (n := slots + 3920) (by omega) (by omega) ?_
  have hP : va_P D vwCl (kAll G Q bb vmn' vho' vdr' vsa vhi' vhh' vre' vrf' vpa vod vsb ++ kModel G q0 v) H := by simp only [kAll, pP_app] at hP ⊢; simp only [hP, and_self]
  have hD : va_D (fun q : Nat => s.heap.size ≤ q) (kAll G Q bb vmn' vho' vdr' vsa vhi' vhh' vre' vrf' vpa vod vsb ++ kModel G q0 v) := by simp only [kAll, pD_app, Dj_l, Dj_r] at hD ⊢; simp only [hD, and_self]
  refine lv_aload_n hx hb dL_law_508 rfl (lv_at hl 2 rfl) ?_
  refine k_VB (As := []) (rest := [.int r]) ⟨hx, hb, hml, hown, hts⟩ (c_X13_read l D G q0  v _ _ e3 _) (cwV 0 hts gL_law_X13_read rfl rfl rfl (by decide +kernel) ⟨Nat.le_of_ble_eq_true rfl, Nat.le_of_ble_eq_true rfl⟩) hl.1 (Nat.le_of_ble_eq_true rfl) dL_law_509 ⟨by show _ ≤ 600000; omega, by show _ ≤ 7302250; omega⟩ rfl kT_bl (fun _ _ _ => trivial) hN hK hP hD hS hA 0 11 rfl rfl rfl [0, 1, 2, 3] rfl (fun H locs hP hD hS => ?_)
  refine lv_icmp_eq (tgt := 1231) hx hb dL_law_512 (by decide) (fun _ => ?_) (fun cc => absurd rfl cc)
  exact kk vmn' vho' vdr' vsa vhi' vhh' vre' vrf' vpa vod vsb v' bb H locs hI' hP hD hS ls hl
set_option maxHeartbeats 4000000 in
set_option maxRecDepth 100000 in
theorem lo_fault {p : Program} {l : Launch} {e : Env} {s : State} {m : MethodId} {below : List Frame} {meth : Method} {c : Code} {b L : Nat} {xs : Nat → Int32} {D : va_G} {G : Nat → ClassId} {X Q : Nat → Nat → Nat} {q0 : Nat → Nat} {I J : TI} (hp : P_fault I J) (C0 : LwB p l s m c b L xs D G X) (hL : L ≤ 2048) {i : Nat} (hi : i + 3 < L) {cells slots : Nat} (hce : cells + 49 ≤ 600000) (hsl : slots + 3920 ≤ 7302250) {Z : State → Prop} {bb : Nat} (vmn : SV) (vho : SV) (vdr : SV) (vsa : SV) (vhi : SV) (vhh : (Nat → SV)) (vre : SV) (vrf : SV) (vpa : SV) (vod : SV) (vsb : (Nat × SV)) (v : SV) (hI : I vmn vho vdr vsa vhi vhh vre vrf vpa vod vsb v) {H : Heap} {locs : List Loc} (hP : va_P D vwCl (kAll G Q bb vmn vho vdr vsa vhi vhh vre vrf vpa vod vsb ++ kModel G q0 v) H) (hD : va_D (fun q : Nat => s.heap.size ≤ q) (kAll G Q bb vmn vho vdr vsa vhi vhh vre vrf vpa vod vsb ++ kModel G q0 v)) (hS : va_S (fun q : Nat => s.heap.size ≤ q) s.heap H locs) {ls : Array Slot} (hl : lv_has ls 8 [(0, .ref b), (1, .ref (Q 0 0)), (2, .ref (q0 0)), (3, .int (nI i))])
    (kk : LwK p l e s m below meth c b D G Q q0 J i (cells + 49) (slots + 3920) Z) : W p l e room_1 s m #[Value.ref b] below meth c H locs cells slots Z (F0 m 517 ls []) := by
  obtain ⟨hx, hb, hml, hown, hts, hX, hbl, hN, hK, hJ⟩ := C0
  have hA : ∀ q : Nat, s.heap.size ≤ q → (fun q : Nat => s.heap.size ≤ q) q := fun _ h => h
  have hbA : ¬ (fun q : Nat => s.heap.size ≤ q) b := Nat.not_le.mpr hbl
  obtain ⟨r, e1, e3, hI'⟩ := hp vmn vho vdr vsa vhi vhh vre vrf vpa vod vsb v hI ()
  refine lv_aload_n hx hb dL_law_517 rfl (lv_at hl 1 rfl) ?_
  have hPb : va_P D vwCl ((kHouse G (Q 1) vho ++ kHouse G (Q 2) vdr ++ kHouse G (Q 3) vsa ++ kHist Q vhi ++ kHH G Q vhh ++ kReader G (Q 5) vre ++ kRef G (Q 6) vrf ++ kPaths G (Q 7) vpa ++ kOrder G (Q 8) vod ++ kSB G (Q 9 0) bb vsb ++ kModel G q0 v) ++ (kMain Q vmn)) H := by simp only [kAll, pP_app] at hP ⊢; simp only [hP, and_self]
  have hDb : va_D (fun q : Nat => s.heap.size ≤ q) ((kHouse G (Q 1) vho ++ kHouse G (Q 2) vdr ++ kHouse G (Q 3) vsa ++ kHist Q vhi ++ kHH G Q vhh ++ kReader G (Q 5) vre ++ kRef G (Q 6) vrf ++ kPaths G (Q 7) vpa ++ kOrder G (Q 8) vod ++ kSB G (Q 9 0) bb vsb ++ kModel G q0 v) ++ (kMain Q vmn)) := by simp only [kAll, pD_app, Dj_l, Dj_r] at hD ⊢; simp only [hD, and_self]
  refine k_VB (As := []) (rest := []) ⟨hx, hb, hml, hown, hts⟩ (c_X12_fault l D G Q  vmn _ e1 _) (cwV 0 hts gL_law_X12_fault rfl rfl rfl (by decide +kernel) ⟨Nat.le_of_ble_eq_true rfl, Nat.le_of_ble_eq_true rfl⟩) hl.1 (Nat.le_of_ble_eq_true rfl) dL_law_518 ⟨by show _ ≤ 600000; omega, by show _ ≤ 7302250; omega⟩ rfl kT_bl (fun _ _ _ => trivial) hN hK hPb hDb hS hA 0 10 rfl rfl rfl [0, 1, 2, 3] rfl (fun H locs hP hD hS => ?_)
  refine W.widen (k := cells + 49) (n := slots + 3920) (by omega) (by omega) ?_
  have hP : va_P D vwCl (kAll G Q bb vmn vho vdr vsa vhi vhh vre vrf vpa vod vsb ++ kModel G q0 v) H := by simp only [kAll, pP_app] at hP ⊢; simp only [hP, and_self]
  have hD : va_D (fun q : Nat => s.heap.size ≤ q) (kAll G Q bb vmn vho vdr vsa vhi vhh vre vrf vpa vod vsb ++ kModel G q0 v) := by simp only [kAll, pD_app, Dj_l, Dj_r] at hD ⊢; simp only [hD, and_self]
  refine lv_aload_n hx hb dL_law_521 rfl (lv_at hl 2 rfl) ?_
  refine k_VB (As := []) (rest := [.int r]) ⟨hx, hb, hml, hown, hts⟩ (c_X13_fault l D G q0  v _ e3 _) (cwV 0 hts gL_law_X13_fault rfl rfl rfl (by decide +kernel) ⟨Nat.le_of_ble_eq_true rfl, Nat.le_of_ble_eq_true rfl⟩) hl.1 (Nat.le_of_ble_eq_true rfl) dL_law_522 ⟨by show _ ≤ 600000; omega, by show _ ≤ 7302250; omega⟩ rfl kT_bl (fun _ _ _ => trivial) hN hK hP hD hS hA 0 11 rfl rfl rfl [0, 1, 2, 3] rfl (fun H locs hP hD hS => ?_)
  refine lv_icmp_eq (tgt := 1231) hx hb dL_law_525 (by decide) (fun _ => ?_) (fun cc => absurd rfl cc)
  exact kk vmn vho vdr vsa vhi vhh vre vrf vpa vod vsb v bb H locs hI' hP hD hS ls hl
set_option maxHeartbeats 4000000 in
set_option maxRecDepth 100000 in
theorem lo_reason {p : Program} {l : Launch} {e : Env} {s : State} {m : MethodId} {below : List Frame} {meth : Method} {c : Code} {b L : Nat} {xs : Nat → Int32} {D : va_G} {G : Nat → ClassId} {X Q : Nat → Nat → Nat} {q0 : Nat → Nat} {I J : TI} (hp : P_reason I J) (C0 : LwB p l s m c b L xs D G X) (hL : L ≤ 2048) {i : Nat} (hi : i + 3 < L) {cells slots : Nat} (hce : cells + 49 ≤ 600000) (hsl : slots + 3920 ≤ 7302250) {Z : State → Prop} {bb : Nat} (vmn : SV) (vho : SV) (vdr : SV) (vsa : SV) (vhi : SV) (vhh : (Nat → SV)) (vre : SV) (vrf : SV) (vpa : SV) (vod : SV) (vsb : (Nat × SV)) (v : SV) (hI : I vmn vho vdr vsa vhi vhh vre vrf vpa vod vsb v) {H : Heap} {locs : List Loc} (hP : va_P D vwCl (kAll G Q bb vmn vho vdr vsa vhi vhh vre vrf vpa vod vsb ++ kModel G q0 v) H) (hD : va_D (fun q : Nat => s.heap.size ≤ q) (kAll G Q bb vmn vho vdr vsa vhi vhh vre vrf vpa vod vsb ++ kModel G q0 v)) (hS : va_S (fun q : Nat => s.heap.size ≤ q) s.heap H locs) {ls : Array Slot} (hl : lv_has ls 8 [(0, .ref b), (1, .ref (Q 0 0)), (2, .ref (q0 0)), (3, .int (nI i))])
    (kk : LwK p l e s m below meth c b D G Q q0 J i (cells + 49) (slots + 3920) Z) : W p l e room_1 s m #[Value.ref b] below meth c H locs cells slots Z (F0 m 530 ls []) := by
  obtain ⟨hx, hb, hml, hown, hts, hX, hbl, hN, hK, hJ⟩ := C0
  have hA : ∀ q : Nat, s.heap.size ≤ q → (fun q : Nat => s.heap.size ≤ q) q := fun _ h => h
  have hbA : ¬ (fun q : Nat => s.heap.size ≤ q) b := Nat.not_le.mpr hbl
  have h1 : vp_in (nI i + 1) L := lw_in 1 (by decide) (by omega) hL
  have h2 : vp_in (nI i + 2) L := lw_in 2 (by decide) (by omega) hL
  obtain ⟨a2, e2, ha2⟩ : ∃ a2 : Int32, (a2 = if (xs (nI i + 2).toNatClampNeg) = 0 then 0 else 1) ∧ (a2 = 0 ∨ a2 = 1) := by
    by_cases h : (xs (nI i + 2).toNatClampNeg) = 0
    · exact ⟨0, by rw [if_pos h], Or.inl rfl⟩
    · exact ⟨1, by rw [if_neg h], Or.inr rfl⟩
  obtain ⟨r, e1, e3, hI'⟩ := hp vmn vho vdr vsa vhi vhh vre vrf vpa vod vsb v hI (xs (nI i + 1).toNatClampNeg) a2 ha2
  refine lv_aload_n hx hb dL_law_530 rfl (lv_at hl 1 rfl) ?_
  refine lv_aload_n hx hb dL_law_531 rfl (lv_at hl 0 rfl) ?_
  refine lv_iload_n hx hb dL_law_532 rfl (lv_at hl 3 rfl) ?_
  refine lv_iconst (v := 1) hx hb dL_law_533 (by decide) ?_
  refine lv_iadd hx hb dL_law_534 ?_
  refine va_sld hx hb hX hbl hbA hS h1 dL_law_535 ?_
  refine lv_aload_n hx hb dL_law_536 rfl (lv_at hl 0 rfl) ?_
  refine lv_iload_n hx hb dL_law_537 rfl (lv_at hl 3 rfl) ?_
  refine lv_iconst (v := 2) hx hb dL_law_538 (by decide) ?_
  refine lv_iadd hx hb dL_law_539 ?_
  refine va_sld hx hb hX hbl hbA hS h2 dL_law_540 ?_
  have key0 : W p l e room_1 s m #[Value.ref b] below meth c H locs cells slots Z (F0 m 549 ls [.int a2, .int (xs (nI i + 1).toNatClampNeg), .ref (Q 0 0)]) → W p l e room_1 s m #[Value.ref b] below meth c H locs cells slots Z (F0 m 541 ls [.int (xs (nI i + 2).toNatClampNeg), .int (xs (nI i + 1).toNatClampNeg), .ref (Q 0 0)]) := by
    intro kz
    refine lv_if_eq (tgt := 548) hx hb dL_law_541 (by decide) (fun cc => ?_) (fun cc => ?_)
    · refine lv_iconst (v := 0) hx hb dL_law_548 (by decide) ?_
      rw [if_pos cc] at e2
      rw [e2] at kz
      exact kz
    · refine lv_iconst (v := 1) hx hb dL_law_544 (by decide) ?_
      refine lv_goto (tgt := 549) hx hb dL_law_545 (by decide) ?_
      rw [if_neg cc] at e2
      rw [e2] at kz
      exact kz
  refine key0 ?_
  have hPb : va_P D vwCl ((kHouse G (Q 1) vho ++ kHouse G (Q 2) vdr ++ kHouse G (Q 3) vsa ++ kHist Q vhi ++ kHH G Q vhh ++ kReader G (Q 5) vre ++ kPaths G (Q 7) vpa ++ kOrder G (Q 8) vod ++ kSB G (Q 9 0) bb vsb ++ kModel G q0 v) ++ (kMain Q vmn ++ kRef G (Q 6) vrf)) H := by simp only [kAll, pP_app] at hP ⊢; simp only [hP, and_self]
  have hDb : va_D (fun q : Nat => s.heap.size ≤ q) ((kHouse G (Q 1) vho ++ kHouse G (Q 2) vdr ++ kHouse G (Q 3) vsa ++ kHist Q vhi ++ kHH G Q vhh ++ kReader G (Q 5) vre ++ kPaths G (Q 7) vpa ++ kOrder G (Q 8) vod ++ kSB G (Q 9 0) bb vsb ++ kModel G q0 v) ++ (kMain Q vmn ++ kRef G (Q 6) vrf)) := by simp only [kAll, pD_app, Dj_l, Dj_r] at hD ⊢; simp only [hD, and_self]
  refine k_VB (As := [.int (xs (nI i + 1).toNatClampNeg), .int a2]) (rest := []) ⟨hx, hb, hml, hown, hts⟩ (c_X12_reason l D G Q (xs (nI i + 1).toNatClampNeg) a2 vmn vrf _ e1 _) (cwV 2 hts gL_law_X12_reason rfl rfl rfl (by decide +kernel) ⟨Nat.le_of_ble_eq_true rfl, Nat.le_of_ble_eq_true rfl⟩) hl.1 (Nat.le_of_ble_eq_true rfl) dL_law_549 ⟨by show _ ≤ 600000; omega, by show _ ≤ 7302250; omega⟩ rfl kT_bl (fun _ _ _ => trivial) hN hK hPb hDb hS hA 0 10 rfl rfl rfl [0, 1, 2, 3] rfl (fun H locs hP hD hS => ?_)
  refine W.widen (k := cells + 49) (n := slots + 3920) (by omega) (by omega) ?_
  have hP : va_P D vwCl (kAll G Q bb vmn vho vdr vsa vhi vhh vre vrf vpa vod vsb ++ kModel G q0 v) H := by simp only [kAll, pP_app] at hP ⊢; simp only [hP, and_self]
  have hD : va_D (fun q : Nat => s.heap.size ≤ q) (kAll G Q bb vmn vho vdr vsa vhi vhh vre vrf vpa vod vsb ++ kModel G q0 v) := by simp only [kAll, pD_app, Dj_l, Dj_r] at hD ⊢; simp only [hD, and_self]
  refine lv_aload_n hx hb dL_law_552 rfl (lv_at hl 2 rfl) ?_
  refine lv_aload_n hx hb dL_law_553 rfl (lv_at hl 0 rfl) ?_
  refine lv_iload_n hx hb dL_law_554 rfl (lv_at hl 3 rfl) ?_
  refine lv_iconst (v := 1) hx hb dL_law_555 (by decide) ?_
  refine lv_iadd hx hb dL_law_556 ?_
  refine va_sld hx hb hX hbl hbA hS h1 dL_law_557 ?_
  refine lv_aload_n hx hb dL_law_558 rfl (lv_at hl 0 rfl) ?_
  refine lv_iload_n hx hb dL_law_559 rfl (lv_at hl 3 rfl) ?_
  refine lv_iconst (v := 2) hx hb dL_law_560 (by decide) ?_
  refine lv_iadd hx hb dL_law_561 ?_
  refine va_sld hx hb hX hbl hbA hS h2 dL_law_562 ?_
  have key1 : W p l e room_1 s m #[Value.ref b] below meth c H locs (cells + 49) (slots + 3920) Z (F0 m 571 ls [.int a2, .int (xs (nI i + 1).toNatClampNeg), .ref (q0 0), .int r]) → W p l e room_1 s m #[Value.ref b] below meth c H locs (cells + 49) (slots + 3920) Z (F0 m 563 ls [.int (xs (nI i + 2).toNatClampNeg), .int (xs (nI i + 1).toNatClampNeg), .ref (q0 0), .int r]) := by
    intro kz
    refine lv_if_eq (tgt := 570) hx hb dL_law_563 (by decide) (fun cc => ?_) (fun cc => ?_)
    · refine lv_iconst (v := 0) hx hb dL_law_570 (by decide) ?_
      rw [if_pos cc] at e2
      rw [e2] at kz
      exact kz
    · refine lv_iconst (v := 1) hx hb dL_law_566 (by decide) ?_
      refine lv_goto (tgt := 571) hx hb dL_law_567 (by decide) ?_
      rw [if_neg cc] at e2
      rw [e2] at kz
      exact kz
  refine key1 ?_
  refine k_VB (As := [.int (xs (nI i + 1).toNatClampNeg), .int a2]) (rest := [.int r]) ⟨hx, hb, hml, hown, hts⟩ (c_X13_reason l D G q0 (xs (nI i + 1).toNatClampNeg) a2 v _ e3 _) (cwV 2 hts gL_law_X13_reason rfl rfl rfl (by decide +kernel) ⟨Nat.le_of_ble_eq_true rfl, Nat.le_of_ble_eq_true rfl⟩) hl.1 (Nat.le_of_ble_eq_true rfl) dL_law_571 ⟨by show _ ≤ 600000; omega, by show _ ≤ 7302250; omega⟩ rfl kT_bl (fun _ _ _ => trivial) hN hK hP hD hS hA 0 11 rfl rfl rfl [0, 1, 2, 3] rfl (fun H locs hP hD hS => ?_)
  refine lv_icmp_eq (tgt := 1231) hx hb dL_law_574 (by decide) (fun _ => ?_) (fun cc => absurd rfl cc)
  exact kk vmn vho vdr vsa vhi vhh vre vrf vpa vod vsb v bb H locs hI' hP hD hS ls hl
set_option maxHeartbeats 4000000 in
set_option maxRecDepth 100000 in
theorem lo_balconyOf {p : Program} {l : Launch} {e : Env} {s : State} {m : MethodId} {below : List Frame} {meth : Method} {c : Code} {b L : Nat} {xs : Nat → Int32} {D : va_G} {G : Nat → ClassId} {X Q : Nat → Nat → Nat} {q0 : Nat → Nat} {I J : TI} (hp : P_balconyOf I J) (C0 : LwB p l s m c b L xs D G X) (hL : L ≤ 2048) {i : Nat} (hi : i + 3 < L) {cells slots : Nat} (hce : cells + 49 ≤ 600000) (hsl : slots + 3920 ≤ 7302250) {Z : State → Prop} {bb : Nat} (vmn : SV) (vho : SV) (vdr : SV) (vsa : SV) (vhi : SV) (vhh : (Nat → SV)) (vre : SV) (vrf : SV) (vpa : SV) (vod : SV) (vsb : (Nat × SV)) (v : SV) (hI : I vmn vho vdr vsa vhi vhh vre vrf vpa vod vsb v) {H : Heap} {locs : List Loc} (hP : va_P D vwCl (kAll G Q bb vmn vho vdr vsa vhi vhh vre vrf vpa vod vsb ++ kModel G q0 v) H) (hD : va_D (fun q : Nat => s.heap.size ≤ q) (kAll G Q bb vmn vho vdr vsa vhi vhh vre vrf vpa vod vsb ++ kModel G q0 v)) (hS : va_S (fun q : Nat => s.heap.size ≤ q) s.heap H locs) {ls : Array Slot} (hl : lv_has ls 8 [(0, .ref b), (1, .ref (Q 0 0)), (2, .ref (q0 0)), (3, .int (nI i))])
    (kk : LwK p l e s m below meth c b D G Q q0 J i (cells + 49) (slots + 3920) Z) : W p l e room_1 s m #[Value.ref b] below meth c H locs cells slots Z (F0 m 579 ls []) := by
  obtain ⟨hx, hb, hml, hown, hts, hX, hbl, hN, hK, hJ⟩ := C0
  have hA : ∀ q : Nat, s.heap.size ≤ q → (fun q : Nat => s.heap.size ≤ q) q := fun _ h => h
  have hbA : ¬ (fun q : Nat => s.heap.size ≤ q) b := Nat.not_le.mpr hbl
  have h1 : vp_in (nI i + 1) L := lw_in 1 (by decide) (by omega) hL
  have h2 : vp_in (nI i + 2) L := lw_in 2 (by decide) (by omega) hL
  obtain ⟨r, e1, e3, hI'⟩ := hp vmn vho vdr vsa vhi vhh vre vrf vpa vod vsb v hI (xs (nI i + 1).toNatClampNeg) (xs (nI i + 2).toNatClampNeg)
  refine lv_aload_n hx hb dL_law_579 rfl (lv_at hl 1 rfl) ?_
  refine lv_aload_n hx hb dL_law_580 rfl (lv_at hl 0 rfl) ?_
  refine lv_iload_n hx hb dL_law_581 rfl (lv_at hl 3 rfl) ?_
  refine lv_iconst (v := 1) hx hb dL_law_582 (by decide) ?_
  refine lv_iadd hx hb dL_law_583 ?_
  refine va_sld hx hb hX hbl hbA hS h1 dL_law_584 ?_
  refine lv_aload_n hx hb dL_law_585 rfl (lv_at hl 0 rfl) ?_
  refine lv_iload_n hx hb dL_law_586 rfl (lv_at hl 3 rfl) ?_
  refine lv_iconst (v := 2) hx hb dL_law_587 (by decide) ?_
  refine lv_iadd hx hb dL_law_588 ?_
  refine va_sld hx hb hX hbl hbA hS h2 dL_law_589 ?_
  have hPb : va_P D vwCl ((kHouse G (Q 2) vdr ++ kHouse G (Q 3) vsa ++ kHist Q vhi ++ kHH G Q vhh ++ kReader G (Q 5) vre ++ kRef G (Q 6) vrf ++ kPaths G (Q 7) vpa ++ kOrder G (Q 8) vod ++ kSB G (Q 9 0) bb vsb ++ kModel G q0 v) ++ (kMain Q vmn ++ kHouse G (Q 1) vho)) H := by simp only [kAll, pP_app] at hP ⊢; simp only [hP, and_self]
  have hDb : va_D (fun q : Nat => s.heap.size ≤ q) ((kHouse G (Q 2) vdr ++ kHouse G (Q 3) vsa ++ kHist Q vhi ++ kHH G Q vhh ++ kReader G (Q 5) vre ++ kRef G (Q 6) vrf ++ kPaths G (Q 7) vpa ++ kOrder G (Q 8) vod ++ kSB G (Q 9 0) bb vsb ++ kModel G q0 v) ++ (kMain Q vmn ++ kHouse G (Q 1) vho)) := by simp only [kAll, pD_app, Dj_l, Dj_r] at hD ⊢; simp only [hD, and_self]
  refine k_VB (As := [.int (xs (nI i + 1).toNatClampNeg), .int (xs (nI i + 2).toNatClampNeg)]) (rest := []) ⟨hx, hb, hml, hown, hts⟩ (c_X12_balconyOf l D G Q (xs (nI i + 1).toNatClampNeg) (xs (nI i + 2).toNatClampNeg) vmn vho _ e1 _) (cwV 2 hts gL_law_X12_balconyOf rfl rfl rfl (by decide +kernel) ⟨Nat.le_of_ble_eq_true rfl, Nat.le_of_ble_eq_true rfl⟩) hl.1 (Nat.le_of_ble_eq_true rfl) dL_law_590 ⟨by show _ ≤ 600000; omega, by show _ ≤ 7302250; omega⟩ rfl kT_bl (fun _ _ _ => trivial) hN hK hPb hDb hS hA 0 10 rfl rfl rfl [0, 1, 2, 3] rfl (fun H locs hP hD hS => ?_)
  refine W.widen (k := cells + 49) (n := slots + 3920) (by omega) (by omega) ?_
  have hP : va_P D vwCl (kAll G Q bb vmn vho vdr vsa vhi vhh vre vrf vpa vod vsb ++ kModel G q0 v) H := by simp only [kAll, pP_app] at hP ⊢; simp only [hP, and_self]
  have hD : va_D (fun q : Nat => s.heap.size ≤ q) (kAll G Q bb vmn vho vdr vsa vhi vhh vre vrf vpa vod vsb ++ kModel G q0 v) := by simp only [kAll, pD_app, Dj_l, Dj_r] at hD ⊢; simp only [hD, and_self]
  refine lv_aload_n hx hb dL_law_593 rfl (lv_at hl 2 rfl) ?_
  refine lv_aload_n hx hb dL_law_594 rfl (lv_at hl 0 rfl) ?_
  refine lv_iload_n hx hb dL_law_595 rfl (lv_at hl 3 rfl) ?_
  refine lv_iconst (v := 1) hx hb dL_law_596 (by decide) ?_
  refine lv_iadd hx hb dL_law_597 ?_
  refine va_sld hx hb hX hbl hbA hS h1 dL_law_598 ?_
  refine lv_aload_n hx hb dL_law_599 rfl (lv_at hl 0 rfl) ?_
  refine lv_iload_n hx hb dL_law_600 rfl (lv_at hl 3 rfl) ?_
  refine lv_iconst (v := 2) hx hb dL_law_601 (by decide) ?_
  refine lv_iadd hx hb dL_law_602 ?_
  refine va_sld hx hb hX hbl hbA hS h2 dL_law_603 ?_
  refine k_VB (As := [.int (xs (nI i + 1).toNatClampNeg), .int (xs (nI i + 2).toNatClampNeg)]) (rest := [.int r]) ⟨hx, hb, hml, hown, hts⟩ (c_X13_balconyOf l D G q0 (xs (nI i + 1).toNatClampNeg) (xs (nI i + 2).toNatClampNeg) v _ e3 _) (cwV 2 hts gL_law_X13_balconyOf rfl rfl rfl (by decide +kernel) ⟨Nat.le_of_ble_eq_true rfl, Nat.le_of_ble_eq_true rfl⟩) hl.1 (Nat.le_of_ble_eq_true rfl) dL_law_604 ⟨by show _ ≤ 600000; omega, by show _ ≤ 7302250; omega⟩ rfl kT_bl (fun _ _ _ => trivial) hN hK hP hD hS hA 0 11 rfl rfl rfl [0, 1, 2, 3] rfl (fun H locs hP hD hS => ?_)
  refine lv_icmp_eq (tgt := 1231) hx hb dL_law_607 (by decide) (fun _ => ?_) (fun cc => absurd rfl cc)
  exact kk vmn vho vdr vsa vhi vhh vre vrf vpa vod vsb v bb H locs hI' hP hD hS ls hl
