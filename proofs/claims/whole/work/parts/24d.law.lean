/-! Walks, laid by wip/whole/gen.py: for each method f_ (what it does to its world) and c_ (its contract). -/
set_option maxHeartbeats 4000000 in
set_option maxRecDepth 100000 in
theorem lo_feud {p : Program} {l : Launch} {e : Env} {s : State} {m : MethodId} {below : List Frame} {meth : Method} {c : Code} {b L : Nat} {xs : Nat → Int32} {D : va_G} {G : Nat → ClassId} {X Q : Nat → Nat → Nat} {q0 : Nat → Nat} {I J : TI} (hp : P_feud I J) (C0 : LwB p l s m c b L xs D G X) (hL : L ≤ 2048) {i : Nat} (hi : i + 3 < L) {cells slots : Nat} (hce : cells + 49 ≤ 600000) (hsl : slots + 3920 ≤ 7302250) {Z : State → Prop} {bb : Nat} (vmn : SV) (vho : SV) (vdr : SV) (vsa : SV) (vhi : SV) (vhh : (Nat → SV)) (vre : SV) (vrf : SV) (vpa : SV) (vod : SV) (vsb : (Nat × SV)) (v : SV) (hI : I vmn vho vdr vsa vhi vhh vre vrf vpa vod vsb v) {H : Heap} {locs : List Loc} (hP : va_P D vwCl (kAll G Q bb vmn vho vdr vsa vhi vhh vre vrf vpa vod vsb ++ kModel G q0 v) H) (hD : va_D (fun q : Nat => s.heap.size ≤ q) (kAll G Q bb vmn vho vdr vsa vhi vhh vre vrf vpa vod vsb ++ kModel G q0 v)) (hS : va_S (fun q : Nat => s.heap.size ≤ q) s.heap H locs) {ls : Array Slot} (hl : lv_has ls 8 [(0, .ref b), (1, .ref (Q 0 0)), (2, .ref (q0 0)), (3, .int (nI i))])
    (kk : LwK p l e s m below meth c b D G Q q0 J i (cells + 49) (slots + 3920) Z) : W p l e room_1 s m #[Value.ref b] below meth c H locs cells slots Z (F0 m 612 ls []) := by
  obtain ⟨hx, hb, hml, hown, hts, hX, hbl, hN, hK, hJ⟩ := C0
  have hA : ∀ q : Nat, s.heap.size ≤ q → (fun q : Nat => s.heap.size ≤ q) q := fun _ h => h
  have hbA : ¬ (fun q : Nat => s.heap.size ≤ q) b := Nat.not_le.mpr hbl
  have h1 : vp_in (nI i + 1) L := lw_in 1 (by decide) (by omega) hL
  have h2 : vp_in (nI i + 2) L := lw_in 2 (by decide) (by omega) hL
  obtain ⟨r, e1, e3, hI'⟩ := hp vmn vho vdr vsa vhi vhh vre vrf vpa vod vsb v hI (xs (nI i + 1).toNatClampNeg) (xs (nI i + 2).toNatClampNeg)
  refine lv_aload_n hx hb dL_law_612 rfl (lv_at hl 1 rfl) ?_
  refine lv_aload_n hx hb dL_law_613 rfl (lv_at hl 0 rfl) ?_
  refine lv_iload_n hx hb dL_law_614 rfl (lv_at hl 3 rfl) ?_
  refine lv_iconst (v := 1) hx hb dL_law_615 (by decide) ?_
  refine lv_iadd hx hb dL_law_616 ?_
  refine va_sld hx hb hX hbl hbA hS h1 dL_law_617 ?_
  refine lv_aload_n hx hb dL_law_618 rfl (lv_at hl 0 rfl) ?_
  refine lv_iload_n hx hb dL_law_619 rfl (lv_at hl 3 rfl) ?_
  refine lv_iconst (v := 2) hx hb dL_law_620 (by decide) ?_
  refine lv_iadd hx hb dL_law_621 ?_
  refine va_sld hx hb hX hbl hbA hS h2 dL_law_622 ?_
  have hPb : va_P D vwCl ((kHouse G (Q 2) vdr ++ kHouse G (Q 3) vsa ++ kHist Q vhi ++ kHH G Q vhh ++ kReader G (Q 5) vre ++ kRef G (Q 6) vrf ++ kPaths G (Q 7) vpa ++ kOrder G (Q 8) vod ++ kSB G (Q 9 0) bb vsb ++ kModel G q0 v) ++ (kMain Q vmn ++ kHouse G (Q 1) vho)) H := by simp only [kAll, pP_app] at hP ⊢; simp only [hP, and_self]
  have hDb : va_D (fun q : Nat => s.heap.size ≤ q) ((kHouse G (Q 2) vdr ++ kHouse G (Q 3) vsa ++ kHist Q vhi ++ kHH G Q vhh ++ kReader G (Q 5) vre ++ kRef G (Q 6) vrf ++ kPaths G (Q 7) vpa ++ kOrder G (Q 8) vod ++ kSB G (Q 9 0) bb vsb ++ kModel G q0 v) ++ (kMain Q vmn ++ kHouse G (Q 1) vho)) := by simp only [kAll, pD_app, Dj_l, Dj_r] at hD ⊢; simp only [hD, and_self]
  refine k_VB (As := [.int (xs (nI i + 1).toNatClampNeg), .int (xs (nI i + 2).toNatClampNeg)]) (rest := []) ⟨hx, hb, hml, hown, hts⟩ (c_X12_feud l D G Q (xs (nI i + 1).toNatClampNeg) (xs (nI i + 2).toNatClampNeg) vmn vho _ e1 _) (cwV 2 hts gL_law_X12_feud rfl rfl rfl (by decide +kernel) ⟨Nat.le_of_ble_eq_true rfl, Nat.le_of_ble_eq_true rfl⟩) hl.1 (Nat.le_of_ble_eq_true rfl) dL_law_623 ⟨by show _ ≤ 600000; omega, by show _ ≤ 7302250; omega⟩ rfl kT_bl (fun _ _ _ => trivial) hN hK hPb hDb hS hA 0 10 rfl rfl rfl [0, 1, 2, 3] rfl (fun H locs hP hD hS => ?_)
  refine W.widen (k := cells + 49) (n := slots + 3920) (by omega) (by omega) ?_
  have hP : va_P D vwCl (kAll G Q bb vmn vho vdr vsa vhi vhh vre vrf vpa vod vsb ++ kModel G q0 v) H := by simp only [kAll, pP_app] at hP ⊢; simp only [hP, and_self]
  have hD : va_D (fun q : Nat => s.heap.size ≤ q) (kAll G Q bb vmn vho vdr vsa vhi vhh vre vrf vpa vod vsb ++ kModel G q0 v) := by simp only [kAll, pD_app, Dj_l, Dj_r] at hD ⊢; simp only [hD, and_self]
  refine lv_aload_n hx hb dL_law_626 rfl (lv_at hl 2 rfl) ?_
  refine lv_aload_n hx hb dL_law_627 rfl (lv_at hl 0 rfl) ?_
  refine lv_iload_n hx hb dL_law_628 rfl (lv_at hl 3 rfl) ?_
  refine lv_iconst (v := 1) hx hb dL_law_629 (by decide) ?_
  refine lv_iadd hx hb dL_law_630 ?_
  refine va_sld hx hb hX hbl hbA hS h1 dL_law_631 ?_
  refine lv_aload_n hx hb dL_law_632 rfl (lv_at hl 0 rfl) ?_
  refine lv_iload_n hx hb dL_law_633 rfl (lv_at hl 3 rfl) ?_
  refine lv_iconst (v := 2) hx hb dL_law_634 (by decide) ?_
  refine lv_iadd hx hb dL_law_635 ?_
  refine va_sld hx hb hX hbl hbA hS h2 dL_law_636 ?_
  refine k_VB (As := [.int (xs (nI i + 1).toNatClampNeg), .int (xs (nI i + 2).toNatClampNeg)]) (rest := [.int r]) ⟨hx, hb, hml, hown, hts⟩ (c_X13_feud l D G q0 (xs (nI i + 1).toNatClampNeg) (xs (nI i + 2).toNatClampNeg) v _ e3 _) (cwV 2 hts gL_law_X13_feud rfl rfl rfl (by decide +kernel) ⟨Nat.le_of_ble_eq_true rfl, Nat.le_of_ble_eq_true rfl⟩) hl.1 (Nat.le_of_ble_eq_true rfl) dL_law_637 ⟨by show _ ≤ 600000; omega, by show _ ≤ 7302250; omega⟩ rfl kT_bl (fun _ _ _ => trivial) hN hK hP hD hS hA 0 11 rfl rfl rfl [0, 1, 2, 3] rfl (fun H locs hP hD hS => ?_)
  refine lv_icmp_eq (tgt := 1231) hx hb dL_law_640 (by decide) (fun _ => ?_) (fun cc => absurd rfl cc)
  exact kk vmn vho vdr vsa vhi vhh vre vrf vpa vod vsb v bb H locs hI' hP hD hS ls hl
set_option maxHeartbeats 4000000 in
set_option maxRecDepth 100000 in
theorem lo_greeted {p : Program} {l : Launch} {e : Env} {s : State} {m : MethodId} {below : List Frame} {meth : Method} {c : Code} {b L : Nat} {xs : Nat → Int32} {D : va_G} {G : Nat → ClassId} {X Q : Nat → Nat → Nat} {q0 : Nat → Nat} {I J : TI} (hp : P_greeted I J) (C0 : LwB p l s m c b L xs D G X) (hL : L ≤ 2048) {i : Nat} (hi : i + 3 < L) {cells slots : Nat} (hce : cells + 49 ≤ 600000) (hsl : slots + 3920 ≤ 7302250) {Z : State → Prop} {bb : Nat} (vmn : SV) (vho : SV) (vdr : SV) (vsa : SV) (vhi : SV) (vhh : (Nat → SV)) (vre : SV) (vrf : SV) (vpa : SV) (vod : SV) (vsb : (Nat × SV)) (v : SV) (hI : I vmn vho vdr vsa vhi vhh vre vrf vpa vod vsb v) {H : Heap} {locs : List Loc} (hP : va_P D vwCl (kAll G Q bb vmn vho vdr vsa vhi vhh vre vrf vpa vod vsb ++ kModel G q0 v) H) (hD : va_D (fun q : Nat => s.heap.size ≤ q) (kAll G Q bb vmn vho vdr vsa vhi vhh vre vrf vpa vod vsb ++ kModel G q0 v)) (hS : va_S (fun q : Nat => s.heap.size ≤ q) s.heap H locs) {ls : Array Slot} (hl : lv_has ls 8 [(0, .ref b), (1, .ref (Q 0 0)), (2, .ref (q0 0)), (3, .int (nI i))])
    (kk : LwK p l e s m below meth c b D G Q q0 J i (cells + 49) (slots + 3920) Z) : W p l e room_1 s m #[Value.ref b] below meth c H locs cells slots Z (F0 m 645 ls []) := by
  obtain ⟨hx, hb, hml, hown, hts, hX, hbl, hN, hK, hJ⟩ := C0
  have hA : ∀ q : Nat, s.heap.size ≤ q → (fun q : Nat => s.heap.size ≤ q) q := fun _ h => h
  have hbA : ¬ (fun q : Nat => s.heap.size ≤ q) b := Nat.not_le.mpr hbl
  have h1 : vp_in (nI i + 1) L := lw_in 1 (by decide) (by omega) hL
  have h2 : vp_in (nI i + 2) L := lw_in 2 (by decide) (by omega) hL
  obtain ⟨r, e1, e3, hI'⟩ := hp vmn vho vdr vsa vhi vhh vre vrf vpa vod vsb v hI (xs (nI i + 1).toNatClampNeg) (xs (nI i + 2).toNatClampNeg)
  refine lv_aload_n hx hb dL_law_645 rfl (lv_at hl 1 rfl) ?_
  refine lv_aload_n hx hb dL_law_646 rfl (lv_at hl 0 rfl) ?_
  refine lv_iload_n hx hb dL_law_647 rfl (lv_at hl 3 rfl) ?_
  refine lv_iconst (v := 1) hx hb dL_law_648 (by decide) ?_
  refine lv_iadd hx hb dL_law_649 ?_
  refine va_sld hx hb hX hbl hbA hS h1 dL_law_650 ?_
  refine lv_aload_n hx hb dL_law_651 rfl (lv_at hl 0 rfl) ?_
  refine lv_iload_n hx hb dL_law_652 rfl (lv_at hl 3 rfl) ?_
  refine lv_iconst (v := 2) hx hb dL_law_653 (by decide) ?_
  refine lv_iadd hx hb dL_law_654 ?_
  refine va_sld hx hb hX hbl hbA hS h2 dL_law_655 ?_
  have hPb : va_P D vwCl ((kHouse G (Q 2) vdr ++ kHouse G (Q 3) vsa ++ kHist Q vhi ++ kHH G Q vhh ++ kReader G (Q 5) vre ++ kRef G (Q 6) vrf ++ kPaths G (Q 7) vpa ++ kOrder G (Q 8) vod ++ kSB G (Q 9 0) bb vsb ++ kModel G q0 v) ++ (kMain Q vmn ++ kHouse G (Q 1) vho)) H := by simp only [kAll, pP_app] at hP ⊢; simp only [hP, and_self]
  have hDb : va_D (fun q : Nat => s.heap.size ≤ q) ((kHouse G (Q 2) vdr ++ kHouse G (Q 3) vsa ++ kHist Q vhi ++ kHH G Q vhh ++ kReader G (Q 5) vre ++ kRef G (Q 6) vrf ++ kPaths G (Q 7) vpa ++ kOrder G (Q 8) vod ++ kSB G (Q 9 0) bb vsb ++ kModel G q0 v) ++ (kMain Q vmn ++ kHouse G (Q 1) vho)) := by simp only [kAll, pD_app, Dj_l, Dj_r] at hD ⊢; simp only [hD, and_self]
  refine k_VB (As := [.int (xs (nI i + 1).toNatClampNeg), .int (xs (nI i + 2).toNatClampNeg)]) (rest := []) ⟨hx, hb, hml, hown, hts⟩ (c_X12_greeted l D G Q (xs (nI i + 1).toNatClampNeg) (xs (nI i + 2).toNatClampNeg) vmn vho _ e1 _) (cwV 2 hts gL_law_X12_greeted rfl rfl rfl (by decide +kernel) ⟨Nat.le_of_ble_eq_true rfl, Nat.le_of_ble_eq_true rfl⟩) hl.1 (Nat.le_of_ble_eq_true rfl) dL_law_656 ⟨by show _ ≤ 600000; omega, by show _ ≤ 7302250; omega⟩ rfl kT_bl (fun _ _ _ => trivial) hN hK hPb hDb hS hA 0 10 rfl rfl rfl [0, 1, 2, 3] rfl (fun H locs hP hD hS => ?_)
  refine W.widen (k := cells + 49) (n := slots + 3920) (by omega) (by omega) ?_
  have hP : va_P D vwCl (kAll G Q bb vmn vho vdr vsa vhi vhh vre vrf vpa vod vsb ++ kModel G q0 v) H := by simp only [kAll, pP_app] at hP ⊢; simp only [hP, and_self]
  have hD : va_D (fun q : Nat => s.heap.size ≤ q) (kAll G Q bb vmn vho vdr vsa vhi vhh vre vrf vpa vod vsb ++ kModel G q0 v) := by simp only [kAll, pD_app, Dj_l, Dj_r] at hD ⊢; simp only [hD, and_self]
  refine lv_aload_n hx hb dL_law_659 rfl (lv_at hl 2 rfl) ?_
  refine lv_aload_n hx hb dL_law_660 rfl (lv_at hl 0 rfl) ?_
  refine lv_iload_n hx hb dL_law_661 rfl (lv_at hl 3 rfl) ?_
  refine lv_iconst (v := 1) hx hb dL_law_662 (by decide) ?_
  refine lv_iadd hx hb dL_law_663 ?_
  refine va_sld hx hb hX hbl hbA hS h1 dL_law_664 ?_
  refine lv_aload_n hx hb dL_law_665 rfl (lv_at hl 0 rfl) ?_
  refine lv_iload_n hx hb dL_law_666 rfl (lv_at hl 3 rfl) ?_
  refine lv_iconst (v := 2) hx hb dL_law_667 (by decide) ?_
  refine lv_iadd hx hb dL_law_668 ?_
  refine va_sld hx hb hX hbl hbA hS h2 dL_law_669 ?_
  refine k_VB (As := [.int (xs (nI i + 1).toNatClampNeg), .int (xs (nI i + 2).toNatClampNeg)]) (rest := [.int r]) ⟨hx, hb, hml, hown, hts⟩ (c_X13_greeted l D G q0 (xs (nI i + 1).toNatClampNeg) (xs (nI i + 2).toNatClampNeg) v _ e3 _) (cwV 2 hts gL_law_X13_greeted rfl rfl rfl (by decide +kernel) ⟨Nat.le_of_ble_eq_true rfl, Nat.le_of_ble_eq_true rfl⟩) hl.1 (Nat.le_of_ble_eq_true rfl) dL_law_670 ⟨by show _ ≤ 600000; omega, by show _ ≤ 7302250; omega⟩ rfl kT_bl (fun _ _ _ => trivial) hN hK hP hD hS hA 0 11 rfl rfl rfl [0, 1, 2, 3] rfl (fun H locs hP hD hS => ?_)
  refine lv_icmp_eq (tgt := 1231) hx hb dL_law_673 (by decide) (fun _ => ?_) (fun cc => absurd rfl cc)
  exact kk vmn vho vdr vsa vhi vhh vre vrf vpa vod vsb v bb H locs hI' hP hD hS ls hl
set_option maxHeartbeats 4000000 in
set_option maxRecDepth 100000 in
theorem lo_catOf {p : Program} {l : Launch} {e : Env} {s : State} {m : MethodId} {below : List Frame} {meth : Method} {c : Code} {b L : Nat} {xs : Nat → Int32} {D : va_G} {G : Nat → ClassId} {X Q : Nat → Nat → Nat} {q0 : Nat → Nat} {I J : TI} (hp : P_catOf I J) (C0 : LwB p l s m c b L xs D G X) (hL : L ≤ 2048) {i : Nat} (hi : i + 3 < L) {cells slots : Nat} (hce : cells + 49 ≤ 600000) (hsl : slots + 3920 ≤ 7302250) {Z : State → Prop} {bb : Nat} (vmn : SV) (vho : SV) (vdr : SV) (vsa : SV) (vhi : SV) (vhh : (Nat → SV)) (vre : SV) (vrf : SV) (vpa : SV) (vod : SV) (vsb : (Nat × SV)) (v : SV) (hI : I vmn vho vdr vsa vhi vhh vre vrf vpa vod vsb v) {H : Heap} {locs : List Loc} (hP : va_P D vwCl (kAll G Q bb vmn vho vdr vsa vhi vhh vre vrf vpa vod vsb ++ kModel G q0 v) H) (hD : va_D (fun q : Nat => s.heap.size ≤ q) (kAll G Q bb vmn vho vdr vsa vhi vhh vre vrf vpa vod vsb ++ kModel G q0 v)) (hS : va_S (fun q : Nat => s.heap.size ≤ q) s.heap H locs) {ls : Array Slot} (hl : lv_has ls 8 [(0, .ref b), (1, .ref (Q 0 0)), (2, .ref (q0 0)), (3, .int (nI i))])
    (kk : LwK p l e s m below meth c b D G Q q0 J i (cells + 49) (slots + 3920) Z) : W p l e room_1 s m #[Value.ref b] below meth c H locs cells slots Z (F0 m 678 ls []) := by
  obtain ⟨hx, hb, hml, hown, hts, hX, hbl, hN, hK, hJ⟩ := C0
  have hA : ∀ q : Nat, s.heap.size ≤ q → (fun q : Nat => s.heap.size ≤ q) q := fun _ h => h
  have hbA : ¬ (fun q : Nat => s.heap.size ≤ q) b := Nat.not_le.mpr hbl
  have h1 : vp_in (nI i + 1) L := lw_in 1 (by decide) (by omega) hL
  have h2 : vp_in (nI i + 2) L := lw_in 2 (by decide) (by omega) hL
  obtain ⟨r, vpa', v', e1, e3, hI'⟩ := hp vmn vho vdr vsa vhi vhh vre vrf vpa vod vsb v hI (xs (nI i + 1).toNatClampNeg) (xs (nI i + 2).toNatClampNeg)
  refine lv_aload_n hx hb dL_law_678 rfl (lv_at hl 1 rfl) ?_
  refine lv_aload_n hx hb dL_law_679 rfl (lv_at hl 0 rfl) ?_
  refine lv_iload_n hx hb dL_law_680 rfl (lv_at hl 3 rfl) ?_
  refine lv_iconst (v := 1) hx hb dL_law_681 (by decide) ?_
  refine lv_iadd hx hb dL_law_682 ?_
  refine va_sld hx hb hX hbl hbA hS h1 dL_law_683 ?_
  refine lv_aload_n hx hb dL_law_684 rfl (lv_at hl 0 rfl) ?_
  refine lv_iload_n hx hb dL_law_685 rfl (lv_at hl 3 rfl) ?_
  refine lv_iconst (v := 2) hx hb dL_law_686 (by decide) ?_
  refine lv_iadd hx hb dL_law_687 ?_
  refine va_sld hx hb hX hbl hbA hS h2 dL_law_688 ?_
  have hPb : va_P D vwCl ((kHouse G (Q 2) vdr ++ kHouse G (Q 3) vsa ++ kHist Q vhi ++ kHH G Q vhh ++ kReader G (Q 5) vre ++ kRef G (Q 6) vrf ++ kOrder G (Q 8) vod ++ kSB G (Q 9 0) bb vsb ++ kModel G q0 v) ++ (kMain Q vmn ++ kHouse G (Q 1) vho ++ kPaths G (Q 7) vpa)) H := by simp only [kAll, pP_app] at hP ⊢; simp only [hP, and_self]
  have hDb : va_D (fun q : Nat => s.heap.size ≤ q) ((kHouse G (Q 2) vdr ++ kHouse G (Q 3) vsa ++ kHist Q vhi ++ kHH G Q vhh ++ kReader G (Q 5) vre ++ kRef G (Q 6) vrf ++ kOrder G (Q 8) vod ++ kSB G (Q 9 0) bb vsb ++ kModel G q0 v) ++ (kMain Q vmn ++ kHouse G (Q 1) vho ++ kPaths G (Q 7) vpa)) := by simp only [kAll, pD_app, Dj_l, Dj_r] at hD ⊢; simp only [hD, and_self]
  refine k_VB (As := [.int (xs (nI i + 1).toNatClampNeg), .int (xs (nI i + 2).toNatClampNeg)]) (rest := []) ⟨hx, hb, hml, hown, hts⟩ (c_X12_catOf l D G Q (xs (nI i + 1).toNatClampNeg) (xs (nI i + 2).toNatClampNeg) vmn vho vpa _ _ e1 _) (cwV 2 hts gL_law_X12_catOf rfl rfl rfl (by decide +kernel) ⟨Nat.le_of_ble_eq_true rfl, Nat.le_of_ble_eq_true rfl⟩) hl.1 (Nat.le_of_ble_eq_true rfl) dL_law_689 ⟨by show _ ≤ 600000; omega, by show _ ≤ 7302250; omega⟩ rfl kT_bl (fun _ _ _ => trivial) hN hK hPb hDb hS hA 0 10 rfl rfl rfl [0, 1, 2, 3] rfl (fun H locs hP hD hS => ?_)
  refine W.widen (k := cells + 49) (n := slots + 3920) (by omega) (by omega) ?_
  have hP : va_P D vwCl (kAll G Q bb vmn vho vdr vsa vhi vhh vre vrf vpa' vod vsb ++ kModel G q0 v) H := by simp only [kAll, pP_app] at hP ⊢; simp only [hP, and_self]
  have hD : va_D (fun q : Nat => s.heap.size ≤ q) (kAll G Q bb vmn vho vdr vsa vhi vhh vre vrf vpa' vod vsb ++ kModel G q0 v) := by simp only [kAll, pD_app, Dj_l, Dj_r] at hD ⊢; simp only [hD, and_self]
  refine lv_aload_n hx hb dL_law_692 rfl (lv_at hl 2 rfl) ?_
  refine lv_aload_n hx hb dL_law_693 rfl (lv_at hl 0 rfl) ?_
  refine lv_iload_n hx hb dL_law_694 rfl (lv_at hl 3 rfl) ?_
  refine lv_iconst (v := 1) hx hb dL_law_695 (by decide) ?_
  refine lv_iadd hx hb dL_law_696 ?_
  refine va_sld hx hb hX hbl hbA hS h1 dL_law_697 ?_
  refine lv_aload_n hx hb dL_law_698 rfl (lv_at hl 0 rfl) ?_
  refine lv_iload_n hx hb dL_law_699 rfl (lv_at hl 3 rfl) ?_
  refine lv_iconst (v := 2) hx hb dL_law_700 (by decide) ?_
  refine lv_iadd hx hb dL_law_701 ?_
  refine va_sld hx hb hX hbl hbA hS h2 dL_law_702 ?_
  refine k_VB (As := [.int (xs (nI i + 1).toNatClampNeg), .int (xs (nI i + 2).toNatClampNeg)]) (rest := [.int r]) ⟨hx, hb, hml, hown, hts⟩ (c_X13_catOf l D G q0 (xs (nI i + 1).toNatClampNeg) (xs (nI i + 2).toNatClampNeg) v _ _ e3 _) (cwV 2 hts gL_law_X13_catOf rfl rfl rfl (by decide +kernel) ⟨Nat.le_of_ble_eq_true rfl, Nat.le_of_ble_eq_true rfl⟩) hl.1 (Nat.le_of_ble_eq_true rfl) dL_law_703 ⟨by show _ ≤ 600000; omega, by show _ ≤ 7302250; omega⟩ rfl kT_bl (fun _ _ _ => trivial) hN hK hP hD hS hA 0 11 rfl rfl rfl [0, 1, 2, 3] rfl (fun H locs hP hD hS => ?_)
  refine lv_icmp_eq (tgt := 1231) hx hb dL_law_706 (by decide) (fun _ => ?_) (fun cc => absurd rfl cc)
  exact kk vmn vho vdr vsa vhi vhh vre vrf vpa' vod vsb v' bb H locs hI' hP hD hS ls hl
set_option maxHeartbeats 4000000 in
set_option maxRecDepth 100000 in
theorem lo_lineOf {p : Program} {l : Launch} {e : Env} {s : State} {m : MethodId} {below : List Frame} {meth : Method} {c : Code} {b L : Nat} {xs : Nat → Int32} {D : va_G} {G : Nat → ClassId} {X Q : Nat → Nat → Nat} {q0 : Nat → Nat} {I J : TI} (hp : P_lineOf I J) (C0 : LwB p l s m c b L xs D G X) (hL : L ≤ 2048) {i : Nat} (hi : i + 3 < L) {cells slots : Nat} (hce : cells + 49 ≤ 600000) (hsl : slots + 3920 ≤ 7302250) {Z : State → Prop} {bb : Nat} (vmn : SV) (vho : SV) (vdr : SV) (vsa : SV) (vhi : SV) (vhh : (Nat → SV)) (vre : SV) (vrf : SV) (vpa : SV) (vod : SV) (vsb : (Nat × SV)) (v : SV) (hI : I vmn vho vdr vsa vhi vhh vre vrf vpa vod vsb v) {H : Heap} {locs : List Loc} (hP : va_P D vwCl (kAll G Q bb vmn vho vdr vsa vhi vhh vre vrf vpa vod vsb ++ kModel G q0 v) H) (hD : va_D (fun q : Nat => s.heap.size ≤ q) (kAll G Q bb vmn vho vdr vsa vhi vhh vre vrf vpa vod vsb ++ kModel G q0 v)) (hS : va_S (fun q : Nat => s.heap.size ≤ q) s.heap H locs) {ls : Array Slot} (hl : lv_has ls 8 [(0, .ref b), (1, .ref (Q 0 0)), (2, .ref (q0 0)), (3, .int (nI i))])
    (kk : LwK p l e s m below meth c b D G Q q0 J i (cells + 49) (slots + 3920) Z) : W p l e room_1 s m #[Value.ref b] below meth c H locs cells slots Z (F0 m 711 ls []) := by
  obtain ⟨hx, hb, hml, hown, hts, hX, hbl, hN, hK, hJ⟩ := C0
  have hA : ∀ q : Nat, s.heap.size ≤ q → (fun q : Nat => s.heap.size ≤ q) q := fun _ h => h
  have hbA : ¬ (fun q : Nat => s.heap.size ≤ q) b := Nat.not_le.mpr hbl
  have h1 : vp_in (nI i + 1) L := lw_in 1 (by decide) (by omega) hL
  have h2 : vp_in (nI i + 2) L := lw_in 2 (by decide) (by omega) hL
  obtain ⟨r, e1, e3, hI'⟩ := hp vmn vho vdr vsa vhi vhh vre vrf vpa vod vsb v hI (xs (nI i + 1).toNatClampNeg) (xs (nI i + 2).toNatClampNeg)
  refine lv_aload_n hx hb dL_law_711 rfl (lv_at hl 1 rfl) ?_
  refine lv_aload_n hx hb dL_law_712 rfl (lv_at hl 0 rfl) ?_
  refine lv_iload_n hx hb dL_law_713 rfl (lv_at hl 3 rfl) ?_
  refine lv_iconst (v := 1) hx hb dL_law_714 (by decide) ?_
  refine lv_iadd hx hb dL_law_715 ?_
  refine va_sld hx hb hX hbl hbA hS h1 dL_law_716 ?_
  refine lv_aload_n hx hb dL_law_717 rfl (lv_at hl 0 rfl) ?_
  refine lv_iload_n hx hb dL_law_718 rfl (lv_at hl 3 rfl) ?_
  refine lv_iconst (v := 2) hx hb dL_law_719 (by decide) ?_
  refine lv_iadd hx hb dL_law_720 ?_
  refine va_sld hx hb hX hbl hbA hS h2 dL_law_721 ?_
  have hPb : va_P D vwCl ((kHouse G (Q 2) vdr ++ kHouse G (Q 3) vsa ++ kHist Q vhi ++ kHH G Q vhh ++ kReader G (Q 5) vre ++ kRef G (Q 6) vrf ++ kPaths G (Q 7) vpa ++ kOrder G (Q 8) vod ++ kSB G (Q 9 0) bb vsb ++ kModel G q0 v) ++ (kMain Q vmn ++ kHouse G (Q 1) vho)) H := by simp only [kAll, pP_app] at hP ⊢; simp only [hP, and_self]
  have hDb : va_D (fun q : Nat => s.heap.size ≤ q) ((kHouse G (Q 2) vdr ++ kHouse G (Q 3) vsa ++ kHist Q vhi ++ kHH G Q vhh ++ kReader G (Q 5) vre ++ kRef G (Q 6) vrf ++ kPaths G (Q 7) vpa ++ kOrder G (Q 8) vod ++ kSB G (Q 9 0) bb vsb ++ kModel G q0 v) ++ (kMain Q vmn ++ kHouse G (Q 1) vho)) := by simp only [kAll, pD_app, Dj_l, Dj_r] at hD ⊢; simp only [hD, and_self]
  refine k_VB (As := [.int (xs (nI i + 1).toNatClampNeg), .int (xs (nI i + 2).toNatClampNeg)]) (rest := []) ⟨hx, hb, hml, hown, hts⟩ (c_X12_lineOf l D G Q (xs (nI i + 1).toNatClampNeg) (xs (nI i + 2).toNatClampNeg) vmn vho _ e1 _) (cwV 2 hts gL_law_X12_lineOf rfl rfl rfl (by decide +kernel) ⟨Nat.le_of_ble_eq_true rfl, Nat.le_of_ble_eq_true rfl⟩) hl.1 (Nat.le_of_ble_eq_true rfl) dL_law_722 ⟨by show _ ≤ 600000; omega, by show _ ≤ 7302250; omega⟩ rfl kT_bl (fun _ _ _ => trivial) hN hK hPb hDb hS hA 0 10 rfl rfl rfl [0, 1, 2, 3] rfl (fun H locs hP hD hS => ?_)
  refine W.widen (k := cells + 49) (n := slots + 3920) (by omega) (by omega) ?_
  have hP : va_P D vwCl (kAll G Q bb vmn vho vdr vsa vhi vhh vre vrf vpa vod vsb ++ kModel G q0 v) H := by simp only [kAll, pP_app] at hP ⊢; simp only [hP, and_self]
  have hD : va_D (fun q : Nat => s.heap.size ≤ q) (kAll G Q bb vmn vho vdr vsa vhi vhh vre vrf vpa vod vsb ++ kModel G q0 v) := by simp only [kAll, pD_app, Dj_l, Dj_r] at hD ⊢; simp only [hD, and_self]
  refine lv_aload_n hx hb dL_law_725 rfl (lv_at hl 2 rfl) ?_
  refine lv_aload_n hx hb dL_law_726 rfl (lv_at hl 0 rfl) ?_
  refine lv_iload_n hx hb dL_law_727 rfl (lv_at hl 3 rfl) ?_
  refine lv_iconst (v := 1) hx hb dL_law_728 (by decide) ?_
  refine lv_iadd hx hb dL_law_729 ?_
  refine va_sld hx hb hX hbl hbA hS h1 dL_law_730 ?_
  refine lv_aload_n hx hb dL_law_731 rfl (lv_at hl 0 rfl) ?_
  refine lv_iload_n hx hb dL_law_732 rfl (lv_at hl 3 rfl) ?_
  refine lv_iconst (v := 2) hx hb dL_law_733 (by decide) ?_
  refine lv_iadd hx hb dL_law_734 ?_
  refine va_sld hx hb hX hbl hbA hS h2 dL_law_735 ?_
  refine k_VB (As := [.int (xs (nI i + 1).toNatClampNeg), .int (xs (nI i + 2).toNatClampNeg)]) (rest := [.int r]) ⟨hx, hb, hml, hown, hts⟩ (c_X13_lineOf l D G q0 (xs (nI i + 1).toNatClampNeg) (xs (nI i + 2).toNatClampNeg) v _ e3 _) (cwV 2 hts gL_law_X13_lineOf rfl rfl rfl (by decide +kernel) ⟨Nat.le_of_ble_eq_true rfl, Nat.le_of_ble_eq_true rfl⟩) hl.1 (Nat.le_of_ble_eq_true rfl) dL_law_736 ⟨by show _ ≤ 600000; omega, by show _ ≤ 7302250; omega⟩ rfl kT_bl (fun _ _ _ => trivial) hN hK hP hD hS hA 0 11 rfl rfl rfl [0, 1, 2, 3] rfl (fun H locs hP hD hS => ?_)
  refine lv_icmp_eq (tgt := 1231) hx hb dL_law_739 (by decide) (fun _ => ?_) (fun cc => absurd rfl cc)
  exact kk vmn vho vdr vsa vhi vhh vre vrf vpa vod vsb v bb H locs hI' hP hD hS ls hl
set_option maxHeartbeats 4000000 in
set_option maxRecDepth 100000 in
theorem lo_feuds {p : Program} {l : Launch} {e : Env} {s : State} {m : MethodId} {below : List Frame} {meth : Method} {c : Code} {b L : Nat} {xs : Nat → Int32} {D : va_G} {G : Nat → ClassId} {X Q : Nat → Nat → Nat} {q0 : Nat → Nat} {I J : TI} (hp : P_feuds I J) (C0 : LwB p l s m c b L xs D G X) (hL : L ≤ 2048) {i : Nat} (hi : i + 3 < L) {cells slots : Nat} (hce : cells + 49 ≤ 600000) (hsl : slots + 3920 ≤ 7302250) {Z : State → Prop} {bb : Nat} (vmn : SV) (vho : SV) (vdr : SV) (vsa : SV) (vhi : SV) (vhh : (Nat → SV)) (vre : SV) (vrf : SV) (vpa : SV) (vod : SV) (vsb : (Nat × SV)) (v : SV) (hI : I vmn vho vdr vsa vhi vhh vre vrf vpa vod vsb v) {H : Heap} {locs : List Loc} (hP : va_P D vwCl (kAll G Q bb vmn vho vdr vsa vhi vhh vre vrf vpa vod vsb ++ kModel G q0 v) H) (hD : va_D (fun q : Nat => s.heap.size ≤ q) (kAll G Q bb vmn vho vdr vsa vhi vhh vre vrf vpa vod vsb ++ kModel G q0 v)) (hS : va_S (fun q : Nat => s.heap.size ≤ q) s.heap H locs) {ls : Array Slot} (hl : lv_has ls 8 [(0, .ref b), (1, .ref (Q 0 0)), (2, .ref (q0 0)), (3, .int (nI i))])
    (kk : LwK p l e s m below meth c b D G Q q0 J i (cells + 49) (slots + 3920) Z) : W p l e room_1 s m #[Value.ref b] below meth c H locs cells slots Z (F0 m 744 ls []) := by
  obtain ⟨hx, hb, hml, hown, hts, hX, hbl, hN, hK, hJ⟩ := C0
  have hA : ∀ q : Nat, s.heap.size ≤ q → (fun q : Nat => s.heap.size ≤ q) q := fun _ h => h
  have hbA : ¬ (fun q : Nat => s.heap.size ≤ q) b := Nat.not_le.mpr hbl
  obtain ⟨r, e1, e3, hI'⟩ := hp vmn vho vdr vsa vhi vhh vre vrf vpa vod vsb v hI ()
  refine lv_aload_n hx hb dL_law_744 rfl (lv_at hl 1 rfl) ?_
  have hPb : va_P D vwCl ((kHouse G (Q 2) vdr ++ kHouse G (Q 3) vsa ++ kHist Q vhi ++ kHH G Q vhh ++ kReader G (Q 5) vre ++ kRef G (Q 6) vrf ++ kPaths G (Q 7) vpa ++ kOrder G (Q 8) vod ++ kSB G (Q 9 0) bb vsb ++ kModel G q0 v) ++ (kMain Q vmn ++ kHouse G (Q 1) vho)) H := by simp only [kAll, pP_app] at hP ⊢; simp only [hP, and_self]
  have hDb : va_D (fun q : Nat => s.heap.size ≤ q) ((kHouse G (Q 2) vdr ++ kHouse G (Q 3) vsa ++ kHist Q vhi ++ kHH G Q vhh ++ kReader G (Q 5) vre ++ kRef G (Q 6) vrf ++ kPaths G (Q 7) vpa ++ kOrder G (Q 8) vod ++ kSB G (Q 9 0) bb vsb ++ kModel G q0 v) ++ (kMain Q vmn ++ kHouse G (Q 1) vho)) := by simp only [kAll, pD_app, Dj_l, Dj_r] at hD ⊢; simp only [hD, and_self]
  refine k_VB (As := []) (rest := []) ⟨hx, hb, hml, hown, hts⟩ (c_X12_feuds l D G Q  vmn vho _ e1 _) (cwV 0 hts gL_law_X12_feuds rfl rfl rfl (by decide +kernel) ⟨Nat.le_of_ble_eq_true rfl, Nat.le_of_ble_eq_true rfl⟩) hl.1 (Nat.le_of_ble_eq_true rfl) dL_law_745 ⟨by show _ ≤ 600000; omega, by show _ ≤ 7302250; omega⟩ rfl kT_bl (fun _ _ _ => trivial) hN hK hPb hDb hS hA 0 10 rfl rfl rfl [0, 1, 2, 3] rfl (fun H locs hP hD hS => ?_)
  refine W.widen (k := cells + 49) (n := slots + 3920) (by omega) (by omega) ?_
  have hP : va_P D vwCl (kAll G Q bb vmn vho vdr vsa vhi vhh vre vrf vpa vod vsb ++ kModel G q0 v) H := by simp only [kAll, pP_app] at hP ⊢; simp only [hP, and_self]
  have hD : va_D (fun q : Nat => s.heap.size ≤ q) (kAll G Q bb vmn vho vdr vsa vhi vhh vre vrf vpa vod vsb ++ kModel G q0 v) := by simp only [kAll, pD_app, Dj_l, Dj_r] at hD ⊢; simp only [hD, and_self]
  refine lv_aload_n hx hb dL_law_748 rfl (lv_at hl 2 rfl) ?_
  refine k_VB (As := []) (rest := [.int r]) ⟨hx, hb, hml, hown, hts⟩ (c_X13_feuds l D G q0  v _ e3 _) (cwV 0 hts gL_law_X13_feuds rfl rfl rfl (by decide +kernel) ⟨Nat.le_of_ble_eq_true rfl, Nat.le_of_ble_eq_true rfl⟩) hl.1 (Nat.le_of_ble_eq_true rfl) dL_law_749 ⟨by show _ ≤ 600000; omega, by show _ ≤ 7302250; omega⟩ rfl kT_bl (fun _ _ _ => trivial) hN hK hP hD hS hA 0 11 rfl rfl rfl [0, 1, 2, 3] rfl (fun H locs hP hD hS => ?_)
  refine lv_icmp_eq (tgt := 1231) hx hb dL_law_752 (by decide) (fun _ => ?_) (fun cc => absurd rfl cc)
  exact kk vmn vho vdr vsa vhi vhh vre vrf vpa vod vsb v bb H locs hI' hP hD hS ls hl
set_option maxHeartbeats 4000000 in
set_option maxRecDepth 100000 in
theorem lo_feudsAgain {p : Program} {l : Launch} {e : Env} {s : State} {m : MethodId} {below : List Frame} {meth : Method} {c : Code} {b L : Nat} {xs : Nat → Int32} {D : va_G} {G : Nat → ClassId} {X Q : Nat → Nat → Nat} {q0 : Nat → Nat} {I J : TI} (hp : P_feudsAgain I J) (C0 : LwB p l s m c b L xs D G X) (hL : L ≤ 2048) {i : Nat} (hi : i + 3 < L) {cells slots : Nat} (hce : cells + 49 ≤ 600000) (hsl : slots + 3920 ≤ 7302250) {Z : State → Prop} {bb : Nat} (vmn : SV) (vho : SV) (vdr : SV) (vsa : SV) (vhi : SV) (vhh : (Nat → SV)) (vre : SV) (vrf : SV) (vpa : SV) (vod : SV) (vsb : (Nat × SV)) (v : SV) (hI : I vmn vho vdr vsa vhi vhh vre vrf vpa vod vsb v) {H : Heap} {locs : List Loc} (hP : va_P D vwCl (kAll G Q bb vmn vho vdr vsa vhi vhh vre vrf vpa vod vsb ++ kModel G q0 v) H) (hD : va_D (fun q : Nat => s.heap.size ≤ q) (kAll G Q bb vmn vho vdr vsa vhi vhh vre vrf vpa vod vsb ++ kModel G q0 v)) (hS : va_S (fun q : Nat => s.heap.size ≤ q) s.heap H locs) {ls : Array Slot} (hl : lv_has ls 8 [(0, .ref b), (1, .ref (Q 0 0)), (2, .ref (q0 0)), (3, .int (nI i))])
    (kk : LwK p l e s m below meth c b D G Q q0 J i (cells + 49) (slots + 3920) Z) : W p l e room_1 s m #[Value.ref b] below meth c H locs cells slots Z (F0 m 757 ls []) := by
  obtain ⟨hx, hb, hml, hown, hts, hX, hbl, hN, hK, hJ⟩ := C0
  have hA : ∀ q : Nat, s.heap.size ≤ q → (fun q : Nat => s.heap.size ≤ q) q := fun _ h => h
  have hbA : ¬ (fun q : Nat => s.heap.size ≤ q) b := Nat.not_le.mpr hbl
  obtain ⟨r, e1, e3, hI'⟩ := hp vmn vho vdr vsa vhi vhh vre vrf vpa vod vsb v hI ()
  refine lv_aload_n hx hb dL_law_757 rfl (lv_at hl 1 rfl) ?_
  have hPb : va_P D vwCl ((kHouse G (Q 2) vdr ++ kHouse G (Q 3) vsa ++ kHist Q vhi ++ kHH G Q vhh ++ kReader G (Q 5) vre ++ kRef G (Q 6) vrf ++ kPaths G (Q 7) vpa ++ kOrder G (Q 8) vod ++ kSB G (Q 9 0) bb vsb ++ kModel G q0 v) ++ (kMain Q vmn ++ kHouse G (Q 1) vho)) H := by simp only [kAll, pP_app] at hP ⊢; simp only [hP, and_self]
  have hDb : va_D (fun q : Nat => s.heap.size ≤ q) ((kHouse G (Q 2) vdr ++ kHouse G (Q 3) vsa ++ kHist Q vhi ++ kHH G Q vhh ++ kReader G (Q 5) vre ++ kRef G (Q 6) vrf ++ kPaths G (Q 7) vpa ++ kOrder G (Q 8) vod ++ kSB G (Q 9 0) bb vsb ++ kModel G q0 v) ++ (kMain Q vmn ++ kHouse G (Q 1) vho)) := by simp only [kAll, pD_app, Dj_l, Dj_r] at hD ⊢; simp only [hD, and_self]
  refine k_VB (As := []) (rest := []) ⟨hx, hb, hml, hown, hts⟩ (c_X12_feudsAgain l D G Q  vmn vho _ e1 _) (cwV 0 hts gL_law_X12_feudsAgain rfl rfl rfl (by decide +kernel) ⟨Nat.le_of_ble_eq_true rfl, Nat.le_of_ble_eq_true rfl⟩) hl.1 (Nat.le_of_ble_eq_true rfl) dL_law_758 ⟨by show _ ≤ 600000; omega, by show _ ≤ 7302250; omega⟩ rfl kT_bl (fun _ _ _ => trivial) hN hK hPb hDb hS hA 0 10 rfl rfl rfl [0, 1, 2, 3] rfl (fun H locs hP hD hS => ?_)
  refine W.widen (k := cells + 49) (n := slots + 3920) (by omega) (by omega) ?_
  have hP : va_P D vwCl (kAll G Q bb vmn vho vdr vsa vhi vhh vre vrf vpa vod vsb ++ kModel G q0 v) H := by simp only [kAll, pP_app] at hP ⊢; simp only [hP, and_self]
  have hD : va_D (fun q : Nat => s.heap.size ≤ q) (kAll G Q bb vmn vho vdr vsa vhi vhh vre vrf vpa vod vsb ++ kModel G q0 v) := by simp only [kAll, pD_app, Dj_l, Dj_r] at hD ⊢; simp only [hD, and_self]
  refine lv_aload_n hx hb dL_law_761 rfl (lv_at hl 2 rfl) ?_
  refine k_VB (As := []) (rest := [.int r]) ⟨hx, hb, hml, hown, hts⟩ (c_X13_feudsAgain l D G q0  v _ e3 _) (cwV 0 hts gL_law_X13_feudsAgain rfl rfl rfl (by decide +kernel) ⟨Nat.le_of_ble_eq_true rfl, Nat.le_of_ble_eq_true rfl⟩) hl.1 (Nat.le_of_ble_eq_true rfl) dL_law_762 ⟨by show _ ≤ 600000; omega, by show _ ≤ 7302250; omega⟩ rfl kT_bl (fun _ _ _ => trivial) hN hK hP hD hS hA 0 11 rfl rfl rfl [0, 1, 2, 3] rfl (fun H locs hP hD hS => ?_)
  refine lv_icmp_eq (tgt := 1231) hx hb dL_law_765 (by decide) (fun _ => ?_) (fun cc => absurd rfl cc)
  exact kk vmn vho vdr vsa vhi vhh vre vrf vpa vod vsb v bb H locs hI' hP hD hS ls hl
set_option maxHeartbeats 4000000 in
set_option maxRecDepth 100000 in
theorem lo_excess {p : Program} {l : Launch} {e : Env} {s : State} {m : MethodId} {below : List Frame} {meth : Method} {c : Code} {b L : Nat} {xs : Nat → Int32} {D : va_G} {G : Nat → ClassId} {X Q : Nat → Nat → Nat} {q0 : Nat → Nat} {I J : TI} (hp : P_excess I J) (C0 : LwB p l s m c b L xs D G X) (hL : L ≤ 2048) {i : Nat} (hi : i + 3 < L) {cells slots : Nat} (hce : cells + 49 ≤ 600000) (hsl : slots + 3920 ≤ 7302250) {Z : State → Prop} {bb : Nat} (vmn : SV) (vho : SV) (vdr : SV) (vsa : SV) (vhi : SV) (vhh : (Nat → SV)) (vre : SV) (vrf : SV) (vpa : SV) (vod : SV) (vsb : (Nat × SV)) (v : SV) (hI : I vmn vho vdr vsa vhi vhh vre vrf vpa vod vsb v) {H : Heap} {locs : List Loc} (hP : va_P D vwCl (kAll G Q bb vmn vho vdr vsa vhi vhh vre vrf vpa vod vsb ++ kModel G q0 v) H) (hD : va_D (fun q : Nat => s.heap.size ≤ q) (kAll G Q bb vmn vho vdr vsa vhi vhh vre vrf vpa vod vsb ++ kModel G q0 v)) (hS : va_S (fun q : Nat => s.heap.size ≤ q) s.heap H locs) {ls : Array Slot} (hl : lv_has ls 8 [(0, .ref b), (1, .ref (Q 0 0)), (2, .ref (q0 0)), (3, .int (nI i))])
    (kk : LwK p l e s m below meth c b D G Q q0 J i (cells + 49) (slots + 3920) Z) : W p l e room_1 s m #[Value.ref b] below meth c H locs cells slots Z (F0 m 770 ls []) := by
  obtain ⟨hx, hb, hml, hown, hts, hX, hbl, hN, hK, hJ⟩ := C0
  have hA : ∀ q : Nat, s.heap.size ≤ q → (fun q : Nat => s.heap.size ≤ q) q := fun _ h => h
  have hbA : ¬ (fun q : Nat => s.heap.size ≤ q) b := Nat.not_le.mpr hbl
  obtain ⟨r, e1, e3, hI'⟩ := hp vmn vho vdr vsa vhi vhh vre vrf vpa vod vsb v hI ()
  refine lv_aload_n hx hb dL_law_770 rfl (lv_at hl 1 rfl) ?_
  have hPb : va_P D vwCl ((kHouse G (Q 2) vdr ++ kHouse G (Q 3) vsa ++ kHist Q vhi ++ kHH G Q vhh ++ kReader G (Q 5) vre ++ kRef G (Q 6) vrf ++ kPaths G (Q 7) vpa ++ kOrder G (Q 8) vod ++ kSB G (Q 9 0) bb vsb ++ kModel G q0 v) ++ (kMain Q vmn ++ kHouse G (Q 1) vho)) H := by simp only [kAll, pP_app] at hP ⊢; simp only [hP, and_self]
  have hDb : va_D (fun q : Nat => s.heap.size ≤ q) ((kHouse G (Q 2) vdr ++ kHouse G (Q 3) vsa ++ kHist Q vhi ++ kHH G Q vhh ++ kReader G (Q 5) vre ++ kRef G (Q 6) vrf ++ kPaths G (Q 7) vpa ++ kOrder G (Q 8) vod ++ kSB G (Q 9 0) bb vsb ++ kModel G q0 v) ++ (kMain Q vmn ++ kHouse G (Q 1) vho)) := by simp only [kAll, pD_app, Dj_l, Dj_r] at hD ⊢; simp only [hD, and_self]
  refine k_VB (As := []) (rest := []) ⟨hx, hb, hml, hown, hts⟩ (c_X12_excess l D G Q  vmn vho _ e1 _) (cwV 0 hts gL_law_X12_excess rfl rfl rfl (by decide +kernel) ⟨Nat.le_of_ble_eq_true rfl, Nat.le_of_ble_eq_true rfl⟩) hl.1 (Nat.le_of_ble_eq_true rfl) dL_law_771 ⟨by show _ ≤ 600000; omega, by show _ ≤ 7302250; omega⟩ rfl kT_bl (fun _ _ _ => trivial) hN hK hPb hDb hS hA 0 10 rfl rfl rfl [0, 1, 2, 3] rfl (fun H locs hP hD hS => ?_)
  refine W.widen (k := cells + 49) (n := slots + 3920) (by omega) (by omega) ?_
  have hP : va_P D vwCl (kAll G Q bb vmn vho vdr vsa vhi vhh vre vrf vpa vod vsb ++ kModel G q0 v) H := by simp only [kAll, pP_app] at hP ⊢; simp only [hP, and_self]
  have hD : va_D (fun q : Nat => s.heap.size ≤ q) (kAll G Q bb vmn vho vdr vsa vhi vhh vre vrf vpa vod vsb ++ kModel G q0 v) := by simp only [kAll, pD_app, Dj_l, Dj_r] at hD ⊢; simp only [hD, and_self]
  refine lv_aload_n hx hb dL_law_774 rfl (lv_at hl 2 rfl) ?_
  refine k_VB (As := []) (rest := [.int r]) ⟨hx, hb, hml, hown, hts⟩ (c_X13_excess l D G q0  v _ e3 _) (cwV 0 hts gL_law_X13_excess rfl rfl rfl (by decide +kernel) ⟨Nat.le_of_ble_eq_true rfl, Nat.le_of_ble_eq_true rfl⟩) hl.1 (Nat.le_of_ble_eq_true rfl) dL_law_775 ⟨by show _ ≤ 600000; omega, by show _ ≤ 7302250; omega⟩ rfl kT_bl (fun _ _ _ => trivial) hN hK hP hD hS hA 0 11 rfl rfl rfl [0, 1, 2, 3] rfl (fun H locs hP hD hS => ?_)
  refine lv_icmp_eq (tgt := 1231) hx hb dL_law_778 (by decide) (fun _ => ?_) (fun cc => absurd rfl cc)
  exact kk vmn vho vdr vsa vhi vhh vre vrf vpa vod vsb v bb H locs hI' hP hD hS ls hl
