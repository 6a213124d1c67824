/-! Walks, laid by wip/whole/gen.py: for each method f_ (what it does to its world) and c_ (its contract). -/
set_option maxHeartbeats 4000000 in
set_option maxRecDepth 100000 in
theorem lo_excessAgain {p : Program} {l : Launch} {e : Env} {s : State} {m : MethodId} {below : List Frame} {meth : Method} {c : Code} {b L : Nat} {xs : Nat → Int32} {D : va_G} {G : Nat → ClassId} {X Q : Nat → Nat → Nat} {q0 : Nat → Nat} {I J : TI} (hp : P_excessAgain I J) (C0 : LwB p l s m c b L xs D G X) (hL : L ≤ 2048) {i : Nat} (hi : i + 3 < L) {cells slots : Nat} (hce : cells + 49 ≤ 600000) (hsl : slots + 3920 ≤ 7302250) {Z : State → Prop} {bb : Nat} (vmn : SV) (vho : SV) (vdr : SV) (vsa : SV) (vhi : SV) (vhh : (Nat → SV)) (vre : SV) (vrf : SV) (vpa : SV) (vod : SV) (vsb : (Nat × SV)) (v : SV) (hI : I vmn vho vdr vsa vhi vhh vre vrf vpa vod vsb v) {H : Heap} {locs : List Loc} (hP : va_P D vwCl (kAll G Q bb vmn vho vdr vsa vhi vhh vre vrf vpa vod vsb ++ kModel G q0 v) H) (hD : va_D (fun q : Nat => s.heap.size ≤ q) (kAll G Q bb vmn vho vdr vsa vhi vhh vre vrf vpa vod vsb ++ kModel G q0 v)) (hS : va_S (fun q : Nat => s.heap.size ≤ q) s.heap H locs) {ls : Array Slot} (hl : lv_has ls 8 [(0, .ref b), (1, .ref (Q 0 0)), (2, .ref (q0 0)), (3, .int (nI i))])
    (kk : LwK p l e s m below meth c b D G Q q0 J i (cells + 49) (slots + 3920) Z) : W p l e room_1 s m #[Value.ref b] below meth c H locs cells slots Z (F0 m 783 ls []) := by
  obtain ⟨hx, hb, hml, hown, hts, hX, hbl, hN, hK, hJ⟩ := C0
  have hA : ∀ q : Nat, s.heap.size ≤ q → (fun q : Nat => s.heap.size ≤ q) q := fun _ h => h
  have hbA : ¬ (fun q : Nat => s.heap.size ≤ q) b := Nat.not_le.mpr hbl
  obtain ⟨r, vdr', e1, e3, hI'⟩ := hp vmn vho vdr vsa vhi vhh vre vrf vpa vod vsb v hI ()
  refine lv_aload_n hx hb dL_law_783 rfl (lv_at hl 1 rfl) ?_
  have hPb : va_P D vwCl ((kHouse G (Q 3) vsa ++ kHist Q vhi ++ kHH G Q vhh ++ kReader G (Q 5) vre ++ kRef G (Q 6) vrf ++ kPaths G (Q 7) vpa ++ kOrder G (Q 8) vod ++ kSB G (Q 9 0) bb vsb ++ kModel G q0 v) ++ (kMain Q vmn ++ kHouse G (Q 1) vho ++ kHouse G (Q 2) vdr)) H := by simp only [kAll, pP_app] at hP ⊢; simp only [hP, and_self]
  have hDb : va_D (fun q : Nat => s.heap.size ≤ q) ((kHouse G (Q 3) vsa ++ kHist Q vhi ++ kHH G Q vhh ++ kReader G (Q 5) vre ++ kRef G (Q 6) vrf ++ kPaths G (Q 7) vpa ++ kOrder G (Q 8) vod ++ kSB G (Q 9 0) bb vsb ++ kModel G q0 v) ++ (kMain Q vmn ++ kHouse G (Q 1) vho ++ kHouse G (Q 2) vdr)) := by simp only [kAll, pD_app, Dj_l, Dj_r] at hD ⊢; simp only [hD, and_self]
  refine k_VB (As := []) (rest := []) ⟨hx, hb, hml, hown, hts⟩ (c_X12_excessAgain l D G Q  vmn vho vdr _ _ e1 _) (cwV 0 hts gL_law_X12_excessAgain rfl rfl rfl (by decide +kernel) ⟨Nat.le_of_ble_eq_true rfl, Nat.le_of_ble_eq_true rfl⟩) hl.1 (Nat.le_of_ble_eq_true rfl) dL_law_784 ⟨by show _ ≤ 600000; omega, by show _ ≤ 7302250; omega⟩ rfl kT_bl (fun _ _ _ => trivial) hN hK hPb hDb hS hA 0 10 rfl rfl rfl [0, 1, 2, 3] rfl (fun H locs hP hD hS => ?_)
  refine W.widen (k := cells + 49) (n := slots + 3920) (by omega) (by omega) ?_
  have hP : va_P D vwCl (kAll G Q bb vmn vho vdr' vsa vhi vhh vre vrf vpa vod vsb ++ kModel G q0 v) H := by simp only [kAll, pP_app] at hP ⊢; simp only [hP, and_self]
  have hD : va_D (fun q : Nat => s.heap.size ≤ q) (kAll G Q bb vmn vho vdr' vsa vhi vhh vre vrf vpa vod vsb ++ kModel G q0 v) := by simp only [kAll, pD_app, Dj_l, Dj_r] at hD ⊢; simp only [hD, and_self]
  refine lv_aload_n hx hb dL_law_787 rfl (lv_at hl 2 rfl) ?_
  refine k_VB (As := []) (rest := [.int r]) ⟨hx, hb, hml, hown, hts⟩ (c_X13_excessAgain l D G q0  v _ e3 _) (cwV 0 hts gL_law_X13_excessAgain rfl rfl rfl (by decide +kernel) ⟨Nat.le_of_ble_eq_true rfl, Nat.le_of_ble_eq_true rfl⟩) hl.1 (Nat.le_of_ble_eq_true rfl) dL_law_788 ⟨by show _ ≤ 600000; omega, by show _ ≤ 7302250; omega⟩ rfl kT_bl (fun _ _ _ => trivial) hN hK hP hD hS hA 0 11 rfl rfl rfl [0, 1, 2, 3] rfl (fun H locs hP hD hS => ?_)
  refine lv_icmp_eq (tgt := 1231) hx hb dL_law_791 (by decide) (fun _ => ?_) (fun cc => absurd rfl cc)
  exact kk vmn vho vdr' vsa vhi vhh vre vrf vpa vod vsb v bb H locs hI' hP hD hS ls hl
set_option maxHeartbeats 4000000 in
set_option maxRecDepth 100000 in
theorem lo_census {p : Program} {l : Launch} {e : Env} {s : State} {m : MethodId} {below : List Frame} {meth : Method} {c : Code} {b L : Nat} {xs : Nat → Int32} {D : va_G} {G : Nat → ClassId} {X Q : Nat → Nat → Nat} {q0 : Nat → Nat} {I J : TI} (hp : P_census I J) (C0 : LwB p l s m c b L xs D G X) (hL : L ≤ 2048) {i : Nat} (hi : i + 3 < L) {cells slots : Nat} (hce : cells + 49 ≤ 600000) (hsl : slots + 3920 ≤ 7302250) {Z : State → Prop} {bb : Nat} (vmn : SV) (vho : SV) (vdr : SV) (vsa : SV) (vhi : SV) (vhh : (Nat → SV)) (vre : SV) (vrf : SV) (vpa : SV) (vod : SV) (vsb : (Nat × SV)) (v : SV) (hI : I vmn vho vdr vsa vhi vhh vre vrf vpa vod vsb v) {H : Heap} {locs : List Loc} (hP : va_P D vwCl (kAll G Q bb vmn vho vdr vsa vhi vhh vre vrf vpa vod vsb ++ kModel G q0 v) H) (hD : va_D (fun q : Nat => s.heap.size ≤ q) (kAll G Q bb vmn vho vdr vsa vhi vhh vre vrf vpa vod vsb ++ kModel G q0 v)) (hS : va_S (fun q : Nat => s.heap.size ≤ q) s.heap H locs) {ls : Array Slot} (hl : lv_has ls 8 [(0, .ref b), (1, .ref (Q 0 0)), (2, .ref (q0 0)), (3, .int (nI i))])
    (kk : LwK p l e s m below meth c b D G Q q0 J i (cells + 49) (slots + 3920) Z) : W p l e room_1 s m #[Value.ref b] below meth c H locs cells slots Z (F0 m 796 ls []) := by
  obtain ⟨hx, hb, hml, hown, hts, hX, hbl, hN, hK, hJ⟩ := C0
  have hA : ∀ q : Nat, s.heap.size ≤ q → (fun q : Nat => s.heap.size ≤ q) q := fun _ h => h
  have hbA : ¬ (fun q : Nat => s.heap.size ≤ q) b := Nat.not_le.mpr hbl
  obtain ⟨r, e1, e3, hI'⟩ := hp vmn vho vdr vsa vhi vhh vre vrf vpa vod vsb v hI ()
  refine lv_aload_n hx hb dL_law_796 rfl (lv_at hl 1 rfl) ?_
  have hPb : va_P D vwCl ((kHouse G (Q 2) vdr ++ kHouse G (Q 3) vsa ++ kHist Q vhi ++ kHH G Q vhh ++ kReader G (Q 5) vre ++ kRef G (Q 6) vrf ++ kPaths G (Q 7) vpa ++ kOrder G (Q 8) vod ++ kSB G (Q 9 0) bb vsb ++ kModel G q0 v) ++ (kMain Q vmn ++ kHouse G (Q 1) vho)) H := by simp only [kAll, pP_app] at hP ⊢; simp only [hP, and_self]
  have hDb : va_D (fun q : Nat => s.heap.size ≤ q) ((kHouse G (Q 2) vdr ++ kHouse G (Q 3) vsa ++ kHist Q vhi ++ kHH G Q vhh ++ kReader G (Q 5) vre ++ kRef G (Q 6) vrf ++ kPaths G (Q 7) vpa ++ kOrder G (Q 8) vod ++ kSB G (Q 9 0) bb vsb ++ kModel G q0 v) ++ (kMain Q vmn ++ kHouse G (Q 1) vho)) := by simp only [kAll, pD_app, Dj_l, Dj_r] at hD ⊢; simp only [hD, and_self]
  refine k_VB (As := []) (rest := []) ⟨hx, hb, hml, hown, hts⟩ (c_X12_census l D G Q  vmn vho _ e1 _) (cwV 0 hts gL_law_X12_census rfl rfl rfl (by decide +kernel) ⟨Nat.le_of_ble_eq_true rfl, Nat.le_of_ble_eq_true rfl⟩) hl.1 (Nat.le_of_ble_eq_true rfl) dL_law_797 ⟨by show _ ≤ 600000; omega, by show _ ≤ 7302250; omega⟩ rfl kT_bl (fun _ _ _ => trivial) hN hK hPb hDb hS hA 0 10 rfl rfl rfl [0, 1, 2, 3] rfl (fun H locs hP hD hS => ?_)
  refine W.widen (k := cells + 49) (n := slots + 3920) (by omega) (by omega) ?_
  have hP : va_P D vwCl (kAll G Q bb vmn vho vdr vsa vhi vhh vre vrf vpa vod vsb ++ kModel G q0 v) H := by simp only [kAll, pP_app] at hP ⊢; simp only [hP, and_self]
  have hD : va_D (fun q : Nat => s.heap.size ≤ q) (kAll G Q bb vmn vho vdr vsa vhi vhh vre vrf vpa vod vsb ++ kModel G q0 v) := by simp only [kAll, pD_app, Dj_l, Dj_r] at hD ⊢; simp only [hD, and_self]
  refine lv_aload_n hx hb dL_law_800 rfl (lv_at hl 2 rfl) ?_
  refine k_VB (As := []) (rest := [.int r]) ⟨hx, hb, hml, hown, hts⟩ (c_X13_census l D G q0  v _ e3 _) (cwV 0 hts gL_law_X13_census rfl rfl rfl (by decide +kernel) ⟨Nat.le_of_ble_eq_true rfl, Nat.le_of_ble_eq_true rfl⟩) hl.1 (Nat.le_of_ble_eq_true rfl) dL_law_801 ⟨by show _ ≤ 600000; omega, by show _ ≤ 7302250; omega⟩ rfl kT_bl (fun _ _ _ => trivial) hN hK hP hD hS hA 0 11 rfl rfl rfl [0, 1, 2, 3] rfl (fun H locs hP hD hS => ?_)
  refine lv_icmp_eq (tgt := 1231) hx hb dL_law_804 (by decide) (fun _ => ?_) (fun cc => absurd rfl cc)
  exact kk vmn vho vdr vsa vhi vhh vre vrf vpa vod vsb v bb H locs hI' hP hD hS ls hl
set_option maxHeartbeats 4000000 in
set_option maxRecDepth 100000 in
theorem lo_censusAgain {p : Program} {l : Launch} {e : Env} {s : State} {m : MethodId} {below : List Frame} {meth : Method} {c : Code} {b L : Nat} {xs : Nat → Int32} {D : va_G} {G : Nat → ClassId} {X Q : Nat → Nat → Nat} {q0 : Nat → Nat} {I J : TI} (hp : P_censusAgain I J) (C0 : LwB p l s m c b L xs D G X) (hL : L ≤ 2048) {i : Nat} (hi : i + 3 < L) {cells slots : Nat} (hce : cells + 49 ≤ 600000) (hsl : slots + 3920 ≤ 7302250) {Z : State → Prop} {bb : Nat} (vmn : SV) (vho : SV) (vdr : SV) (vsa : SV) (vhi : SV) (vhh : (Nat → SV)) (vre : SV) (vrf : SV) (vpa : SV) (vod : SV) (vsb : (Nat × SV)) (v : SV) (hI : I vmn vho vdr vsa vhi vhh vre vrf vpa vod vsb v) {H : Heap} {locs : List Loc} (hP : va_P D vwCl (kAll G Q bb vmn vho vdr vsa vhi vhh vre vrf vpa vod vsb ++ kModel G q0 v) H) (hD : va_D (fun q : Nat => s.heap.size ≤ q) (kAll G Q bb vmn vho vdr vsa vhi vhh vre vrf vpa vod vsb ++ kModel G q0 v)) (hS : va_S (fun q : Nat => s.heap.size ≤ q) s.heap H locs) {ls : Array Slot} (hl : lv_has ls 8 [(0, .ref b), (1, .ref (Q 0 0)), (2, .ref (q0 0)), (3, .int (nI i))])
    (kk : LwK p l e s m below meth c b D G Q q0 J i (cells + 49) (slots + 3920) Z) : W p l e room_1 s m #[Value.ref b] below meth c H locs cells slots Z (F0 m 809 ls []) := by
  obtain ⟨hx, hb, hml, hown, hts, hX, hbl, hN, hK, hJ⟩ := C0
  have hA : ∀ q : Nat, s.heap.size ≤ q → (fun q : Nat => s.heap.size ≤ q) q := fun _ h => h
  have hbA : ¬ (fun q : Nat => s.heap.size ≤ q) b := Nat.not_le.mpr hbl
  obtain ⟨r, e1, e3, hI'⟩ := hp vmn vho vdr vsa vhi vhh vre vrf vpa vod vsb v hI ()
  refine lv_aload_n hx hb dL_law_809 rfl (lv_at hl 1 rfl) ?_
  have hPb : va_P D vwCl ((kHouse G (Q 2) vdr ++ kHouse G (Q 3) vsa ++ kHist Q vhi ++ kHH G Q vhh ++ kReader G (Q 5) vre ++ kRef G (Q 6) vrf ++ kPaths G (Q 7) vpa ++ kOrder G (Q 8) vod ++ kSB G (Q 9 0) bb vsb ++ kModel G q0 v) ++ (kMain Q vmn ++ kHouse G (Q 1) vho)) H := by simp only [kAll, pP_app] at hP ⊢; simp only [hP, and_self]
  have hDb : va_D (fun q : Nat => s.heap.size ≤ q) ((kHouse G (Q 2) vdr ++ kHouse G (Q 3) vsa ++ kHist Q vhi ++ kHH G Q vhh ++ kReader G (Q 5) vre ++ kRef G (Q 6) vrf ++ kPaths G (Q 7) vpa ++ kOrder G (Q 8) vod ++ kSB G (Q 9 0) bb vsb ++ kModel G q0 v) ++ (kMain Q vmn ++ kHouse G (Q 1) vho)) := by simp only [kAll, pD_app, Dj_l, Dj_r] at hD ⊢; simp only [hD, and_self]
  refine k_VB (As := []) (rest := []) ⟨hx, hb, hml, hown, hts⟩ (c_X12_censusAgain l D G Q  vmn vho _ e1 _) (cwV 0 hts gL_law_X12_censusAgain rfl rfl rfl (by decide +kernel) ⟨Nat.le_of_ble_eq_true rfl, Nat.le_of_ble_eq_true rfl⟩) hl.1 (Nat.le_of_ble_eq_true rfl) dL_law_810 ⟨by show _ ≤ 600000; omega, by show _ ≤ 7302250; omega⟩ rfl kT_bl (fun _ _ _ => trivial) hN hK hPb hDb hS hA 0 10 rfl rfl rfl [0, 1, 2, 3] rfl (fun H locs hP hD hS => ?_)
  refine W.widen (k := cells + 49) (n := slots + 3920) (by omega) (by omega) ?_
  have hP : va_P D vwCl (kAll G Q bb vmn vho vdr vsa vhi vhh vre vrf vpa vod vsb ++ kModel G q0 v) H := by simp only [kAll, pP_app] at hP ⊢; simp only [hP, and_self]
  have hD : va_D (fun q : Nat => s.heap.size ≤ q) (kAll G Q bb vmn vho vdr vsa vhi vhh vre vrf vpa vod vsb ++ kModel G q0 v) := by simp only [kAll, pD_app, Dj_l, Dj_r] at hD ⊢; simp only [hD, and_self]
  refine lv_aload_n hx hb dL_law_813 rfl (lv_at hl 2 rfl) ?_
  refine k_VB (As := []) (rest := [.int r]) ⟨hx, hb, hml, hown, hts⟩ (c_X13_censusAgain l D G q0  v _ e3 _) (cwV 0 hts gL_law_X13_censusAgain rfl rfl rfl (by decide +kernel) ⟨Nat.le_of_ble_eq_true rfl, Nat.le_of_ble_eq_true rfl⟩) hl.1 (Nat.le_of_ble_eq_true rfl) dL_law_814 ⟨by show _ ≤ 600000; omega, by show _ ≤ 7302250; omega⟩ rfl kT_bl (fun _ _ _ => trivial) hN hK hP hD hS hA 0 11 rfl rfl rfl [0, 1, 2, 3] rfl (fun H locs hP hD hS => ?_)
  refine lv_icmp_eq (tgt := 1231) hx hb dL_law_817 (by decide) (fun _ => ?_) (fun cc => absurd rfl cc)
  exact kk vmn vho vdr vsa vhi vhh vre vrf vpa vod vsb v bb H locs hI' hP hD hS ls hl
set_option maxHeartbeats 4000000 in
set_option maxRecDepth 100000 in
theorem lo_steps {p : Program} {l : Launch} {e : Env} {s : State} {m : MethodId} {below : List Frame} {meth : Method} {c : Code} {b L : Nat} {xs : Nat → Int32} {D : va_G} {G : Nat → ClassId} {X Q : Nat → Nat → Nat} {q0 : Nat → Nat} {I J : TI} (hp : P_steps I J) (C0 : LwB p l s m c b L xs D G X) (hL : L ≤ 2048) {i : Nat} (hi : i + 3 < L) {cells slots : Nat} (hce : cells + 49 ≤ 600000) (hsl : slots + 3920 ≤ 7302250) {Z : State → Prop} {bb : Nat} (vmn : SV) (vho : SV) (vdr : SV) (vsa : SV) (vhi : SV) (vhh : (Nat → SV)) (vre : SV) (vrf : SV) (vpa : SV) (vod : SV) (vsb : (Nat × SV)) (v : SV) (hI : I vmn vho vdr vsa vhi vhh vre vrf vpa vod vsb v) {H : Heap} {locs : List Loc} (hP : va_P D vwCl (kAll G Q bb vmn vho vdr vsa vhi vhh vre vrf vpa vod vsb ++ kModel G q0 v) H) (hD : va_D (fun q : Nat => s.heap.size ≤ q) (kAll G Q bb vmn vho vdr vsa vhi vhh vre vrf vpa vod vsb ++ kModel G q0 v)) (hS : va_S (fun q : Nat => s.heap.size ≤ q) s.heap H locs) {ls : Array Slot} (hl : lv_has ls 8 [(0, .ref b), (1, .ref (Q 0 0)), (2, .ref (q0 0)), (3, .int (nI i))])
    (kk : LwK p l e s m below meth c b D G Q q0 J i (cells + 49) (slots + 3920) Z) : W p l e room_1 s m #[Value.ref b] below meth c H locs cells slots Z (F0 m 822 ls []) := by
  obtain ⟨hx, hb, hml, hown, hts, hX, hbl, hN, hK, hJ⟩ := C0
  have hA : ∀ q : Nat, s.heap.size ≤ q → (fun q : Nat => s.heap.size ≤ q) q := fun _ h => h
  have hbA : ¬ (fun q : Nat => s.heap.size ≤ q) b := Nat.not_le.mpr hbl
  have h1 : vp_in (nI i + 1) L := lw_in 1 (by decide) (by omega) hL
  have h2 : vp_in (nI i + 2) L := lw_in 2 (by decide) (by omega) hL
  obtain ⟨r, vpa', v', e1, e3, hI'⟩ := hp vmn vho vdr vsa vhi vhh vre vrf vpa vod vsb v hI (xs (nI i + 1).toNatClampNeg) (xs (nI i + 2).toNatClampNeg)
  refine lv_aload_n hx hb dL_law_822 rfl (lv_at hl 1 rfl) ?_
  refine lv_aload_n hx hb dL_law_823 rfl (lv_at hl 0 rfl) ?_
  refine lv_iload_n hx hb dL_law_824 rfl (lv_at hl 3 rfl) ?_
  refine lv_iconst (v := 1) hx hb dL_law_825 (by decide) ?_
  refine lv_iadd hx hb dL_law_826 ?_
  refine va_sld hx hb hX hbl hbA hS h1 dL_law_827 ?_
  refine lv_aload_n hx hb dL_law_828 rfl (lv_at hl 0 rfl) ?_
  refine lv_iload_n hx hb dL_law_829 rfl (lv_at hl 3 rfl) ?_
  refine lv_iconst (v := 2) hx hb dL_law_830 (by decide) ?_
  refine lv_iadd hx hb dL_law_831 ?_
  refine va_sld hx hb hX hbl hbA hS h2 dL_law_832 ?_
  have hPb : va_P D vwCl ((kHouse G (Q 2) vdr ++ kHouse G (Q 3) vsa ++ kHist Q vhi ++ kHH G Q vhh ++ kReader G (Q 5) vre ++ kRef G (Q 6) vrf ++ kOrder G (Q 8) vod ++ kSB G (Q 9 0) bb vsb ++ kModel G q0 v) ++ (kMain Q vmn ++ kHouse G (Q 1) vho ++ kPaths G (Q 7) vpa)) H := by simp only [kAll, pP_app] at hP ⊢; simp only [hP, and_self]
  have hDb : va_D (fun q : Nat => s.heap.size ≤ q) ((kHouse G (Q 2) vdr ++ kHouse G (Q 3) vsa ++ kHist Q vhi ++ kHH G Q vhh ++ kReader G (Q 5) vre ++ kRef G (Q 6) vrf ++ kOrder G (Q 8) vod ++ kSB G (Q 9 0) bb vsb ++ kModel G q0 v) ++ (kMain Q vmn ++ kHouse G (Q 1) vho ++ kPaths G (Q 7) vpa)) := by simp only [kAll, pD_app, Dj_l, Dj_r] at hD ⊢; simp only [hD, and_self]
  refine k_VB (As := [.int (xs (nI i + 1).toNatClampNeg), .int (xs (nI i + 2).toNatClampNeg)]) (rest := []) ⟨hx, hb, hml, hown, hts⟩ (c_X12_steps l D G Q (xs (nI i + 1).toNatClampNeg) (xs (nI i + 2).toNatClampNeg) vmn vho vpa _ _ e1 _) (cwV 2 hts gL_law_X12_steps rfl rfl rfl (by decide +kernel) ⟨Nat.le_of_ble_eq_true rfl, Nat.le_of_ble_eq_true rfl⟩) hl.1 (Nat.le_of_ble_eq_true rfl) dL_law_833 ⟨by show _ ≤ 600000; omega, by show _ ≤ 7302250; omega⟩ rfl kT_bl (fun _ _ _ => trivial) hN hK hPb hDb hS hA 0 10 rfl rfl rfl [0, 1, 2, 3] rfl (fun H locs hP hD hS => ?_)
  refine W.widen (k := cells + 49) (n := slots + 3920) (by omega) (by omega) ?_
  have hP : va_P D vwCl (kAll G Q bb vmn vho vdr vsa vhi vhh vre vrf vpa' vod vsb ++ kModel G q0 v) H := by simp only [kAll, pP_app] at hP ⊢; simp only [hP, and_self]
  have hD : va_D (fun q : Nat => s.heap.size ≤ q) (kAll G Q bb vmn vho vdr vsa vhi vhh vre vrf vpa' vod vsb ++ kModel G q0 v) := by simp only [kAll, pD_app, Dj_l, Dj_r] at hD ⊢; simp only [hD, and_self]
  refine lv_aload_n hx hb dL_law_836 rfl (lv_at hl 2 rfl) ?_
  refine lv_aload_n hx hb dL_law_837 rfl (lv_at hl 0 rfl) ?_
  refine lv_iload_n hx hb dL_law_838 rfl (lv_at hl 3 rfl) ?_
  refine lv_iconst (v := 1) hx hb dL_law_839 (by decide) ?_
  refine lv_iadd hx hb dL_law_840 ?_
  refine va_sld hx hb hX hbl hbA hS h1 dL_law_841 ?_
  refine lv_aload_n hx hb dL_law_842 rfl (lv_at hl 0 rfl) ?_
  refine lv_iload_n hx hb dL_law_843 rfl (lv_at hl 3 rfl) ?_
  refine lv_iconst (v := 2) hx hb dL_law_844 (by decide) ?_
  refine lv_iadd hx hb dL_law_845 ?_
  refine va_sld hx hb hX hbl hbA hS h2 dL_law_846 ?_
  refine k_VB (As := [.int (xs (nI i + 1).toNatClampNeg), .int (xs (nI i + 2).toNatClampNeg)]) (rest := [.int r]) ⟨hx, hb, hml, hown, hts⟩ (c_X13_steps l D G q0 (xs (nI i + 1).toNatClampNeg) (xs (nI i + 2).toNatClampNeg) v _ _ e3 _) (cwV 2 hts gL_law_X13_steps rfl rfl rfl (by decide +kernel) ⟨Nat.le_of_ble_eq_true rfl, Nat.le_of_ble_eq_true rfl⟩) hl.1 (Nat.le_of_ble_eq_true rfl) dL_law_847 ⟨by show _ ≤ 600000; omega, by show _ ≤ 7302250; omega⟩ rfl kT_bl (fun _ _ _ => trivial) hN hK hP hD hS hA 0 11 rfl rfl rfl [0, 1, 2, 3] rfl (fun H locs hP hD hS => ?_)
  refine lv_icmp_eq (tgt := 1231) hx hb dL_law_850 (by decide) (fun _ => ?_) (fun cc => absurd rfl cc)
  exact kk vmn vho vdr vsa vhi vhh vre vrf vpa' vod vsb v' bb H locs hI' hP hD hS ls hl
set_option maxHeartbeats 4000000 in
set_option maxRecDepth 100000 in
theorem lo_stepsAgain {p : Program} {l : Launch} {e : Env} {s : State} {m : MethodId} {below : List Frame} {meth : Method} {c : Code} {b L : Nat} {xs : Nat → Int32} {D : va_G} {G : Nat → ClassId} {X Q : Nat → Nat → Nat} {q0 : Nat → Nat} {I J : TI} (hp : P_stepsAgain I J) (C0 : LwB p l s m c b L xs D G X) (hL : L ≤ 2048) {i : Nat} (hi : i + 3 < L) {cells slots : Nat} (hce : cells + 49 ≤ 600000) (hsl : slots + 3920 ≤ 7302250) {Z : State → Prop} {bb : Nat} (vmn : SV) (vho : SV) (vdr : SV) (vsa : SV) (vhi : SV) (vhh : (Nat → SV)) (vre : SV) (vrf : SV) (vpa : SV) (vod : SV) (vsb : (Nat × SV)) (v : SV) (hI : I vmn vho vdr vsa vhi vhh vre vrf vpa vod vsb v) {H : Heap} {locs : List Loc} (hP : va_P D vwCl (kAll G Q bb vmn vho vdr vsa vhi vhh vre vrf vpa vod vsb ++ kModel G q0 v) H) (hD : va_D (fun q : Nat => s.heap.size ≤ q) (kAll G Q bb vmn vho vdr vsa vhi vhh vre vrf vpa vod vsb ++ kModel G q0 v)) (hS : va_S (fun q : Nat => s.heap.size ≤ q) s.heap H locs) {ls : Array Slot} (hl : lv_has ls 8 [(0, .ref b), (1, .ref (Q 0 0)), (2, .ref (q0 0)), (3, .int (nI i))])
    (kk : LwK p l e s m below meth c b D G Q q0 J i (cells + 49) (slots + 3920) Z) : W p l e room_1 s m #[Value.ref b] below meth c H locs cells slots Z (F0 m 855 ls []) := by
  obtain ⟨hx, hb, hml, hown, hts, hX, hbl, hN, hK, hJ⟩ := C0
  have hA : ∀ q : Nat, s.heap.size ≤ q → (fun q : Nat => s.heap.size ≤ q) q := fun _ h => h
  have hbA : ¬ (fun q : Nat => s.heap.size ≤ q) b := Nat.not_le.mpr hbl
  have h1 : vp_in (nI i + 1) L := lw_in 1 (by decide) (by omega) hL
  have h2 : vp_in (nI i + 2) L := lw_in 2 (by decide) (by omega) hL
  obtain ⟨r, vpa', v', e1, e3, hI'⟩ := hp vmn vho vdr vsa vhi vhh vre vrf vpa vod vsb v hI (xs (nI i + 1).toNatClampNeg) (xs (nI i + 2).toNatClampNeg)
  refine lv_aload_n hx hb dL_law_855 rfl (lv_at hl 1 rfl) ?_
  refine lv_aload_n hx hb dL_law_856 rfl (lv_at hl 0 rfl) ?_
  refine lv_iload_n hx hb dL_law_857 rfl (lv_at hl 3 rfl) ?_
  refine lv_iconst (v := 1) hx hb dL_law_858 (by decide) ?_
  refine lv_iadd hx hb dL_law_859 ?_
  refine va_sld hx hb hX hbl hbA hS h1 dL_law_860 ?_
  refine lv_aload_n hx hb dL_law_861 rfl (lv_at hl 0 rfl) ?_
  refine lv_iload_n hx hb dL_law_862 rfl (lv_at hl 3 rfl) ?_
  refine lv_iconst (v := 2) hx hb dL_law_863 (by decide) ?_
  refine lv_iadd hx hb dL_law_864 ?_
  refine va_sld hx hb hX hbl hbA hS h2 dL_law_865 ?_
  have hPb : va_P D vwCl ((kHouse G (Q 2) vdr ++ kHouse G (Q 3) vsa ++ kHist Q vhi ++ kHH G Q vhh ++ kReader G (Q 5) vre ++ kRef G (Q 6) vrf ++ kOrder G (Q 8) vod ++ kSB G (Q 9 0) bb vsb ++ kModel G q0 v) ++ (kMain Q vmn ++ kHouse G (Q 1) vho ++ kPaths G (Q 7) vpa)) H := by simp only [kAll, pP_app] at hP ⊢; simp only [hP, and_self]
  have hDb : va_D (fun q : Nat => s.heap.size ≤ q) ((kHouse G (Q 2) vdr ++ kHouse G (Q 3) vsa ++ kHist Q vhi ++ kHH G Q vhh ++ kReader G (Q 5) vre ++ kRef G (Q 6) vrf ++ kOrder G (Q 8) vod ++ kSB G (Q 9 0) bb vsb ++ kModel G q0 v) ++ (kMain Q vmn ++ kHouse G (Q 1) vho ++ kPaths G (Q 7) vpa)) := by simp only [kAll, pD_app, Dj_l, Dj_r] at hD ⊢; simp only [hD, and_self]
  refine k_VB (As := [.int (xs (nI i + 1).toNatClampNeg), .int (xs (nI i + 2).toNatClampNeg)]) (rest := []) ⟨hx, hb, hml, hown, hts⟩ (c_X12_stepsAgain l D G Q (xs (nI i + 1).toNatClampNeg) (xs (nI i + 2).toNatClampNeg) vmn vho vpa _ _ e1 _) (cwV 2 hts gL_law_X12_stepsAgain rfl rfl rfl (by decide +kernel) ⟨Nat.le_of_ble_eq_true rfl, Nat.le_of_ble_eq_true rfl⟩) hl.1 (Nat.le_of_ble_eq_true rfl) dL_law_866 ⟨by show _ ≤ 600000; omega, by show _ ≤ 7302250; omega⟩ rfl kT_bl (fun _ _ _ => trivial) hN hK hPb hDb hS hA 0 10 rfl rfl rfl [0, 1, 2, 3] rfl (fun H locs hP hD hS => ?_)
  refine W.widen (k := cells + 49) (n := slots + 3920) (by omega) (by omega) ?_
  have hP : va_P D vwCl (kAll G Q bb vmn vho vdr vsa vhi vhh vre vrf vpa' vod vsb ++ kModel G q0 v) H := by simp only [kAll, pP_app] at hP ⊢; simp only [hP, and_self]
  have hD : va_D (fun q : Nat => s.heap.size ≤ q) (kAll G Q bb vmn vho vdr vsa vhi vhh vre vrf vpa' vod vsb ++ kModel G q0 v) := by simp only [kAll, pD_app, Dj_l, Dj_r] at hD ⊢; simp only [hD, and_self]
  refine lv_aload_n hx hb dL_law_869 rfl (lv_at hl 2 rfl) ?_
  refine lv_aload_n hx hb dL_law_870 rfl (lv_at hl 0 rfl) ?_
  refine lv_iload_n hx hb dL_law_871 rfl (lv_at hl 3 rfl) ?_
  refine lv_iconst (v := 1) hx hb dL_law_872 (by decide) ?_
  refine lv_iadd hx hb dL_law_873 ?_
  refine va_sld hx hb hX hbl hbA hS h1 dL_law_874 ?_
  refine lv_aload_n hx hb dL_law_875 rfl (lv_at hl 0 rfl) ?_
  refine lv_iload_n hx hb dL_law_876 rfl (lv_at hl 3 rfl) ?_
  refine lv_iconst (v := 2) hx hb dL_law_877 (by decide) ?_
  refine lv_iadd hx hb dL_law_878 ?_
  refine va_sld hx hb hX hbl hbA hS h2 dL_law_879 ?_
  refine k_VB (As := [.int (xs (nI i + 1).toNatClampNeg), .int (xs (nI i + 2).toNatClampNeg)]) (rest := [.int r]) ⟨hx, hb, hml, hown, hts⟩ (c_X13_stepsAgain l D G q0 (xs (nI i + 1).toNatClampNeg) (xs (nI i + 2).toNatClampNeg) v _ _ e3 _) (cwV 2 hts gL_law_X13_stepsAgain rfl rfl rfl (by decide +kernel) ⟨Nat.le_of_ble_eq_true rfl, Nat.le_of_ble_eq_true rfl⟩) hl.1 (Nat.le_of_ble_eq_true rfl) dL_law_880 ⟨by show _ ≤ 600000; omega, by show _ ≤ 7302250; omega⟩ rfl kT_bl (fun _ _ _ => trivial) hN hK hP hD hS hA 0 11 rfl rfl rfl [0, 1, 2, 3] rfl (fun H locs hP hD hS => ?_)
  refine lv_icmp_eq (tgt := 1231) hx hb dL_law_883 (by decide) (fun _ => ?_) (fun cc => absurd rfl cc)
  exact kk vmn vho vdr vsa vhi vhh vre vrf vpa' vod vsb v' bb H locs hI' hP hD hS ls hl
set_option maxHeartbeats 4000000 in
set_option maxRecDepth 100000 in
theorem lo_way {p : Program} {l : Launch} {e : Env} {s : State} {m : MethodId} {below : List Frame} {meth : Method} {c : Code} {b L : Nat} {xs : Nat → Int32} {D : va_G} {G : Nat → ClassId} {X Q : Nat → Nat → Nat} {q0 : Nat → Nat} {I J : TI} (hp : P_way I J) (C0 : LwB p l s m c b L xs D G X) (hL : L ≤ 2048) {i : Nat} (hi : i + 3 < L) {cells slots : Nat} (hce : cells + 49 ≤ 600000) (hsl : slots + 3920 ≤ 7302250) {Z : State → Prop} {bb : Nat} (vmn : SV) (vho : SV) (vdr : SV) (vsa : SV) (vhi : SV) (vhh : (Nat → SV)) (vre : SV) (vrf : SV) (vpa : SV) (vod : SV) (vsb : (Nat × SV)) (v : SV) (hI : I vmn vho vdr vsa vhi vhh vre vrf vpa vod vsb v) {H : Heap} {locs : List Loc} (hP : va_P D vwCl (kAll G Q bb vmn vho vdr vsa vhi vhh vre vrf vpa vod vsb ++ kModel G q0 v) H) (hD : va_D (fun q : Nat => s.heap.size ≤ q) (kAll G Q bb vmn vho vdr vsa vhi vhh vre vrf vpa vod vsb ++ kModel G q0 v)) (hS : va_S (fun q : Nat => s.heap.size ≤ q) s.heap H locs) {ls : Array Slot} (hl : lv_has ls 8 [(0, .ref b), (1, .ref (Q 0 0)), (2, .ref (q0 0)), (3, .int (nI i))])
    (kk : LwK p l e s m below meth c b D G Q q0 J i (cells + 49) (slots + 3920) Z) : W p l e room_1 s m #[Value.ref b] below meth c H locs cells slots Z (F0 m 888 ls []) := by
  obtain ⟨hx, hb, hml, hown, hts, hX, hbl, hN, hK, hJ⟩ := C0
  have hA : ∀ q : Nat, s.heap.size ≤ q → (fun q : Nat => s.heap.size ≤ q) q := fun _ h => h
  have hbA : ¬ (fun q : Nat => s.heap.size ≤ q) b := Nat.not_le.mpr hbl
  have h1 : vp_in (nI i + 1) L := lw_in 1 (by decide) (by omega) hL
  have h2 : vp_in (nI i + 2) L := lw_in 2 (by decide) (by omega) hL
  have h3 : vp_in (nI i + 3) L := lw_in 3 (by decide) (by omega) hL
  obtain ⟨r, vpa', v', e1, e3, hI'⟩ := hp vmn vho vdr vsa vhi vhh vre vrf vpa vod vsb v hI (xs (nI i + 1).toNatClampNeg) (xs (nI i + 2).toNatClampNeg) (xs (nI i + 3).toNatClampNeg)
  refine lv_aload_n hx hb dL_law_888 rfl (lv_at hl 1 rfl) ?_
  refine lv_aload_n hx hb dL_law_889 rfl (lv_at hl 0 rfl) ?_
  refine lv_iload_n hx hb dL_law_890 rfl (lv_at hl 3 rfl) ?_
  refine lv_iconst (v := 1) hx hb dL_law_891 (by decide) ?_
  refine lv_iadd hx hb dL_law_892 ?_
  refine va_sld hx hb hX hbl hbA hS h1 dL_law_893 ?_
  refine lv_aload_n hx hb dL_law_894 rfl (lv_at hl 0 rfl) ?_
  refine lv_iload_n hx hb dL_law_895 rfl (lv_at hl 3 rfl) ?_
  refine lv_iconst (v := 2) hx hb dL_law_896 (by decide) ?_
  refine lv_iadd hx hb dL_law_897 ?_
  refine va_sld hx hb hX hbl hbA hS h2 dL_law_898 ?_
  refine lv_aload_n hx hb dL_law_899 rfl (lv_at hl 0 rfl) ?_
  refine lv_iload_n hx hb dL_law_900 rfl (lv_at hl 3 rfl) ?_
  refine lv_iconst (v := 3) hx hb dL_law_901 (by decide) ?_
  refine lv_iadd hx hb dL_law_902 ?_
  refine va_sld hx hb hX hbl hbA hS h3 dL_law_903 ?_
  have hPb : va_P D vwCl ((kHouse G (Q 2) vdr ++ kHouse G (Q 3) vsa ++ kHist Q vhi ++ kHH G Q vhh ++ kReader G (Q 5) vre ++ kRef G (Q 6) vrf ++ kOrder G (Q 8) vod ++ kSB G (Q 9 0) bb vsb ++ kModel G q0 v) ++ (kMain Q vmn ++ kHouse G (Q 1) vho ++ kPaths G (Q 7) vpa)) H := by simp only [kAll, pP_app] at hP ⊢; simp only [hP, and_self]
  have hDb : va_D (fun q : Nat => s.heap.size ≤ q) ((kHouse G (Q 2) vdr ++ kHouse G (Q 3) vsa ++ kHist Q vhi ++ kHH G Q vhh ++ kReader G (Q 5) vre ++ kRef G (Q 6) vrf ++ kOrder G (Q 8) vod ++ kSB G (Q 9 0) bb vsb ++ kModel G q0 v) ++ (kMain Q vmn ++ kHouse G (Q 1) vho ++ kPaths G (Q 7) vpa)) := by simp only [kAll, pD_app, Dj_l, Dj_r] at hD ⊢; simp only [hD, and_self]
  refine k_VB (As := [.int (xs (nI i + 1).toNatClampNeg), .int (xs (nI i + 2).toNatClampNeg), .int (xs (nI i + 3).toNatClampNeg)]) (rest := []) ⟨hx, hb, hml, hown, hts⟩ (c_X12_way l D G Q (xs (nI i + 1).toNatClampNeg) (xs (nI i + 2).toNatClampNeg) (xs (nI i + 3).toNatClampNeg) vmn vho vpa _ _ e1 _) (cwV 3 hts gL_law_X12_way rfl rfl rfl (by decide +kernel) ⟨Nat.le_of_ble_eq_true rfl, Nat.le_of_ble_eq_true rfl⟩) hl.1 (Nat.le_of_ble_eq_true rfl) dL_law_904 ⟨by show _ ≤ 600000; omega, by show _ ≤ 7302250; omega⟩ rfl kT_bl (fun _ _ _ => trivial) hN hK hPb hDb hS hA 0 10 rfl rfl rfl [0, 1, 2, 3] rfl (fun H locs hP hD hS => ?_)
  refine W.widen (k := cells + 49) (n := slots + 3920) (by omega) (by omega) ?_
  have hP : va_P D vwCl (kAll G Q bb vmn vho vdr vsa vhi vhh vre vrf vpa' vod vsb ++ kModel G q0 v) H := by simp only [kAll, pP_app] at hP ⊢; simp only [hP, and_self]
  have hD : va_D (fun q : Nat => s.heap.size ≤ q) (kAll G Q bb vmn vho vdr vsa vhi vhh vre vrf vpa' vod vsb ++ kModel G q0 v) := by simp only [kAll, pD_app, Dj_l, Dj_r] at hD ⊢; simp only [hD, and_self]
  refine lv_aload_n hx hb dL_law_907 rfl (lv_at hl 2 rfl) ?_
  refine lv_aload_n hx hb dL_law_908 rfl (lv_at hl 0 rfl) ?_
  refine lv_iload_n hx hb dL_law_909 rfl (lv_at hl 3 rfl) ?_
  refine lv_iconst (v := 1) hx hb dL_law_910 (by decide) ?_
  refine lv_iadd hx hb dL_law_911 ?_
  refine va_sld hx hb hX hbl hbA hS h1 dL_law_912 ?_
  refine lv_aload_n hx hb dL_law_913 rfl (lv_at hl 0 rfl) ?_
  refine lv_iload_n hx hb dL_law_914 rfl (lv_at hl 3 rfl) ?_
  refine lv_iconst (v := 2) hx hb dL_law_915 (by decide) ?_
  refine lv_iadd hx hb dL_law_916 ?_
  refine va_sld hx hb hX hbl hbA hS h2 dL_law_917 ?_
  refine lv_aload_n hx hb dL_law_918 rfl (lv_at hl 0 rfl) ?_
  refine lv_iload_n hx hb dL_law_919 rfl (lv_at hl 3 rfl) ?_
  refine lv_iconst (v := 3) hx hb dL_law_920 (by decide) ?_
  refine lv_iadd hx hb dL_law_921 ?_
  refine va_sld hx hb hX hbl hbA hS h3 dL_law_922 ?_
  refine k_VB (As := [.int (xs (nI i + 1).toNatClampNeg), .int (xs (nI i + 2).toNatClampNeg), .int (xs (nI i + 3).toNatClampNeg)]) (rest := [.int r]) ⟨hx, hb, hml, hown, hts⟩ (c_X13_way l D G q0 (xs (nI i + 1).toNatClampNeg) (xs (nI i + 2).toNatClampNeg) (xs (nI i + 3).toNatClampNeg) v _ _ e3 _) (cwV 3 hts gL_law_X13_way rfl rfl rfl (by decide +kernel) ⟨Nat.le_of_ble_eq_true rfl, Nat.le_of_ble_eq_true rfl⟩) hl.1 (Nat.le_of_ble_eq_true rfl) dL_law_923 ⟨by show _ ≤ 600000; omega, by show _ ≤ 7302250; omega⟩ rfl kT_bl (fun _ _ _ => trivial) hN hK hP hD hS hA 0 11 rfl rfl rfl [0, 1, 2, 3] rfl (fun H locs hP hD hS => ?_)
  refine lv_icmp_eq (tgt := 1231) hx hb dL_law_926 (by decide) (fun _ => ?_) (fun cc => absurd rfl cc)
  exact kk vmn vho vdr vsa vhi vhh vre vrf vpa' vod vsb v' bb H locs hI' hP hD hS ls hl
set_option maxHeartbeats 4000000 in
set_option maxRecDepth 100000 in
theorem lo_circles {p : Program} {l : Launch} {e : Env} {s : State} {m : MethodId} {below : List Frame} {meth : Method} {c : Code} {b L : Nat} {xs : Nat → Int32} {D : va_G} {G : Nat → ClassId} {X Q : Nat → Nat → Nat} {q0 : Nat → Nat} {I J : TI} (hp : P_circles I J) (C0 : LwB p l s m c b L xs D G X) (hL : L ≤ 2048) {i : Nat} (hi : i + 3 < L) {cells slots : Nat} (hce : cells + 49 ≤ 600000) (hsl : slots + 3920 ≤ 7302250) {Z : State → Prop} {bb : Nat} (vmn : SV) (vho : SV) (vdr : SV) (vsa : SV) (vhi : SV) (vhh : (Nat → SV)) (vre : SV) (vrf : SV) (vpa : SV) (vod : SV) (vsb : (Nat × SV)) (v : SV) (hI : I vmn vho vdr vsa vhi vhh vre vrf vpa vod vsb v) {H : Heap} {locs : List Loc} (hP : va_P D vwCl (kAll G Q bb vmn vho vdr vsa vhi vhh vre vrf vpa vod vsb ++ kModel G q0 v) H) (hD : va_D (fun q : Nat => s.heap.size ≤ q) (kAll G Q bb vmn vho vdr vsa vhi vhh vre vrf vpa vod vsb ++ kModel G q0 v)) (hS : va_S (fun q : Nat => s.heap.size ≤ q) s.heap H locs) {ls : Array Slot} (hl : lv_has ls 8 [(0, .ref b), (1, .ref (Q 0 0)), (2, .ref (q0 0)), (3, .int (nI i))])
    (kk : LwK p l e s m below meth c b D G Q q0 J i (cells + 49) (slots + 3920) Z) : W p l e room_1 s m #[Value.ref b] below meth c H locs cells slots Z (F0 m 931 ls []) := by
  obtain ⟨hx, hb, hml, hown, hts, hX, hbl, hN, hK, hJ⟩ := C0
  have hA : ∀ q : Nat, s.heap.size ≤ q → (fun q : Nat => s.heap.size ≤ q) q := fun _ h => h
  have hbA : ¬ (fun q : Nat => s.heap.size ≤ q) b := Nat.not_le.mpr hbl
  obtain ⟨r, e1, e3, hI'⟩ := hp vmn vho vdr vsa vhi vhh vre vrf vpa vod vsb v hI ()
  refine lv_aload_n hx hb dL_law_931 rfl (lv_at hl 1 rfl) ?_
  have hPb : va_P D vwCl ((kHouse G (Q 2) vdr ++ kHouse G (Q 3) vsa ++ kHist Q vhi ++ kHH G Q vhh ++ kReader G (Q 5) vre ++ kRef G (Q 6) vrf ++ kPaths G (Q 7) vpa ++ kOrder G (Q 8) vod ++ kSB G (Q 9 0) bb vsb ++ kModel G q0 v) ++ (kMain Q vmn ++ kHouse G (Q 1) vho)) H := by simp only [kAll, pP_app] at hP ⊢; simp only [hP, and_self]
  have hDb : va_D (fun q : Nat => s.heap.size ≤ q) ((kHouse G (Q 2) vdr ++ kHouse G (Q 3) vsa ++ kHist Q vhi ++ kHH G Q vhh ++ kReader G (Q 5) vre ++ kRef G (Q 6) vrf ++ kPaths G (Q 7) vpa ++ kOrder G (Q 8) vod ++ kSB G (Q 9 0) bb vsb ++ kModel G q0 v) ++ (kMain Q vmn ++ kHouse G (Q 1) vho)) := by simp only [kAll, pD_app, Dj_l, Dj_r] at hD ⊢; simp only [hD, and_self]
  refine k_VB (As := []) (rest := []) ⟨hx, hb, hml, hown, hts⟩ (c_X12_circles l D G Q  vmn vho _ e1 _) (cwV 0 hts gL_law_X12_circles rfl rfl rfl (by decide +kernel) ⟨Nat.le_of_ble_eq_true rfl, Nat.le_of_ble_eq_true rfl⟩) hl.1 (Nat.le_of_ble_eq_true rfl) dL_law_932 ⟨by show _ ≤ 600000; omega, by show _ ≤ 7302250; omega⟩ rfl kT_bl (fun _ _ _ => trivial) hN hK hPb hDb hS hA 0 10 rfl rfl rfl [0, 1, 2, 3] rfl (fun H locs hP hD hS => ?_)
  refine W.widen (k := cells + 49) (n := slots + 3920) (by omega) (by omega) ?_
  have hP : va_P D vwCl (kAll G Q bb vmn vho vdr vsa vhi vhh vre vrf vpa vod vsb ++ kModel G q0 v) H := by simp only [kAll, pP_app] at hP ⊢; simp only [hP, and_self]
  have hD : va_D (fun q : Nat => s.heap.size ≤ q) (kAll G Q bb vmn vho vdr vsa vhi vhh vre vrf vpa vod vsb ++ kModel G q0 v) := by simp only [kAll, pD_app, Dj_l, Dj_r] at hD ⊢; simp only [hD, and_self]
  refine lv_aload_n hx hb dL_law_935 rfl (lv_at hl 2 rfl) ?_
  refine k_VB (As := []) (rest := [.int r]) ⟨hx, hb, hml, hown, hts⟩ (c_X13_circles l D G q0  v _ e3 _) (cwV 0 hts gL_law_X13_circles rfl rfl rfl (by decide +kernel) ⟨Nat.le_of_ble_eq_true rfl, Nat.le_of_ble_eq_true rfl⟩) hl.1 (Nat.le_of_ble_eq_true rfl) dL_law_936 ⟨by show _ ≤ 600000; omega, by show _ ≤ 7302250; omega⟩ rfl kT_bl (fun _ _ _ => trivial) hN hK hP hD hS hA 0 11 rfl rfl rfl [0, 1, 2, 3] rfl (fun H locs hP hD hS => ?_)
  refine lv_icmp_eq (tgt := 1231) hx hb dL_law_939 (by decide) (fun _ => ?_) (fun cc => absurd rfl cc)
  exact kk vmn vho vdr vsa vhi vhh vre vrf vpa vod vsb v bb H locs hI' hP hD hS ls hl
