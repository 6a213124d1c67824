/-! Walks, laid by wip/whole/gen.py: for each method f_ (what it does to its world) and c_ (its contract). -/
set_option maxHeartbeats 4000000 in
set_option maxRecDepth 100000 in
theorem lo_meanPlants {p : Program} {l : Launch} {e : Env} {s : State} {m : MethodId} {below : List Frame} {meth : Method} {c : Code} {b L : Nat} {xs : Nat → Int32} {D : va_G} {G : Nat → ClassId} {X Q : Nat → Nat → Nat} {q0 : Nat → Nat} {I J : TI} (hp : P_meanPlants I J) (C0 : LwB p l s m c b L xs D G X) (hL : L ≤ 2048) {i : Nat} (hi : i + 3 < L) {cells slots : Nat} (hce : cells + 49 ≤ 600000) (hsl : slots + 3920 ≤ 7302250) {Z : State → Prop} {bb : Nat} (vmn : SV) (vho : SV) (vdr : SV) (vsa : SV) (vhi : SV) (vhh : (Nat → SV)) (vre : SV) (vrf : SV) (vpa : SV) (vod : SV) (vsb : (Nat × SV)) (v : SV) (hI : I vmn vho vdr vsa vhi vhh vre vrf vpa vod vsb v) {H : Heap} {locs : List Loc} (hP : va_P D vwCl (kAll G Q bb vmn vho vdr vsa vhi vhh vre vrf vpa vod vsb ++ kModel G q0 v) H) (hD : va_D (fun q : Nat => s.heap.size ≤ q) (kAll G Q bb vmn vho vdr vsa vhi vhh vre vrf vpa vod vsb ++ kModel G q0 v)) (hS : va_S (fun q : Nat => s.heap.size ≤ q) s.heap H locs) {ls : Array Slot} (hl : lv_has ls 8 [(0, .ref b), (1, .ref (Q 0 0)), (2, .ref (q0 0)), (3, .int (nI i))])
    (kk : LwK p l e s m below meth c b D G Q q0 J i (cells + 49) (slots + 3920) Z) : W p l e room_1 s m #[Value.ref b] below meth c H locs cells slots Z (F0 m 1085 ls []) := by
  obtain ⟨hx, hb, hml, hown, hts, hX, hbl, hN, hK, hJ⟩ := C0
  have hA : ∀ q : Nat, s.heap.size ≤ q → (fun q : Nat => s.heap.size ≤ q) q := fun _ h => h
  have hbA : ¬ (fun q : Nat => s.heap.size ≤ q) b := Nat.not_le.mpr hbl
  obtain ⟨r, e1, e3, hI', hn1⟩ := hp vmn vho vdr vsa vhi vhh vre vrf vpa vod vsb v hI ()
  refine lv_aload_n hx hb dL_law_1085 rfl (lv_at hl 1 rfl) ?_
  have hPb : va_P D vwCl ((kHouse G (Q 2) vdr ++ kHouse G (Q 3) vsa ++ kHist Q vhi ++ kHH G Q vhh ++ kReader G (Q 5) vre ++ kRef G (Q 6) vrf ++ kPaths G (Q 7) vpa ++ kOrder G (Q 8) vod ++ kSB G (Q 9 0) bb vsb ++ kModel G q0 v) ++ (kMain Q vmn ++ kHouse G (Q 1) vho)) H := by simp only [kAll, pP_app] at hP ⊢; simp only [hP, and_self]
  have hDb : va_D (fun q : Nat => s.heap.size ≤ q) ((kHouse G (Q 2) vdr ++ kHouse G (Q 3) vsa ++ kHist Q vhi ++ kHH G Q vhh ++ kReader G (Q 5) vre ++ kRef G (Q 6) vrf ++ kPaths G (Q 7) vpa ++ kOrder G (Q 8) vod ++ kSB G (Q 9 0) bb vsb ++ kModel G q0 v) ++ (kMain Q vmn ++ kHouse G (Q 1) vho)) := by simp only [kAll, pD_app, Dj_l, Dj_r] at hD ⊢; simp only [hD, and_self]
  refine k_VB (As := []) (rest := []) ⟨hx, hb, hml, hown, hts⟩ (c_X12_meanPlants l D G Q  vmn vho _ e1 _) (cwV 0 hts gL_law_X12_meanPlants rfl rfl rfl (by decide +kernel) ⟨Nat.le_of_ble_eq_true rfl, Nat.le_of_ble_eq_true rfl⟩) hl.1 (Nat.le_of_ble_eq_true rfl) dL_law_1086 ⟨by show _ ≤ 600000; omega, by show _ ≤ 7302250; omega⟩ rfl kT_bl (fun _ _ _ => trivial) hN hK hPb hDb hS hA 0 10 rfl rfl rfl [0, 1, 2, 3] rfl (fun H locs hP hD hS => ?_)
  refine W.widen (k := cells + 49) (n := slots + 3920) (by omega) (by omega) ?_
  have hP : va_P D vwCl (kAll G Q bb vmn vho vdr vsa vhi vhh vre vrf vpa vod vsb ++ kModel G q0 v) H := by simp only [kAll, pP_app] at hP ⊢; simp only [hP, and_self]
  have hD : va_D (fun q : Nat => s.heap.size ≤ q) (kAll G Q bb vmn vho vdr vsa vhi vhh vre vrf vpa vod vsb ++ kModel G q0 v) := by simp only [kAll, pD_app, Dj_l, Dj_r] at hD ⊢; simp only [hD, and_self]
  refine lv_dstore (lv' := [(4, .double r), (0, .ref b), (1, .ref (Q 0 0)), (2, .ref (q0 0)), (3, .int (nI i))]) hx hb dL_law_1089 hl (by decide) rfl (fun ls hl => ?_)
  refine lv_aload_n hx hb dL_law_1091 rfl (lv_at hl 3 rfl) ?_
  refine k_VB (As := []) (rest := []) ⟨hx, hb, hml, hown, hts⟩ (c_X13_meanPlants l D G q0  v _ e3 _) (cwV 0 hts gL_law_X13_meanPlants rfl rfl rfl (by decide +kernel) ⟨Nat.le_of_ble_eq_true rfl, Nat.le_of_ble_eq_true rfl⟩) hl.1 (Nat.le_of_ble_eq_true rfl) dL_law_1092 ⟨by show _ ≤ 600000; omega, by show _ ≤ 7302250; omega⟩ rfl kT_bl (fun _ _ _ => trivial) hN hK hP hD hS hA 0 11 rfl rfl rfl [0, 1, 2, 3] rfl (fun H locs hP hD hS => ?_)
  refine lv_dstore (lv' := [(6, .double r), (4, .double r), (0, .ref b), (1, .ref (Q 0 0)), (2, .ref (q0 0)), (3, .int (nI i))]) hx hb dL_law_1095 hl (by decide) rfl (fun ls hl => ?_)
  refine lv_dload hx hb dL_law_1097 (lv_at hl 1 rfl) ?_
  refine lv_dload hx hb dL_law_1099 (lv_at hl 0 rfl) ?_
  refine lv_dcmp hx hb dL_law_1101 ?_
  rw [hn1]
  refine lv_if_eq (tgt := 1123) hx hb dL_law_1102 (by decide) (fun _ => ?_) (fun cc => absurd rfl cc)
  refine lv_goto (tgt := 1231) hx hb dL_law_1123 (by decide) ?_
  exact kk vmn vho vdr vsa vhi vhh vre vrf vpa vod vsb v bb H locs hI' hP hD hS ls (lv_sub hl [2, 3, 4, 5] rfl)
set_option maxHeartbeats 4000000 in
set_option maxRecDepth 100000 in
theorem lo_homeShare {p : Program} {l : Launch} {e : Env} {s : State} {m : MethodId} {below : List Frame} {meth : Method} {c : Code} {b L : Nat} {xs : Nat → Int32} {D : va_G} {G : Nat → ClassId} {X Q : Nat → Nat → Nat} {q0 : Nat → Nat} {I J : TI} (hp : P_homeShare I J) (C0 : LwB p l s m c b L xs D G X) (hL : L ≤ 2048) {i : Nat} (hi : i + 3 < L) {cells slots : Nat} (hce : cells + 49 ≤ 600000) (hsl : slots + 3920 ≤ 7302250) {Z : State → Prop} {bb : Nat} (vmn : SV) (vho : SV) (vdr : SV) (vsa : SV) (vhi : SV) (vhh : (Nat → SV)) (vre : SV) (vrf : SV) (vpa : SV) (vod : SV) (vsb : (Nat × SV)) (v : SV) (hI : I vmn vho vdr vsa vhi vhh vre vrf vpa vod vsb v) {H : Heap} {locs : List Loc} (hP : va_P D vwCl (kAll G Q bb vmn vho vdr vsa vhi vhh vre vrf vpa vod vsb ++ kModel G q0 v) H) (hD : va_D (fun q : Nat => s.heap.size ≤ q) (kAll G Q bb vmn vho vdr vsa vhi vhh vre vrf vpa vod vsb ++ kModel G q0 v)) (hS : va_S (fun q : Nat => s.heap.size ≤ q) s.heap H locs) {ls : Array Slot} (hl : lv_has ls 8 [(0, .ref b), (1, .ref (Q 0 0)), (2, .ref (q0 0)), (3, .int (nI i))])
    (kk : LwK p l e s m below meth c b D G Q q0 J i (cells + 49) (slots + 3920) Z) : W p l e room_1 s m #[Value.ref b] below meth c H locs cells slots Z (F0 m 1126 ls []) := by
  obtain ⟨hx, hb, hml, hown, hts, hX, hbl, hN, hK, hJ⟩ := C0
  have hA : ∀ q : Nat, s.heap.size ≤ q → (fun q : Nat => s.heap.size ≤ q) q := fun _ h => h
  have hbA : ¬ (fun q : Nat => s.heap.size ≤ q) b := Nat.not_le.mpr hbl
  obtain ⟨r, e1, e3, hI', hn1, hn2⟩ := hp vmn vho vdr vsa vhi vhh vre vrf vpa vod vsb v hI ()
  refine lv_aload_n hx hb dL_law_1126 rfl (lv_at hl 1 rfl) ?_
  have hPb : va_P D vwCl ((kHouse G (Q 2) vdr ++ kHouse G (Q 3) vsa ++ kHist Q vhi ++ kHH G Q vhh ++ kReader G (Q 5) vre ++ kRef G (Q 6) vrf ++ kPaths G (Q 7) vpa ++ kOrder G (Q 8) vod ++ kSB G (Q 9 0) bb vsb ++ kModel G q0 v) ++ (kMain Q vmn ++ kHouse G (Q 1) vho)) H := by simp only [kAll, pP_app] at hP ⊢; simp only [hP, and_self]
  have hDb : va_D (fun q : Nat => s.heap.size ≤ q) ((kHouse G (Q 2) vdr ++ kHouse G (Q 3) vsa ++ kHist Q vhi ++ kHH G Q vhh ++ kReader G (Q 5) vre ++ kRef G (Q 6) vrf ++ kPaths G (Q 7) vpa ++ kOrder G (Q 8) vod ++ kSB G (Q 9 0) bb vsb ++ kModel G q0 v) ++ (kMain Q vmn ++ kHouse G (Q 1) vho)) := by simp only [kAll, pD_app, Dj_l, Dj_r] at hD ⊢; simp only [hD, and_self]
  refine k_VB (As := []) (rest := []) ⟨hx, hb, hml, hown, hts⟩ (c_X12_homeShare l D G Q  vmn vho _ e1 _) (cwV 0 hts gL_law_X12_homeShare rfl rfl rfl (by decide +kernel) ⟨Nat.le_of_ble_eq_true rfl, Nat.le_of_ble_eq_true rfl⟩) hl.1 (Nat.le_of_ble_eq_true rfl) dL_law_1127 ⟨by show _ ≤ 600000; omega, by show _ ≤ 7302250; omega⟩ rfl kT_bl (fun _ _ _ => trivial) hN hK hPb hDb hS hA 0 10 rfl rfl rfl [0, 1, 2, 3] rfl (fun H locs hP hD hS => ?_)
  refine W.widen (k := cells + 49) (n := slots + 3920) (by omega) (by omega) ?_
  have hP : va_P D vwCl (kAll G Q bb vmn vho vdr vsa vhi vhh vre vrf vpa vod vsb ++ kModel G q0 v) H := by simp only [kAll, pP_app] at hP ⊢; simp only [hP, and_self]
  have hD : va_D (fun q : Nat => s.heap.size ≤ q) (kAll G Q bb vmn vho vdr vsa vhi vhh vre vrf vpa vod vsb ++ kModel G q0 v) := by simp only [kAll, pD_app, Dj_l, Dj_r] at hD ⊢; simp only [hD, and_self]
  refine lv_f2d hx hb dL_law_1130 hn1 ?_
  refine lv_dstore (lv' := [(4, .double (FP.f2d r)), (0, .ref b), (1, .ref (Q 0 0)), (2, .ref (q0 0)), (3, .int (nI i))]) hx hb dL_law_1131 hl (by decide) rfl (fun ls hl => ?_)
  refine lv_aload_n hx hb dL_law_1133 rfl (lv_at hl 3 rfl) ?_
  refine k_VB (As := []) (rest := []) ⟨hx, hb, hml, hown, hts⟩ (c_X13_homeShare l D G q0  v _ e3 _) (cwV 0 hts gL_law_X13_homeShare rfl rfl rfl (by decide +kernel) ⟨Nat.le_of_ble_eq_true rfl, Nat.le_of_ble_eq_true rfl⟩) hl.1 (Nat.le_of_ble_eq_true rfl) dL_law_1134 ⟨by show _ ≤ 600000; omega, by show _ ≤ 7302250; omega⟩ rfl kT_bl (fun _ _ _ => trivial) hN hK hP hD hS hA 0 11 rfl rfl rfl [0, 1, 2, 3] rfl (fun H locs hP hD hS => ?_)
  refine lv_f2d hx hb dL_law_1137 hn1 ?_
  refine lv_dstore (lv' := [(6, .double (FP.f2d r)), (4, .double (FP.f2d r)), (0, .ref b), (1, .ref (Q 0 0)), (2, .ref (q0 0)), (3, .int (nI i))]) hx hb dL_law_1138 hl (by decide) rfl (fun ls hl => ?_)
  refine lv_dload hx hb dL_law_1140 (lv_at hl 1 rfl) ?_
  refine lv_dload hx hb dL_law_1142 (lv_at hl 0 rfl) ?_
  refine lv_dcmp hx hb dL_law_1144 ?_
  rw [hn2]
  refine lv_if_eq (tgt := 1166) hx hb dL_law_1145 (by decide) (fun _ => ?_) (fun cc => absurd rfl cc)
  refine lv_goto (tgt := 1231) hx hb dL_law_1166 (by decide) ?_
  exact kk vmn vho vdr vsa vhi vhh vre vrf vpa vod vsb v bb H locs hI' hP hD hS ls (lv_sub hl [2, 3, 4, 5] rfl)
set_option maxHeartbeats 4000000 in
set_option maxRecDepth 100000 in
theorem lo_account {p : Program} {l : Launch} {e : Env} {s : State} {m : MethodId} {below : List Frame} {meth : Method} {c : Code} {b L : Nat} {xs : Nat → Int32} {D : va_G} {G : Nat → ClassId} {X Q : Nat → Nat → Nat} {q0 : Nat → Nat} {I J : TI} (hp : P_account I J) (C0 : LwB p l s m c b L xs D G X) (hL : L ≤ 2048) {i : Nat} (hi : i + 3 < L) {cells slots : Nat} (hce : cells + 49 ≤ 600000) (hsl : slots + 3920 ≤ 7302250) {Z : State → Prop} {bb : Nat} (vmn : SV) (vho : SV) (vdr : SV) (vsa : SV) (vhi : SV) (vhh : (Nat → SV)) (vre : SV) (vrf : SV) (vpa : SV) (vod : SV) (vsb : (Nat × SV)) (v : SV) (hI : I vmn vho vdr vsa vhi vhh vre vrf vpa vod vsb v) {H : Heap} {locs : List Loc} (hP : va_P D vwCl (kAll G Q bb vmn vho vdr vsa vhi vhh vre vrf vpa vod vsb ++ kModel G q0 v) H) (hD : va_D (fun q : Nat => s.heap.size ≤ q) (kAll G Q bb vmn vho vdr vsa vhi vhh vre vrf vpa vod vsb ++ kModel G q0 v)) (hS : va_S (fun q : Nat => s.heap.size ≤ q) s.heap H locs) {ls : Array Slot} (hl : lv_has ls 8 [(0, .ref b), (1, .ref (Q 0 0)), (2, .ref (q0 0)), (3, .int (nI i))])
    (kk : LwK p l e s m below meth c b D G Q q0 J i (cells + 49) (slots + 3920) Z) : W p l e room_1 s m #[Value.ref b] below meth c H locs cells slots Z (F0 m 1169 ls []) := by
  obtain ⟨hx, hb, hml, hown, hts, hX, hbl, hN, hK, hJ⟩ := C0
  have hA : ∀ q : Nat, s.heap.size ≤ q → (fun q : Nat => s.heap.size ≤ q) q := fun _ h => h
  have hbA : ¬ (fun q : Nat => s.heap.size ≤ q) b := Nat.not_le.mpr hbl
  have h1 : vp_in (nI i + 1) L := lw_in 1 (by decide) (by omega) hL
  obtain ⟨r, e1, e3, hI'⟩ := hp vmn vho vdr vsa vhi vhh vre vrf vpa vod vsb v hI (xs (nI i + 1).toNatClampNeg)
  refine lv_aload_n hx hb dL_law_1169 rfl (lv_at hl 1 rfl) ?_
  refine lv_aload_n hx hb dL_law_1170 rfl (lv_at hl 0 rfl) ?_
  refine lv_iload_n hx hb dL_law_1171 rfl (lv_at hl 3 rfl) ?_
  refine lv_iconst (v := 1) hx hb dL_law_1172 (by decide) ?_
  refine lv_iadd hx hb dL_law_1173 ?_
  refine va_sld hx hb hX hbl hbA hS h1 dL_law_1174 ?_
  have hPb : va_P D vwCl ((kHouse G (Q 2) vdr ++ kHouse G (Q 3) vsa ++ kHH G Q vhh ++ kRef G (Q 6) vrf ++ kPaths G (Q 7) vpa ++ kOrder G (Q 8) vod ++ kSB G (Q 9 0) bb vsb ++ kModel G q0 v) ++ (kMain Q vmn ++ kHouse G (Q 1) vho ++ kHist Q vhi ++ kReader G (Q 5) vre)) H := by simp only [kAll, pP_app] at hP ⊢; simp only [hP, and_self]
  have hDb : va_D (fun q : Nat => s.heap.size ≤ q) ((kHouse G (Q 2) vdr ++ kHouse G (Q 3) vsa ++ kHH G Q vhh ++ kRef G (Q 6) vrf ++ kPaths G (Q 7) vpa ++ kOrder G (Q 8) vod ++ kSB G (Q 9 0) bb vsb ++ kModel G q0 v) ++ (kMain Q vmn ++ kHouse G (Q 1) vho ++ kHist Q vhi ++ kReader G (Q 5) vre)) := by simp only [kAll, pD_app, Dj_l, Dj_r] at hD ⊢; simp only [hD, and_self]
  refine k_VB (As := [.int (xs (nI i + 1).toNatClampNeg)]) (rest := []) ⟨hx, hb, hml, hown, hts⟩ (c_X12_account l D G Q (xs (nI i + 1).toNatClampNeg) vmn vho vhi vre _ e1 _) (cwV 1 hts gL_law_X12_account rfl rfl rfl (by decide +kernel) ⟨Nat.le_of_ble_eq_true rfl, Nat.le_of_ble_eq_true rfl⟩) hl.1 (Nat.le_of_ble_eq_true rfl) dL_law_1175 ⟨by show _ ≤ 600000; omega, by show _ ≤ 7302250; omega⟩ rfl kT_bl (fun _ _ _ => trivial) hN hK hPb hDb hS hA 0 10 rfl rfl rfl [0, 1, 2, 3] rfl (fun H locs hP hD hS => ?_)
  refine W.widen (k := cells + 49) (n := slots + 3920) (by omega) (by omega) ?_
  have hP : va_P D vwCl (kAll G Q bb vmn vho vdr vsa vhi vhh vre vrf vpa vod vsb ++ kModel G q0 v) H := by simp only [kAll, pP_app] at hP ⊢; simp only [hP, and_self]
  have hD : va_D (fun q : Nat => s.heap.size ≤ q) (kAll G Q bb vmn vho vdr vsa vhi vhh vre vrf vpa vod vsb ++ kModel G q0 v) := by simp only [kAll, pD_app, Dj_l, Dj_r] at hD ⊢; simp only [hD, and_self]
  refine lv_aload_n hx hb dL_law_1178 rfl (lv_at hl 2 rfl) ?_
  refine lv_aload_n hx hb dL_law_1179 rfl (lv_at hl 0 rfl) ?_
  refine lv_iload_n hx hb dL_law_1180 rfl (lv_at hl 3 rfl) ?_
  refine lv_iconst (v := 1) hx hb dL_law_1181 (by decide) ?_
  refine lv_iadd hx hb dL_law_1182 ?_
  refine va_sld hx hb hX hbl hbA hS h1 dL_law_1183 ?_
  refine k_VB (As := [.int (xs (nI i + 1).toNatClampNeg)]) (rest := [.int r]) ⟨hx, hb, hml, hown, hts⟩ (c_X13_account l D G q0 (xs (nI i + 1).toNatClampNeg) v _ e3 _) (cwV 1 hts gL_law_X13_account rfl rfl rfl (by decide +kernel) ⟨Nat.le_of_ble_eq_true rfl, Nat.le_of_ble_eq_true rfl⟩) hl.1 (Nat.le_of_ble_eq_true rfl) dL_law_1184 ⟨by show _ ≤ 600000; omega, by show _ ≤ 7302250; omega⟩ rfl kT_bl (fun _ _ _ => trivial) hN hK hP hD hS hA 0 11 rfl rfl rfl [0, 1, 2, 3] rfl (fun H locs hP hD hS => ?_)
  refine lv_icmp_eq (tgt := 1231) hx hb dL_law_1187 (by decide) (fun _ => ?_) (fun cc => absurd rfl cc)
  exact kk vmn vho vdr vsa vhi vhh vre vrf vpa vod vsb v bb H locs hI' hP hD hS ls hl
set_option maxHeartbeats 4000000 in
set_option maxRecDepth 100000 in
theorem lo_undo {p : Program} {l : Launch} {e : Env} {s : State} {m : MethodId} {below : List Frame} {meth : Method} {c : Code} {b L : Nat} {xs : Nat → Int32} {D : va_G} {G : Nat → ClassId} {X Q : Nat → Nat → Nat} {q0 : Nat → Nat} {I J : TI} (hp : P_undo I J) (C0 : LwB p l s m c b L xs D G X) (hL : L ≤ 2048) {i : Nat} (hi : i + 3 < L) {cells slots : Nat} (hce : cells + 49 ≤ 600000) (hsl : slots + 3920 ≤ 7302250) {Z : State → Prop} {bb : Nat} (vmn : SV) (vho : SV) (vdr : SV) (vsa : SV) (vhi : SV) (vhh : (Nat → SV)) (vre : SV) (vrf : SV) (vpa : SV) (vod : SV) (vsb : (Nat × SV)) (v : SV) (hI : I vmn vho vdr vsa vhi vhh vre vrf vpa vod vsb v) {H : Heap} {locs : List Loc} (hP : va_P D vwCl (kAll G Q bb vmn vho vdr vsa vhi vhh vre vrf vpa vod vsb ++ kModel G q0 v) H) (hD : va_D (fun q : Nat => s.heap.size ≤ q) (kAll G Q bb vmn vho vdr vsa vhi vhh vre vrf vpa vod vsb ++ kModel G q0 v)) (hS : va_S (fun q : Nat => s.heap.size ≤ q) s.heap H locs) {ls : Array Slot} (hl : lv_has ls 8 [(0, .ref b), (1, .ref (Q 0 0)), (2, .ref (q0 0)), (3, .int (nI i))])
    (kk : LwK p l e s m below meth c b D G Q q0 J i (cells + 49) (slots + 3920) Z) : W p l e room_1 s m #[Value.ref b] below meth c H locs cells slots Z (F0 m 1192 ls []) := by
  obtain ⟨hx, hb, hml, hown, hts, hX, hbl, hN, hK, hJ⟩ := C0
  have hA : ∀ q : Nat, s.heap.size ≤ q → (fun q : Nat => s.heap.size ≤ q) q := fun _ h => h
  have hbA : ¬ (fun q : Nat => s.heap.size ≤ q) b := Nat.not_le.mpr hbl
  obtain ⟨r, vho', vhi', v', e1, e3, hI'⟩ := hp vmn vho vdr vsa vhi vhh vre vrf vpa vod vsb v hI ()
  refine lv_aload_n hx hb dL_law_1192 rfl (lv_at hl 1 rfl) ?_
  have hPb : va_P D vwCl ((kHouse G (Q 2) vdr ++ kHouse G (Q 3) vsa ++ kReader G (Q 5) vre ++ kRef G (Q 6) vrf ++ kPaths G (Q 7) vpa ++ kOrder G (Q 8) vod ++ kSB G (Q 9 0) bb vsb ++ kModel G q0 v) ++ (kMain Q vmn ++ kHouse G (Q 1) vho ++ kHist Q vhi ++ kHH G Q vhh)) H := by simp only [kAll, pP_app] at hP ⊢; simp only [hP, and_self]
  have hDb : va_D (fun q : Nat => s.heap.size ≤ q) ((kHouse G (Q 2) vdr ++ kHouse G (Q 3) vsa ++ kReader G (Q 5) vre ++ kRef G (Q 6) vrf ++ kPaths G (Q 7) vpa ++ kOrder G (Q 8) vod ++ kSB G (Q 9 0) bb vsb ++ kModel G q0 v) ++ (kMain Q vmn ++ kHouse G (Q 1) vho ++ kHist Q vhi ++ kHH G Q vhh)) := by simp only [kAll, pD_app, Dj_l, Dj_r] at hD ⊢; simp only [hD, and_self]
  refine k_VB (As := []) (rest := []) ⟨hx, hb, hml, hown, hts⟩ (c_X12_undo l D G Q  vmn vho vhi vhh _ _ _ e1 _) (cwV 0 hts gL_law_X12_undo rfl rfl rfl (by decide +kernel) ⟨Nat.le_of_ble_eq_true rfl, Nat.le_of_ble_eq_true rfl⟩) hl.1 (Nat.le_of_ble_eq_true rfl) dL_law_1193 ⟨by show _ ≤ 600000; omega, by show _ ≤ 7302250; omega⟩ rfl kT_bl (fun _ _ _ => trivial) hN hK hPb hDb hS hA 0 10 rfl rfl rfl [0, 1, 2, 3] rfl (fun H locs hP hD hS => ?_)
  refine W.widen (k := cells + 49) (n := slots + 3920) (by omega) (by omega) ?_
  have hP : va_P D vwCl (kAll G Q bb vmn vho' vdr vsa vhi' vhh vre vrf vpa vod vsb ++ kModel G q0 v) H := by simp only [kAll, pP_app] at hP ⊢; simp only [hP, and_self]
  have hD : va_D (fun q : Nat => s.heap.size ≤ q) (kAll G Q bb vmn vho' vdr vsa vhi' vhh vre vrf vpa vod vsb ++ kModel G q0 v) := by simp only [kAll, pD_app, Dj_l, Dj_r] at hD ⊢; simp only [hD, and_self]
  refine lv_aload_n hx hb dL_law_1196 rfl (lv_at hl 2 rfl) ?_
  refine k_VB (As := []) (rest := [.int r]) ⟨hx, hb, hml, hown, hts⟩ (c_X13_undo l D G q0  v _ _ e3 _) (cwV 0 hts gL_law_X13_undo rfl rfl rfl (by decide +kernel) ⟨Nat.le_of_ble_eq_true rfl, Nat.le_of_ble_eq_true rfl⟩) hl.1 (Nat.le_of_ble_eq_true rfl) dL_law_1197 ⟨by show _ ≤ 600000; omega, by show _ ≤ 7302250; omega⟩ rfl kT_bl (fun _ _ _ => trivial) hN hK hP hD hS hA 0 11 rfl rfl rfl [0, 1, 2, 3] rfl (fun H locs hP hD hS => ?_)
  refine lv_icmp_eq (tgt := 1231) hx hb dL_law_1200 (by decide) (fun _ => ?_) (fun cc => absurd rfl cc)
  exact kk vmn vho' vdr vsa vhi' vhh vre vrf vpa vod vsb v' bb H locs hI' hP hD hS ls hl
set_option maxHeartbeats 4000000 in
set_option maxRecDepth 100000 in
theorem lo_save {p : Program} {l : Launch} {e : Env} {s : State} {m : MethodId} {below : List Frame} {meth : Method} {c : Code} {b L : Nat} {xs : Nat → Int32} {D : va_G} {G : Nat → ClassId} {X Q : Nat → Nat → Nat} {q0 : Nat → Nat} {I J : TI} (hp : P_save I J) (C0 : LwB p l s m c b L xs D G X) (hL : L ≤ 2048) {i : Nat} (hi : i + 3 < L) {cells slots : Nat} (hce : cells + 49 ≤ 600000) (hsl : slots + 3920 ≤ 7302250) {Z : State → Prop} {bb : Nat} (vmn : SV) (vho : SV) (vdr : SV) (vsa : SV) (vhi : SV) (vhh : (Nat → SV)) (vre : SV) (vrf : SV) (vpa : SV) (vod : SV) (vsb : (Nat × SV)) (v : SV) (hI : I vmn vho vdr vsa vhi vhh vre vrf vpa vod vsb v) {H : Heap} {locs : List Loc} (hP : va_P D vwCl (kAll G Q bb vmn vho vdr vsa vhi vhh vre vrf vpa vod vsb ++ kModel G q0 v) H) (hD : va_D (fun q : Nat => s.heap.size ≤ q) (kAll G Q bb vmn vho vdr vsa vhi vhh vre vrf vpa vod vsb ++ kModel G q0 v)) (hS : va_S (fun q : Nat => s.heap.size ≤ q) s.heap H locs) {ls : Array Slot} (hl : lv_has ls 8 [(0, .ref b), (1, .ref (Q 0 0)), (2, .ref (q0 0)), (3, .int (nI i))])
    (kk : LwK p l e s m below meth c b D G Q q0 J i (cells + 49) (slots + 3920) Z) : W p l e room_1 s m #[Value.ref b] below meth c H locs cells slots Z (F0 m 1205 ls []) := by
  obtain ⟨hx, hb, hml, hown, hts, hX, hbl, hN, hK, hJ⟩ := C0
  have hA : ∀ q : Nat, s.heap.size ≤ q → (fun q : Nat => s.heap.size ≤ q) q := fun _ h => h
  have hbA : ¬ (fun q : Nat => s.heap.size ≤ q) b := Nat.not_le.mpr hbl
  obtain ⟨r, vmn', vsa', v', e1, e3, hI'⟩ := hp vmn vho vdr vsa vhi vhh vre vrf vpa vod vsb v hI ()
  refine lv_aload_n hx hb dL_law_1205 rfl (lv_at hl 1 rfl) ?_
  have hPb : va_P D vwCl ((kHouse G (Q 2) vdr ++ kHist Q vhi ++ kHH G Q vhh ++ kReader G (Q 5) vre ++ kRef G (Q 6) vrf ++ kPaths G (Q 7) vpa ++ kOrder G (Q 8) vod ++ kSB G (Q 9 0) bb vsb ++ kModel G q0 v) ++ (kMain Q vmn ++ kHouse G (Q 1) vho ++ kHouse G (Q 3) vsa)) H := by simp only [kAll, pP_app] at hP ⊢; simp only [hP, and_self]
  have hDb : va_D (fun q : Nat => s.heap.size ≤ q) ((kHouse G (Q 2) vdr ++ kHist Q vhi ++ kHH G Q vhh ++ kReader G (Q 5) vre ++ kRef G (Q 6) vrf ++ kPaths G (Q 7) vpa ++ kOrder G (Q 8) vod ++ kSB G (Q 9 0) bb vsb ++ kModel G q0 v) ++ (kMain Q vmn ++ kHouse G (Q 1) vho ++ kHouse G (Q 3) vsa)) := by simp only [kAll, pD_app, Dj_l, Dj_r] at hD ⊢; simp only [hD, and_self]
  refine k_VB (As := []) (rest := []) ⟨hx, hb, hml, hown, hts⟩ (c_X12_save l D G Q  vmn vho vsa _ _ _ e1 _) (cwV 0 hts gL_law_X12_save rfl rfl rfl (by decide +kernel) ⟨Nat.le_of_ble_eq_true rfl, Nat.le_of_ble_eq_true rfl⟩) hl.1 (Nat.le_of_ble_eq_true rfl) dL_law_1206 ⟨by show _ ≤ 600000; omega, by show _ ≤ 7302250; omega⟩ rfl kT_bl (fun _ _ _ => trivial) hN hK hPb hDb hS hA 0 10 rfl rfl rfl [0, 1, 2, 3] rfl (fun H locs hP hD hS => ?_)
  refine W.widen (k := cells + 49) (n := slots + 3920) (by omega) (by omega) ?_
  have hP : va_P D vwCl (kAll G Q bb vmn' vho vdr vsa' vhi vhh vre vrf vpa vod vsb ++ kModel G q0 v) H := by simp only [kAll, pP_app] at hP ⊢; simp only [hP, and_self]
  have hD : va_D (fun q : Nat => s.heap.size ≤ q) (kAll G Q bb vmn' vho vdr vsa' vhi vhh vre vrf vpa vod vsb ++ kModel G q0 v) := by simp only [kAll, pD_app, Dj_l, Dj_r] at hD ⊢; simp only [hD, and_self]
  refine lv_aload_n hx hb dL_law_1209 rfl (lv_at hl 2 rfl) ?_
  refine k_VB (As := []) (rest := [.int r]) ⟨hx, hb, hml, hown, hts⟩ (c_X13_save l D G q0  v _ _ e3 _) (cwV 0 hts gL_law_X13_save rfl rfl rfl (by decide +kernel) ⟨Nat.le_of_ble_eq_true rfl, Nat.le_of_ble_eq_true rfl⟩) hl.1 (Nat.le_of_ble_eq_true rfl) dL_law_1210 ⟨by show _ ≤ 600000; omega, by show _ ≤ 7302250; omega⟩ rfl kT_bl (fun _ _ _ => trivial) hN hK hP hD hS hA 0 11 rfl rfl rfl [0, 1, 2, 3] rfl (fun H locs hP hD hS => ?_)
  refine lv_icmp_eq (tgt := 1231) hx hb dL_law_1213 (by decide) (fun _ => ?_) (fun cc => absurd rfl cc)
  exact kk vmn' vho vdr vsa' vhi vhh vre vrf vpa vod vsb v' bb H locs hI' hP hD hS ls hl
set_option maxHeartbeats 4000000 in
set_option maxRecDepth 100000 in
theorem lo_restore {p : Program} {l : Launch} {e : Env} {s : State} {m : MethodId} {below : List Frame} {meth : Method} {c : Code} {b L : Nat} {xs : Nat → Int32} {D : va_G} {G : Nat → ClassId} {X Q : Nat → Nat → Nat} {q0 : Nat → Nat} {I J : TI} (hp : P_restore I J) (C0 : LwB p l s m c b L xs D G X) (hL : L ≤ 2048) {i : Nat} (hi : i + 3 < L) {cells slots : Nat} (hce : cells + 49 ≤ 600000) (hsl : slots + 3920 ≤ 7302250) {Z : State → Prop} {bb : Nat} (vmn : SV) (vho : SV) (vdr : SV) (vsa : SV) (vhi : SV) (vhh : (Nat → SV)) (vre : SV) (vrf : SV) (vpa : SV) (vod : SV) (vsb : (Nat × SV)) (v : SV) (hI : I vmn vho vdr vsa vhi vhh vre vrf vpa vod vsb v) {H : Heap} {locs : List Loc} (hP : va_P D vwCl (kAll G Q bb vmn vho vdr vsa vhi vhh vre vrf vpa vod vsb ++ kModel G q0 v) H) (hD : va_D (fun q : Nat => s.heap.size ≤ q) (kAll G Q bb vmn vho vdr vsa vhi vhh vre vrf vpa vod vsb ++ kModel G q0 v)) (hS : va_S (fun q : Nat => s.heap.size ≤ q) s.heap H locs) {ls : Array Slot} (hl : lv_has ls 8 [(0, .ref b), (1, .ref (Q 0 0)), (2, .ref (q0 0)), (3, .int (nI i))])
    (kk : LwK p l e s m below meth c b D G Q q0 J i (cells + 49) (slots + 3920) Z) : W p l e room_1 s m #[Value.ref b] below meth c H locs cells slots Z (F0 m 1218 ls []) := by
  obtain ⟨hx, hb, hml, hown, hts, hX, hbl, hN, hK, hJ⟩ := C0
  have hA : ∀ q : Nat, s.heap.size ≤ q → (fun q : Nat => s.heap.size ≤ q) q := fun _ h => h
  have hbA : ¬ (fun q : Nat => s.heap.size ≤ q) b := Nat.not_le.mpr hbl
  obtain ⟨r, vho', vhi', v', e1, e3, hI'⟩ := hp vmn vho vdr vsa vhi vhh vre vrf vpa vod vsb v hI ()
  refine lv_aload_n hx hb dL_law_1218 rfl (lv_at hl 1 rfl) ?_
  have hPb : va_P D vwCl ((kHouse G (Q 2) vdr ++ kHH G Q vhh ++ kReader G (Q 5) vre ++ kRef G (Q 6) vrf ++ kPaths G (Q 7) vpa ++ kOrder G (Q 8) vod ++ kSB G (Q 9 0) bb vsb ++ kModel G q0 v) ++ (kMain Q vmn ++ kHouse G (Q 1) vho ++ kHouse G (Q 3) vsa ++ kHist Q vhi)) H := by simp only [kAll, pP_app] at hP ⊢; simp only [hP, and_self]
  have hDb : va_D (fun q : Nat => s.heap.size ≤ q) ((kHouse G (Q 2) vdr ++ kHH G Q vhh ++ kReader G (Q 5) vre ++ kRef G (Q 6) vrf ++ kPaths G (Q 7) vpa ++ kOrder G (Q 8) vod ++ kSB G (Q 9 0) bb vsb ++ kModel G q0 v) ++ (kMain Q vmn ++ kHouse G (Q 1) vho ++ kHouse G (Q 3) vsa ++ kHist Q vhi)) := by simp only [kAll, pD_app, Dj_l, Dj_r] at hD ⊢; simp only [hD, and_self]
  refine k_VB (As := []) (rest := []) ⟨hx, hb, hml, hown, hts⟩ (c_X12_restore l D G Q  vmn vho vsa vhi _ _ _ e1 _) (cwV 0 hts gL_law_X12_restore rfl rfl rfl (by decide +kernel) ⟨Nat.le_of_ble_eq_true rfl, Nat.le_of_ble_eq_true rfl⟩) hl.1 (Nat.le_of_ble_eq_true rfl) dL_law_1219 ⟨by show _ ≤ 600000; omega, by show _ ≤ 7302250; omega⟩ rfl kT_bl (fun _ _ _ => trivial) hN hK hPb hDb hS hA 0 10 rfl rfl rfl [0, 1, 2, 3] rfl (fun H locs hP hD hS => ?_)
  refine W.widen (k := cells + 49) (n := slots + 3920) (by omega) (by omega) ?_
  have hP : va_P D vwCl (kAll G Q bb vmn vho' vdr vsa vhi' vhh vre vrf vpa vod vsb ++ kModel G q0 v) H := by simp only [kAll, pP_app] at hP ⊢; simp only [hP, and_self]
  have hD : va_D (fun q : Nat => s.heap.size ≤ q) (kAll G Q bb vmn vho' vdr vsa vhi' vhh vre vrf vpa vod vsb ++ kModel G q0 v) := by simp only [kAll, pD_app, Dj_l, Dj_r] at hD ⊢; simp only [hD, and_self]
  refine lv_aload_n hx hb dL_law_1222 rfl (lv_at hl 2 rfl) ?_
  refine k_VB (As := []) (rest := [.int r]) ⟨hx, hb, hml, hown, hts⟩ (c_X13_restore l D G q0  v _ _ e3 _) (cwV 0 hts gL_law_X13_restore rfl rfl rfl (by decide +kernel) ⟨Nat.le_of_ble_eq_true rfl, Nat.le_of_ble_eq_true rfl⟩) hl.1 (Nat.le_of_ble_eq_true rfl) dL_law_1223 ⟨by show _ ≤ 600000; omega, by show _ ≤ 7302250; omega⟩ rfl kT_bl (fun _ _ _ => trivial) hN hK hP hD hS hA 0 11 rfl rfl rfl [0, 1, 2, 3] rfl (fun H locs hP hD hS => ?_)
  refine lv_icmp_eq (tgt := 1231) hx hb dL_law_1226 (by decide) (fun _ => ?_) (fun cc => absurd rfl cc)
  exact kk vmn vho' vdr vsa vhi' vhh vre vrf vpa vod vsb v' bb H locs hI' hP hD hS ls hl
