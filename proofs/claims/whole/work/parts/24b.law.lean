/-! Walks, laid by wip/whole/gen.py: for each method f_ (what it does to its world) and c_ (its contract). -/
set_option maxHeartbeats 4000000 in
set_option maxRecDepth 100000 in
theorem lo_clear {p : Program} {l : Launch} {e : Env} {s : State} {m : MethodId} {below : List Frame} {meth : Method} {c : Code} {b L : Nat} {xs : Nat → Int32} {D : va_G} {G : Nat → ClassId} {X Q : Nat → Nat → Nat} {q0 : Nat → Nat} {I J : TI} (hp : P_clear I J) (C0 : LwB p l s m c b L xs D G X) (hL : L ≤ 2048) {i : Nat} (hi : i + 3 < L) {cells slots : Nat} (hce : cells + 49 ≤ 600000) (hsl : slots + 3920 ≤ 7302250) {Z : State → Prop} {bb : Nat} (vmn : SV) (vho : SV) (vdr : SV) (vsa : SV) (vhi : SV) (vhh : (Nat → SV)) (vre : SV) (vrf : SV) (vpa : SV) (vod : SV) (vsb : (Nat × SV)) (v : SV) (hI : I vmn vho vdr vsa vhi vhh vre vrf vpa vod vsb v) {H : Heap} {locs : List Loc} (hP : va_P D vwCl (kAll G Q bb vmn vho vdr vsa vhi vhh vre vrf vpa vod vsb ++ kModel G q0 v) H) (hD : va_D (fun q : Nat => s.heap.size ≤ q) (kAll G Q bb vmn vho vdr vsa vhi vhh vre vrf vpa vod vsb ++ kModel G q0 v)) (hS : va_S (fun q : Nat => s.heap.size ≤ q) s.heap H locs) {ls : Array Slot} (hl : lv_has ls 8 [(0, .ref b), (1, .ref (Q 0 0)), (2, .ref (q0 0)), (3, .int (nI i))])
    (kk : LwK p l e s m below meth c b D G Q q0 J i (cells + 49) (slots + 3920) Z) : W p l e room_1 s m #[Value.ref b] below meth c H locs cells slots Z (F0 m 212 ls []) := by
  obtain ⟨hx, hb, hml, hown, hts, hX, hbl, hN, hK, hJ⟩ := C0
  have hA : ∀ q : Nat, s.heap.size ≤ q → (fun q : Nat => s.heap.size ≤ q) q := fun _ h => h
  have hbA : ¬ (fun q : Nat => s.heap.size ≤ q) b := Nat.not_le.mpr hbl
  obtain ⟨r, vho', vhi', v', e1, e3, hI'⟩ := hp vmn vho vdr vsa vhi vhh vre vrf vpa vod vsb v hI ()
  refine lv_aload_n hx hb dL_law_212 rfl (lv_at hl 1 rfl) ?_
  have hPb : va_P D vwCl ((kHouse G (Q 2) vdr ++ kHouse G (Q 3) vsa ++ kHH G Q vhh ++ kReader G (Q 5) vre ++ kRef G (Q 6) vrf ++ kPaths G (Q 7) vpa ++ kOrder G (Q 8) vod ++ kSB G (Q 9 0) bb vsb ++ kModel G q0 v) ++ (kMain Q vmn ++ kHouse G (Q 1) vho ++ kHist Q vhi)) H := by simp only [kAll, pP_app] at hP ⊢; simp only [hP, and_self]
  have hDb : va_D (fun q : Nat => s.heap.size ≤ q) ((kHouse G (Q 2) vdr ++ kHouse G (Q 3) vsa ++ kHH G Q vhh ++ kReader G (Q 5) vre ++ kRef G (Q 6) vrf ++ kPaths G (Q 7) vpa ++ kOrder G (Q 8) vod ++ kSB G (Q 9 0) bb vsb ++ kModel G q0 v) ++ (kMain Q vmn ++ kHouse G (Q 1) vho ++ kHist Q vhi)) := by simp only [kAll, pD_app, Dj_l, Dj_r] at hD ⊢; simp only [hD, and_self]
  refine k_VB (As := []) (rest := []) ⟨hx, hb, hml, hown, hts⟩ (c_X12_clear l D G Q  vmn vho vhi _ _ _ e1 _) (cwV 0 hts gL_law_X12_clear rfl rfl rfl (by decide +kernel) ⟨Nat.le_of_ble_eq_true rfl, Nat.le_of_ble_eq_true rfl⟩) hl.1 (Nat.le_of_ble_eq_true rfl) dL_law_213 ⟨by show _ ≤ 600000; omega, by show _ ≤ 7302250; omega⟩ rfl kT_bl (fun _ _ _ => trivial) hN hK hPb hDb hS hA 0 10 rfl rfl rfl [0, 1, 2, 3] rfl (fun H locs hP hD hS => ?_)
  refine W.widen (k := cells + 49) (n := slots + 3920) (by omega) (by omega) ?_
  have hP : va_P D vwCl (kAll G Q bb vmn vho' vdr vsa vhi' vhh vre vrf vpa vod vsb ++ kModel G q0 v) H := by simp only [kAll, pP_app] at hP ⊢; simp only [hP, and_self]
  have hD : va_D (fun q : Nat => s.heap.size ≤ q) (kAll G Q bb vmn vho' vdr vsa vhi' vhh vre vrf vpa vod vsb ++ kModel G q0 v) := by simp only [kAll, pD_app, Dj_l, Dj_r] at hD ⊢; simp only [hD, and_self]
  refine lv_aload_n hx hb dL_law_216 rfl (lv_at hl 2 rfl) ?_
  refine k_VB (As := []) (rest := [.int r]) ⟨hx, hb, hml, hown, hts⟩ (c_X13_clear l D G q0  v _ _ e3 _) (cwV 0 hts gL_law_X13_clear rfl rfl rfl (by decide +kernel) ⟨Nat.le_of_ble_eq_true rfl, Nat.le_of_ble_eq_true rfl⟩) hl.1 (Nat.le_of_ble_eq_true rfl) dL_law_217 ⟨by show _ ≤ 600000; omega, by show _ ≤ 7302250; omega⟩ rfl kT_bl (fun _ _ _ => trivial) hN hK hP hD hS hA 0 11 rfl rfl rfl [0, 1, 2, 3] rfl (fun H locs hP hD hS => ?_)
  refine lv_icmp_eq (tgt := 1231) hx hb dL_law_220 (by decide) (fun _ => ?_) (fun cc => absurd rfl cc)
  exact kk vmn vho' vdr vsa vhi' vhh vre vrf vpa vod vsb v' bb H locs hI' hP hD hS ls hl
set_option maxHeartbeats 4000000 in
set_option maxRecDepth 100000 in
theorem lo_append {p : Program} {l : Launch} {e : Env} {s : State} {m : MethodId} {below : List Frame} {meth : Method} {c : Code} {b L : Nat} {xs : Nat → Int32} {D : va_G} {G : Nat → ClassId} {X Q : Nat → Nat → Nat} {q0 : Nat → Nat} {I J : TI} (hp : P_append I J) (C0 : LwB p l s m c b L xs D G X) (hL : L ≤ 2048) {i : Nat} (hi : i + 3 < L) {cells slots : Nat} (hce : cells + 49 ≤ 600000) (hsl : slots + 3920 ≤ 7302250) {Z : State → Prop} {bb : Nat} (vmn : SV) (vho : SV) (vdr : SV) (vsa : SV) (vhi : SV) (vhh : (Nat → SV)) (vre : SV) (vrf : SV) (vpa : SV) (vod : SV) (vsb : (Nat × SV)) (v : SV) (hI : I vmn vho vdr vsa vhi vhh vre vrf vpa vod vsb v) {H : Heap} {locs : List Loc} (hP : va_P D vwCl (kAll G Q bb vmn vho vdr vsa vhi vhh vre vrf vpa vod vsb ++ kModel G q0 v) H) (hD : va_D (fun q : Nat => s.heap.size ≤ q) (kAll G Q bb vmn vho vdr vsa vhi vhh vre vrf vpa vod vsb ++ kModel G q0 v)) (hS : va_S (fun q : Nat => s.heap.size ≤ q) s.heap H locs) {ls : Array Slot} (hl : lv_has ls 8 [(0, .ref b), (1, .ref (Q 0 0)), (2, .ref (q0 0)), (3, .int (nI i))])
    (kk : LwK p l e s m below meth c b D G Q q0 J i (cells + 49) (slots + 3920) Z) : W p l e room_1 s m #[Value.ref b] below meth c H locs cells slots Z (F0 m 225 ls []) := by
  obtain ⟨hx, hb, hml, hown, hts, hX, hbl, hN, hK, hJ⟩ := C0
  have hA : ∀ q : Nat, s.heap.size ≤ q → (fun q : Nat => s.heap.size ≤ q) q := fun _ h => h
  have hbA : ¬ (fun q : Nat => s.heap.size ≤ q) b := Nat.not_le.mpr hbl
  have h1 : vp_in (nI i + 1) L := lw_in 1 (by decide) (by omega) hL
  obtain ⟨r, vre', v', e1, e3, hI'⟩ := hp vmn vho vdr vsa vhi vhh vre vrf vpa vod vsb v hI (xs (nI i + 1).toNatClampNeg)
  refine lv_aload_n hx hb dL_law_225 rfl (lv_at hl 1 rfl) ?_
  refine lv_aload_n hx hb dL_law_226 rfl (lv_at hl 0 rfl) ?_
  refine lv_iload_n hx hb dL_law_227 rfl (lv_at hl 3 rfl) ?_
  refine lv_iconst (v := 1) hx hb dL_law_228 (by decide) ?_
  refine lv_iadd hx hb dL_law_229 ?_
  refine va_sld hx hb hX hbl hbA hS h1 dL_law_230 ?_
  refine lv_i2c (v := (((xs (nI i + 1).toNatClampNeg).toUInt32 % 65536).toInt32)) hx hb dL_law_231 rfl ?_
  have hPb : va_P D vwCl ((kHouse G (Q 1) vho ++ kHouse G (Q 2) vdr ++ kHouse G (Q 3) vsa ++ kHist Q vhi ++ kHH G Q vhh ++ kRef G (Q 6) vrf ++ kPaths G (Q 7) vpa ++ kOrder G (Q 8) vod ++ kSB G (Q 9 0) bb vsb ++ kModel G q0 v) ++ (kMain Q vmn ++ kReader G (Q 5) vre)) H := by simp only [kAll, pP_app] at hP ⊢; simp only [hP, and_self]
  have hDb : va_D (fun q : Nat => s.heap.size ≤ q) ((kHouse G (Q 1) vho ++ kHouse G (Q 2) vdr ++ kHouse G (Q 3) vsa ++ kHist Q vhi ++ kHH G Q vhh ++ kRef G (Q 6) vrf ++ kPaths G (Q 7) vpa ++ kOrder G (Q 8) vod ++ kSB G (Q 9 0) bb vsb ++ kModel G q0 v) ++ (kMain Q vmn ++ kReader G (Q 5) vre)) := by simp only [kAll, pD_app, Dj_l, Dj_r] at hD ⊢; simp only [hD, and_self]
  refine k_VB (As := [.int (((xs (nI i + 1).toNatClampNeg).toUInt32 % 65536).toInt32)]) (rest := []) ⟨hx, hb, hml, hown, hts⟩ (c_X12_append l D G Q (((xs (nI i + 1).toNatClampNeg).toUInt32 % 65536).toInt32) vmn vre _ _ e1 _) (cwV 1 hts gL_law_X12_append rfl rfl rfl (by decide +kernel) ⟨Nat.le_of_ble_eq_true rfl, Nat.le_of_ble_eq_true rfl⟩) hl.1 (Nat.le_of_ble_eq_true rfl) dL_law_232 ⟨by show _ ≤ 600000; omega, by show _ ≤ 7302250; omega⟩ rfl kT_bl (fun _ _ _ => trivial) hN hK hPb hDb hS hA 0 10 rfl rfl rfl [0, 1, 2, 3] rfl (fun H locs hP hD hS => ?_)
  refine W.widen (k := cells + 49) (n := slots + 3920) (by omega) (by omega) ?_
  have hP : va_P D vwCl (kAll G Q bb vmn vho vdr vsa vhi vhh vre' vrf vpa vod vsb ++ kModel G q0 v) H := by simp only [kAll, pP_app] at hP ⊢; simp only [hP, and_self]
  have hD : va_D (fun q : Nat => s.heap.size ≤ q) (kAll G Q bb vmn vho vdr vsa vhi vhh vre' vrf vpa vod vsb ++ kModel G q0 v) := by simp only [kAll, pD_app, Dj_l, Dj_r] at hD ⊢; simp only [hD, and_self]
  refine lv_aload_n hx hb dL_law_235 rfl (lv_at hl 2 rfl) ?_
  refine lv_aload_n hx hb dL_law_236 rfl (lv_at hl 0 rfl) ?_
  refine lv_iload_n hx hb dL_law_237 rfl (lv_at hl 3 rfl) ?_
  refine lv_iconst (v := 1) hx hb dL_law_238 (by decide) ?_
  refine lv_iadd hx hb dL_law_239 ?_
  refine va_sld hx hb hX hbl hbA hS h1 dL_law_240 ?_
  refine lv_i2c (v := (((xs (nI i + 1).toNatClampNeg).toUInt32 % 65536).toInt32)) hx hb dL_law_241 rfl ?_
  refine k_VB (As := [.int (((xs (nI i + 1).toNatClampNeg).toUInt32 % 65536).toInt32)]) (rest := [.int r]) ⟨hx, hb, hml, hown, hts⟩ (c_X13_append l D G q0 (((xs (nI i + 1).toNatClampNeg).toUInt32 % 65536).toInt32) v _ _ e3 _) (cwV 1 hts gL_law_X13_append rfl rfl rfl (by decide +kernel) ⟨Nat.le_of_ble_eq_true rfl, Nat.le_of_ble_eq_true rfl⟩) hl.1 (Nat.le_of_ble_eq_true rfl) dL_law_242 ⟨by show _ ≤ 600000; omega, by show _ ≤ 7302250; omega⟩ rfl kT_bl (fun _ _ _ => trivial) hN hK hP hD hS hA 0 11 rfl rfl rfl [0, 1, 2, 3] rfl (fun H locs hP hD hS => ?_)
  refine lv_icmp_eq (tgt := 1231) hx hb dL_law_245 (by decide) (fun _ => ?_) (fun cc => absurd rfl cc)
  exact kk vmn vho vdr vsa vhi vhh vre' vrf vpa vod vsb v' bb H locs hI' hP hD hS ls hl
set_option maxHeartbeats 4000000 in
set_option maxRecDepth 100000 in
theorem lo_plant {p : Program} {l : Launch} {e : Env} {s : State} {m : MethodId} {below : List Frame} {meth : Method} {c : Code} {b L : Nat} {xs : Nat → Int32} {D : va_G} {G : Nat → ClassId} {X Q : Nat → Nat → Nat} {q0 : Nat → Nat} {I J : TI} (hp : P_plant I J) (C0 : LwB p l s m c b L xs D G X) (hL : L ≤ 2048) {i : Nat} (hi : i + 3 < L) {cells slots : Nat} (hce : cells + 49 ≤ 600000) (hsl : slots + 3920 ≤ 7302250) {Z : State → Prop} {bb : Nat} (vmn : SV) (vho : SV) (vdr : SV) (vsa : SV) (vhi : SV) (vhh : (Nat → SV)) (vre : SV) (vrf : SV) (vpa : SV) (vod : SV) (vsb : (Nat × SV)) (v : SV) (hI : I vmn vho vdr vsa vhi vhh vre vrf vpa vod vsb v) {H : Heap} {locs : List Loc} (hP : va_P D vwCl (kAll G Q bb vmn vho vdr vsa vhi vhh vre vrf vpa vod vsb ++ kModel G q0 v) H) (hD : va_D (fun q : Nat => s.heap.size ≤ q) (kAll G Q bb vmn vho vdr vsa vhi vhh vre vrf vpa vod vsb ++ kModel G q0 v)) (hS : va_S (fun q : Nat => s.heap.size ≤ q) s.heap H locs) {ls : Array Slot} (hl : lv_has ls 8 [(0, .ref b), (1, .ref (Q 0 0)), (2, .ref (q0 0)), (3, .int (nI i))])
    (kk : LwK p l e s m below meth c b D G Q q0 J i (cells + 49) (slots + 3920) Z) : W p l e room_1 s m #[Value.ref b] below meth c H locs cells slots Z (F0 m 250 ls []) := by
  obtain ⟨hx, hb, hml, hown, hts, hX, hbl, hN, hK, hJ⟩ := C0
  have hA : ∀ q : Nat, s.heap.size ≤ q → (fun q : Nat => s.heap.size ≤ q) q := fun _ h => h
  have hbA : ¬ (fun q : Nat => s.heap.size ≤ q) b := Nat.not_le.mpr hbl
  have h1 : vp_in (nI i + 1) L := lw_in 1 (by decide) (by omega) hL
  have h2 : vp_in (nI i + 2) L := lw_in 2 (by decide) (by omega) hL
  obtain ⟨r, vho', vdr', vhi', vrf', vhh', v', e1, e3, hI'⟩ := hp vmn vho vdr vsa vhi vhh vre vrf vpa vod vsb v hI (xs (nI i + 1).toNatClampNeg) (xs (nI i + 2).toNatClampNeg)
  refine lv_aload_n hx hb dL_law_250 rfl (lv_at hl 1 rfl) ?_
  refine lv_aload_n hx hb dL_law_251 rfl (lv_at hl 0 rfl) ?_
  refine lv_iload_n hx hb dL_law_252 rfl (lv_at hl 3 rfl) ?_
  refine lv_iconst (v := 1) hx hb dL_law_253 (by decide) ?_
  refine lv_iadd hx hb dL_law_254 ?_
  refine va_sld hx hb hX hbl hbA hS h1 dL_law_255 ?_
  refine lv_aload_n hx hb dL_law_256 rfl (lv_at hl 0 rfl) ?_
  refine lv_iload_n hx hb dL_law_257 rfl (lv_at hl 3 rfl) ?_
  refine lv_iconst (v := 2) hx hb dL_law_258 (by decide) ?_
  refine lv_iadd hx hb dL_law_259 ?_
  refine va_sld hx hb hX hbl hbA hS h2 dL_law_260 ?_
  have hPb : va_P D vwCl ((kHouse G (Q 3) vsa ++ kReader G (Q 5) vre ++ kPaths G (Q 7) vpa ++ kOrder G (Q 8) vod ++ kSB G (Q 9 0) bb vsb ++ kModel G q0 v) ++ (kMain Q vmn ++ kHouse G (Q 1) vho ++ kHouse G (Q 2) vdr ++ kHist Q vhi ++ kRef G (Q 6) vrf ++ kHH G Q vhh)) H := by simp only [kAll, pP_app] at hP ⊢; simp only [hP, and_self]
  have hDb : va_D (fun q : Nat => s.heap.size ≤ q) ((kHouse G (Q 3) vsa ++ kReader G (Q 5) vre ++ kPaths G (Q 7) vpa ++ kOrder G (Q 8) vod ++ kSB G (Q 9 0) bb vsb ++ kModel G q0 v) ++ (kMain Q vmn ++ kHouse G (Q 1) vho ++ kHouse G (Q 2) vdr ++ kHist Q vhi ++ kRef G (Q 6) vrf ++ kHH G Q vhh)) := by simp only [kAll, pD_app, Dj_l, Dj_r] at hD ⊢; simp only [hD, and_self]
  refine k_VB (As := [.int (xs (nI i + 1).toNatClampNeg), .int (xs (nI i + 2).toNatClampNeg)]) (rest := []) ⟨hx, hb, hml, hown, hts⟩ (c_X12_plant l D G Q (xs (nI i + 1).toNatClampNeg) (xs (nI i + 2).toNatClampNeg) vmn vho vdr vhi vrf vhh _ _ _ _ _ _ e1 _) (cwV 2 hts gL_law_X12_plant rfl rfl rfl (by decide +kernel) ⟨Nat.le_of_ble_eq_true rfl, Nat.le_of_ble_eq_true rfl⟩) hl.1 (Nat.le_of_ble_eq_true rfl) dL_law_261 ⟨by show _ ≤ 600000; omega, by show _ ≤ 7302250; omega⟩ rfl kT_bl (fun _ _ _ => trivial) hN hK hPb hDb hS hA 0 10 rfl rfl rfl [0, 1, 2, 3] rfl (fun H locs hP hD hS => ?_)
  refine W.widen (k := cells + 49) (n := slots + 3920) (by omega) (by omega) ?_
  have hP : va_P D vwCl (kAll G Q bb vmn vho' vdr' vsa vhi' vhh' vre vrf' vpa vod vsb ++ kModel G q0 v) H := by simp only [kAll, pP_app] at hP ⊢; simp only [hP, and_self]
  have hD : va_D (fun q : Nat => s.heap.size ≤ q) (kAll G Q bb vmn vho' vdr' vsa vhi' vhh' vre vrf' vpa vod vsb ++ kModel G q0 v) := by simp only [kAll, pD_app, Dj_l, Dj_r] at hD ⊢; simp only [hD, and_self]
  refine lv_aload_n hx hb dL_law_264 rfl (lv_at hl 2 rfl) ?_
  refine lv_aload_n hx hb dL_law_265 rfl (lv_at hl 0 rfl) ?_
  refine lv_iload_n hx hb dL_law_266 rfl (lv_at hl 3 rfl) ?_
  refine lv_iconst (v := 1) hx hb dL_law_267 (by decide) ?_
  refine lv_iadd hx hb dL_law_268 ?_
  refine va_sld hx hb hX hbl hbA hS h1 dL_law_269 ?_
  refine lv_aload_n hx hb dL_law_270 rfl (lv_at hl 0 rfl) ?_
  refine lv_iload_n hx hb dL_law_271 rfl (lv_at hl 3 rfl) ?_
  refine lv_iconst (v := 2) hx hb dL_law_272 (by decide) ?_
  refine lv_iadd hx hb dL_law_273 ?_
  refine va_sld hx hb hX hbl hbA hS h2 dL_law_274 ?_
  refine k_VB (As := [.int (xs (nI i + 1).toNatClampNeg), .int (xs (nI i + 2).toNatClampNeg)]) (rest := [.int r]) ⟨hx, hb, hml, hown, hts⟩ (c_X13_plant l D G q0 (xs (nI i + 1).toNatClampNeg) (xs (nI i + 2).toNatClampNeg) v _ _ e3 _) (cwV 2 hts gL_law_X13_plant rfl rfl rfl (by decide +kernel) ⟨Nat.le_of_ble_eq_true rfl, Nat.le_of_ble_eq_true rfl⟩) hl.1 (Nat.le_of_ble_eq_true rfl) dL_law_275 ⟨by show _ ≤ 600000; omega, by show _ ≤ 7302250; omega⟩ rfl kT_bl (fun _ _ _ => trivial) hN hK hP hD hS hA 0 11 rfl rfl rfl [0, 1, 2, 3] rfl (fun H locs hP hD hS => ?_)
  refine lv_icmp_eq (tgt := 1231) hx hb dL_law_278 (by decide) (fun _ => ?_) (fun cc => absurd rfl cc)
  exact kk vmn vho' vdr' vsa vhi' vhh' vre vrf' vpa vod vsb v' bb H locs hI' hP hD hS ls hl
set_option maxHeartbeats 4000000 in
set_option maxRecDepth 100000 in
theorem lo_bear {p : Program} {l : Launch} {e : Env} {s : State} {m : MethodId} {below : List Frame} {meth : Method} {c : Code} {b L : Nat} {xs : Nat → Int32} {D : va_G} {G : Nat → ClassId} {X Q : Nat → Nat → Nat} {q0 : Nat → Nat} {I J : TI} (hp : P_bear I J) (C0 : LwB p l s m c b L xs D G X) (hL : L ≤ 2048) {i : Nat} (hi : i + 3 < L) {cells slots : Nat} (hce : cells + 49 ≤ 600000) (hsl : slots + 3920 ≤ 7302250) {Z : State → Prop} {bb : Nat} (vmn : SV) (vho : SV) (vdr : SV) (vsa : SV) (vhi : SV) (vhh : (Nat → SV)) (vre : SV) (vrf : SV) (vpa : SV) (vod : SV) (vsb : (Nat × SV)) (v : SV) (hI : I vmn vho vdr vsa vhi vhh vre vrf vpa vod vsb v) {H : Heap} {locs : List Loc} (hP : va_P D vwCl (kAll G Q bb vmn vho vdr vsa vhi vhh vre vrf vpa vod vsb ++ kModel G q0 v) H) (hD : va_D (fun q : Nat => s.heap.size ≤ q) (kAll G Q bb vmn vho vdr vsa vhi vhh vre vrf vpa vod vsb ++ kModel G q0 v)) (hS : va_S (fun q : Nat => s.heap.size ≤ q) s.heap H locs) {ls : Array Slot} (hl : lv_has ls 8 [(0, .ref b), (1, .ref (Q 0 0)), (2, .ref (q0 0)), (3, .int (nI i))])
    (kk : LwK p l e s m below meth c b D G Q q0 J i (cells + 49) (slots + 3920) Z) : W p l e room_1 s m #[Value.ref b] below meth c H locs cells slots Z (F0 m 283 ls []) := by
  obtain ⟨hx, hb, hml, hown, hts, hX, hbl, hN, hK, hJ⟩ := C0
  have hA : ∀ q : Nat, s.heap.size ≤ q → (fun q : Nat => s.heap.size ≤ q) q := fun _ h => h
  have hbA : ¬ (fun q : Nat => s.heap.size ≤ q) b := Nat.not_le.mpr hbl
  have h1 : vp_in (nI i + 1) L := lw_in 1 (by decide) (by omega) hL
  have h2 : vp_in (nI i + 2) L := lw_in 2 (by decide) (by omega) hL
  obtain ⟨r, vho', vdr', vhi', vrf', vhh', v', e1, e3, hI'⟩ := hp vmn vho vdr vsa vhi vhh vre vrf vpa vod vsb v hI (xs (nI i + 1).toNatClampNeg) (xs (nI i + 2).toNatClampNeg)
  refine lv_aload_n hx hb dL_law_283 rfl (lv_at hl 1 rfl) ?_
  refine lv_aload_n hx hb dL_law_284 rfl (lv_at hl 0 rfl) ?_
  refine lv_iload_n hx hb dL_law_285 rfl (lv_at hl 3 rfl) ?_
  refine lv_iconst (v := 1) hx hb dL_law_286 (by decide) ?_
  refine lv_iadd hx hb dL_law_287 ?_
  refine va_sld hx hb hX hbl hbA hS h1 dL_law_288 ?_
  refine lv_aload_n hx hb dL_law_289 rfl (lv_at hl 0 rfl) ?_
  refine lv_iload_n hx hb dL_law_290 rfl (lv_at hl 3 rfl) ?_
  refine lv_iconst (v := 2) hx hb dL_law_291 (by decide) ?_
  refine lv_iadd hx hb dL_law_292 ?_
  refine va_sld hx hb hX hbl hbA hS h2 dL_law_293 ?_
  have hPb : va_P D vwCl ((kHouse G (Q 3) vsa ++ kReader G (Q 5) vre ++ kPaths G (Q 7) vpa ++ kOrder G (Q 8) vod ++ kSB G (Q 9 0) bb vsb ++ kModel G q0 v) ++ (kMain Q vmn ++ kHouse G (Q 1) vho ++ kHouse G (Q 2) vdr ++ kHist Q vhi ++ kRef G (Q 6) vrf ++ kHH G Q vhh)) H := by simp only [kAll, pP_app] at hP ⊢; simp only [hP, and_self]
  have hDb : va_D (fun q : Nat => s.heap.size ≤ q) ((kHouse G (Q 3) vsa ++ kReader G (Q 5) vre ++ kPaths G (Q 7) vpa ++ kOrder G (Q 8) vod ++ kSB G (Q 9 0) bb vsb ++ kModel G q0 v) ++ (kMain Q vmn ++ kHouse G (Q 1) vho ++ kHouse G (Q 2) vdr ++ kHist Q vhi ++ kRef G (Q 6) vrf ++ kHH G Q vhh)) := by simp only [kAll, pD_app, Dj_l, Dj_r] at hD ⊢; simp only [hD, and_self]
  refine k_VB (As := [.int (xs (nI i + 1).toNatClampNeg), .int (xs (nI i + 2).toNatClampNeg)]) (rest := []) ⟨hx, hb, hml, hown, hts⟩ (c_X12_bear l D G Q (xs (nI i + 1).toNatClampNeg) (xs (nI i + 2).toNatClampNeg) vmn vho vdr vhi vrf vhh _ _ _ _ _ _ e1 _) (cwV 2 hts gL_law_X12_bear rfl rfl rfl (by decide +kernel) ⟨Nat.le_of_ble_eq_true rfl, Nat.le_of_ble_eq_true rfl⟩) hl.1 (Nat.le_of_ble_eq_true rfl) dL_law_294 ⟨by show _ ≤ 600000; omega, by show _ ≤ 7302250; omega⟩ rfl kT_bl (fun _ _ _ => trivial) hN hK hPb hDb hS hA 0 10 rfl rfl rfl [0, 1, 2, 3] rfl (fun H locs hP hD hS => ?_)
  refine W.widen (k := cells + 49) (n := slots + 3920) (by omega) (by omega) ?_
  have hP : va_P D vwCl (kAll G Q bb vmn vho' vdr' vsa vhi' vhh' vre vrf' vpa vod vsb ++ kModel G q0 v) H := by simp only [kAll, pP_app] at hP ⊢; simp only [hP, and_self]
  have hD : va_D (fun q : Nat => s.heap.size ≤ q) (kAll G Q bb vmn vho' vdr' vsa vhi' vhh' vre vrf' vpa vod vsb ++ kModel G q0 v) := by simp only [kAll, pD_app, Dj_l, Dj_r] at hD ⊢; simp only [hD, and_self]
  refine lv_aload_n hx hb dL_law_297 rfl (lv_at hl 2 rfl) ?_
  refine lv_aload_n hx hb dL_law_298 rfl (lv_at hl 0 rfl) ?_
  refine lv_iload_n hx hb dL_law_299 rfl (lv_at hl 3 rfl) ?_
  refine lv_iconst (v := 1) hx hb dL_law_300 (by decide) ?_
  refine lv_iadd hx hb dL_law_301 ?_
  refine va_sld hx hb hX hbl hbA hS h1 dL_law_302 ?_
  refine lv_aload_n hx hb dL_law_303 rfl (lv_at hl 0 rfl) ?_
  refine lv_iload_n hx hb dL_law_304 rfl (lv_at hl 3 rfl) ?_
  refine lv_iconst (v := 2) hx hb dL_law_305 (by decide) ?_
  refine lv_iadd hx hb dL_law_306 ?_
  refine va_sld hx hb hX hbl hbA hS h2 dL_law_307 ?_
  refine k_VB (As := [.int (xs (nI i + 1).toNatClampNeg), .int (xs (nI i + 2).toNatClampNeg)]) (rest := [.int r]) ⟨hx, hb, hml, hown, hts⟩ (c_X13_bear l D G q0 (xs (nI i + 1).toNatClampNeg) (xs (nI i + 2).toNatClampNeg) v _ _ e3 _) (cwV 2 hts gL_law_X13_bear rfl rfl rfl (by decide +kernel) ⟨Nat.le_of_ble_eq_true rfl, Nat.le_of_ble_eq_true rfl⟩) hl.1 (Nat.le_of_ble_eq_true rfl) dL_law_308 ⟨by show _ ≤ 600000; omega, by show _ ≤ 7302250; omega⟩ rfl kT_bl (fun _ _ _ => trivial) hN hK hP hD hS hA 0 11 rfl rfl rfl [0, 1, 2, 3] rfl (fun H locs hP hD hS => ?_)
  refine lv_icmp_eq (tgt := 1231) hx hb dL_law_311 (by decide) (fun _ => ?_) (fun cc => absurd rfl cc)
  exact kk vmn vho' vdr' vsa vhi' vhh' vre vrf' vpa vod vsb v' bb H locs hI' hP hD hS ls hl
set_option maxHeartbeats 4000000 in
set_option maxRecDepth 100000 in
theorem lo_hang {p : Program} {l : Launch} {e : Env} {s : State} {m : MethodId} {below : List Frame} {meth : Method} {c : Code} {b L : Nat} {xs : Nat → Int32} {D : va_G} {G : Nat → ClassId} {X Q : Nat → Nat → Nat} {q0 : Nat → Nat} {I J : TI} (hp : P_hang I J) (C0 : LwB p l s m c b L xs D G X) (hL : L ≤ 2048) {i : Nat} (hi : i + 3 < L) {cells slots : Nat} (hce : cells + 49 ≤ 600000) (hsl : slots + 3920 ≤ 7302250) {Z : State → Prop} {bb : Nat} (vmn : SV) (vho : SV) (vdr : SV) (vsa : SV) (vhi : SV) (vhh : (Nat → SV)) (vre : SV) (vrf : SV) (vpa : SV) (vod : SV) (vsb : (Nat × SV)) (v : SV) (hI : I vmn vho vdr vsa vhi vhh vre vrf vpa vod vsb v) {H : Heap} {locs : List Loc} (hP : va_P D vwCl (kAll G Q bb vmn vho vdr vsa vhi vhh vre vrf vpa vod vsb ++ kModel G q0 v) H) (hD : va_D (fun q : Nat => s.heap.size ≤ q) (kAll G Q bb vmn vho vdr vsa vhi vhh vre vrf vpa vod vsb ++ kModel G q0 v)) (hS : va_S (fun q : Nat => s.heap.size ≤ q) s.heap H locs) {ls : Array Slot} (hl : lv_has ls 8 [(0, .ref b), (1, .ref (Q 0 0)), (2, .ref (q0 0)), (3, .int (nI i))])
    (kk : LwK p l e s m below meth c b D G Q q0 J i (cells + 49) (slots + 3920) Z) : W p l e room_1 s m #[Value.ref b] below meth c H locs cells slots Z (F0 m 316 ls []) := by
  obtain ⟨hx, hb, hml, hown, hts, hX, hbl, hN, hK, hJ⟩ := C0
  have hA : ∀ q : Nat, s.heap.size ≤ q → (fun q : Nat => s.heap.size ≤ q) q := fun _ h => h
  have hbA : ¬ (fun q : Nat => s.heap.size ≤ q) b := Nat.not_le.mpr hbl
  have h1 : vp_in (nI i + 1) L := lw_in 1 (by decide) (by omega) hL
  have h2 : vp_in (nI i + 2) L := lw_in 2 (by decide) (by omega) hL
  have h3 : vp_in (nI i + 3) L := lw_in 3 (by decide) (by omega) hL
  obtain ⟨r, vho', vdr', vhi', vrf', vhh', v', e1, e3, hI'⟩ := hp vmn vho vdr vsa vhi vhh vre vrf vpa vod vsb v hI (xs (nI i + 1).toNatClampNeg) (xs (nI i + 2).toNatClampNeg) (xs (nI i + 3).toNatClampNeg)
  refine lv_aload_n hx hb dL_law_316 rfl (lv_at hl 1 rfl) ?_
  refine lv_aload_n hx hb dL_law_317 rfl (lv_at hl 0 rfl) ?_
  refine lv_iload_n hx hb dL_law_318 rfl (lv_at hl 3 rfl) ?_
  refine lv_iconst (v := 1) hx hb dL_law_319 (by decide) ?_
  refine lv_iadd hx hb dL_law_320 ?_
  refine va_sld hx hb hX hbl hbA hS h1 dL_law_321 ?_
  refine lv_aload_n hx hb dL_law_322 rfl (lv_at hl 0 rfl) ?_
  refine lv_iload_n hx hb dL_law_323 rfl (lv_at hl 3 rfl) ?_
  refine lv_iconst (v := 2) hx hb dL_law_324 (by decide) ?_
  refine lv_iadd hx hb dL_law_325 ?_
  refine va_sld hx hb hX hbl hbA hS h2 dL_law_326 ?_
  refine lv_aload_n hx hb dL_law_327 rfl (lv_at hl 0 rfl) ?_
  refine lv_iload_n hx hb dL_law_328 rfl (lv_at hl 3 rfl) ?_
  refine lv_iconst (v := 3) hx hb dL_law_329 (by decide) ?_
  refine lv_iadd hx hb dL_law_330 ?_
  refine va_sld hx hb hX hbl hbA hS h3 dL_law_331 ?_
  have hPb : va_P D vwCl ((kHouse G (Q 3) vsa ++ kReader G (Q 5) vre ++ kPaths G (Q 7) vpa ++ kOrder G (Q 8) vod ++ kSB G (Q 9 0) bb vsb ++ kModel G q0 v) ++ (kMain Q vmn ++ kHouse G (Q 1) vho ++ kHouse G (Q 2) vdr ++ kHist Q vhi ++ kRef G (Q 6) vrf ++ kHH G Q vhh)) H := by simp only [kAll, pP_app] at hP ⊢; simp only [hP, and_self]
  have hDb : va_D (fun q : Nat => s.heap.size ≤ q) ((kHouse G (Q 3) vsa ++ kReader G (Q 5) vre ++ kPaths G (Q 7) vpa ++ kOrder G (Q 8) vod ++ kSB G (Q 9 0) bb vsb ++ kModel G q0 v) ++ (kMain Q vmn ++ kHouse G (Q 1) vho ++ kHouse G (Q 2) vdr ++ kHist Q vhi ++ kRef G (Q 6) vrf ++ kHH G Q vhh)) := by simp only [kAll, pD_app, Dj_l, Dj_r] at hD ⊢; simp only [hD, and_self]
  refine k_VB (As := [.int (xs (nI i + 1).toNatClampNeg), .int (xs (nI i + 2).toNatClampNeg), .int (xs (nI i + 3).toNatClampNeg)]) (rest := []) ⟨hx, hb, hml, hown, hts⟩ (c_X12_hang l D G Q (xs (nI i + 1).toNatClampNeg) (xs (nI i + 2).toNatClampNeg) (xs (nI i + 3).toNatClampNeg) vmn vho vdr vhi vrf vhh _ _ _ _ _ _ e1 _) (cwV 3 hts gL_law_X12_hang rfl rfl rfl (by decide +kernel) ⟨Nat.le_of_ble_eq_true rfl, Nat.le_of_ble_eq_true rfl⟩) hl.1 (Nat.le_of_ble_eq_true rfl) dL_law_332 ⟨by show _ ≤ 600000; omega, by show _ ≤ 7302250; omega⟩ rfl kT_bl (fun _ _ _ => trivial) hN hK hPb hDb hS hA 0 10 rfl rfl rfl [0, 1, 2, 3] rfl (fun H locs hP hD hS => ?_)
  refine W.widen (k := cells + 49) (n := slots + 3920) (by omega) (by omega) ?_
  have hP : va_P D vwCl (kAll G Q bb vmn vho' vdr' vsa vhi' vhh' vre vrf' vpa vod vsb ++ kModel G q0 v) H := by simp only [kAll, pP_app] at hP ⊢; simp only [hP, and_self]
  have hD : va_D (fun q : Nat => s.heap.size ≤ q) (kAll G Q bb vmn vho' vdr' vsa vhi' vhh' vre vrf' vpa vod vsb ++ kModel G q0 v) := by simp only [kAll, pD_app, Dj_l, Dj_r] at hD ⊢; simp only [hD, and_self]
  refine lv_aload_n hx hb dL_law_335 rfl (lv_at hl 2 rfl) ?_
  refine lv_aload_n hx hb dL_law_336 rfl (lv_at hl 0 rfl) ?_
  refine lv_iload_n hx hb dL_law_337 rfl (lv_at hl 3 rfl) ?_
  refine lv_iconst (v := 1) hx hb dL_law_338 (by decide) ?_
  refine lv_iadd hx hb dL_law_339 ?_
  refine va_sld hx hb hX hbl hbA hS h1 dL_law_340 ?_
  refine lv_aload_n hx hb dL_law_341 rfl (lv_at hl 0 rfl) ?_
  refine lv_iload_n hx hb dL_law_342 rfl (lv_at hl 3 rfl) ?_
  refine lv_iconst (v := 2) hx hb dL_law_343 (by decide) ?_
  refine lv_iadd hx hb dL_law_344 ?_
  refine va_sld hx hb hX hbl hbA hS h2 dL_law_345 ?_
  refine lv_aload_n hx hb dL_law_346 rfl (lv_at hl 0 rfl) ?_
  refine lv_iload_n hx hb dL_law_347 rfl (lv_at hl 3 rfl) ?_
  refine lv_iconst (v := 3) hx hb dL_law_348 (by decide) ?_
  refine lv_iadd hx hb dL_law_349 ?_
  refine va_sld hx hb hX hbl hbA hS h3 dL_law_350 ?_
  refine k_VB (As := [.int (xs (nI i + 1).toNatClampNeg), .int (xs (nI i + 2).toNatClampNeg), .int (xs (nI i + 3).toNatClampNeg)]) (rest := [.int r]) ⟨hx, hb, hml, hown, hts⟩ (c_X13_hang l D G q0 (xs (nI i + 1).toNatClampNeg) (xs (nI i + 2).toNatClampNeg) (xs (nI i + 3).toNatClampNeg) v _ _ e3 _) (cwV 3 hts gL_law_X13_hang rfl rfl rfl (by decide +kernel) ⟨Nat.le_of_ble_eq_true rfl, Nat.le_of_ble_eq_true rfl⟩) hl.1 (Nat.le_of_ble_eq_true rfl) dL_law_351 ⟨by show _ ≤ 600000; omega, by show _ ≤ 7302250; omega⟩ rfl kT_bl (fun _ _ _ => trivial) hN hK hP hD hS hA 0 11 rfl rfl rfl [0, 1, 2, 3] rfl (fun H locs hP hD hS => ?_)
  refine lv_icmp_eq (tgt := 1231) hx hb dL_law_354 (by decide) (fun _ => ?_) (fun cc => absurd rfl cc)
  exact kk vmn vho' vdr' vsa vhi' vhh' vre vrf' vpa vod vsb v' bb H locs hI' hP hD hS ls hl
set_option maxHeartbeats 4000000 in
set_option maxRecDepth 100000 in
theorem lo_greet {p : Program} {l : Launch} {e : Env} {s : State} {m : MethodId} {below : List Frame} {meth : Method} {c : Code} {b L : Nat} {xs : Nat → Int32} {D : va_G} {G : Nat → ClassId} {X Q : Nat → Nat → Nat} {q0 : Nat → Nat} {I J : TI} (hp : P_greet I J) (C0 : LwB p l s m c b L xs D G X) (hL : L ≤ 2048) {i : Nat} (hi : i + 3 < L) {cells slots : Nat} (hce : cells + 49 ≤ 600000) (hsl : slots + 3920 ≤ 7302250) {Z : State → Prop} {bb : Nat} (vmn : SV) (vho : SV) (vdr : SV) (vsa : SV) (vhi : SV) (vhh : (Nat → SV)) (vre : SV) (vrf : SV) (vpa : SV) (vod : SV) (vsb : (Nat × SV)) (v : SV) (hI : I vmn vho vdr vsa vhi vhh vre vrf vpa vod vsb v) {H : Heap} {locs : List Loc} (hP : va_P D vwCl (kAll G Q bb vmn vho vdr vsa vhi vhh vre vrf vpa vod vsb ++ kModel G q0 v) H) (hD : va_D (fun q : Nat => s.heap.size ≤ q) (kAll G Q bb vmn vho vdr vsa vhi vhh vre vrf vpa vod vsb ++ kModel G q0 v)) (hS : va_S (fun q : Nat => s.heap.size ≤ q) s.heap H locs) {ls : Array Slot} (hl : lv_has ls 8 [(0, .ref b), (1, .ref (Q 0 0)), (2, .ref (q0 0)), (3, .int (nI i))])
    (kk : LwK p l e s m below meth c b D G Q q0 J i (cells + 49) (slots + 3920) Z) : W p l e room_1 s m #[Value.ref b] below meth c H locs cells slots Z (F0 m 359 ls []) := by
  obtain ⟨hx, hb, hml, hown, hts, hX, hbl, hN, hK, hJ⟩ := C0
  have hA : ∀ q : Nat, s.heap.size ≤ q → (fun q : Nat => s.heap.size ≤ q) q := fun _ h => h
  have hbA : ¬ (fun q : Nat => s.heap.size ≤ q) b := Nat.not_le.mpr hbl
  have h1 : vp_in (nI i + 1) L := lw_in 1 (by decide) (by omega) hL
  have h2 : vp_in (nI i + 2) L := lw_in 2 (by decide) (by omega) hL
  obtain ⟨r, vho', vdr', vhi', vrf', vhh', v', e1, e3, hI'⟩ := hp vmn vho vdr vsa vhi vhh vre vrf vpa vod vsb v hI (xs (nI i + 1).toNatClampNeg) (xs (nI i + 2).toNatClampNeg)
  refine lv_aload_n hx hb dL_law_359 rfl (lv_at hl 1 rfl) ?_
  refine lv_aload_n hx hb dL_law_360 rfl (lv_at hl 0 rfl) ?_
  refine lv_iload_n hx hb dL_law_361 rfl (lv_at hl 3 rfl) ?_
  refine lv_iconst (v := 1) hx hb dL_law_362 (by decide) ?_
  refine lv_iadd hx hb dL_law_363 ?_
  refine va_sld hx hb hX hbl hbA hS h1 dL_law_364 ?_
  refine lv_aload_n hx hb dL_law_365 rfl (lv_at hl 0 rfl) ?_
  refine lv_iload_n hx hb dL_law_366 rfl (lv_at hl 3 rfl) ?_
  refine lv_iconst (v := 2) hx hb dL_law_367 (by decide) ?_
  refine lv_iadd hx hb dL_law_368 ?_
  refine va_sld hx hb hX hbl hbA hS h2 dL_law_369 ?_
  have hPb : va_P D vwCl ((kHouse G (Q 3) vsa ++ kReader G (Q 5) vre ++ kPaths G (Q 7) vpa ++ kOrder G (Q 8) vod ++ kSB G (Q 9 0) bb vsb ++ kModel G q0 v) ++ (kMain Q vmn ++ kHouse G (Q 1) vho ++ kHouse G (Q 2) vdr ++ kHist Q vhi ++ kRef G (Q 6) vrf ++ kHH G Q vhh)) H := by simp only [kAll, pP_app] at hP ⊢; simp only [hP, and_self]
  have hDb : va_D (fun q : Nat => s.heap.size ≤ q) ((kHouse G (Q 3) vsa ++ kReader G (Q 5) vre ++ kPaths G (Q 7) vpa ++ kOrder G (Q 8) vod ++ kSB G (Q 9 0) bb vsb ++ kModel G q0 v) ++ (kMain Q vmn ++ kHouse G (Q 1) vho ++ kHouse G (Q 2) vdr ++ kHist Q vhi ++ kRef G (Q 6) vrf ++ kHH G Q vhh)) := by simp only [kAll, pD_app, Dj_l, Dj_r] at hD ⊢; simp only [hD, and_self]
  refine k_VB (As := [.int (xs (nI i + 1).toNatClampNeg), .int (xs (nI i + 2).toNatClampNeg)]) (rest := []) ⟨hx, hb, hml, hown, hts⟩ (c_X12_greet l D G Q (xs (nI i + 1).toNatClampNeg) (xs (nI i + 2).toNatClampNeg) vmn vho vdr vhi vrf vhh _ _ _ _ _ _ e1 _) (cwV 2 hts gL_law_X12_greet rfl rfl rfl (by decide +kernel) ⟨Nat.le_of_ble_eq_true rfl, Nat.le_of_ble_eq_true rfl⟩) hl.1 (Nat.le_of_ble_eq_true rfl) dL_law_370 ⟨by show _ ≤ 600000; omega, by show _ ≤ 7302250; omega⟩ rfl kT_bl (fun _ _ _ => trivial) hN hK hPb hDb hS hA 0 10 rfl rfl rfl [0, 1, 2, 3] rfl (fun H locs hP hD hS => ?_)
  refine W.widen (k := cells + 49) (n := slots + 3920) (by omega) (by omega) ?_
  have hP : va_P D vwCl (kAll G Q bb vmn vho' vdr' vsa vhi' vhh' vre vrf' vpa vod vsb ++ kModel G q0 v) H := by simp only [kAll, pP_app] at hP ⊢; simp only [hP, and_self]
  have hD : va_D (fun q : Nat => s.heap.size ≤ q) (kAll G Q bb vmn vho' vdr' vsa vhi' vhh' vre vrf' vpa vod vsb ++ kModel G q0 v) := by simp only [kAll, pD_app, Dj_l, Dj_r] at hD ⊢; simp only [hD, and_self]
  refine lv_aload_n hx hb dL_law_373 rfl (lv_at hl 2 rfl) ?_
  refine lv_aload_n hx hb dL_law_374 rfl (lv_at hl 0 rfl) ?_
  refine lv_iload_n hx hb dL_law_375 rfl (lv_at hl 3 rfl) ?_
  refine lv_iconst (v := 1) hx hb dL_law_376 (by decide) ?_
  refine lv_iadd hx hb dL_law_377 ?_
  refine va_sld hx hb hX hbl hbA hS h1 dL_law_378 ?_
  refine lv_aload_n hx hb dL_law_379 rfl (lv_at hl 0 rfl) ?_
  refine lv_iload_n hx hb dL_law_380 rfl (lv_at hl 3 rfl) ?_
  refine lv_iconst (v := 2) hx hb dL_law_381 (by decide) ?_
  refine lv_iadd hx hb dL_law_382 ?_
  refine va_sld hx hb hX hbl hbA hS h2 dL_law_383 ?_
  refine k_VB (As := [.int (xs (nI i + 1).toNatClampNeg), .int (xs (nI i + 2).toNatClampNeg)]) (rest := [.int r]) ⟨hx, hb, hml, hown, hts⟩ (c_X13_greet l D G q0 (xs (nI i + 1).toNatClampNeg) (xs (nI i + 2).toNatClampNeg) v _ _ e3 _) (cwV 2 hts gL_law_X13_greet rfl rfl rfl (by decide +kernel) ⟨Nat.le_of_ble_eq_true rfl, Nat.le_of_ble_eq_true rfl⟩) hl.1 (Nat.le_of_ble_eq_true rfl) dL_law_384 ⟨by show _ ≤ 600000; omega, by show _ ≤ 7302250; omega⟩ rfl kT_bl (fun _ _ _ => trivial) hN hK hP hD hS hA 0 11 rfl rfl rfl [0, 1, 2, 3] rfl (fun H locs hP hD hS => ?_)
  refine lv_icmp_eq (tgt := 1231) hx hb dL_law_387 (by decide) (fun _ => ?_) (fun cc => absurd rfl cc)
  exact kk vmn vho' vdr' vsa vhi' vhh' vre vrf' vpa vod vsb v' bb H locs hI' hP hD hS ls hl
set_option maxHeartbeats 4000000 in
set_option maxRecDepth 100000 in
theorem lo_give {p : Program} {l : Launch} {e : Env} {s : State} {m : MethodId} {below : List Frame} {meth : Method} {c : Code} {b L : Nat} {xs : Nat → Int32} {D : va_G} {G : Nat → ClassId} {X Q : Nat → Nat → Nat} {q0 : Nat → Nat} {I J : TI} (hp : P_give I J) (C0 : LwB p l s m c b L xs D G X) (hL : L ≤ 2048) {i : Nat} (hi : i + 3 < L) {cells slots : Nat} (hce : cells + 49 ≤ 600000) (hsl : slots + 3920 ≤ 7302250) {Z : State → Prop} {bb : Nat} (vmn : SV) (vho : SV) (vdr : SV) (vsa : SV) (vhi : SV) (vhh : (Nat → SV)) (vre : SV) (vrf : SV) (vpa : SV) (vod : SV) (vsb : (Nat × SV)) (v : SV) (hI : I vmn vho vdr vsa vhi vhh vre vrf vpa vod vsb v) {H : Heap} {locs : List Loc} (hP : va_P D vwCl (kAll G Q bb vmn vho vdr vsa vhi vhh vre vrf vpa vod vsb ++ kModel G q0 v) H) (hD : va_D (fun q : Nat => s.heap.size ≤ q) (kAll G Q bb vmn vho vdr vsa vhi vhh vre vrf vpa vod vsb ++ kModel G q0 v)) (hS : va_S (fun q : Nat => s.heap.size ≤ q) s.heap H locs) {ls : Array Slot} (hl : lv_has ls 8 [(0, .ref b), (1, .ref (Q 0 0)), (2, .ref (q0 0)), (3, .int (nI i))])
    (kk : LwK p l e s m below meth c b D G Q q0 J i (cells + 49) (slots + 3920) Z) : W p l e room_1 s m #[Value.ref b] below meth c H locs cells slots Z (F0 m 392 ls []) := by
  obtain ⟨hx, hb, hml, hown, hts, hX, hbl, hN, hK, hJ⟩ := C0
  have hA : ∀ q : Nat, s.heap.size ≤ q → (fun q : Nat => s.heap.size ≤ q) q := fun _ h => h
  have hbA : ¬ (fun q : Nat => s.heap.size ≤ q) b := Nat.not_le.mpr hbl
  have h1 : vp_in (nI i + 1) L := lw_in 1 (by decide) (by omega) hL
  have h2 : vp_in (nI i + 2) L := lw_in 2 (by decide) (by omega) hL
  have h3 : vp_in (nI i + 3) L := lw_in 3 (by decide) (by omega) hL
  obtain ⟨r, vho', vdr', vhi', vrf', vhh', v', e1, e3, hI'⟩ := hp vmn vho vdr vsa vhi vhh vre vrf vpa vod vsb v hI (xs (nI i + 1).toNatClampNeg) (xs (nI i + 2).toNatClampNeg) (xs (nI i + 3).toNatClampNeg)
  refine lv_aload_n hx hb dL_law_392 rfl (lv_at hl 1 rfl) ?_
  refine lv_aload_n hx hb dL_law_393 rfl (lv_at hl 0 rfl) ?_
  refine lv_iload_n hx hb dL_law_394 rfl (lv_at hl 3 rfl) ?_
  refine lv_iconst (v := 1) hx hb dL_law_395 (by decide) ?_
  refine lv_iadd hx hb dL_law_396 ?_
  refine va_sld hx hb hX hbl hbA hS h1 dL_law_397 ?_
  refine lv_aload_n hx hb dL_law_398 rfl (lv_at hl 0 rfl) ?_
  refine lv_iload_n hx hb dL_law_399 rfl (lv_at hl 3 rfl) ?_
  refine lv_iconst (v := 2) hx hb dL_law_400 (by decide) ?_
  refine lv_iadd hx hb dL_law_401 ?_
  refine va_sld hx hb hX hbl hbA hS h2 dL_law_402 ?_
  refine lv_aload_n hx hb dL_law_403 rfl (lv_at hl 0 rfl) ?_
  refine lv_iload_n hx hb dL_law_404 rfl (lv_at hl 3 rfl) ?_
  refine lv_iconst (v := 3) hx hb dL_law_405 (by decide) ?_
  refine lv_iadd hx hb dL_law_406 ?_
  refine va_sld hx hb hX hbl hbA hS h3 dL_law_407 ?_
  have hPb : va_P D vwCl ((kHouse G (Q 3) vsa ++ kReader G (Q 5) vre ++ kPaths G (Q 7) vpa ++ kOrder G (Q 8) vod ++ kSB G (Q 9 0) bb vsb ++ kModel G q0 v) ++ (kMain Q vmn ++ kHouse G (Q 1) vho ++ kHouse G (Q 2) vdr ++ kHist Q vhi ++ kRef G (Q 6) vrf ++ kHH G Q vhh)) H := by simp only [kAll, pP_app] at hP ⊢; simp only [hP, and_self]
  have hDb : va_D (fun q : Nat => s.heap.size ≤ q) ((kHouse G (Q 3) vsa ++ kReader G (Q 5) vre ++ kPaths G (Q 7) vpa ++ kOrder G (Q 8) vod ++ kSB G (Q 9 0) bb vsb ++ kModel G q0 v) ++ (kMain Q vmn ++ kHouse G (Q 1) vho ++ kHouse G (Q 2) vdr ++ kHist Q vhi ++ kRef G (Q 6) vrf ++ kHH G Q vhh)) := by simp only [kAll, pD_app, Dj_l, Dj_r] at hD ⊢; simp only [hD, and_self]
  refine k_VB (As := [.int (xs (nI i + 1).toNatClampNeg), .int (xs (nI i + 2).toNatClampNeg), .int (xs (nI i + 3).toNatClampNeg)]) (rest := []) ⟨hx, hb, hml, hown, hts⟩ (c_X12_give l D G Q (xs (nI i + 1).toNatClampNeg) (xs (nI i + 2).toNatClampNeg) (xs (nI i + 3).toNatClampNeg) vmn vho vdr vhi vrf vhh _ _ _ _ _ _ e1 _) (cwV 3 hts gL_law_X12_give rfl rfl rfl (by decide +kernel) ⟨Nat.le_of_ble_eq_true rfl, Nat.le_of_ble_eq_true rfl⟩) hl.1 (Nat.le_of_ble_eq_true rfl) dL_law_408 ⟨by show _ ≤ 600000; omega, by show _ ≤ 7302250; omega⟩ rfl kT_bl (fun _ _ _ => trivial) hN hK hPb hDb hS hA 0 10 rfl rfl rfl [0, 1, 2, 3] rfl (fun H locs hP hD hS => ?_)
  refine W.widen (k := cells + 49) (n := slots + 3920) (by omega) (by omega) ?_
  have hP : va_P D vwCl (kAll G Q bb vmn vho' vdr' vsa vhi' vhh' vre vrf' vpa vod vsb ++ kModel G q0 v) H := by simp only [kAll, pP_app] at hP ⊢; simp only [hP, and_self]
  have hD : va_D (fun q : Nat => s.heap.size ≤ q) (kAll G Q bb vmn vho' vdr' vsa vhi' vhh' vre vrf' vpa vod vsb ++ kModel G q0 v) := by simp only [kAll, pD_app, Dj_l, Dj_r] at hD ⊢; simp only [hD, and_self]
  refine lv_aload_n hx hb dL_law_411 rfl (lv_at hl 2 rfl) ?_
  refine lv_aload_n hx hb dL_law_412 rfl (lv_at hl 0 rfl) ?_
  refine lv_iload_n hx hb dL_law_413 rfl (lv_at hl 3 rfl) ?_
  refine lv_iconst (v := 1) hx hb dL_law_414 (by decide) ?_
  refine lv_iadd hx hb dL_law_415 ?_
  refine va_sld hx hb hX hbl hbA hS h1 dL_law_416 ?_
  refine lv_aload_n hx hb dL_law_417 rfl (lv_at hl 0 rfl) ?_
  refine lv_iload_n hx hb dL_law_418 rfl (lv_at hl 3 rfl) ?_
  refine lv_iconst (v := 2) hx hb dL_law_419 (by decide) ?_
  refine lv_iadd hx hb dL_law_420 ?_
  refine va_sld hx hb hX hbl hbA hS h2 dL_law_421 ?_
  refine lv_aload_n hx hb dL_law_422 rfl (lv_at hl 0 rfl) ?_
  refine lv_iload_n hx hb dL_law_423 rfl (lv_at hl 3 rfl) ?_
  refine lv_iconst (v := 3) hx hb dL_law_424 (by decide) ?_
  refine lv_iadd hx hb dL_law_425 ?_
  refine va_sld hx hb hX hbl hbA hS h3 dL_law_426 ?_
  refine k_VB (As := [.int (xs (nI i + 1).toNatClampNeg), .int (xs (nI i + 2).toNatClampNeg), .int (xs (nI i + 3).toNatClampNeg)]) (rest := [.int r]) ⟨hx, hb, hml, hown, hts⟩ (c_X13_give l D G q0 (xs (nI i + 1).toNatClampNeg) (xs (nI i + 2).toNatClampNeg) (xs (nI i + 3).toNatClampNeg) v _ _ e3 _) (cwV 3 hts gL_law_X13_give rfl rfl rfl (by decide +kernel) ⟨Nat.le_of_ble_eq_true rfl, Nat.le_of_ble_eq_true rfl⟩) hl.1 (Nat.le_of_ble_eq_true rfl) dL_law_427 ⟨by show _ ≤ 600000; omega, by show _ ≤ 7302250; omega⟩ rfl kT_bl (fun _ _ _ => trivial) hN hK hP hD hS hA 0 11 rfl rfl rfl [0, 1, 2, 3] rfl (fun H locs hP hD hS => ?_)
  refine lv_icmp_eq (tgt := 1231) hx hb dL_law_430 (by decide) (fun _ => ?_) (fun cc => absurd rfl cc)
  exact kk vmn vho' vdr' vsa vhi' vhh' vre vrf' vpa vod vsb v' bb H locs hI' hP hD hS ls hl
