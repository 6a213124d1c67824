/-! Walks, laid by wip/whole/gen.py: for each method f_ (what it does to its world) and c_ (its contract). -/
def f_X12_catOf (a1 : Int32) (a2 : Int32) (vmn : SV) (vho : SV) (vpa : SV) : Option (Int32 × SV) :=
  if a1 < 0 then
    some ((-1), vpa)
  else
    if a1 < (vho.1 6) then
      if a2 = 0 then
        ckI a1 6 <|
        some ((vho.2 7 a1.toNatClampNeg), vpa)
      else
      if a2 = 1 then
        ckI a1 6 <|
        some ((vho.2 8 a1.toNatClampNeg), vpa)
      else
      if a2 = 2 then
        ckI a1 6 <|
        some ((vho.2 9 a1.toNatClampNeg), vpa)
      else
      if a2 = 3 then
        ckI a1 6 <|
        bd1 (f_X9_walkFrom (vho.2 7 a1.toNatClampNeg) vpa vho) fun w_1 =>
        ckI a1 6 <|
        ckI (vho.2 8 a1.toNatClampNeg) 12 <|
        some ((w_1.2 0 (vho.2 8 a1.toNatClampNeg).toNatClampNeg), w_1)
      else
      some ((-2), vpa)
    else
      some ((-1), vpa)
abbrev rm_X12_catOf : Room := { frames := 5, cells := 0, slots := 0, locals := 120 }
set_option maxHeartbeats 4000000 in
set_option maxRecDepth 100000 in
theorem c_X12_catOf (l : Launch) (D : va_G) (G : Nat → ClassId) (Q : Nat → Nat → Nat) (a1 : Int32) (a2 : Int32) (vmn : SV) (vho : SV) (vpa : SV) (r : Int32) (vpa' : SV) (hf : f_X12_catOf a1 a2 vmn vho vpa = some (r, vpa')) (sz : Nat) : mC l yX12_catOf wsX12_catOf rm_X12_catOf D (tyG G) kT [.ref ((Q 0) 0), .int a1, .int a2] (kMain Q vmn ++ kHouse G (Q 1) vho ++ kPaths G (Q 7) vpa) (kMain Q vmn ++ kHouse G (Q 1) vho ++ kPaths G (Q 7) vpa') sz (some (.int r)) 0 0 := by
  refine mC_ofI (cc := cX12_catOf) (maxL := 3) (ret := (some .int)) (by decide) rfl rfl (Nat.le_of_ble_eq_true rfl) ?_
  intro p e s m args below meth c Q0 hx hb hml hts hown hN hK A hD hA hE hP hS hJ ls hl
  have hl : lv_has ls 3 [(0, .ref ((Q 0) 0)), (1, .int a1), (2, .int a2)] := hl
  unfold f_X12_catOf at hf
  have hi10 : ∀ w ∈ u_ws RX12 TX12 11, w ∈ wsX12_catOf := by decide +kernel
  have hi4 : ∀ w ∈ u_ws RX6 TX6 10, w ∈ wsX12_catOf := by decide +kernel
  have hi1 : ∀ w ∈ u_ws RX1 TX1 4, w ∈ wsX12_catOf := by decide +kernel
  have hi7 : ∀ w ∈ u_ws RX9 TX9 2, w ∈ wsX12_catOf := by decide +kernel
  have hw1 := hts (.fieldLink RX12 12 "BalconyCensus" "house" "LBalconyCensus$House;") (by decide +kernel)
  have hw2 := hts (.fieldLink RX12 157 "BalconyCensus$House" "cats" "LBalconyCensus$Cats;") (by decide +kernel)
  have hw3 := hts (.fieldLink RX12 207 "BalconyCensus$Cats" "count" "I") (by decide +kernel)
  have hw4 := hts (.fieldLink RX12 210 "BalconyCensus$Cats" "balconies" "[I") (by decide +kernel)
  have hw5 := hts (.fieldLink RX12 213 "BalconyCensus$Cats" "homes" "[I") (by decide +kernel)
  have hw6 := hts (.fieldLink RX12 216 "BalconyCensus$Cats" "swaps" "[I") (by decide +kernel)
  have hw7 := hts (.fieldLink RX12 50 "BalconyCensus" "paths" "LBalconyCensus$Paths;") (by decide +kernel)
  have hw8 := hts (.fieldLink RX12 223 "BalconyCensus$Paths" "walked" "[I") (by decide +kernel)
  refine lv_iload_n hx hb dX12_catOf_0 rfl (lv_at hl 1 rfl) ?_
  refine lv_if_lt (tgt := 18) hx hb dX12_catOf_1 (by decide) (fun cc => ?_) (fun cc => ?_)
  · replace hf := ifT cc hf
    refine lv_iconst (v := (-1)) hx hb dX12_catOf_18 (by decide) ?_
    obtain ⟨rfl, rfl⟩ := re2 hf
    exact hE hP hD hS dX12_catOf_19
  · replace hf := ifF cc hf
    refine lv_iload_n hx hb dX12_catOf_4 rfl (lv_at hl 1 rfl) ?_
    refine lv_aload_n hx hb dX12_catOf_5 rfl (lv_at hl 0 rfl) ?_
    refine va_get (D := D) (ci := 10) (v := .ref (Q 1 0)) (C := RX12) (T := TX12) (N := 11) hx hb hts hi10 hown hK hP 0 rfl rfl 0 (by decide) hw1 (fun _ h9 => h9) rfl dX12_catOf_6 ?_
    refine va_get (D := D) (ci := 4) (v := .ref ((Q 1) 10)) (C := RX6) (T := TX6) (N := 10) hx hb hts hi4 hown hK hP 1 rfl rfl 4 (by decide) hw2 (fun _ h9 => h9) rfl dX12_catOf_9 ?_
    refine va_get (D := D) (ci := 1) (v := .int (vho.1 6)) (C := RX1) (T := TX1) (N := 4) hx hb hts hi1 hown hK hP 11 rfl rfl 3 (by decide) hw3 (fun _ h9 => h9) rfl dX12_catOf_12 ?_
    refine lv_icmp_lt (tgt := 20) hx hb dX12_catOf_15 (by decide) (fun cc => ?_) (fun cc => ?_)
    · replace hf := ifT cc hf
      refine lv_iload_n hx hb dX12_catOf_20 rfl (lv_at hl 2 rfl) ?_
      by_cases c0 : a2 = 0
      · replace hf := ifT c0 hf
        refine lv_tableIn (off := 31) (tgt := 52) hx hb dX12_catOf_21 (by rw [c0]; decide) (by rw [c0]; decide) (by rw [c0]; rfl) (by decide) ?_
        refine lv_aload_n hx hb dX12_catOf_52 rfl (lv_at hl 0 rfl) ?_
        refine va_get (D := D) (ci := 10) (v := .ref (Q 1 0)) (C := RX12) (T := TX12) (N := 11) hx hb hts hi10 hown hK hP 0 rfl rfl 0 (by decide) hw1 (fun _ h9 => h9) rfl dX12_catOf_53 ?_
        refine va_get (D := D) (ci := 4) (v := .ref ((Q 1) 10)) (C := RX6) (T := TX6) (N := 10) hx hb hts hi4 hown hK hP 1 rfl rfl 4 (by decide) hw2 (fun _ h9 => h9) rfl dX12_catOf_56 ?_
        refine va_get (D := D) (ci := 1) (v := .ref ((Q 1) 11)) (C := RX1) (T := TX1) (N := 4) hx hb hts hi1 hown hK hP 11 rfl rfl 0 (by decide) hw4 (fun _ h9 => h9) rfl dX12_catOf_59 ?_
        refine lv_iload_n hx hb dX12_catOf_62 rfl (lv_at hl 1 rfl) ?_
        obtain ⟨hin, hf⟩ := ckI_of hf
        refine va_iald (D := D) hx hb hK hP 12 0 rfl rfl hin dX12_catOf_63 ?_
        obtain ⟨rfl, rfl⟩ := re2 hf
        exact hE hP hD hS dX12_catOf_64
      replace hf := ifF c0 hf
      by_cases c1 : a2 = 1
      · replace hf := ifT c1 hf
        refine lv_tableIn (off := 44) (tgt := 65) hx hb dX12_catOf_21 (by rw [c1]; decide) (by rw [c1]; decide) (by rw [c1]; rfl) (by decide) ?_
        refine lv_aload_n hx hb dX12_catOf_65 rfl (lv_at hl 0 rfl) ?_
        refine va_get (D := D) (ci := 10) (v := .ref (Q 1 0)) (C := RX12) (T := TX12) (N := 11) hx hb hts hi10 hown hK hP 0 rfl rfl 0 (by decide) hw1 (fun _ h9 => h9) rfl dX12_catOf_66 ?_
        refine va_get (D := D) (ci := 4) (v := .ref ((Q 1) 10)) (C := RX6) (T := TX6) (N := 10) hx hb hts hi4 hown hK hP 1 rfl rfl 4 (by decide) hw2 (fun _ h9 => h9) rfl dX12_catOf_69 ?_
        refine va_get (D := D) (ci := 1) (v := .ref ((Q 1) 12)) (C := RX1) (T := TX1) (N := 4) hx hb hts hi1 hown hK hP 11 rfl rfl 1 (by decide) hw5 (fun _ h9 => h9) rfl dX12_catOf_72 ?_
        refine lv_iload_n hx hb dX12_catOf_75 rfl (lv_at hl 1 rfl) ?_
        obtain ⟨hin, hf⟩ := ckI_of hf
        refine va_iald (D := D) hx hb hK hP 13 0 rfl rfl hin dX12_catOf_76 ?_
        obtain ⟨rfl, rfl⟩ := re2 hf
        exact hE hP hD hS dX12_catOf_77
      replace hf := ifF c1 hf
      by_cases c2 : a2 = 2
      · replace hf := ifT c2 hf
        refine lv_tableIn (off := 57) (tgt := 78) hx hb dX12_catOf_21 (by rw [c2]; decide) (by rw [c2]; decide) (by rw [c2]; rfl) (by decide) ?_
        refine lv_aload_n hx hb dX12_catOf_78 rfl (lv_at hl 0 rfl) ?_
        refine va_get (D := D) (ci := 10) (v := .ref (Q 1 0)) (C := RX12) (T := TX12) (N := 11) hx hb hts hi10 hown hK hP 0 rfl rfl 0 (by decide) hw1 (fun _ h9 => h9) rfl dX12_catOf_79 ?_
        refine va_get (D := D) (ci := 4) (v := .ref ((Q 1) 10)) (C := RX6) (T := TX6) (N := 10) hx hb hts hi4 hown hK hP 1 rfl rfl 4 (by decide) hw2 (fun _ h9 => h9) rfl dX12_catOf_82 ?_
        refine va_get (D := D) (ci := 1) (v := .ref ((Q 1) 13)) (C := RX1) (T := TX1) (N := 4) hx hb hts hi1 hown hK hP 11 rfl rfl 2 (by decide) hw6 (fun _ h9 => h9) rfl dX12_catOf_85 ?_
        refine lv_iload_n hx hb dX12_catOf_88 rfl (lv_at hl 1 rfl) ?_
        obtain ⟨hin, hf⟩ := ckI_of hf
        refine va_iald (D := D) hx hb hK hP 14 0 rfl rfl hin dX12_catOf_89 ?_
        obtain ⟨rfl, rfl⟩ := re2 hf
        exact hE hP hD hS dX12_catOf_90
      replace hf := ifF c2 hf
      by_cases c3 : a2 = 3
      · replace hf := ifT c3 hf
        refine lv_tableIn (off := 70) (tgt := 91) hx hb dX12_catOf_21 (by rw [c3]; decide) (by rw [c3]; decide) (by rw [c3]; rfl) (by decide) ?_
        refine lv_aload_n hx hb dX12_catOf_91 rfl (lv_at hl 0 rfl) ?_
        refine va_get (D := D) (ci := 10) (v := .ref (Q 7 0)) (C := RX12) (T := TX12) (N := 11) hx hb hts hi10 hown hK hP 0 rfl rfl 7 (by decide) hw7 (fun _ h9 => h9) rfl dX12_catOf_92 ?_
        refine lv_aload_n hx hb dX12_catOf_95 rfl (lv_at hl 0 rfl) ?_
        refine va_get (D := D) (ci := 10) (v := .ref (Q 1 0)) (C := RX12) (T := TX12) (N := 11) hx hb hts hi10 hown hK hP 0 rfl rfl 0 (by decide) hw1 (fun _ h9 => h9) rfl dX12_catOf_96 ?_
        refine lv_aload_n hx hb dX12_catOf_99 rfl (lv_at hl 0 rfl) ?_
        refine va_get (D := D) (ci := 10) (v := .ref (Q 1 0)) (C := RX12) (T := TX12) (N := 11) hx hb hts hi10 hown hK hP 0 rfl rfl 0 (by decide) hw1 (fun _ h9 => h9) rfl dX12_catOf_100 ?_
        refine va_get (D := D) (ci := 4) (v := .ref ((Q 1) 10)) (C := RX6) (T := TX6) (N := 10) hx hb hts hi4 hown hK hP 1 rfl rfl 4 (by decide) hw2 (fun _ h9 => h9) rfl dX12_catOf_103 ?_
        refine va_get (D := D) (ci := 1) (v := .ref ((Q 1) 11)) (C := RX1) (T := TX1) (N := 4) hx hb hts hi1 hown hK hP 11 rfl rfl 0 (by decide) hw4 (fun _ h9 => h9) rfl dX12_catOf_106 ?_
        refine lv_iload_n hx hb dX12_catOf_109 rfl (lv_at hl 1 rfl) ?_
        obtain ⟨hin, hf⟩ := ckI_of hf
        refine va_iald (D := D) hx hb hK hP 12 0 rfl rfl hin dX12_catOf_110 ?_
        obtain ⟨w_1, hc, hf⟩ := bd1_of hf
        refine k_V (As := [.ref ((Q 1) 0), .int (vho.2 7 a1.toNatClampNeg)]) (rest := []) (ws1 := (kMain Q vmn ++ kHouse G (Q 1) vho ++ kPaths G (Q 7) w_1)) ⟨hx, hb, hml, hown, hts⟩ (c_X9_walkFrom l D G (Q 7) (Q 1) (vho.2 7 a1.toNatClampNeg) vpa vho _ hc  _) (cwV 2 hts gX12_catOf_X9_walkFrom rfl rfl rfl (by decide +kernel) ⟨Nat.le_of_ble_eq_true rfl, Nat.le_of_ble_eq_true rfl⟩) hl.1 (Nat.le_of_ble_eq_true rfl) dX12_catOf_111 ⟨Nat.le_of_ble_eq_true rfl, Nat.le_of_ble_eq_true rfl⟩ rfl kT_bl (fun _ _ _ => trivial) hN hK hP hD hS hA 16 7 rfl rfl rfl [16, 17, 18, 1, 2, 3, 4, 5, 6, 7, 8, 9, 10, 11, 12, 13, 14, 15] [0] [0, 4, 5, 6, 7, 8, 9, 10, 11, 12, 13, 14, 15, 16, 17, 18, 1, 2, 3] [0, 1, 2, 3] rfl rfl rfl ⟨by decide, by decide, by decide, by decide⟩ rfl (fun H locs hP hD hS => ?_)
        refine lv_aload_n hx hb dX12_catOf_114 rfl (lv_at hl 0 rfl) ?_
        refine va_get (D := D) (ci := 10) (v := .ref (Q 7 0)) (C := RX12) (T := TX12) (N := 11) hx hb hts hi10 hown hK hP 0 rfl rfl 7 (by decide) hw7 (fun _ h9 => h9) rfl dX12_catOf_115 ?_
        refine va_get (D := D) (ci := 7) (v := .ref ((Q 7) 1)) (C := RX9) (T := TX9) (N := 2) hx hb hts hi7 hown hK hP 16 rfl rfl 0 (by decide) hw8 (fun _ h9 => h9) rfl dX12_catOf_118 ?_
        refine lv_aload_n hx hb dX12_catOf_121 rfl (lv_at hl 0 rfl) ?_
        refine va_get (D := D) (ci := 10) (v := .ref (Q 1 0)) (C := RX12) (T := TX12) (N := 11) hx hb hts hi10 hown hK hP 0 rfl rfl 0 (by decide) hw1 (fun _ h9 => h9) rfl dX12_catOf_122 ?_
        refine va_get (D := D) (ci := 4) (v := .ref ((Q 1) 10)) (C := RX6) (T := TX6) (N := 10) hx hb hts hi4 hown hK hP 1 rfl rfl 4 (by decide) hw2 (fun _ h9 => h9) rfl dX12_catOf_125 ?_
        refine va_get (D := D) (ci := 1) (v := .ref ((Q 1) 12)) (C := RX1) (T := TX1) (N := 4) hx hb hts hi1 hown hK hP 11 rfl rfl 1 (by decide) hw5 (fun _ h9 => h9) rfl dX12_catOf_128 ?_
        refine lv_iload_n hx hb dX12_catOf_131 rfl (lv_at hl 1 rfl) ?_
        obtain ⟨hin, hf⟩ := ckI_of hf
        refine va_iald (D := D) hx hb hK hP 13 0 rfl rfl hin dX12_catOf_132 ?_
        obtain ⟨hin, hf⟩ := ckI_of hf
        refine va_iald (D := D) hx hb hK hP 17 0 rfl rfl hin dX12_catOf_133 ?_
        obtain ⟨rfl, rfl⟩ := re2 hf
        exact hE hP hD hS dX12_catOf_134
      replace hf := ifF c3 hf
      refine lv_tableOut (tgt := 135) hx hb dX12_catOf_21 (by have e0 := sw_ne (z := 0) c0 (by decide); have e1 := sw_ne (z := 1) c1 (by decide); have e2 := sw_ne (z := 2) c2 (by decide); have e3 := sw_ne (z := 3) c3 (by decide); omega) (by decide) ?_
      refine lv_bipush (v := (-2)) hx hb dX12_catOf_135 (by decide +kernel) ?_
      obtain ⟨rfl, rfl⟩ := re2 hf
      exact hE hP hD hS dX12_catOf_137
    · replace hf := ifF cc hf
      refine lv_iconst (v := (-1)) hx hb dX12_catOf_18 (by decide) ?_
      obtain ⟨rfl, rfl⟩ := re2 hf
      exact hE hP hD hS dX12_catOf_19
def f_X12_lineOf (a1 : Int32) (a2 : Int32) (vmn : SV) (vho : SV) : Option Int32 :=
  if a1 < 0 then
    some (-1)
  else
    if a1 < (vho.1 4) then
      if a2 = 0 then
        ckI a1 6 <|
        some (vho.2 2 a1.toNatClampNeg)
      else
      if a2 = 1 then
        ckI a1 6 <|
        some (vho.2 3 a1.toNatClampNeg)
      else
      if a2 = 2 then
        ckI a1 6 <|
        some (vho.2 4 a1.toNatClampNeg)
      else
      some (-2)
    else
      some (-1)
abbrev rm_X12_lineOf : Room := { frames := 0, cells := 0, slots := 0, locals := 0 }
set_option maxHeartbeats 4000000 in
set_option maxRecDepth 100000 in
theorem c_X12_lineOf (l : Launch) (D : va_G) (G : Nat → ClassId) (Q : Nat → Nat → Nat) (a1 : Int32) (a2 : Int32) (vmn : SV) (vho : SV) (r : Int32) (hf : f_X12_lineOf a1 a2 vmn vho = some r) (sz : Nat) : mC l yX12_lineOf wsX12_lineOf rm_X12_lineOf D (tyG G) kT [.ref ((Q 0) 0), .int a1, .int a2] (kMain Q vmn ++ kHouse G (Q 1) vho) (kMain Q vmn ++ kHouse G (Q 1) vho) sz (some (.int r)) 0 0 := by
  refine mC_ofI (cc := cX12_lineOf) (maxL := 3) (ret := (some .int)) (by decide) rfl rfl (Nat.le_of_ble_eq_true rfl) ?_
  intro p e s m args below meth c Q0 hx hb hml hts hown hN hK A hD hA hE hP hS hJ ls hl
  have hl : lv_has ls 3 [(0, .ref ((Q 0) 0)), (1, .int a1), (2, .int a2)] := hl
  unfold f_X12_lineOf at hf
  have hi10 : ∀ w ∈ u_ws RX12 TX12 11, w ∈ wsX12_lineOf := by decide +kernel
  have hi4 : ∀ w ∈ u_ws RX6 TX6 10, w ∈ wsX12_lineOf := by decide +kernel
  have hi5 : ∀ w ∈ u_ws RX7 TX7 5, w ∈ wsX12_lineOf := by decide +kernel
  have hw1 := hts (.fieldLink RX12 12 "BalconyCensus" "house" "LBalconyCensus$House;") (by decide +kernel)
  have hw2 := hts (.fieldLink RX12 184 "BalconyCensus$House" "lines" "LBalconyCensus$Lines;") (by decide +kernel)
  have hw3 := hts (.fieldLink RX12 226 "BalconyCensus$Lines" "count" "I") (by decide +kernel)
  have hw4 := hts (.fieldLink RX12 227 "BalconyCensus$Lines" "lower" "[I") (by decide +kernel)
  have hw5 := hts (.fieldLink RX12 230 "BalconyCensus$Lines" "higher" "[I") (by decide +kernel)
  have hw6 := hts (.fieldLink RX12 233 "BalconyCensus$Lines" "daysLeft" "[I") (by decide +kernel)
  refine lv_iload_n hx hb dX12_lineOf_0 rfl (lv_at hl 1 rfl) ?_
  refine lv_if_lt (tgt := 18) hx hb dX12_lineOf_1 (by decide) (fun cc => ?_) (fun cc => ?_)
  · replace hf := ifT cc hf
    refine lv_iconst (v := (-1)) hx hb dX12_lineOf_18 (by decide) ?_
    obtain rfl := re1 hf
    exact hE hP hD hS dX12_lineOf_19
  · replace hf := ifF cc hf
    refine lv_iload_n hx hb dX12_lineOf_4 rfl (lv_at hl 1 rfl) ?_
    refine lv_aload_n hx hb dX12_lineOf_5 rfl (lv_at hl 0 rfl) ?_
    refine va_get (D := D) (ci := 10) (v := .ref (Q 1 0)) (C := RX12) (T := TX12) (N := 11) hx hb hts hi10 hown hK hP 0 rfl rfl 0 (by decide) hw1 (fun _ h9 => h9) rfl dX12_lineOf_6 ?_
    refine va_get (D := D) (ci := 4) (v := .ref ((Q 1) 3)) (C := RX6) (T := TX6) (N := 10) hx hb hts hi4 hown hK hP 1 rfl rfl 2 (by decide) hw2 (fun _ h9 => h9) rfl dX12_lineOf_9 ?_
    refine va_get (D := D) (ci := 5) (v := .int (vho.1 4)) (C := RX7) (T := TX7) (N := 5) hx hb hts hi5 hown hK hP 4 rfl rfl 3 (by decide) hw3 (fun _ h9 => h9) rfl dX12_lineOf_12 ?_
    refine lv_icmp_lt (tgt := 20) hx hb dX12_lineOf_15 (by decide) (fun cc => ?_) (fun cc => ?_)
    · replace hf := ifT cc hf
      refine lv_iload_n hx hb dX12_lineOf_20 rfl (lv_at hl 2 rfl) ?_
      by_cases c0 : a2 = 0
      · replace hf := ifT c0 hf
        refine lv_tableIn (off := 27) (tgt := 48) hx hb dX12_lineOf_21 (by rw [c0]; decide) (by rw [c0]; decide) (by rw [c0]; rfl) (by decide) ?_
        refine lv_aload_n hx hb dX12_lineOf_48 rfl (lv_at hl 0 rfl) ?_
        refine va_get (D := D) (ci := 10) (v := .ref (Q 1 0)) (C := RX12) (T := TX12) (N := 11) hx hb hts hi10 hown hK hP 0 rfl rfl 0 (by decide) hw1 (fun _ h9 => h9) rfl dX12_lineOf_49 ?_
        refine va_get (D := D) (ci := 4) (v := .ref ((Q 1) 3)) (C := RX6) (T := TX6) (N := 10) hx hb hts hi4 hown hK hP 1 rfl rfl 2 (by decide) hw2 (fun _ h9 => h9) rfl dX12_lineOf_52 ?_
        refine va_get (D := D) (ci := 5) (v := .ref ((Q 1) 4)) (C := RX7) (T := TX7) (N := 5) hx hb hts hi5 hown hK hP 4 rfl rfl 0 (by decide) hw4 (fun _ h9 => h9) rfl dX12_lineOf_55 ?_
        refine lv_iload_n hx hb dX12_lineOf_58 rfl (lv_at hl 1 rfl) ?_
        obtain ⟨hin, hf⟩ := ckI_of hf
        refine va_iald (D := D) hx hb hK hP 5 0 rfl rfl hin dX12_lineOf_59 ?_
        obtain rfl := re1 hf
        exact hE hP hD hS dX12_lineOf_60
      replace hf := ifF c0 hf
      by_cases c1 : a2 = 1
      · replace hf := ifT c1 hf
        refine lv_tableIn (off := 40) (tgt := 61) hx hb dX12_lineOf_21 (by rw [c1]; decide) (by rw [c1]; decide) (by rw [c1]; rfl) (by decide) ?_
        refine lv_aload_n hx hb dX12_lineOf_61 rfl (lv_at hl 0 rfl) ?_
        refine va_get (D := D) (ci := 10) (v := .ref (Q 1 0)) (C := RX12) (T := TX12) (N := 11) hx hb hts hi10 hown hK hP 0 rfl rfl 0 (by decide) hw1 (fun _ h9 => h9) rfl dX12_lineOf_62 ?_
        refine va_get (D := D) (ci := 4) (v := .ref ((Q 1) 3)) (C := RX6) (T := TX6) (N := 10) hx hb hts hi4 hown hK hP 1 rfl rfl 2 (by decide) hw2 (fun _ h9 => h9) rfl dX12_lineOf_65 ?_
        refine va_get (D := D) (ci := 5) (v := .ref ((Q 1) 5)) (C := RX7) (T := TX7) (N := 5) hx hb hts hi5 hown hK hP 4 rfl rfl 1 (by decide) hw5 (fun _ h9 => h9) rfl dX12_lineOf_68 ?_
        refine lv_iload_n hx hb dX12_lineOf_71 rfl (lv_at hl 1 rfl) ?_
        obtain ⟨hin, hf⟩ := ckI_of hf
        refine va_iald (D := D) hx hb hK hP 6 0 rfl rfl hin dX12_lineOf_72 ?_
        obtain rfl := re1 hf
        exact hE hP hD hS dX12_lineOf_73
      replace hf := ifF c1 hf
      by_cases c2 : a2 = 2
      · replace hf := ifT c2 hf
        refine lv_tableIn (off := 53) (tgt := 74) hx hb dX12_lineOf_21 (by rw [c2]; decide) (by rw [c2]; decide) (by rw [c2]; rfl) (by decide) ?_
        refine lv_aload_n hx hb dX12_lineOf_74 rfl (lv_at hl 0 rfl) ?_
        refine va_get (D := D) (ci := 10) (v := .ref (Q 1 0)) (C := RX12) (T := TX12) (N := 11) hx hb hts hi10 hown hK hP 0 rfl rfl 0 (by decide) hw1 (fun _ h9 => h9) rfl dX12_lineOf_75 ?_
        refine va_get (D := D) (ci := 4) (v := .ref ((Q 1) 3)) (C := RX6) (T := TX6) (N := 10) hx hb hts hi4 hown hK hP 1 rfl rfl 2 (by decide) hw2 (fun _ h9 => h9) rfl dX12_lineOf_78 ?_
        refine va_get (D := D) (ci := 5) (v := .ref ((Q 1) 6)) (C := RX7) (T := TX7) (N := 5) hx hb hts hi5 hown hK hP 4 rfl rfl 2 (by decide) hw6 (fun _ h9 => h9) rfl dX12_lineOf_81 ?_
        refine lv_iload_n hx hb dX12_lineOf_84 rfl (lv_at hl 1 rfl) ?_
        obtain ⟨hin, hf⟩ := ckI_of hf
        refine va_iald (D := D) hx hb hK hP 7 0 rfl rfl hin dX12_lineOf_85 ?_
        obtain rfl := re1 hf
        exact hE hP hD hS dX12_lineOf_86
      replace hf := ifF c2 hf
      refine lv_tableOut (tgt := 87) hx hb dX12_lineOf_21 (by have e0 := sw_ne (z := 0) c0 (by decide); have e1 := sw_ne (z := 1) c1 (by decide); have e2 := sw_ne (z := 2) c2 (by decide); omega) (by decide) ?_
      refine lv_bipush (v := (-2)) hx hb dX12_lineOf_87 (by decide +kernel) ?_
      obtain rfl := re1 hf
      exact hE hP hD hS dX12_lineOf_89
    · replace hf := ifF cc hf
      refine lv_iconst (v := (-1)) hx hb dX12_lineOf_18 (by decide) ?_
      obtain rfl := re1 hf
      exact hE hP hD hS dX12_lineOf_19
def f_X12_feuds (vmn : SV) (vho : SV) : Option Int32 :=
  bd1 (f_X3_byPairs vho) fun r_1 =>
  some r_1
abbrev rm_X12_feuds : Room := { frames := 3, cells := 0, slots := 0, locals := 72 }
set_option maxHeartbeats 4000000 in
set_option maxRecDepth 100000 in
theorem c_X12_feuds (l : Launch) (D : va_G) (G : Nat → ClassId) (Q : Nat → Nat → Nat) (vmn : SV) (vho : SV) (r : Int32) (hf : f_X12_feuds vmn vho = some r) (sz : Nat) : mC l yX12_feuds wsX12_feuds rm_X12_feuds D (tyG G) kT [.ref ((Q 0) 0)] (kMain Q vmn ++ kHouse G (Q 1) vho) (kMain Q vmn ++ kHouse G (Q 1) vho) sz (some (.int r)) 0 0 := by
  refine mC_ofI (cc := cX12_feuds) (maxL := 1) (ret := (some .int)) (by decide) rfl rfl (Nat.le_of_ble_eq_true rfl) ?_
  intro p e s m args below meth c Q0 hx hb hml hts hown hN hK A hD hA hE hP hS hJ ls hl
  have hl : lv_has ls 1 [(0, .ref ((Q 0) 0))] := hl
  unfold f_X12_feuds at hf
  have hi10 : ∀ w ∈ u_ws RX12 TX12 11, w ∈ wsX12_feuds := by decide +kernel
  have hw1 := hts (.fieldLink RX12 12 "BalconyCensus" "house" "LBalconyCensus$House;") (by decide +kernel)
  refine lv_aload_n hx hb dX12_feuds_0 rfl (lv_at hl 0 rfl) ?_
  refine va_get (D := D) (ci := 10) (v := .ref (Q 1 0)) (C := RX12) (T := TX12) (N := 11) hx hb hts hi10 hown hK hP 0 rfl rfl 0 (by decide) hw1 (fun _ h9 => h9) rfl dX12_feuds_1 ?_
  obtain ⟨r_1, hc, hf⟩ := bd1_of hf
  refine k_S (As := [.ref ((Q 1) 0)]) (rest := []) (ws1 := (kMain Q vmn ++ kHouse G (Q 1) vho)) ⟨hx, hb, hml, hown, hts⟩ (c_X3_byPairs l D G (Q 1)  vho _ hc  _) (va_cwS 1 hts gX12_feuds_X3_byPairs rfl rfl rfl (by decide +kernel) ⟨Nat.le_of_ble_eq_true rfl, Nat.le_of_ble_eq_true rfl⟩) hl.1 (Nat.le_of_ble_eq_true rfl) dX12_feuds_4 ⟨Nat.le_of_ble_eq_true rfl, Nat.le_of_ble_eq_true rfl⟩ rfl kT_bl (fun _ _ _ => trivial) hN hK hP hD hS hA [1, 2, 3, 4, 5, 6, 7, 8, 9, 10, 11, 12, 13, 14, 15] [0] [0, 1, 2, 3, 4, 5, 6, 7, 8, 9, 10, 11, 12, 13, 14, 15] [0, 1, 2, 3] rfl rfl rfl ⟨by decide, by decide, by decide, by decide⟩ rfl (fun H locs hP hD hS => ?_)
  obtain rfl := re1 hf
  exact hE hP hD hS dX12_feuds_7
def f_X12_feudsAgain (vmn : SV) (vho : SV) : Option Int32 :=
  bd1 (f_X3_byColumns vho) fun r_1 =>
  some r_1
abbrev rm_X12_feudsAgain : Room := { frames := 2, cells := 0, slots := 0, locals := 48 }
set_option maxHeartbeats 4000000 in
set_option maxRecDepth 100000 in
theorem c_X12_feudsAgain (l : Launch) (D : va_G) (G : Nat → ClassId) (Q : Nat → Nat → Nat) (vmn : SV) (vho : SV) (r : Int32) (hf : f_X12_feudsAgain vmn vho = some r) (sz : Nat) : mC l yX12_feudsAgain wsX12_feudsAgain rm_X12_feudsAgain D (tyG G) kT [.ref ((Q 0) 0)] (kMain Q vmn ++ kHouse G (Q 1) vho) (kMain Q vmn ++ kHouse G (Q 1) vho) sz (some (.int r)) 0 0 := by
  refine mC_ofI (cc := cX12_feudsAgain) (maxL := 1) (ret := (some .int)) (by decide) rfl rfl (Nat.le_of_ble_eq_true rfl) ?_
  intro p e s m args below meth c Q0 hx hb hml hts hown hN hK A hD hA hE hP hS hJ ls hl
  have hl : lv_has ls 1 [(0, .ref ((Q 0) 0))] := hl
  unfold f_X12_feudsAgain at hf
  have hi10 : ∀ w ∈ u_ws RX12 TX12 11, w ∈ wsX12_feudsAgain := by decide +kernel
  have hw1 := hts (.fieldLink RX12 12 "BalconyCensus" "house" "LBalconyCensus$House;") (by decide +kernel)
  refine lv_aload_n hx hb dX12_feudsAgain_0 rfl (lv_at hl 0 rfl) ?_
  refine va_get (D := D) (ci := 10) (v := .ref (Q 1 0)) (C := RX12) (T := TX12) (N := 11) hx hb hts hi10 hown hK hP 0 rfl rfl 0 (by decide) hw1 (fun _ h9 => h9) rfl dX12_feudsAgain_1 ?_
  obtain ⟨r_1, hc, hf⟩ := bd1_of hf
  refine k_S (As := [.ref ((Q 1) 0)]) (rest := []) (ws1 := (kMain Q vmn ++ kHouse G (Q 1) vho)) ⟨hx, hb, hml, hown, hts⟩ (c_X3_byColumns l D G (Q 1)  vho _ hc  _) (va_cwS 1 hts gX12_feudsAgain_X3_byColumns rfl rfl rfl (by decide +kernel) ⟨Nat.le_of_ble_eq_true rfl, Nat.le_of_ble_eq_true rfl⟩) hl.1 (Nat.le_of_ble_eq_true rfl) dX12_feudsAgain_4 ⟨Nat.le_of_ble_eq_true rfl, Nat.le_of_ble_eq_true rfl⟩ rfl kT_bl (fun _ _ _ => trivial) hN hK hP hD hS hA [1, 2, 3, 4, 5, 6, 7, 8, 9, 10, 11, 12, 13, 14, 15] [0] [0, 1, 2, 3, 4, 5, 6, 7, 8, 9, 10, 11, 12, 13, 14, 15] [0, 1, 2, 3] rfl rfl rfl ⟨by decide, by decide, by decide, by decide⟩ rfl (fun H locs hP hD hS => ?_)
  obtain rfl := re1 hf
  exact hE hP hD hS dX12_feudsAgain_7
def f_X12_excess (vmn : SV) (vho : SV) : Option Int32 :=
  bd1 (f_X3_excessByTolerance vho) fun r_1 =>
  some r_1
abbrev rm_X12_excess : Room := { frames := 3, cells := 0, slots := 0, locals := 70 }
set_option maxHeartbeats 4000000 in
set_option maxRecDepth 100000 in
theorem c_X12_excess (l : Launch) (D : va_G) (G : Nat → ClassId) (Q : Nat → Nat → Nat) (vmn : SV) (vho : SV) (r : Int32) (hf : f_X12_excess vmn vho = some r) (sz : Nat) : mC l yX12_excess wsX12_excess rm_X12_excess D (tyG G) kT [.ref ((Q 0) 0)] (kMain Q vmn ++ kHouse G (Q 1) vho) (kMain Q vmn ++ kHouse G (Q 1) vho) sz (some (.int r)) 0 0 := by
  refine mC_ofI (cc := cX12_excess) (maxL := 1) (ret := (some .int)) (by decide) rfl rfl (Nat.le_of_ble_eq_true rfl) ?_
  intro p e s m args below meth c Q0 hx hb hml hts hown hN hK A hD hA hE hP hS hJ ls hl
  have hl : lv_has ls 1 [(0, .ref ((Q 0) 0))] := hl
  unfold f_X12_excess at hf
  have hi10 : ∀ w ∈ u_ws RX12 TX12 11, w ∈ wsX12_excess := by decide +kernel
  have hw1 := hts (.fieldLink RX12 12 "BalconyCensus" "house" "LBalconyCensus$House;") (by decide +kernel)
  refine lv_aload_n hx hb dX12_excess_0 rfl (lv_at hl 0 rfl) ?_
  refine va_get (D := D) (ci := 10) (v := .ref (Q 1 0)) (C := RX12) (T := TX12) (N := 11) hx hb hts hi10 hown hK hP 0 rfl rfl 0 (by decide) hw1 (fun _ h9 => h9) rfl dX12_excess_1 ?_
  obtain ⟨r_1, hc, hf⟩ := bd1_of hf
  refine k_S (As := [.ref ((Q 1) 0)]) (rest := []) (ws1 := (kMain Q vmn ++ kHouse G (Q 1) vho)) ⟨hx, hb, hml, hown, hts⟩ (c_X3_excessByTolerance l D G (Q 1)  vho _ hc  _) (va_cwS 1 hts gX12_excess_X3_excessByTolerance rfl rfl rfl (by decide +kernel) ⟨Nat.le_of_ble_eq_true rfl, Nat.le_of_ble_eq_true rfl⟩) hl.1 (Nat.le_of_ble_eq_true rfl) dX12_excess_4 ⟨Nat.le_of_ble_eq_true rfl, Nat.le_of_ble_eq_true rfl⟩ rfl kT_bl (fun _ _ _ => trivial) hN hK hP hD hS hA [1, 2, 3, 4, 5, 6, 7, 8, 9, 10, 11, 12, 13, 14, 15] [0] [0, 1, 2, 3, 4, 5, 6, 7, 8, 9, 10, 11, 12, 13, 14, 15] [0, 1, 2, 3] rfl rfl rfl ⟨by decide, by decide, by decide, by decide⟩ rfl (fun H locs hP hD hS => ?_)
  obtain rfl := re1 hf
  exact hE hP hD hS dX12_excess_7
def f_X12_excessAgain (vmn : SV) (vho : SV) (vdr : SV) : Option (Int32 × SV) :=
  bd1 (f_X6_take vdr vho) fun w_1 =>
  bd2 (f_X3_takeExcess w_1) fun r_2 w_3 =>
  some (r_2, w_3)
abbrev rm_X12_excessAgain : Room := { frames := 4, cells := 0, slots := 0, locals := 94 }
set_option maxHeartbeats 4000000 in
set_option maxRecDepth 100000 in
theorem c_X12_excessAgain (l : Launch) (D : va_G) (G : Nat → ClassId) (Q : Nat → Nat → Nat) (vmn : SV) (vho : SV) (vdr : SV) (r : Int32) (vdr' : SV) (hf : f_X12_excessAgain vmn vho vdr = some (r, vdr')) (sz : Nat) : mC l yX12_excessAgain wsX12_excessAgain rm_X12_excessAgain D (tyG G) kT [.ref ((Q 0) 0)] (kMain Q vmn ++ kHouse G (Q 1) vho ++ kHouse G (Q 2) vdr) (kMain Q vmn ++ kHouse G (Q 1) vho ++ kHouse G (Q 2) vdr') sz (some (.int r)) 0 0 := by
  refine mC_ofI (cc := cX12_excessAgain) (maxL := 1) (ret := (some .int)) (by decide) rfl rfl (Nat.le_of_ble_eq_true rfl) ?_
  intro p e s m args below meth c Q0 hx hb hml hts hown hN hK A hD hA hE hP hS hJ ls hl
  have hl : lv_has ls 1 [(0, .ref ((Q 0) 0))] := hl
  unfold f_X12_excessAgain at hf
  have hi10 : ∀ w ∈ u_ws RX12 TX12 11, w ∈ wsX12_excessAgain := by decide +kernel
  have hw1 := hts (.fieldLink RX12 16 "BalconyCensus" "draft" "LBalconyCensus$House;") (by decide +kernel)
  have hw2 := hts (.fieldLink RX12 12 "BalconyCensus" "house" "LBalconyCensus$House;") (by decide +kernel)
  refine lv_aload_n hx hb dX12_excessAgain_0 rfl (lv_at hl 0 rfl) ?_
  refine va_get (D := D) (ci := 10) (v := .ref (Q 2 0)) (C := RX12) (T := TX12) (N := 11) hx hb hts hi10 hown hK hP 0 rfl rfl 1 (by decide) hw1 (fun _ h9 => h9) rfl dX12_excessAgain_1 ?_
  refine lv_aload_n hx hb dX12_excessAgain_4 rfl (lv_at hl 0 rfl) ?_
  refine va_get (D := D) (ci := 10) (v := .ref (Q 1 0)) (C := RX12) (T := TX12) (N := 11) hx hb hts hi10 hown hK hP 0 rfl rfl 0 (by decide) hw2 (fun _ h9 => h9) rfl dX12_excessAgain_5 ?_
  obtain ⟨w_1, hc, hf⟩ := bd1_of hf
  refine k_V (As := [.ref ((Q 1) 0)]) (rest := []) (ws1 := (kMain Q vmn ++ kHouse G (Q 1) vho ++ kHouse G (Q 2) w_1)) ⟨hx, hb, hml, hown, hts⟩ (c_X6_take l D G (Q 2) (Q 1)  vdr vho _ hc  _) (cwV 1 hts gX12_excessAgain_X6_take rfl rfl rfl (by decide +kernel) ⟨Nat.le_of_ble_eq_true rfl, Nat.le_of_ble_eq_true rfl⟩) hl.1 (Nat.le_of_ble_eq_true rfl) dX12_excessAgain_8 ⟨Nat.le_of_ble_eq_true rfl, Nat.le_of_ble_eq_true rfl⟩ rfl kT_bl (fun _ _ _ => trivial) hN hK hP hD hS hA 16 4 rfl rfl rfl [16, 17, 18, 19, 20, 21, 22, 23, 24, 25, 26, 27, 28, 29, 30, 1, 2, 3, 4, 5, 6, 7, 8, 9, 10, 11, 12, 13, 14, 15] [0] [0, 16, 17, 18, 19, 20, 21, 22, 23, 24, 25, 26, 27, 28, 29, 30, 1, 2, 3, 4, 5, 6, 7, 8, 9, 10, 11, 12, 13, 14, 15] [0, 1, 2, 3] rfl rfl rfl ⟨by decide, by decide, by decide, by decide⟩ rfl (fun H locs hP hD hS => ?_)
  refine lv_aload_n hx hb dX12_excessAgain_11 rfl (lv_at hl 0 rfl) ?_
  refine va_get (D := D) (ci := 10) (v := .ref (Q 2 0)) (C := RX12) (T := TX12) (N := 11) hx hb hts hi10 hown hK hP 0 rfl rfl 1 (by decide) hw1 (fun _ h9 => h9) rfl dX12_excessAgain_12 ?_
  obtain ⟨r_2, w_3, hc, hf⟩ := bd2_of hf
  refine k_S (As := [.ref ((Q 2) 0)]) (rest := []) (ws1 := (kMain Q vmn ++ kHouse G (Q 1) vho ++ kHouse G (Q 2) w_3)) ⟨hx, hb, hml, hown, hts⟩ (c_X3_takeExcess l D G (Q 2)  w_1 _ _ hc  _) (va_cwS 1 hts gX12_excessAgain_X3_takeExcess rfl rfl rfl (by decide +kernel) ⟨Nat.le_of_ble_eq_true rfl, Nat.le_of_ble_eq_true rfl⟩) hl.1 (Nat.le_of_ble_eq_true rfl) dX12_excessAgain_15 ⟨Nat.le_of_ble_eq_true rfl, Nat.le_of_ble_eq_true rfl⟩ rfl kT_bl (fun _ _ _ => trivial) hN hK hP hD hS hA [16, 17, 18, 19, 20, 21, 22, 23, 24, 25, 26, 27, 28, 29, 30] [0, 1, 2, 3, 4, 5, 6, 7, 8, 9, 10, 11, 12, 13, 14, 15] [0, 1, 2, 3, 4, 5, 6, 7, 8, 9, 10, 11, 12, 13, 14, 15, 16, 17, 18, 19, 20, 21, 22, 23, 24, 25, 26, 27, 28, 29, 30] [0, 1, 2, 3] rfl rfl rfl ⟨by decide, by decide, by decide, by decide⟩ rfl (fun H locs hP hD hS => ?_)
  obtain ⟨rfl, rfl⟩ := re2 hf
  exact hE hP hD hS dX12_excessAgain_18
def f_X12_census (vmn : SV) (vho : SV) : Option Int32 :=
  bd1 (f_X4_sumGiven vho) fun r_1 =>
  some r_1
abbrev rm_X12_census : Room := { frames := 3, cells := 0, slots := 0, locals := 67 }
set_option maxHeartbeats 4000000 in
set_option maxRecDepth 100000 in
theorem c_X12_census (l : Launch) (D : va_G) (G : Nat → ClassId) (Q : Nat → Nat → Nat) (vmn : SV) (vho : SV) (r : Int32) (hf : f_X12_census vmn vho = some r) (sz : Nat) : mC l yX12_census wsX12_census rm_X12_census D (tyG G) kT [.ref ((Q 0) 0)] (kMain Q vmn ++ kHouse G (Q 1) vho) (kMain Q vmn ++ kHouse G (Q 1) vho) sz (some (.int r)) 0 0 := by
  refine mC_ofI (cc := cX12_census) (maxL := 1) (ret := (some .int)) (by decide) rfl rfl (Nat.le_of_ble_eq_true rfl) ?_
  intro p e s m args below meth c Q0 hx hb hml hts hown hN hK A hD hA hE hP hS hJ ls hl
  have hl : lv_has ls 1 [(0, .ref ((Q 0) 0))] := hl
  unfold f_X12_census at hf
  have hi10 : ∀ w ∈ u_ws RX12 TX12 11, w ∈ wsX12_census := by decide +kernel
  have hi4 : ∀ w ∈ u_ws RX6 TX6 10, w ∈ wsX12_census := by decide +kernel
  have hw1 := hts (.fieldLink RX12 12 "BalconyCensus" "house" "LBalconyCensus$House;") (by decide +kernel)
  have hw2 := hts (.fieldLink RX12 172 "BalconyCensus$House" "greetings" "LBalconyCensus$Greetings;") (by decide +kernel)
  refine lv_aload_n hx hb dX12_census_0 rfl (lv_at hl 0 rfl) ?_
  refine va_get (D := D) (ci := 10) (v := .ref (Q 1 0)) (C := RX12) (T := TX12) (N := 11) hx hb hts hi10 hown hK hP 0 rfl rfl 0 (by decide) hw1 (fun _ h9 => h9) rfl dX12_census_1 ?_
  refine va_get (D := D) (ci := 4) (v := .ref ((Q 1) 7)) (C := RX6) (T := TX6) (N := 10) hx hb hts hi4 hown hK hP 1 rfl rfl 3 (by decide) hw2 (fun _ h9 => h9) rfl dX12_census_4 ?_
  obtain ⟨r_1, hc, hf⟩ := bd1_of hf
  refine k_V (As := []) (rest := []) (ws1 := (kMain Q vmn ++ kHouse G (Q 1) vho)) ⟨hx, hb, hml, hown, hts⟩ (c_X4_sumGiven l D G (Q 1)  vho _ hc  _) (cwV 0 hts gX12_census_X4_sumGiven rfl rfl rfl (by decide +kernel) ⟨Nat.le_of_ble_eq_true rfl, Nat.le_of_ble_eq_true rfl⟩) hl.1 (Nat.le_of_ble_eq_true rfl) dX12_census_7 ⟨Nat.le_of_ble_eq_true rfl, Nat.le_of_ble_eq_true rfl⟩ rfl kT_bl (fun _ _ _ => trivial) hN hK hP hD hS hA 8 2 rfl rfl rfl [8, 9, 10] [0, 1, 2, 3, 4, 5, 6, 7, 11, 12, 13, 14, 15] [0, 1, 2, 3, 4, 5, 6, 7, 13, 14, 15, 8, 9, 10, 11, 12] [0, 1, 2, 3] rfl rfl rfl ⟨by decide, by decide, by decide, by decide⟩ rfl (fun H locs hP hD hS => ?_)
  obtain rfl := re1 hf
  exact hE hP hD hS dX12_census_10
def f_X12_censusAgain (vmn : SV) (vho : SV) : Option Int32 :=
  bd1 (f_X4_sumGot vho) fun r_1 =>
  some r_1
abbrev rm_X12_censusAgain : Room := { frames := 3, cells := 0, slots := 0, locals := 67 }
set_option maxHeartbeats 4000000 in
set_option maxRecDepth 100000 in
theorem c_X12_censusAgain (l : Launch) (D : va_G) (G : Nat → ClassId) (Q : Nat → Nat → Nat) (vmn : SV) (vho : SV) (r : Int32) (hf : f_X12_censusAgain vmn vho = some r) (sz : Nat) : mC l yX12_censusAgain wsX12_censusAgain rm_X12_censusAgain D (tyG G) kT [.ref ((Q 0) 0)] (kMain Q vmn ++ kHouse G (Q 1) vho) (kMain Q vmn ++ kHouse G (Q 1) vho) sz (some (.int r)) 0 0 := by
  refine mC_ofI (cc := cX12_censusAgain) (maxL := 1) (ret := (some .int)) (by decide) rfl rfl (Nat.le_of_ble_eq_true rfl) ?_
  intro p e s m args below meth c Q0 hx hb hml hts hown hN hK A hD hA hE hP hS hJ ls hl
  have hl : lv_has ls 1 [(0, .ref ((Q 0) 0))] := hl
  unfold f_X12_censusAgain at hf
  have hi10 : ∀ w ∈ u_ws RX12 TX12 11, w ∈ wsX12_censusAgain := by decide +kernel
  have hi4 : ∀ w ∈ u_ws RX6 TX6 10, w ∈ wsX12_censusAgain := by decide +kernel
  have hw1 := hts (.fieldLink RX12 12 "BalconyCensus" "house" "LBalconyCensus$House;") (by decide +kernel)
  have hw2 := hts (.fieldLink RX12 172 "BalconyCensus$House" "greetings" "LBalconyCensus$Greetings;") (by decide +kernel)
  refine lv_aload_n hx hb dX12_censusAgain_0 rfl (lv_at hl 0 rfl) ?_
  refine va_get (D := D) (ci := 10) (v := .ref (Q 1 0)) (C := RX12) (T := TX12) (N := 11) hx hb hts hi10 hown hK hP 0 rfl rfl 0 (by decide) hw1 (fun _ h9 => h9) rfl dX12_censusAgain_1 ?_
  refine va_get (D := D) (ci := 4) (v := .ref ((Q 1) 7)) (C := RX6) (T := TX6) (N := 10) hx hb hts hi4 hown hK hP 1 rfl rfl 3 (by decide) hw2 (fun _ h9 => h9) rfl dX12_censusAgain_4 ?_
  obtain ⟨r_1, hc, hf⟩ := bd1_of hf
  refine k_V (As := []) (rest := []) (ws1 := (kMain Q vmn ++ kHouse G (Q 1) vho)) ⟨hx, hb, hml, hown, hts⟩ (c_X4_sumGot l D G (Q 1)  vho _ hc  _) (cwV 0 hts gX12_censusAgain_X4_sumGot rfl rfl rfl (by decide +kernel) ⟨Nat.le_of_ble_eq_true rfl, Nat.le_of_ble_eq_true rfl⟩) hl.1 (Nat.le_of_ble_eq_true rfl) dX12_censusAgain_7 ⟨Nat.le_of_ble_eq_true rfl, Nat.le_of_ble_eq_true rfl⟩ rfl kT_bl (fun _ _ _ => trivial) hN hK hP hD hS hA 8 2 rfl rfl rfl [8, 9, 10] [0, 1, 2, 3, 4, 5, 6, 7, 11, 12, 13, 14, 15] [0, 1, 2, 3, 4, 5, 6, 7, 13, 14, 15, 8, 9, 10, 11, 12] [0, 1, 2, 3] rfl rfl rfl ⟨by decide, by decide, by decide, by decide⟩ rfl (fun H locs hP hD hS => ?_)
  obtain rfl := re1 hf
  exact hE hP hD hS dX12_censusAgain_10
