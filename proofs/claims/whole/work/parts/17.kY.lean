/-! The static facts with the one reference of the JDK's, and String.checkIndex. -/
def sio (X : Nat → Nat → Nat) : Value := if X 0 3 = 0 then .null else .ref (X 0 2)
theorem sio_or (X : Nat → Nat → Nat) : sio X = .null ∨ ∃ t, sio X = .ref t := by
  unfold sio
  split
  · exact Or.inl rfl
  · exact Or.inr ⟨_, rfl⟩
def kY (X : Nat → Nat → Nat) : JT := fun A U => kX X A U ∧ va_Z "jdk/internal/util/Preconditions" "SIOOBE_FORMATTER" "Ljava/util/function/BiFunction;" (sio X) A U U.heap
theorem kY_bl (X : Nat → Nat → Nat) : kBl (kY X) := by
  intro A U V hv hh h
  have h2 := h.2
  rw [hh] at h2
  exact ⟨kX_bl X A U V hv hh h.1, h2.moved (al_of hv)⟩
theorem kY_pass {X : Nat → Nat → Nat} {A B : Nat → Prop} {s : State} {H : Heap} {locs : List Loc} (hJ : kY X A s) (hS : va_S A s.heap H locs) (hB : ∀ q : Nat, B q → A q) : ∀ U : State, U.heap = H → s.WarmedH U.vm → kY X B U := by
  intro U hU hW
  refine ⟨kX_pass hJ.1 hS hB U hU hW, ?_⟩
  subst hU
  have hq : ∀ a : Nat, a < s.heap.size → ¬ A a → U.heap[a]? = s.heap[a]? := fun a h1 h2 => hS.2.1 a h1 h2
  exact ((hJ.2.kept hq).moved hW.alike).narrow hB
abbrev rm_J3_checkIndex_8e157 : Room := { frames := 0, cells := 0, slots := 0, locals := 0 }
set_option maxHeartbeats 4000000 in
set_option maxRecDepth 100000 in
theorem c_J3_checkIndex_8e157 (l : Launch) (D : va_G) (G : Nat → ClassId) (v : Value) (hv : v = .null ∨ ∃ t, v = .ref t) (a0 a1 : Int32) (h0 : ¬ a0 < 0) (h1 : a0 < a1) (sz : Nat) : mC l yJ3_checkIndex_8e157 wsJ3_checkIndex_8e157 rm_J3_checkIndex_8e157 D (tyG G) kT [.int a0, .int a1, v] ([] : va_W) ([] : va_W) sz (some (.int a0)) 0 0 := by
  have key : ∀ v : Value, v.category = 1 → (lg_sl [.int a0, .int a1, v]).length ≤ 3 → lv_args 0 [.int a0, .int a1, v] = [(0, .int a0), (1, .int a1), (2, v)] → mC l yJ3_checkIndex_8e157 wsJ3_checkIndex_8e157 rm_J3_checkIndex_8e157 D (tyG G) kT [.int a0, .int a1, v] ([] : va_W) ([] : va_W) sz (some (.int a0)) 0 0 := by
    intro v hc hlen hla
    refine mC_ofI (cc := cJ3_checkIndex_8e157) (maxL := 3) (ret := (some .int)) (by decide) rfl rfl hlen ?_
    intro p e s m args below meth c Q0 hx hb hml hts hown hN hK A hD hA hE hP hS hJ ls hl
    rw [hla] at hl
    refine lv_iload_n hx hb dJ3_checkIndex_8e157_0 rfl (lv_at hl 0 rfl) ?_
    refine lv_if_lt (tgt := 9) hx hb dJ3_checkIndex_8e157_1 (by decide) (fun cc => absurd cc h0) (fun cc => ?_)
    refine lv_iload_n hx hb dJ3_checkIndex_8e157_4 rfl (lv_at hl 0 rfl) ?_
    refine lv_iload_n hx hb dJ3_checkIndex_8e157_5 rfl (lv_at hl 1 rfl) ?_
    refine lv_icmp_lt (tgt := 16) hx hb dJ3_checkIndex_8e157_6 (by decide) (fun cc => ?_) (fun cc => absurd h1 cc)
    refine lv_iload_n hx hb dJ3_checkIndex_8e157_16 rfl (lv_at hl 0 rfl) ?_
    exact hE hP hD hS dJ3_checkIndex_8e157_17
  rcases hv with rfl | ⟨t, rfl⟩
  · exact key _ rfl (Nat.le_of_ble_eq_true rfl) rfl
  · exact key _ rfl (Nat.le_of_ble_eq_true rfl) rfl
def f_J0_checkIndex_df160 (a0 a1 : Int32) : Option Unit := if a0 < 0 then none else if a0 < a1 then some () else none
abbrev rm_J0_checkIndex_df160 : Room := { frames := 1, cells := 0, slots := 0, locals := 22 }
set_option maxHeartbeats 4000000 in
set_option maxRecDepth 100000 in
theorem c_J0_checkIndex_df160 (l : Launch) (D : va_G) (G : Nat → ClassId) (X : Nat → Nat → Nat) (a0 a1 : Int32) (_u : Unit) (hf : f_J0_checkIndex_df160 a0 a1 = some _u) (sz : Nat) : mC l yJ0_checkIndex_df160 wsJ0_checkIndex_df160 rm_J0_checkIndex_df160 D (tyG G) (kY X) [.int a0, .int a1] ([] : va_W) ([] : va_W) sz none 0 0 := by
  have h0 : ¬ a0 < 0 := fun c => by unfold f_J0_checkIndex_df160 at hf; rw [if_pos c] at hf; cases hf
  have h1 : a0 < a1 := by
    unfold f_J0_checkIndex_df160 at hf
    rw [if_neg h0] at hf
    by_cases c : a0 < a1
    · exact c
    · rw [if_neg c] at hf; cases hf
  refine mC_ofV (cc := cJ0_checkIndex_df160) (maxL := 2) (ret := none) (by decide) rfl rfl (Nat.le_of_ble_eq_true rfl) ?_
  intro p e s m args below meth c Q0 hx hb hml hts hown hN hK A hD hA hE hP hS hJ ls hl
  have hl : lv_has ls 2 [(0, .int a0), (1, .int a1)] := hl
  have hw1 := hts (.fieldLink RJ0 1053 "jdk/internal/util/Preconditions" "SIOOBE_FORMATTER" "Ljava/util/function/BiFunction;") (by decide +kernel)
  refine lv_iload_n hx hb dJ0_checkIndex_df160_0 rfl (lv_at hl 0 rfl) ?_
  refine lv_iload_n hx hb dJ0_checkIndex_df160_1 rfl (lv_at hl 1 rfl) ?_
  refine va_gets (v := sio X) hx hb hJ.2 hS hown hw1 (fun _ h9 => h9) dJ0_checkIndex_df160_2 ?_
  refine k_S (As := [.int a0, .int a1, sio X]) (rest := []) (ws1 := ([] : va_W)) ⟨hx, hb, hml, hown, hts⟩ (c_J3_checkIndex_8e157 l D G (sio X) (sio_or X) a0 a1 h0 h1 _) (va_cwS 3 hts gJ0_checkIndex_df160_J3_checkIndex_8e157 rfl rfl rfl (by decide +kernel) ⟨Nat.le_of_ble_eq_true rfl, Nat.le_of_ble_eq_true rfl⟩) hl.1 (Nat.le_of_ble_eq_true rfl) dJ0_checkIndex_df160_5 ⟨Nat.le_of_ble_eq_true rfl, Nat.le_of_ble_eq_true rfl⟩ rfl kT_bl (fun _ _ _ => trivial) hN hK hP hD hS hA [] [] [] [0, 1, 2, 3] rfl rfl rfl ⟨by decide, by decide, by decide, by decide⟩ rfl (fun H locs hP hD hS => ?_)
  refine lv_pop hx hb dJ0_checkIndex_df160_8 rfl ?_
  exact hE hP hD hS dJ0_checkIndex_df160_9
