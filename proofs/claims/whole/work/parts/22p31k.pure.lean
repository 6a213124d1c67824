/-! PURE: written lines. -/
theorem q_shr0 (x : Int32) : x >>> ((0 : Int32) &&& 31) = x := by
  refine b_ext (fun i hi => ?_)
  have := b_sshr 0 (by omega) x hi
  rw [if_pos (by omega), Nat.zero_add] at this
  exact this
theorem q_shl0 (x : Int32) : x <<< ((0 : Int32) &&& 31) = x := by
  refine b_ext (fun i hi => ?_)
  have := b_shl 0 (by omega) x hi
  rw [decide_eq_true (Nat.zero_le i), Bool.true_and, Nat.sub_zero] at this
  exact this
def OKB (sb : Nat × SV) : Prop := sb.2.1 0 = 0 ∧ (sb.1 = 16 ∨ sb.1 = 34 ∨ sb.1 = 70) ∧ ∀ i, i < sb.1 → ∃ c, c < 128 ∧ sb.2.2 0 i = nI c
/-- the builder holds the text t -/
def TXT (sb : Nat × SV) (t : List Nat) : Prop := OKB sb ∧ sb.2.1 2 = nI t.length ∧ t.length ≤ sb.1 ∧ ∀ i x, t[i]? = some x → sb.2.2 0 i = nI x
/-- the reference's line holds it -/
def MTX (v : SV) (t : List Nat) : Prop := v.1 9 = nI t.length ∧ ∀ i x, t[i]? = some x → v.2 7 i = nI x
theorem q_fits {c : Nat} (h : c < 128) : fits .byte (.int (nI c)) = true := by
  have : ∀ c : Nat, c < 128 → fits .byte (.int (nI c)) = true := by decide +kernel
  exact this c h
theorem x_grow {sb : Nat × SV} (h : OKB sb) {n m : Nat} (hn : sb.1 = n) (R : Int32) (hR : R.toNatClampNeg = m) (hm : m = 34 ∨ m = 70) (hlt : n ≤ m) (hc : ¬ R < 0 ∧ ¬ R = Int32.ofNat n ∧ R.toNatClampNeg ≤ 80 ∧ ¬ (if R < Int32.ofNat n then R else Int32.ofNat n) < 0 ∧ (if R < Int32.ofNat n then R else Int32.ofNat n).toNatClampNeg = n) : ∃ g, f_J7_copyOf_9075b R n (sb.2.2 0) = some (m, g) ∧ (∀ i, i < n → g i = sb.2.2 0 i) ∧ ∀ i, n ≤ i → g i = 0 := by
  obtain ⟨c1, c2, c3, c4, c5⟩ := hc
  refine ⟨va_cpy (sb.2.2 0) (fun _ => 0) (0 : Int32).toNatClampNeg (0 : Int32).toNatClampNeg (if R < Int32.ofNat n then R else Int32.ofNat n).toNatClampNeg, ?_, fun i hi => ?_, fun i hi => ?_⟩
  · unfold f_J7_copyOf_9075b ckP
    rw [if_pos, hR]
    refine ⟨c1, c2, c3, c4, by rw [c5]; exact Nat.le_refl _, by rw [c5, hR]; exact hlt, ?_⟩
    rw [c5]
    refine List.all_eq_true.mpr (fun i hi => ?_)
    obtain ⟨c, h1, h2⟩ := h.2.2 i (by rw [hn]; exact List.mem_range.mp hi)
    show fits .byte (.int (sb.2.2 0 i)) = true
    rw [h2]; exact q_fits h1
  · unfold va_cpy
    rw [c5, show (0 : Int32).toNatClampNeg = 0 from rfl, if_pos ⟨Nat.zero_le _, by omega⟩]; exact congrArg (sb.2.2 0) (by omega)
  · unfold va_cpy
    rw [c5, show (0 : Int32).toNatClampNeg = 0 from rfl, if_neg (by omega)]
theorem q_room {k c : Nat} (hk : k < 73) (hc : c < 73) : (nI k - Int32.ofNat c ≤ 0) ↔ k ≤ c := by
  have : ∀ k : Nat, k < 73 → ∀ c : Nat, c < 73 → ((nI k - Int32.ofNat c ≤ 0) ↔ k ≤ c) := by decide +kernel
  exact this k hk c hc
theorem x_ens {sb : Nat × SV} (h : OKB sb) {k : Nat} (hk : k ≤ 70) (hk2 : k ≤ sb.1 + 2) : ∃ sb', f_J5_ensureCapacityInternal_d00df (nI k) sb = some sb' ∧ OKB sb' ∧ k ≤ sb'.1 ∧ sb.1 ≤ sb'.1 ∧ sb'.2.1 = sb.2.1 ∧ ∀ i, i < sb.1 → sb'.2.2 0 i = sb.2.2 0 i := by
  obtain ⟨h0, h1, h2⟩ := id h
  unfold f_J5_ensureCapacityInternal_d00df
  rw [h0, q_shr0]
  by_cases c : k ≤ sb.1
  · rw [if_pos ((q_room (by omega) (by omega)).mpr c)]
    exact ⟨sb, rfl, h, c, Nat.le_refl _, rfl, fun _ _ => rfl⟩
  · rw [if_neg (fun q => c ((q_room (by omega) (by omega)).mp q))]
    have cap : ∀ (n m : Nat) (R : Int32), sb.1 = n → n < 71 → R.toNatClampNeg = m → (m = 34 ∨ m = 70) → n + 2 ≤ m → (¬ R < 0 ∧ ¬ R = Int32.ofNat n ∧ R.toNatClampNeg ≤ 80 ∧ ¬ (if R < Int32.ofNat n then R else Int32.ofNat n) < 0 ∧ (if R < Int32.ofNat n then R else Int32.ofNat n).toNatClampNeg = n) → f_J5_newCapacity_0f7a4 (nI k) sb = some R → ∃ sb', (bd1 (f_J5_newCapacity_0f7a4 (nI k) sb) fun r => bd2 (f_J7_copyOf_9075b (r <<< ((0 : Int32) &&& 31)) sb.1 (sb.2.2 0)) fun n g => some (n, pR sb.2 0 g)) = some sb' ∧ OKB sb' ∧ k ≤ sb'.1 ∧ sb.1 ≤ sb'.1 ∧ sb'.2.1 = sb.2.1 ∧ ∀ i, i < sb.1 → sb'.2.2 0 i = sb.2.2 0 i := by
      intro n m R hn hn2 hR hm hlt hc hcap
      obtain ⟨g, e1, e2, e3⟩ := x_grow h hn R hR hm (by omega) hc
      rw [hcap, bd1_s, q_shl0, hn, e1, bd2_s]
      refine ⟨_, rfl, ⟨h0, ?_, fun i hi => ?_⟩, ?_, ?_, rfl, fun i hi => e2 i hi⟩
      · rcases hm with rfl | rfl
        · exact Or.inr (Or.inl rfl)
        · exact Or.inr (Or.inr rfl)
      · show ∃ c, c < 128 ∧ g i = nI c
        by_cases ci : i < n
        · rw [e2 i ci]; exact h2 i (by omega)
        · rw [e3 i (by omega)]; exact ⟨0, by omega, rfl⟩
      · show k ≤ m; omega
      · show n ≤ m; omega
    have nc : ∀ (n : Nat) (R : Int32), sb.1 = n → (∀ k, k < 73 → n < k → k ≤ n + 2 → (nm (((nI k) <<< ((0 : Int32) &&& 31)) - Int32.ofNat n) fun t_1 => bd1 (f_J8_newLength_cabcc (Int32.ofNat n) t_1 ((Int32.ofNat n) + (2 <<< ((0 : Int32) &&& 31)))) fun r_2 => if r_2 = 2147483647 then none else some (r_2 >>> ((0 : Int32) &&& 31))) = some R) → f_J5_newCapacity_0f7a4 (nI k) sb = some R := by
      intro n R hn hd
      unfold f_J5_newCapacity_0f7a4
      rw [h0, hn]
      exact hd k (by omega) (by omega) (by omega)
    rcases h1 with h1 | h1 | h1
    · rw [h1]
      have := cap 16 34 34 h1 (by omega) (by decide) (Or.inl rfl) (by omega) (by decide) (nc 16 34 h1 (by decide +kernel))
      rw [h1] at this; exact this
    · rw [h1]
      have := cap 34 70 70 h1 (by omega) (by decide) (Or.inr rfl) (by omega) (by decide) (nc 34 70 h1 (by decide +kernel))
      rw [h1] at this; exact this
    · omega
theorem x_lat {sb : Nat × SV} (h : OKB sb) : f_J5_isLatin1_aae02 sb = some 1 := by unfold f_J5_isLatin1_aae02; rw [if_pos h.1]
theorem q_byte {c : Nat} (h : c < 128) : f_J1_canEncode_fc78d (nI c) = some 1 ∧ vp_nar .byte (nI c).toInt8.toInt32 = nI c ∧ vp_nar .byte (nI c) = nI c := by
  have : ∀ c : Nat, c < 128 → f_J1_canEncode_fc78d (nI c) = some 1 ∧ vp_nar .byte (nI c).toInt8.toInt32 = nI c ∧ vp_nar .byte (nI c) = nI c := by decide +kernel
  exact this c h
theorem txt_at {t : List Nat} {c i x : Nat} (h : (t ++ [c])[i]? = some x) : (i < t.length ∧ t[i]? = some x) ∨ (i = t.length ∧ x = c) := by
  have hi := ix_lt h
  rw [List.length_append, List.length_singleton] at hi
  by_cases q : i < t.length
  · rw [List.getElem?_append_left q] at h; exact Or.inl ⟨q, h⟩
  · have : i = t.length := by omega
    subst this
    rw [List.getElem?_append_right (Nat.le_refl _), Nat.sub_self] at h
    exact Or.inr ⟨rfl, (Option.some.inj h).symm⟩
theorem x_appC {sb : Nat × SV} {t : List Nat} (T : TXT sb t) {c : Nat} (hc : c < 128) (hl : t.length + 1 ≤ 70) : ∃ sb', f_J4_append_cf468 (nI c) sb = some sb' ∧ TXT sb' (t ++ [c]) := by
  obtain ⟨h, h1, h2, h3⟩ := T
  obtain ⟨w, e1, w1, w2, w3, w4, w5⟩ := x_ens h (k := t.length + 1) hl (by omega)
  obtain ⟨q1, q2, q3⟩ := q_byte hc
  have e2 : w.2.1 2 = nI t.length := by rw [w4]; exact h1
  have hcap : t.length < w.1 := by omega
  have hcap2 : w.1 < 2147483648 := by have := w1.2.1; omega
  refine ⟨pBA (pBF w 2 (nI (t.length + 1))) (nI t.length) (nI c), ?_, ⟨w1.1, w1.2.1, fun i hi => ?_⟩, ?_, ?_, fun i x hx => ?_⟩
  · have hw : (pBF w 2 (nI (t.length + 1))).1 = w.1 := rfl
    simp (disch := omega) only [f_J4_append_cf468, f_J5_append_3fe6f, h1, nI_1, e1, nm, bd1_s, bd2_s, bd3_s, bd4_s, x_lat w1, if_neg n10, q1, e2, hw, ckI_n, q2]
  · show ∃ c', c' < 128 ∧ upd (w.2.2 0) (nI t.length).toNatClampNeg (nI c) i = nI c'
    rw [nI_cl (by omega), upd_if]
    split
    · exact ⟨c, hc, rfl⟩
    · exact w1.2.2 i hi
  · show nI (t.length + 1) = _
    rw [List.length_append, List.length_singleton]
  · show (t ++ [c]).length ≤ w.1
    rw [List.length_append, List.length_singleton]; omega
  · show upd (w.2.2 0) (nI t.length).toNatClampNeg (nI c) i = nI x
    rw [nI_cl (by omega), upd_if]
    rcases txt_at hx with ⟨q, hx⟩ | ⟨q, rfl⟩
    · rw [if_neg (by omega), w5 i (by omega)]; exact h3 i x hx
    · rw [if_pos q]
/-- a number's signs -/
def dig (x : Nat) : List Nat := if x ≤ 9 then [48 + x] else [48 + x / 10, 48 + x % 10]
theorem dig_len (x : Nat) : (dig x).length = if x ≤ 9 then 1 else 2 := by unfold dig; split <;> rfl
theorem q_numD {x : Nat} (h : x < 100) : f_J6_stringSize_0f7a4 (nI x) = some (nI (if x ≤ 9 then 1 else 2)) ∧ (0 : Int32) ≤ nI x ∧ (-100 : Int32) < -nI x ∧ ((-9 : Int32) ≤ -nI x ↔ x ≤ 9) ∧ vp_nar .byte (dgO x) = nI (48 + x % 10) ∧ vp_nar .byte (dgT x) = nI (48 + x / 10) ∧ -(-nI x) = nI x := by
  have : ∀ x : Nat, x < 100 → f_J6_stringSize_0f7a4 (nI x) = some (nI (if x ≤ 9 then 1 else 2)) ∧ (0 : Int32) ≤ nI x ∧ (-100 : Int32) < -nI x ∧ ((-9 : Int32) ≤ -nI x ↔ x ≤ 9) ∧ vp_nar .byte (dgO x) = nI (48 + x % 10) ∧ vp_nar .byte (dgT x) = nI (48 + x / 10) ∧ -(-nI x) = nI x := by decide +kernel
  exact this x h
theorem nI_m1 (n : Nat) : nI (n + 1) + (-1) = nI n := by
  rw [show nI (n + 1) + (-1) = nI (n + 1) - 1 from (Int32.sub_eq_add_neg _ _).symm, nI_pred]
theorem x_getChars {x n cap : Nat} (hx : x < 100) (hn : n + (if x ≤ 9 then 1 else 2) ≤ cap) (hcap : cap < 1000) (f : Nat → Int32) : ∃ r g, f_J6_getChars_ba4f3 (nI x) (nI (n + (if x ≤ 9 then 1 else 2))) cap f = some (r, g) ∧ (∀ i z, (dig x)[i]? = some z → g (n + i) = nI z) ∧ ∀ i, i < n ∨ n + (if x ≤ 9 then 1 else 2) ≤ i → g i = f i := by
  obtain ⟨d1, d2, d3, d4, d5, d6, d7⟩ := q_numD hx
  by_cases c : x ≤ 9
  · rw [if_pos c] at hn ⊢
    refine ⟨nI n, upd f n (nI (48 + x % 10)), ?_, fun i z hz => ?_, fun i hi => upd_ne (by omega)⟩
    · simp (disch := omega) only [f_J6_getChars_ba4f3, if_pos d2, f_J6_getChars_ba4f3_J12, if_true, f_J6_getChars_ba4f3_J22, if_pos d3, f_J6_getChars_ba4f3_J72, d7, ckI_n, nI_m1, nI_cl, nm, d5, d4, if_pos c]
    · unfold dig at hz; rw [if_pos c] at hz
      have hi := ix_lt hz
      have : i = 0 := by simp at hi; omega
      subst this
      have hz : 48 + x = z := Option.some.inj hz
      rw [Nat.add_zero, upd_eq, ← hz]; congr 1; omega
  · rw [if_neg c] at hn ⊢
    have m1 : nI (n + 2) + (-1) = nI (n + 1) := nI_m1 (n + 1)
    refine ⟨nI n, upd (upd f (n + 1) (nI (48 + x % 10))) n (nI (48 + x / 10)), ?_, fun i z hz => ?_, fun i hi => ?_⟩
    · simp (disch := omega) only [f_J6_getChars_ba4f3, if_pos d2, f_J6_getChars_ba4f3_J12, if_true, f_J6_getChars_ba4f3_J22, if_pos d3, f_J6_getChars_ba4f3_J72, d7, ckI_n, m1, nI_m1, nI_cl, nm, d5, d6, d4, if_neg c]
    · unfold dig at hz; rw [if_neg c] at hz
      have hi := ix_lt hz
      rcases (show i = 0 ∨ i = 1 by simp at hi; omega) with rfl | rfl
      · have hz : 48 + x / 10 = z := Option.some.inj hz
        exact (upd_eq (k := n)).trans (by rw [← hz])
      · have hz : 48 + x % 10 = z := Option.some.inj hz
        rw [upd_ne (by omega), upd_eq, ← hz]
    · rw [upd_ne (by omega), upd_ne (by omega)]
theorem dig_lt {x : Nat} (hx : x < 100) : ∀ z ∈ dig x, z < 128 := by
  intro z hz
  unfold dig at hz
  split at hz
  · rw [List.mem_singleton.mp hz]; omega
  · rcases List.mem_cons.mp hz with h | h
    · omega
    · rw [List.mem_singleton.mp h]; omega
theorem txt_app {t d : List Nat} {i x : Nat} (h : (t ++ d)[i]? = some x) : (i < t.length ∧ t[i]? = some x) ∨ (∃ j, i = t.length + j ∧ j < d.length ∧ d[j]? = some x) := by
  by_cases q : i < t.length
  · rw [List.getElem?_append_left q] at h; exact Or.inl ⟨q, h⟩
  · rw [List.getElem?_append_right (by omega)] at h
    exact Or.inr ⟨i - t.length, by omega, ix_lt h, h⟩
theorem x_appI {sb : Nat × SV} {t : List Nat} (T : TXT sb t) {x : Nat} (hx : x < 100) (hl : t.length + 2 ≤ 70) : ∃ sb', f_J4_append_bf812 (nI x) sb = some sb' ∧ TXT sb' (t ++ dig x) := by
  obtain ⟨h, h1, h2, h3⟩ := T
  obtain ⟨d1, _⟩ := q_numD hx
  have hs : (if x ≤ 9 then 1 else 2) ≤ 2 := by split <;> omega
  obtain ⟨w, e1, w1, w2, w3, w4, w5⟩ := x_ens h (k := t.length + (if x ≤ 9 then 1 else 2)) (by omega) (by omega)
  obtain ⟨r, g, g1, g2, g3⟩ := x_getChars hx (n := t.length) (cap := w.1) w2 (by have := w1.2.1; omega) (w.2.2 0)
  have hcap : w.1 < 1000 := by have := w1.2.1; omega
  refine ⟨pBF (pBR w g) 2 (nI (t.length + (if x ≤ 9 then 1 else 2))), ?_, ⟨w1.1, w1.2.1, fun i hi => ?_⟩, ?_, ?_, fun i z hz => ?_⟩
  · simp only [f_J4_append_bf812, f_J5_append_c97b9, d1, nm, bd1_s, bd2_s, bd3_s, bd4_s, h1, nI_add, e1, x_lat w1, if_neg n10, g1]
  · show ∃ c, c < 128 ∧ g i = nI c
    by_cases q : i < t.length ∨ t.length + (if x ≤ 9 then 1 else 2) ≤ i
    · rw [g3 i q]; exact w1.2.2 i hi
    · have hd : i - t.length < (dig x).length := by rw [dig_len]; omega
      have := g2 (i - t.length) _ (List.getElem?_eq_getElem hd)
      rw [show t.length + (i - t.length) = i by omega] at this
      exact ⟨_, dig_lt hx _ (List.getElem_mem hd), this⟩
  · show nI (t.length + (if x ≤ 9 then 1 else 2)) = _
    rw [List.length_append, dig_len]
  · show (t ++ dig x).length ≤ w.1
    rw [List.length_append, dig_len]; exact w2
  · show g i = nI z
    rcases txt_app hz with ⟨q, hz⟩ | ⟨j, rfl, q, hz⟩
    · rw [g3 i (Or.inl q), w5 i (by omega)]; exact h3 i z hz
    · exact g2 j z hz
theorem x_set0 {sb : Nat × SV} (h : OKB sb) {n : Nat} (hn : n ≤ 70) (h1 : sb.2.1 2 = nI n) : ∃ sb', f_J4_setLength_d00df 0 sb = some sb' ∧ TXT sb' [] := by
  obtain ⟨w, e1, w1, w2, w3, w4, w5⟩ := x_ens h (k := 0) (by omega) (by omega)
  have e1 : f_J5_ensureCapacityInternal_d00df 0 sb = some w := e1
  have e2 : w.2.1 2 = nI n := by rw [w4]; exact h1
  have l0 : (0 : Int32) ≤ nI n := nI_pos' (by omega)
  simp only [f_J4_setLength_d00df, f_J5_setLength_d00df, show (0 : Int32) ≤ 0 by decide, if_true, f_J5_setLength_d00df_J13, e1, nm, bd1_s, bd2_s, bd3_s, bd4_s, e2, if_pos l0]
  by_cases c : nI n ≤ 0
  · rw [if_pos c, bd1_s]
    exact ⟨_, rfl, ⟨w1.1, w1.2.1, w1.2.2⟩, rfl, Nat.zero_le _, fun i x hx => by cases hx⟩
  · rw [if_neg c, bd1_s]
    exact ⟨_, rfl, ⟨w1.1, w1.2.1, w1.2.2⟩, rfl, Nat.zero_le _, fun i x hx => by cases hx⟩
/-- the reference writes a sign -/
theorem m_writes {v : SV} {t : List Nat} (T : MTX v t) {c : Nat} (hl : t.length + 1 ≤ 80) : ∃ v', f_X13_writes (nI c) v = some v' ∧ MTX v' (t ++ [c]) ∧ (∀ k, k ≠ 9 → v'.1 k = v.1 k) ∧ ∀ r, r ≠ 7 → v'.2 r = v.2 r := by
  obtain ⟨h1, h2⟩ := T
  refine ⟨pF (pA v 7 (nI t.length) (nI c)) 9 (nI (t.length + 1)), ?_, ⟨?_, fun i x hx => ?_⟩, fun k hk => if_neg hk, fun r hr => if_neg hr⟩
  · have e : (pA v 7 (nI t.length) (nI c)).1 9 = nI t.length := h1
    simp (disch := omega) only [f_X13_writes, h1, ckI_n, nm, bd1_s, bd2_s, bd3_s, bd4_s, e, nI_1]
  · show nI (t.length + 1) = _; rw [List.length_append, List.length_singleton]
  · show upd (v.2 7) (nI t.length).toNatClampNeg (nI c) i = nI x
    rw [nI_cl (by omega), upd_if]
    rcases txt_at hx with ⟨q, hx⟩ | ⟨q, rfl⟩
    · rw [if_neg (by omega)]; exact h2 i x hx
    · rw [if_pos q]
theorem m_writesNumber {v : SV} {t : List Nat} (T : MTX v t) {x : Nat} (hx : x < 100) (hl : t.length + 2 ≤ 80) : ∃ v', f_X13_writesNumber (nI x) v = some v' ∧ MTX v' (t ++ dig x) ∧ (∀ k, k ≠ 9 → v'.1 k = v.1 k) ∧ ∀ r, r ≠ 7 → v'.2 r = v.2 r := by
  have q10 : ∀ x : Nat, x < 100 → (48 : Int32) + (nI x - nI x / 10 * 10) = nI (48 + x % 10) ∧ (48 : Int32) + nI x / 10 = nI (48 + x / 10) ∧ ((nI x ≤ 9) ↔ x ≤ 9) := by decide +kernel
  obtain ⟨a1, a2, a3⟩ := q10 x hx
  unfold f_X13_writesNumber
  by_cases c : x ≤ 9
  · rw [if_pos (a3.mpr c)]
    obtain ⟨v', e, T', k1, k2⟩ := m_writes (c := 48 + x % 10) T (by omega)
    refine ⟨v', by simp only [f_X13_writesNumber_J17, a1, e, bd1_s], ?_, k1, k2⟩
    unfold dig; rw [if_pos c]
    rw [show 48 + x % 10 = 48 + x by omega] at T'; exact T'
  · rw [if_neg (fun q => c (a3.mp q))]
    obtain ⟨u, e, T', k1, k2⟩ := m_writes (c := 48 + x / 10) T (by omega)
    obtain ⟨v', e', T'', l1, l2⟩ := m_writes (c := 48 + x % 10) T' (by rw [List.length_append, List.length_singleton]; omega)
    refine ⟨v', by simp only [a2, e, bd1_s, f_X13_writesNumber_J17, a1, e'], ?_, fun k hk => (l1 k hk).trans (k1 k hk), fun r hr => (l2 r hr).trans (k2 r hr)⟩
    unfold dig; rw [if_neg c]
    rw [List.append_assoc] at T''; exact T''
