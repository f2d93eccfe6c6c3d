theorem sub_toInt {x y : Int32} (h1 : -1100000 ≤ x.toInt) (h2 : x.toInt ≤ 1100000) (h3 : -1100000 ≤ y.toInt) (h4 : y.toInt ≤ 1100000) : (x - y).toInt = x.toInt - y.toInt := by
  rw [Int32.toInt_sub, Int.bmod_eq_of_le (by omega) (by omega)]
theorem add_toInt {x y : Int32} (h1 : -1100000 ≤ x.toInt) (h2 : x.toInt ≤ 1100000) (h3 : -1100000 ≤ y.toInt) (h4 : y.toInt ≤ 1100000) : (x + y).toInt = x.toInt + y.toInt := by
  rw [Int32.toInt_add, Int.bmod_eq_of_le (by omega) (by omega)]
theorem absP_toInt {x : Int32} (h1 : -3000000 ≤ x.toInt) (h2 : x.toInt ≤ 3000000) : (absP x).toInt = if 0 ≤ x.toInt then x.toInt else - x.toInt := by
  unfold absP
  have e0 : ((0 : Int32)).toInt = 0 := by decide
  by_cases h : 0 ≤ x
  · have h3 := Int32.le_iff_toInt_le.mp h
    rw [e0] at h3
    rw [if_pos h, if_pos h3]
  · have h3 : ¬ (0 : Int) ≤ x.toInt := fun e => h (Int32.le_iff_toInt_le.mpr (by rw [e0]; exact e))
    rw [if_neg h, if_neg h3, Int32.toInt_sub, e0, Int.bmod_eq_of_le (by omega) (by omega)]
    omega
/-- the reference's search for the nearest sign -/
def dcS (b L : Int32) : Nat → Int32
  | 0 => 0
  | k + 1 => if absP (amQ b (dcS b L k) - L) ≤ absP (amQ b (nI (k + 1)) - L) then dcS b L k else nI (k + 1)
theorem dcS_s {b L : Int32} {k : Nat} : dcS b L (k + 1) = if absP (amQ b (dcS b L k) - L) ≤ absP (amQ b (nI (k + 1)) - L) then dcS b L k else nI (k + 1) := rfl
/-- the program's sign, by a level -/
def dcL (b L : Int32) : Int32 :=
  let sg := (L + 256 - 1) >>> (((9 : Int32) - b) &&& 31)
  let top := ((1 : Int32) <<< (b &&& 31)) - 1
  let y := if top < sg then top else sg
  if 0 < y then y else 0
theorem cl_toInt {l : Int} {k : Nat} (h : k < 100) : (nI k).toInt = (k : Int) := nI_toInt (by omega)
theorem am_1 : ∀ v, v < 2 → (amQ (nI 1) (nI v)).toInt = 256 * (v : Int) - 128 := by decide +kernel
theorem dcS_1 {L : Int32} (h1 : -1000000 ≤ L.toInt) (h2 : L.toInt ≤ 1000000) : ∀ k, k < 2 → ∃ c, c ≤ k ∧ dcS (nI 1) L k = nI c ∧ ((L.toInt + 255 < 256 ∧ c = 0) ∨ (256 ≤ L.toInt + 255 ∧ 256 * (k : Int) ≤ L.toInt + 255 ∧ c = k) ∨ (256 ≤ L.toInt + 255 ∧ L.toInt + 255 < 256 * (k : Int) ∧ 256 * (c : Int) ≤ L.toInt + 255 ∧ L.toInt + 255 < 256 * (c : Int) + 256))
  | 0, _ => ⟨0, Nat.le_refl 0, rfl, by omega⟩
  | k + 1, hk => by
    obtain ⟨c, hc, e, hcl⟩ := dcS_1 h1 h2 k (by omega)
    have a1 := am_1 c (by omega)
    have a2 := am_1 (k + 1) hk
    rw [dcS_s, e]
    have b1 := sub_toInt (x := amQ (nI 1) (nI c)) (y := L) (by omega) (by omega) (by omega) (by omega)
    have b2 := sub_toInt (x := amQ (nI 1) (nI (k + 1))) (y := L) (by omega) (by omega) (by omega) (by omega)
    have c1 := absP_toInt (x := amQ (nI 1) (nI c) - L) (by omega) (by omega)
    have c2 := absP_toInt (x := amQ (nI 1) (nI (k + 1)) - L) (by omega) (by omega)
    by_cases hq : absP (amQ (nI 1) (nI c) - L) ≤ absP (amQ (nI 1) (nI (k + 1)) - L)
    · rw [if_pos hq]
      have hq2 := Int32.le_iff_toInt_le.mp hq
      refine ⟨c, by omega, rfl, ?_⟩
      rw [c1, c2, b1, b2, a1, a2] at hq2
      split at hq2 <;> split at hq2 <;> omega
    · rw [if_neg hq]
      have hq2 : ¬ (absP (amQ (nI 1) (nI c) - L)).toInt ≤ (absP (amQ (nI 1) (nI (k + 1)) - L)).toInt := fun e => hq (Int32.le_iff_toInt_le.mpr e)
      refine ⟨k + 1, Nat.le_refl _, rfl, ?_⟩
      rw [c1, c2, b1, b2, a1, a2] at hq2
      split at hq2 <;> split at hq2 <;> omega
theorem dec_1 {L : Int32} (h1 : -1000000 ≤ L.toInt) (h2 : L.toInt ≤ 1000000) : dcS (nI 1) L 1 = dcL (nI 1) L := by
  obtain ⟨c, hc, e, hcl⟩ := dcS_1 h1 h2 1 (by decide)
  rw [e]
  have e0 : ((0 : Int32)).toInt = 0 := by decide
  have s1 := add_toInt (x := L) (y := 256) (by omega) (by omega) (by decide) (by decide)
  have t1 : ((256 : Int32)).toInt = 256 := by decide
  have t2 : ((1 : Int32)).toInt = 1 := by decide
  have s2 := sub_toInt (x := L + 256) (y := 1) (by omega) (by omega) (by decide) (by decide)
  have s3 : ((L + 256 - 1) >>> (((9 : Int32) - nI 1) &&& 31)).toInt = (L.toInt + 255) / 256 := by
    rw [pk_shr _ _ 8 (by decide), s2, s1, t1, t2, Int.shiftRight_eq_div_pow]
    congr 1
    omega
  have s4 : (((1 : Int32) <<< (nI 1 &&& 31)) - 1).toInt = 1 := by decide
  have hc2 := cl_toInt (l := 0) (k := c) (by omega)
  unfold dcL
  apply Int32.toInt_inj.mp
  rw [hc2]
  by_cases q1 : (((1 : Int32) <<< (nI 1 &&& 31)) - 1) < ((L + 256 - 1) >>> (((9 : Int32) - nI 1) &&& 31))
  · have q2 := Int32.lt_iff_toInt_lt.mp q1
    simp only [if_pos q1]
    rw [if_pos (by decide), s4]
    omega
  · have q2 : ¬ (((1 : Int32) <<< (nI 1 &&& 31)) - 1).toInt < ((L + 256 - 1) >>> (((9 : Int32) - nI 1) &&& 31)).toInt := fun e => q1 (Int32.lt_iff_toInt_lt.mpr e)
    simp only [if_neg q1]
    by_cases q3 : 0 < ((L + 256 - 1) >>> (((9 : Int32) - nI 1) &&& 31))
    · have q4 := Int32.lt_iff_toInt_lt.mp q3
      rw [if_pos q3, s3]
      omega
    · have q4 : ¬ ((0 : Int32)).toInt < ((L + 256 - 1) >>> (((9 : Int32) - nI 1) &&& 31)).toInt := fun e => q3 (Int32.lt_iff_toInt_lt.mpr e)
      rw [if_neg q3, e0]
      omega
theorem am_2 : ∀ v, v < 4 → (amQ (nI 2) (nI v)).toInt = 128 * (v : Int) - 192 := by decide +kernel
theorem dcS_2 {L : Int32} (h1 : -1000000 ≤ L.toInt) (h2 : L.toInt ≤ 1000000) : ∀ k, k < 4 → ∃ c, c ≤ k ∧ dcS (nI 2) L k = nI c ∧ ((L.toInt + 255 < 128 ∧ c = 0) ∨ (128 ≤ L.toInt + 255 ∧ 128 * (k : Int) ≤ L.toInt + 255 ∧ c = k) ∨ (128 ≤ L.toInt + 255 ∧ L.toInt + 255 < 128 * (k : Int) ∧ 128 * (c : Int) ≤ L.toInt + 255 ∧ L.toInt + 255 < 128 * (c : Int) + 128))
  | 0, _ => ⟨0, Nat.le_refl 0, rfl, by omega⟩
  | k + 1, hk => by
    obtain ⟨c, hc, e, hcl⟩ := dcS_2 h1 h2 k (by omega)
    have a1 := am_2 c (by omega)
    have a2 := am_2 (k + 1) hk
    rw [dcS_s, e]
    have b1 := sub_toInt (x := amQ (nI 2) (nI c)) (y := L) (by omega) (by omega) (by omega) (by omega)
    have b2 := sub_toInt (x := amQ (nI 2) (nI (k + 1))) (y := L) (by omega) (by omega) (by omega) (by omega)
    have c1 := absP_toInt (x := amQ (nI 2) (nI c) - L) (by omega) (by omega)
    have c2 := absP_toInt (x := amQ (nI 2) (nI (k + 1)) - L) (by omega) (by omega)
    by_cases hq : absP (amQ (nI 2) (nI c) - L) ≤ absP (amQ (nI 2) (nI (k + 1)) - L)
    · rw [if_pos hq]
      have hq2 := Int32.le_iff_toInt_le.mp hq
      refine ⟨c, by omega, rfl, ?_⟩
      rw [c1, c2, b1, b2, a1, a2] at hq2
      split at hq2 <;> split at hq2 <;> omega
    · rw [if_neg hq]
      have hq2 : ¬ (absP (amQ (nI 2) (nI c) - L)).toInt ≤ (absP (amQ (nI 2) (nI (k + 1)) - L)).toInt := fun e => hq (Int32.le_iff_toInt_le.mpr e)
      refine ⟨k + 1, Nat.le_refl _, rfl, ?_⟩
      rw [c1, c2, b1, b2, a1, a2] at hq2
      split at hq2 <;> split at hq2 <;> omega
theorem dec_2 {L : Int32} (h1 : -1000000 ≤ L.toInt) (h2 : L.toInt ≤ 1000000) : dcS (nI 2) L 3 = dcL (nI 2) L := by
  obtain ⟨c, hc, e, hcl⟩ := dcS_2 h1 h2 3 (by decide)
  rw [e]
  have e0 : ((0 : Int32)).toInt = 0 := by decide
  have s1 := add_toInt (x := L) (y := 256) (by omega) (by omega) (by decide) (by decide)
  have t1 : ((256 : Int32)).toInt = 256 := by decide
  have t2 : ((1 : Int32)).toInt = 1 := by decide
  have s2 := sub_toInt (x := L + 256) (y := 1) (by omega) (by omega) (by decide) (by decide)
  have s3 : ((L + 256 - 1) >>> (((9 : Int32) - nI 2) &&& 31)).toInt = (L.toInt + 255) / 128 := by
    rw [pk_shr _ _ 7 (by decide), s2, s1, t1, t2, Int.shiftRight_eq_div_pow]
    congr 1
    omega
  have s4 : (((1 : Int32) <<< (nI 2 &&& 31)) - 1).toInt = 3 := by decide
  have hc2 := cl_toInt (l := 0) (k := c) (by omega)
  unfold dcL
  apply Int32.toInt_inj.mp
  rw [hc2]
  by_cases q1 : (((1 : Int32) <<< (nI 2 &&& 31)) - 1) < ((L + 256 - 1) >>> (((9 : Int32) - nI 2) &&& 31))
  · have q2 := Int32.lt_iff_toInt_lt.mp q1
    simp only [if_pos q1]
    rw [if_pos (by decide), s4]
    omega
  · have q2 : ¬ (((1 : Int32) <<< (nI 2 &&& 31)) - 1).toInt < ((L + 256 - 1) >>> (((9 : Int32) - nI 2) &&& 31)).toInt := fun e => q1 (Int32.lt_iff_toInt_lt.mpr e)
    simp only [if_neg q1]
    by_cases q3 : 0 < ((L + 256 - 1) >>> (((9 : Int32) - nI 2) &&& 31))
    · have q4 := Int32.lt_iff_toInt_lt.mp q3
      rw [if_pos q3, s3]
      omega
    · have q4 : ¬ ((0 : Int32)).toInt < ((L + 256 - 1) >>> (((9 : Int32) - nI 2) &&& 31)).toInt := fun e => q3 (Int32.lt_iff_toInt_lt.mpr e)
      rw [if_neg q3, e0]
      omega
theorem am_3 : ∀ v, v < 8 → (amQ (nI 3) (nI v)).toInt = 64 * (v : Int) - 224 := by decide +kernel
theorem dcS_3 {L : Int32} (h1 : -1000000 ≤ L.toInt) (h2 : L.toInt ≤ 1000000) : ∀ k, k < 8 → ∃ c, c ≤ k ∧ dcS (nI 3) L k = nI c ∧ ((L.toInt + 255 < 64 ∧ c = 0) ∨ (64 ≤ L.toInt + 255 ∧ 64 * (k : Int) ≤ L.toInt + 255 ∧ c = k) ∨ (64 ≤ L.toInt + 255 ∧ L.toInt + 255 < 64 * (k : Int) ∧ 64 * (c : Int) ≤ L.toInt + 255 ∧ L.toInt + 255 < 64 * (c : Int) + 64))
  | 0, _ => ⟨0, Nat.le_refl 0, rfl, by omega⟩
  | k + 1, hk => by
    obtain ⟨c, hc, e, hcl⟩ := dcS_3 h1 h2 k (by omega)
    have a1 := am_3 c (by omega)
    have a2 := am_3 (k + 1) hk
    rw [dcS_s, e]
    have b1 := sub_toInt (x := amQ (nI 3) (nI c)) (y := L) (by omega) (by omega) (by omega) (by omega)
    have b2 := sub_toInt (x := amQ (nI 3) (nI (k + 1))) (y := L) (by omega) (by omega) (by omega) (by omega)
    have c1 := absP_toInt (x := amQ (nI 3) (nI c) - L) (by omega) (by omega)
    have c2 := absP_toInt (x := amQ (nI 3) (nI (k + 1)) - L) (by omega) (by omega)
    by_cases hq : absP (amQ (nI 3) (nI c) - L) ≤ absP (amQ (nI 3) (nI (k + 1)) - L)
    · rw [if_pos hq]
      have hq2 := Int32.le_iff_toInt_le.mp hq
      refine ⟨c, by omega, rfl, ?_⟩
      rw [c1, c2, b1, b2, a1, a2] at hq2
      split at hq2 <;> split at hq2 <;> omega
    · rw [if_neg hq]
      have hq2 : ¬ (absP (amQ (nI 3) (nI c) - L)).toInt ≤ (absP (amQ (nI 3) (nI (k + 1)) - L)).toInt := fun e => hq (Int32.le_iff_toInt_le.mpr e)
      refine ⟨k + 1, Nat.le_refl _, rfl, ?_⟩
      rw [c1, c2, b1, b2, a1, a2] at hq2
      split at hq2 <;> split at hq2 <;> omega
theorem dec_3 {L : Int32} (h1 : -1000000 ≤ L.toInt) (h2 : L.toInt ≤ 1000000) : dcS (nI 3) L 7 = dcL (nI 3) L := by
  obtain ⟨c, hc, e, hcl⟩ := dcS_3 h1 h2 7 (by decide)
  rw [e]
  have e0 : ((0 : Int32)).toInt = 0 := by decide
  have s1 := add_toInt (x := L) (y := 256) (by omega) (by omega) (by decide) (by decide)
  have t1 : ((256 : Int32)).toInt = 256 := by decide
  have t2 : ((1 : Int32)).toInt = 1 := by decide
  have s2 := sub_toInt (x := L + 256) (y := 1) (by omega) (by omega) (by decide) (by decide)
  have s3 : ((L + 256 - 1) >>> (((9 : Int32) - nI 3) &&& 31)).toInt = (L.toInt + 255) / 64 := by
    rw [pk_shr _ _ 6 (by decide), s2, s1, t1, t2, Int.shiftRight_eq_div_pow]
    congr 1
    omega
  have s4 : (((1 : Int32) <<< (nI 3 &&& 31)) - 1).toInt = 7 := by decide
  have hc2 := cl_toInt (l := 0) (k := c) (by omega)
  unfold dcL
  apply Int32.toInt_inj.mp
  rw [hc2]
  by_cases q1 : (((1 : Int32) <<< (nI 3 &&& 31)) - 1) < ((L + 256 - 1) >>> (((9 : Int32) - nI 3) &&& 31))
  · have q2 := Int32.lt_iff_toInt_lt.mp q1
    simp only [if_pos q1]
    rw [if_pos (by decide), s4]
    omega
  · have q2 : ¬ (((1 : Int32) <<< (nI 3 &&& 31)) - 1).toInt < ((L + 256 - 1) >>> (((9 : Int32) - nI 3) &&& 31)).toInt := fun e => q1 (Int32.lt_iff_toInt_lt.mpr e)
    simp only [if_neg q1]
    by_cases q3 : 0 < ((L + 256 - 1) >>> (((9 : Int32) - nI 3) &&& 31))
    · have q4 := Int32.lt_iff_toInt_lt.mp q3
      rw [if_pos q3, s3]
      omega
    · have q4 : ¬ ((0 : Int32)).toInt < ((L + 256 - 1) >>> (((9 : Int32) - nI 3) &&& 31)).toInt := fun e => q3 (Int32.lt_iff_toInt_lt.mpr e)
      rw [if_neg q3, e0]
      omega
theorem am_4 : ∀ v, v < 16 → (amQ (nI 4) (nI v)).toInt = 32 * (v : Int) - 240 := by decide +kernel
theorem dcS_4 {L : Int32} (h1 : -1000000 ≤ L.toInt) (h2 : L.toInt ≤ 1000000) : ∀ k, k < 16 → ∃ c, c ≤ k ∧ dcS (nI 4) L k = nI c ∧ ((L.toInt + 255 < 32 ∧ c = 0) ∨ (32 ≤ L.toInt + 255 ∧ 32 * (k : Int) ≤ L.toInt + 255 ∧ c = k) ∨ (32 ≤ L.toInt + 255 ∧ L.toInt + 255 < 32 * (k : Int) ∧ 32 * (c : Int) ≤ L.toInt + 255 ∧ L.toInt + 255 < 32 * (c : Int) + 32))
  | 0, _ => ⟨0, Nat.le_refl 0, rfl, by omega⟩
  | k + 1, hk => by
    obtain ⟨c, hc, e, hcl⟩ := dcS_4 h1 h2 k (by omega)
    have a1 := am_4 c (by omega)
    have a2 := am_4 (k + 1) hk
    rw [dcS_s, e]
    have b1 := sub_toInt (x := amQ (nI 4) (nI c)) (y := L) (by omega) (by omega) (by omega) (by omega)
    have b2 := sub_toInt (x := amQ (nI 4) (nI (k + 1))) (y := L) (by omega) (by omega) (by omega) (by omega)
    have c1 := absP_toInt (x := amQ (nI 4) (nI c) - L) (by omega) (by omega)
    have c2 := absP_toInt (x := amQ (nI 4) (nI (k + 1)) - L) (by omega) (by omega)
    by_cases hq : absP (amQ (nI 4) (nI c) - L) ≤ absP (amQ (nI 4) (nI (k + 1)) - L)
    · rw [if_pos hq]
      have hq2 := Int32.le_iff_toInt_le.mp hq
      refine ⟨c, by omega, rfl, ?_⟩
      rw [c1, c2, b1, b2, a1, a2] at hq2
      split at hq2 <;> split at hq2 <;> omega
    · rw [if_neg hq]
      have hq2 : ¬ (absP (amQ (nI 4) (nI c) - L)).toInt ≤ (absP (amQ (nI 4) (nI (k + 1)) - L)).toInt := fun e => hq (Int32.le_iff_toInt_le.mpr e)
      refine ⟨k + 1, Nat.le_refl _, rfl, ?_⟩
      rw [c1, c2, b1, b2, a1, a2] at hq2
      split at hq2 <;> split at hq2 <;> omega
theorem dec_4 {L : Int32} (h1 : -1000000 ≤ L.toInt) (h2 : L.toInt ≤ 1000000) : dcS (nI 4) L 15 = dcL (nI 4) L := by
  obtain ⟨c, hc, e, hcl⟩ := dcS_4 h1 h2 15 (by decide)
  rw [e]
  have e0 : ((0 : Int32)).toInt = 0 := by decide
  have s1 := add_toInt (x := L) (y := 256) (by omega) (by omega) (by decide) (by decide)
  have t1 : ((256 : Int32)).toInt = 256 := by decide
  have t2 : ((1 : Int32)).toInt = 1 := by decide
  have s2 := sub_toInt (x := L + 256) (y := 1) (by omega) (by omega) (by decide) (by decide)
  have s3 : ((L + 256 - 1) >>> (((9 : Int32) - nI 4) &&& 31)).toInt = (L.toInt + 255) / 32 := by
    rw [pk_shr _ _ 5 (by decide), s2, s1, t1, t2, Int.shiftRight_eq_div_pow]
    congr 1
    omega
  have s4 : (((1 : Int32) <<< (nI 4 &&& 31)) - 1).toInt = 15 := by decide
  have hc2 := cl_toInt (l := 0) (k := c) (by omega)
  unfold dcL
  apply Int32.toInt_inj.mp
  rw [hc2]
  by_cases q1 : (((1 : Int32) <<< (nI 4 &&& 31)) - 1) < ((L + 256 - 1) >>> (((9 : Int32) - nI 4) &&& 31))
  · have q2 := Int32.lt_iff_toInt_lt.mp q1
    simp only [if_pos q1]
    rw [if_pos (by decide), s4]
    omega
  · have q2 : ¬ (((1 : Int32) <<< (nI 4 &&& 31)) - 1).toInt < ((L + 256 - 1) >>> (((9 : Int32) - nI 4) &&& 31)).toInt := fun e => q1 (Int32.lt_iff_toInt_lt.mpr e)
    simp only [if_neg q1]
    by_cases q3 : 0 < ((L + 256 - 1) >>> (((9 : Int32) - nI 4) &&& 31))
    · have q4 := Int32.lt_iff_toInt_lt.mp q3
      rw [if_pos q3, s3]
      omega
    · have q4 : ¬ ((0 : Int32)).toInt < ((L + 256 - 1) >>> (((9 : Int32) - nI 4) &&& 31)).toInt := fun e => q3 (Int32.lt_iff_toInt_lt.mpr e)
      rw [if_neg q3, e0]
      omega
theorem dec_0 {L : Int32} : dcS (nI 0) L 0 = dcL (nI 0) L := by
  unfold dcL
  have e : (((1 : Int32) <<< (nI 0 &&& 31)) - 1) = 0 := by decide
  simp only [e]
  by_cases q1 : 0 < ((L + 256 - 1) >>> (((9 : Int32) - nI 0) &&& 31))
  · simp only [if_pos q1]; rfl
  · simp only [if_neg q1]; rfl
theorem dec_all {L : Int32} {n : Nat} (hn : n ≤ 4) (h1 : -1000000 ≤ L.toInt) (h2 : L.toInt ≤ 1000000) : dcS (nI n) L (2 ^ n - 1) = dcL (nI n) L := by
  rcases (show n = 0 ∨ n = 1 ∨ n = 2 ∨ n = 3 ∨ n = 4 by omega) with rfl | rfl | rfl | rfl | rfl
  · exact dec_0
  · exact dec_1 h1 h2
  · exact dec_2 h1 h2
  · exact dec_3 h1 h2
  · exact dec_4 h1 h2

def onQ (x : Int32) : Int32 := 0 + ((x >>> ((0 : Int32) &&& 31)) &&& 1) + ((x >>> ((1 : Int32) &&& 31)) &&& 1) + ((x >>> ((2 : Int32) &&& 31)) &&& 1) + ((x >>> ((3 : Int32) &&& 31)) &&& 1)
theorem on_bc : ∀ k, k < 16 → onQ (nI k) = bcP (nI k) := by decide +kernel
/-- the level of a sign that is heard -/
def lvP (f : TF) (r : Int32) : Int32 := (r - (f 8 * f 16 + f 9 * f 17) / 64) * 64 / f 7
theorem decP_L {f : TF} {r : Int32} : decP f r = dcL (f 10) (lvP f r) := rfl
/-- the level is no monster -/
def DR (f : TF) (r : Int32) : Prop := -1000000 ≤ (lvP f r).toInt ∧ (lvP f r).toInt ≤ 1000000
theorem shl_n : ∀ n, n < 5 → (1 : Int32) <<< (nI n &&& 31) = nI (2 ^ n) := by decide +kernel
theorem p2_n : ∀ n, n < 5 → 1 ≤ 2 ^ n ∧ 2 ^ n ≤ 16 := by decide
def pTak (p : PS) (a n : Nat) : PS := pBits p a (takeQ n 0 (pW p a).2.1).2
theorem takeQ_s {n : Nat} {sg : Int32} {bs : List Int32} : takeQ (n + 1) sg bs = takeQ n (2 * sg + (tk1 bs).1) (tk1 bs).2 := by
  cases bs with
  | nil => show takeQ n (2 * sg) [] = takeQ n (2 * sg + 0) []; rw [Int32.add_zero]
  | cons b bs => rfl
theorem pBits_W {p : PS} {a : Nat} {bs : List Int32} : (pW (pBits p a bs) a).2.1 = bs := by unfold pBits; rw [pW_set]
theorem pBits_2 {p : PS} {a : Nat} {bs cs : List Int32} : pBits (pBits p a bs) a cs = pBits p a cs := by
  unfold pBits
  rw [pW_set, pSet_set]
theorem upd_add0 {g : TF} {k : Nat} {x : Int32} (h : x = g k) : upd g k (x + 0) = g := by
  funext j
  unfold upd
  split
  · rename_i e; rw [h, Int32.add_zero, e]
  · rfl
theorem sgc_00 {g : TF} : upd (upd (upd g (7 + 7) (g 14 + 0)) (7 + 8) (g 15 + 0)) (7 + 5) (g 12 + 0) = g := by
  rw [show upd g (7 + 7) (g 14 + 0) = g from upd_add0 rfl, show upd g (7 + 8) (g 15 + 0) = g from upd_add0 rfl]
  exact upd_add0 rfl
theorem sgc_10 {g : TF} : upd (upd (upd g (7 + 7) (g 14 + 1)) (7 + 8) (g 15 + 0)) (7 + 5) (g 12 + 0) = upd g 14 (g 14 + 1) := by
  rw [show upd (upd g (7 + 7) (g 14 + 1)) (7 + 8) (g 15 + 0) = upd g 14 (g 14 + 1) from upd_add0 rfl]
  exact upd_add0 rfl
theorem sgc_01 {g : TF} : upd (upd (upd g (7 + 7) (g 14 + 0)) (7 + 8) (g 15 + 1)) (7 + 5) (g 12 + 1) = upd (upd g 15 (g 15 + 1)) 12 (g 12 + 1) := by
  rw [show upd g (7 + 7) (g 14 + 0) = g from upd_add0 rfl]
theorem amQ_P {n : Nat} {v : Int32} (hn : n ≤ 4) (h0 : n = 0 → v = 0) : amQ (nI n) v = ampP (nI n) v := by
  unfold amQ
  by_cases e : n = 0
  · rw [h0 e]
    subst e
    decide
  · rw [if_neg (nI_ne0 (by omega) (by omega))]
theorem pT_rest2 {q : PS} {v : Int32} {a t : Nat} {f : TF} (ha : a < 2) : (pW (pTone (v, q.2) a t f) a).2 = (pW q a).2 := pT_rest (p := (v, q.2)) ha ha
theorem dec_n0 {f : TF} {r : Int32} (h : f 10 = nI 0) : decP f r = 0 := by
  rw [decP_L, h, ← dec_0]
  rfl
theorem pTak_1 {p : PS} {a n : Nat} : (pW (pTak p a n) a).1 = (pW p a).1 := by unfold pTak pBits; rw [pW_set]
theorem pTak_2 {p : PS} {a n : Nat} : (pW (pTak p a n) a).2.2 = (pW p a).2.2 := by unfold pTak pBits; rw [pW_set]
theorem takeQ_0 {n : Nat} {bs : List Int32} (h : n = 0) : (takeQ n 0 bs).1 = 0 := by subst h; rfl
/-- what a sign makes of the state, the latest bits apart -/
def pSnt (p : PS) (a t n : Nat) (H W : Int32) : PS := pCnt (pTone (drwS p.1, (pTak p a n).2) a t (cntB (passP ((pW p a).1 t) (ampP ((pW p a).1 t 10) (takeQ n 0 (pW p a).2.1).1) (ampP ((pW p a).1 t 10) H)) W)) a ((pW p a).2.2.2.1 + (pW p a).1 t 10) ((pW p a).2.2.2.2 + W)
