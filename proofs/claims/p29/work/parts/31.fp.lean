/-! doubles: shares of 0 to 1, and their bits. A double's bits are E * 2^52 + T. -/
theorem fp_t : FP.Core.b64.tails = 4503599627370496 := by decide +kernel
theorem fp_x : FP.Core.b64.exps = 2048 := by decide +kernel
theorem fp_q : FP.Core.b64.qmin = -1074 := by decide +kernel
theorem fp_Q : FP.Core.b64.qmax = 971 := by decide +kernel
theorem fp_p : (FP.Core.b64.p : Int) = 53 := rfl
theorem fp_P : 2 ^ FP.Core.b64.p = 9007199254740992 := by decide +kernel
theorem fp_52 : (2 : Nat) ^ 52 = 4503599627370496 := by decide +kernel
theorem fp_53 : (2 : Nat) ^ 53 = 9007199254740992 := by decide +kernel
theorem fp_dec {E T : Nat} (hT : T < 4503599627370496) (h1 : 1 ≤ E) (h2 : E ≤ 2046) : FP.Core.decode FP.Core.b64 (E * 4503599627370496 + T) = .fin false (4503599627370496 + T) ((E : Int) - 1075) := by
  unfold FP.Core.decode FP.Core.fieldE FP.Core.fieldT FP.Core.fieldS
  rw [fp_t, fp_x, fp_q]
  have e1 : (E * 4503599627370496 + T) / 4503599627370496 = E := by omega
  have e2 : (E * 4503599627370496 + T) % 4503599627370496 = T := by omega
  have e3 : (E / 2048 % 2 == 1) = false := by rw [show E / 2048 = 0 by omega]; rfl
  have e4 : E % 2048 = E := by omega
  rw [e1, e2, e3, e4, if_neg (by omega), if_neg (by omega), show (-1074 : Int) + ((E : Int) - 1) = (E : Int) - 1075 by omega]
theorem fp_dec0 : FP.Core.decode FP.Core.b64 0 = .fin false 0 (-1074) := by decide +kernel
theorem fp_enc {c : Nat} {q : Int} (hc : 4503599627370496 ≤ c) (hq : -1074 ≤ q) : FP.Core.encode FP.Core.b64 (.fin false c q) = (q + 1075).toNat * 4503599627370496 + (c - 4503599627370496) := by
  show (if c < FP.Core.b64.tails then FP.Core.assemble FP.Core.b64 false 0 c else FP.Core.assemble FP.Core.b64 false ((q - FP.Core.b64.qmin).toNat + 1) (c - FP.Core.b64.tails)) = _
  rw [fp_t, if_neg (by omega), fp_q]
  unfold FP.Core.assemble
  rw [fp_t, fp_x]
  show (0 * 2048 + ((q - -1074).toNat + 1)) * 4503599627370496 + (c - 4503599627370496) = _
  rw [show 0 * 2048 + ((q - -1074).toNat + 1) = (q + 1075).toNat by omega]
theorem fp_enc0 {q : Int} : FP.Core.encode FP.Core.b64 (.fin false 0 q) = 0 := by
  show (if 0 < FP.Core.b64.tails then FP.Core.assemble FP.Core.b64 false 0 0 else FP.Core.assemble FP.Core.b64 false ((q - FP.Core.b64.qmin).toNat + 1) (0 - FP.Core.b64.tails)) = _
  rw [fp_t, if_pos (by decide)]
  unfold FP.Core.assemble
  rw [fp_t, fp_x]
  rfl
theorem fp_lead1 {N : Nat} (h : N ≠ 0) : FP.Core.leading N 1 = (N.log2 : Int) := by
  have e1 : Nat.log2 1 = 0 := by decide +kernel
  show (if 1 * 2 ^ ((N.log2 : Int) - (Nat.log2 1 : Nat)).toNat ≤ N * 2 ^ (-((N.log2 : Int) - (Nat.log2 1 : Nat))).toNat then (N.log2 : Int) - (Nat.log2 1 : Nat) else (N.log2 : Int) - (Nat.log2 1 : Nat) - 1) = _
  rw [e1, show (N.log2 : Int) - ((0 : Nat) : Int) = (N.log2 : Int) by omega, if_pos]
  rw [show ((N.log2 : Int)).toNat = N.log2 by omega, show (-(N.log2 : Int)).toNat = 0 by omega, Nat.one_mul, Nat.pow_zero, Nat.mul_one]
  exact Nat.log2_self_le h
theorem fp_dn {m k : Nat} {e : Int} (h1 : 4503599627370496 ≤ m) (h2 : m < 9007199254740992) (h3 : -1074 ≤ (k : Int) + e) (h4 : (k : Int) + e ≤ 971) : FP.Core.roundRatio FP.Core.b64 false (m * 2 ^ k) 1 e = .fin false m ((k : Int) + e) := by
  have hp : 0 < 2 ^ k := Nat.two_pow_pos k
  have hN : m * 2 ^ k ≠ 0 := Nat.mul_ne_zero (by omega) (by omega)
  have hlog : (m * 2 ^ k).log2 = 52 + k := by
    refine (Nat.log2_eq_iff hN).mpr ⟨?_, ?_⟩
    · rw [Nat.pow_add, fp_52]
      exact Nat.mul_le_mul_right _ h1
    · rw [show 52 + k + 1 = 53 + k by omega, Nat.pow_add, fp_53]
      exact Nat.mul_lt_mul_of_pos_right h2 hp
  unfold FP.Core.roundRatio
  rw [if_neg hN]
  have hq : FP.Core.quantum FP.Core.b64 (m * 2 ^ k) 1 e = (k : Int) + e := by
    unfold FP.Core.quantum
    rw [fp_lead1 hN, hlog, fp_q, fp_p]
    omega
  rw [hq]
  unfold FP.Core.roundAt FP.Core.unitsNum FP.Core.unitsDen
  rw [show (e - ((k : Int) + e)).toNat = 0 by omega, show ((k : Int) + e - e).toNat = k by omega, Nat.pow_zero, Nat.mul_one, Nat.one_mul]
  have hn : FP.Core.nearest (m * 2 ^ k) (2 ^ k) = m := by
    unfold FP.Core.nearest
    rw [Nat.mul_mod_left, Nat.mul_div_cancel _ hp, if_pos (by omega)]
  rw [hn]
  unfold FP.Core.settle FP.Core.bound
  rw [fp_P, fp_Q, if_pos h2, if_pos h4]
theorem fp_upm {N : Nat} (h0 : N ≠ 0) (h2 : N.log2 ≤ 52) : 4503599627370496 ≤ N * 2 ^ (52 - N.log2) ∧ N * 2 ^ (52 - N.log2) < 9007199254740992 := by
  have a1 : 2 ^ N.log2 * 2 ^ (52 - N.log2) = 4503599627370496 := by rw [← Nat.pow_add, show N.log2 + (52 - N.log2) = 52 by omega, fp_52]
  have a2 : 2 ^ (N.log2 + 1) * 2 ^ (52 - N.log2) = 9007199254740992 := by rw [← Nat.pow_add, show N.log2 + 1 + (52 - N.log2) = 53 by omega, fp_53]
  refine ⟨?_, ?_⟩
  · rw [← a1]
    exact Nat.mul_le_mul_right _ (Nat.log2_self_le h0)
  · rw [← a2]
    exact Nat.mul_lt_mul_of_pos_right Nat.lt_log2_self (Nat.two_pow_pos _)
theorem fp_up {N : Nat} {e : Int} (h0 : N ≠ 0) (h2 : N.log2 ≤ 52) (h3 : -1074 ≤ (N.log2 : Int) + e - 52) (h4 : (N.log2 : Int) + e - 52 ≤ 971) : FP.Core.roundRatio FP.Core.b64 false N 1 e = .fin false (N * 2 ^ (52 - N.log2)) ((N.log2 : Int) + e - 52) := by
  unfold FP.Core.roundRatio
  rw [if_neg h0]
  have hq : FP.Core.quantum FP.Core.b64 N 1 e = (N.log2 : Int) + e - 52 := by
    unfold FP.Core.quantum
    rw [fp_lead1 h0, fp_q, fp_p]
    omega
  rw [hq]
  unfold FP.Core.roundAt FP.Core.unitsNum FP.Core.unitsDen
  rw [show (e - ((N.log2 : Int) + e - 52)).toNat = 52 - N.log2 by omega, show ((N.log2 : Int) + e - 52 - e).toNat = 0 by omega, Nat.pow_zero, Nat.one_mul]
  have hn : FP.Core.nearest (N * 2 ^ (52 - N.log2)) 1 = N * 2 ^ (52 - N.log2) := by
    unfold FP.Core.nearest
    rw [Nat.mod_one, Nat.div_one, if_pos (by decide)]
  rw [hn]
  unfold FP.Core.settle FP.Core.bound
  rw [fp_P, fp_Q, if_pos (fp_upm h0 h2).2, if_pos h4]
theorem fp_of {n : Nat} (h : n < 18446744073709551616) : (UInt64.ofNat n).toNat = n := UInt64.toNat_ofNat_of_lt' h
/-- a product with a power of two -/
theorem fp_mul {x y : UInt64} {E F T : Nat} (hx : x.toNat = E * 4503599627370496 + T) (hy : y.toNat = F * 4503599627370496) (hT : T < 4503599627370496) (h1 : 1 ≤ E) (h2 : E ≤ 1100) (h3 : 1023 ≤ F) (h4 : F ≤ 1100) : (FP.dmul x y).toNat = (E + F - 1023) * 4503599627370496 + T := by
  show (UInt64.ofNat (FP.Core.encode FP.Core.b64 (FP.Core.round FP.Core.b64 (FP.Core.exactProduct (FP.Core.decode FP.Core.b64 x.toNat) (FP.Core.decode FP.Core.b64 y.toNat))))).toNat = _
  rw [hx, hy, fp_dec hT h1 (by omega), show F * 4503599627370496 = F * 4503599627370496 + 0 from (Nat.add_zero _).symm, fp_dec (by decide) (by omega) (by omega)]
  show (UInt64.ofNat (FP.Core.encode FP.Core.b64 (FP.Core.roundRatio FP.Core.b64 false ((4503599627370496 + T) * (4503599627370496 + 0)) 1 (((E : Int) - 1075) + ((F : Int) - 1075))))).toNat = _
  rw [show (4503599627370496 + T) * (4503599627370496 + 0) = (4503599627370496 + T) * 2 ^ 52 from by rw [fp_52], fp_dn (by omega) (by omega) (by omega) (by omega), fp_enc (by omega) (by omega), fp_of (by omega)]
  omega
theorem fp_cmp1 {x : UInt64} {E T : Nat} (hx : x.toNat = E * 4503599627370496 + T) (hT : T < 4503599627370496) (h1 : 1 ≤ E) (h2 : E ≤ 1022) : FP.dcmp x FP.dconst1 = some .lt := by
  show FP.Core.order (FP.Core.decode FP.Core.b64 x.toNat) (FP.Core.decode FP.Core.b64 FP.dconst1.toNat) = _
  rw [hx, fp_dec hT h1 (by omega), show FP.dconst1.toNat = 1023 * 4503599627370496 + 0 from by decide +kernel, fp_dec (by decide) (by decide) (by decide)]
  have hm : min ((E : Int) - 1075) (((1023 : Nat) : Int) - 1075) = (E : Int) - 1075 := by omega
  show some (compareOfLessAndEq (FP.Core.signed false (FP.Core.inUnits (4503599627370496 + T) ((E : Int) - 1075) (min ((E : Int) - 1075) (((1023 : Nat) : Int) - 1075)))) (FP.Core.signed false (FP.Core.inUnits (4503599627370496 + 0) (((1023 : Nat) : Int) - 1075) (min ((E : Int) - 1075) (((1023 : Nat) : Int) - 1075))))) = _
  rw [hm]
  unfold FP.Core.inUnits
  rw [show ((E : Int) - 1075 - ((E : Int) - 1075)).toNat = 0 by omega, show ((((1023 : Nat) : Int) - 1075) - ((E : Int) - 1075)).toNat = (1022 - E) + 1 by omega, Nat.pow_zero, Nat.mul_one, Nat.pow_succ]
  have hp : 0 < 2 ^ (1022 - E) := Nat.two_pow_pos _
  have hlt : 4503599627370496 + T < (4503599627370496 + 0) * (2 ^ (1022 - E) * 2) := by omega
  unfold compareOfLessAndEq
  rw [if_pos (by show ((4503599627370496 + T : Nat) : Int) < (((4503599627370496 + 0) * (2 ^ (1022 - E) * 2) : Nat) : Int); exact Int.ofNat_lt.mpr hlt)]
theorem fp_cmp1g {x : UInt64} {T : Nat} (hx : x.toNat = 1023 * 4503599627370496 + T) (hT : T < 4503599627370496) : FP.dcmp x FP.dconst1 = some .eq ∨ FP.dcmp x FP.dconst1 = some .gt := by
  have e : FP.dcmp x FP.dconst1 = some (compareOfLessAndEq (((4503599627370496 + T) * 1 : Nat) : Int) (((4503599627370496 + 0) * 1 : Nat) : Int)) := by
    show FP.Core.order (FP.Core.decode FP.Core.b64 x.toNat) (FP.Core.decode FP.Core.b64 FP.dconst1.toNat) = _
    rw [hx, fp_dec hT (by decide) (by decide), show FP.dconst1.toNat = 1023 * 4503599627370496 + 0 from by decide +kernel, fp_dec (by decide) (by decide) (by decide)]
    rfl
  rw [e]
  unfold compareOfLessAndEq
  rw [if_neg (by omega)]
  split
  · exact Or.inl rfl
  · exact Or.inr rfl
theorem fp_cmp0 {x : UInt64} {E T : Nat} (hx : x.toNat = E * 4503599627370496 + T) (hT : T < 4503599627370496) (h1 : 1 ≤ E) (h2 : E ≤ 1100) : FP.dcmp x FP.dconst0 = some .gt := by
  show FP.Core.order (FP.Core.decode FP.Core.b64 x.toNat) (FP.Core.decode FP.Core.b64 FP.dconst0.toNat) = _
  rw [hx, fp_dec hT h1 (by omega), show FP.dconst0.toNat = 0 from rfl, fp_dec0]
  show some (compareOfLessAndEq (FP.Core.signed false (FP.Core.inUnits (4503599627370496 + T) ((E : Int) - 1075) (min ((E : Int) - 1075) (-1074)))) (FP.Core.signed false (FP.Core.inUnits 0 (-1074) (min ((E : Int) - 1075) (-1074))))) = _
  unfold FP.Core.inUnits
  have hp : 0 < 2 ^ ((E : Int) - 1075 - min ((E : Int) - 1075) (-1074)).toNat := Nat.two_pow_pos _
  have h3 : 0 < (4503599627370496 + T) * 2 ^ ((E : Int) - 1075 - min ((E : Int) - 1075) (-1074)).toNat := Nat.mul_pos (by omega) hp
  rw [Nat.zero_mul]
  unfold compareOfLessAndEq
  rw [if_neg (by show ¬ (((4503599627370496 + T) * 2 ^ ((E : Int) - 1075 - min ((E : Int) - 1075) (-1074)).toNat : Nat) : Int) < ((0 : Nat) : Int); omega), if_neg (by show ¬ (((4503599627370496 + T) * 2 ^ ((E : Int) - 1075 - min ((E : Int) - 1075) (-1074)).toNat : Nat) : Int) = ((0 : Nat) : Int); omega)]
theorem fp_cmpx {x : UInt64} {s : Bool} {c : Nat} {q : Int} (hd : FP.Core.decode FP.Core.b64 x.toNat = .fin s c q) : FP.dcmp x x = some .eq := by
  show FP.Core.order (FP.Core.decode FP.Core.b64 x.toNat) (FP.Core.decode FP.Core.b64 x.toNat) = _
  rw [hd]
  show some (compareOfLessAndEq (FP.Core.signed s (FP.Core.inUnits c q (min q q))) (FP.Core.signed s (FP.Core.inUnits c q (min q q)))) = _
  unfold compareOfLessAndEq
  rw [if_neg (Int.lt_irrefl _), if_pos rfl]
/-- less one -/
theorem fp_sub1 {x : UInt64} {T : Nat} (hx : x.toNat = 1023 * 4503599627370496 + T) (hT : T < 4503599627370496) : (FP.dsub x FP.dconst1).toNat = FP.Core.encode FP.Core.b64 (FP.Core.roundRatio FP.Core.b64 false T 1 (-52)) % 18446744073709551616 := by
  show (UInt64.ofNat (FP.Core.encode FP.Core.b64 (FP.Core.round FP.Core.b64 (FP.Core.exactSum (FP.Core.decode FP.Core.b64 x.toNat) (FP.Core.negate (FP.Core.decode FP.Core.b64 FP.dconst1.toNat)))))).toNat = _
  rw [hx, fp_dec hT (by decide) (by decide), show FP.dconst1.toNat = 1023 * 4503599627370496 + 0 from by decide +kernel, fp_dec (by decide) (by decide) (by decide)]
  have hv : FP.Core.sumUnits false (4503599627370496 + T) (((1023 : Nat) : Int) - 1075) true (4503599627370496 + 0) (((1023 : Nat) : Int) - 1075) (min (((1023 : Nat) : Int) - 1075) (((1023 : Nat) : Int) - 1075)) = (T : Int) := by
    show (((4503599627370496 + T) * 1 : Nat) : Int) + -(((4503599627370496 + 0) * 1 : Nat) : Int) = (T : Int)
    omega
  show (UInt64.ofNat (FP.Core.encode FP.Core.b64 (FP.Core.round FP.Core.b64 (.fin (FP.Core.sumSign false (!false) (FP.Core.sumUnits false (4503599627370496 + T) (((1023 : Nat) : Int) - 1075) true (4503599627370496 + 0) (((1023 : Nat) : Int) - 1075) (min (((1023 : Nat) : Int) - 1075) (((1023 : Nat) : Int) - 1075)))) (FP.Core.sumUnits false (4503599627370496 + T) (((1023 : Nat) : Int) - 1075) true (4503599627370496 + 0) (((1023 : Nat) : Int) - 1075) (min (((1023 : Nat) : Int) - 1075) (((1023 : Nat) : Int) - 1075))).natAbs (-52))))).toNat = _
  rw [hv]
  have hs : FP.Core.sumSign false (!false) (T : Int) = false := by
    unfold FP.Core.sumSign
    split
    · rfl
    · exact decide_eq_false (by omega)
  rw [hs, Int.natAbs_natCast]
  rfl
theorem fp_sub1z {x : UInt64} (hx : x.toNat = 1023 * 4503599627370496 + 0) : FP.dsub x FP.dconst1 = 0 := by
  have e : (FP.dsub x FP.dconst1).toNat = 0 := by
    rw [fp_sub1 hx (by decide)]
    unfold FP.Core.roundRatio
    rw [if_pos rfl, fp_enc0]
  exact UInt64.toNat_inj.mp e
theorem fp_sub1p {x : UInt64} {T : Nat} (hx : x.toNat = 1023 * 4503599627370496 + T) (hT : T < 4503599627370496) (h0 : T ≠ 0) : T.log2 ≤ 51 ∧ (FP.dsub x FP.dconst1).toNat = (T.log2 + 971) * 4503599627370496 + (T * 2 ^ (52 - T.log2) - 4503599627370496) := by
  have hl : T.log2 < 52 := (Nat.log2_lt h0).mpr (by rw [fp_52]; exact hT)
  obtain ⟨b1, b2⟩ := fp_upm h0 (by omega)
  refine ⟨by omega, ?_⟩
  rw [fp_sub1 hx hT, fp_up h0 (by omega) (by omega) (by omega), fp_enc b1 (by omega)]
  omega
theorem fp_d2l {y : UInt64} {T : Nat} (hT : T < 4503599627370496) (h0 : T ≠ 0) (hl : T.log2 ≤ 51) (hy : y.toNat = (T.log2 + 1023) * 4503599627370496 + (T * 2 ^ (52 - T.log2) - 4503599627370496)) : FP.d2l y = Int64.ofInt (T : Int) := by
  obtain ⟨b1, b2⟩ := fp_upm h0 (show T.log2 ≤ 52 by omega)
  have hp : 0 < 2 ^ (52 - T.log2) := Nat.two_pow_pos _
  show Int64.ofInt (FP.Core.toInt (-2 ^ 63) (2 ^ 63 - 1) (FP.Core.decode FP.Core.b64 y.toNat)) = _
  rw [hy, fp_dec (by omega) (by omega) (by omega), show 4503599627370496 + (T * 2 ^ (52 - T.log2) - 4503599627370496) = T * 2 ^ (52 - T.log2) by omega]
  show Int64.ofInt (max (-2 ^ 63) (min (2 ^ 63 - 1) (FP.Core.truncate false (T * 2 ^ (52 - T.log2)) (((T.log2 + 1023 : Nat) : Int) - 1075)))) = _
  have ht : FP.Core.truncate false (T * 2 ^ (52 - T.log2)) (((T.log2 + 1023 : Nat) : Int) - 1075) = (T : Int) := by
    show ((T * 2 ^ (52 - T.log2) * 2 ^ (((T.log2 + 1023 : Nat) : Int) - 1075).toNat / 2 ^ (-(((T.log2 + 1023 : Nat) : Int) - 1075)).toNat : Nat) : Int) = _
    rw [show (((T.log2 + 1023 : Nat) : Int) - 1075).toNat = 0 by omega, show (-(((T.log2 + 1023 : Nat) : Int) - 1075)).toNat = 52 - T.log2 by omega, Nat.pow_zero, Nat.mul_one, Nat.mul_div_cancel _ hp]
  rw [ht]
  have e1 : min ((2 : Int) ^ 63 - 1) (T : Int) = (T : Int) := by omega
  have e2 : max (-(2 : Int) ^ 63) (T : Int) = (T : Int) := by omega
  rw [e1, e2]
/-- an int as a double -/
theorem fp_i2d {n : Nat} (h0 : n ≠ 0) (h : n < 1000000) : n.log2 ≤ 20 ∧ (FP.i2d (nI n)).toNat = (n.log2 + 1023) * 4503599627370496 + (n * 2 ^ (52 - n.log2) - 4503599627370496) := by
  have hl : n.log2 < 20 := (Nat.log2_lt h0).mpr (by omega)
  obtain ⟨b1, b2⟩ := fp_upm h0 (show n.log2 ≤ 52 by omega)
  refine ⟨by omega, ?_⟩
  show (UInt64.ofNat (FP.Core.encode FP.Core.b64 (FP.Core.roundRatio FP.Core.b64 (decide ((nI n).toInt < 0)) (nI n).toInt.natAbs 1 0))).toNat = _
  rw [nI_toInt (by omega), decide_eq_false (by omega), Int.natAbs_natCast, fp_up h0 (by omega) (by omega) (by omega), fp_enc b1 (by omega), fp_of (by omega)]
  omega
theorem fp_near {num den : Nat} : num / den ≤ FP.Core.nearest num den ∧ FP.Core.nearest num den ≤ num / den + 1 := by
  unfold FP.Core.nearest
  split
  · omega
  · split
    · omega
    · omega
theorem fp_mono {a c : Nat} (h0 : a ≠ 0) (h : a ≤ c) : a.log2 ≤ c.log2 := (Nat.le_log2 (by omega)).mpr (Nat.le_trans (Nat.log2_self_le h0) h)
/-- a quotient of what a share is made of -/
theorem fp_quo {m d : Nat} {e : Int} (m1 : 4503599627370496 ≤ m) (m2 : m < 9007199254740992) (d1 : 4503599627370496 ≤ d) (d2 : d < 9007199254740992) (he : -100 ≤ e) (he0 : e ≤ 0) (hmd : e = 0 → m ≤ d) : ∃ E T, FP.Core.encode FP.Core.b64 (FP.Core.roundRatio FP.Core.b64 false m d e) = E * 4503599627370496 + T ∧ T < 4503599627370496 ∧ 1 ≤ E ∧ E ≤ 1023 := by
  have lm : m.log2 = 52 := (Nat.log2_eq_iff (by omega)).mpr ⟨by rw [fp_52]; exact m1, by rw [fp_53]; exact m2⟩
  have ld : d.log2 = 52 := (Nat.log2_eq_iff (by omega)).mpr ⟨by rw [fp_52]; exact d1, by rw [fp_53]; exact d2⟩
  have hd0 : 0 < d := by omega
  have key : ∀ (K P r : Nat), P = 52 + K → K ≤ 1 → FP.Core.leading m d = -(K : Int) → r = FP.Core.nearest (m * 2 ^ P) d → 4503599627370496 ≤ r → r ≤ 9007199254740992 → (e = 0 → K = 0 → r < 9007199254740992) → ∃ E T, FP.Core.encode FP.Core.b64 (FP.Core.roundRatio FP.Core.b64 false m d e) = E * 4503599627370496 + T ∧ T < 4503599627370496 ∧ 1 ≤ E ∧ E ≤ 1023 := by
    intro K P r hP hK hL hr r1 r2 r3
    unfold FP.Core.roundRatio
    rw [if_neg (show ¬ m = 0 by omega)]
    have hq : FP.Core.quantum FP.Core.b64 m d e = e - (P : Int) := by
      unfold FP.Core.quantum
      rw [hL, fp_q, fp_p]
      omega
    rw [hq]
    unfold FP.Core.roundAt FP.Core.unitsNum FP.Core.unitsDen
    rw [show (e - (e - (P : Int))).toNat = P by omega, show (e - (P : Int) - e).toNat = 0 by omega, Nat.pow_zero, Nat.mul_one, ← hr]
    unfold FP.Core.settle FP.Core.bound
    rw [fp_P, fp_Q, fp_t]
    by_cases hr3 : r < 9007199254740992
    · rw [if_pos hr3, if_pos (by omega), fp_enc r1 (by omega)]
      exact ⟨_, _, rfl, by omega, by omega, by omega⟩
    · have hne : ¬ (e = 0 ∧ K = 0) := fun q => hr3 (r3 q.1 q.2)
      rw [if_neg hr3, if_pos (by omega), fp_enc (Nat.le_refl _) (by omega)]
      exact ⟨_, _, rfl, by omega, by omega, by omega⟩
  have hlead : FP.Core.leading m d = if d ≤ m then 0 else -1 := by
    show (if d * 2 ^ ((m.log2 : Int) - (d.log2 : Int)).toNat ≤ m * 2 ^ (-((m.log2 : Int) - (d.log2 : Int))).toNat then (m.log2 : Int) - (d.log2 : Int) else (m.log2 : Int) - (d.log2 : Int) - 1) = _
    rw [lm, ld]
    show (if d * 1 ≤ m * 1 then (0 : Int) else -1) = _
    rw [Nat.mul_one, Nat.mul_one]
  obtain ⟨n1, n2⟩ := fp_near (num := m * 2 ^ 52) (den := d)
  obtain ⟨n3, n4⟩ := fp_near (num := m * 2 ^ 53) (den := d)
  by_cases hdm : d ≤ m
  · have a1 : 4503599627370496 ≤ m * 2 ^ 52 / d := (Nat.le_div_iff_mul_le hd0).mpr (by rw [fp_52]; omega)
    have a2 : m * 2 ^ 52 / d < 9007199254740992 := (Nat.div_lt_iff_lt_mul hd0).mpr (by rw [fp_52]; omega)
    refine key 0 52 (FP.Core.nearest (m * 2 ^ 52) d) (by decide) (by decide) (by rw [hlead, if_pos hdm]; rfl) rfl (Nat.le_trans a1 n1) (Nat.le_trans n2 (Nat.succ_le_of_lt a2)) (fun h1 _ => ?_)
    have hm : m = d := by have := hmd h1; omega
    subst hm
    show FP.Core.nearest (m * 2 ^ 52) m < _
    unfold FP.Core.nearest
    rw [Nat.mul_mod_right, Nat.mul_div_cancel_left _ hd0, if_pos (by omega), fp_52]
    decide
  · have a1 : 4503599627370496 ≤ m * 2 ^ 53 / d := (Nat.le_div_iff_mul_le hd0).mpr (by rw [fp_53]; omega)
    have a2 : m * 2 ^ 53 / d < 9007199254740992 := (Nat.div_lt_iff_lt_mul hd0).mpr (by rw [fp_53]; omega)
    exact key 1 53 (FP.Core.nearest (m * 2 ^ 53) d) (by decide) (by decide) (by rw [hlead, if_neg hdm]; rfl) rfl (Nat.le_trans a1 n3) (Nat.le_trans n4 (Nat.succ_le_of_lt a2)) (fun _ h2 => absurd h2 (by decide))
/-- shares -/
def FSh (x : UInt64) : Prop := x = 0 ∨ ∃ E T, x.toNat = E * 4503599627370496 + T ∧ T < 4503599627370496 ∧ 1 ≤ E ∧ E ≤ 1023
theorem fp_div {a c : Nat} (hac : a ≤ c) (hc0 : c ≠ 0) (hc : c < 1000000) : FSh (FP.ddiv (FP.i2d (nI a)) (FP.i2d (nI c))) := by
  obtain ⟨lc, ec⟩ := fp_i2d hc0 hc
  obtain ⟨c1, c2⟩ := fp_upm hc0 (show c.log2 ≤ 52 by omega)
  have dc : FP.Core.decode FP.Core.b64 (FP.i2d (nI c)).toNat = .fin false (c * 2 ^ (52 - c.log2)) (((c.log2 + 1023 : Nat) : Int) - 1075) := by
    rw [ec, fp_dec (by omega) (by omega) (by omega), show 4503599627370496 + (c * 2 ^ (52 - c.log2) - 4503599627370496) = c * 2 ^ (52 - c.log2) by omega]
  by_cases ha0 : a = 0
  · subst ha0
    refine Or.inl (UInt64.toNat_inj.mp ?_)
    show (UInt64.ofNat (FP.Core.encode FP.Core.b64 (FP.Core.quotient FP.Core.b64 (FP.Core.decode FP.Core.b64 (FP.i2d (nI 0)).toNat) (FP.Core.decode FP.Core.b64 (FP.i2d (nI c)).toNat)))).toNat = _
    rw [dc, show FP.Core.decode FP.Core.b64 (FP.i2d (nI 0)).toNat = .fin false 0 (-1074) from by decide +kernel]
    show (UInt64.ofNat (FP.Core.encode FP.Core.b64 (if c * 2 ^ (52 - c.log2) = 0 then (if (0 : Nat) = 0 then .nan else .inf (false != false)) else FP.Core.roundRatio FP.Core.b64 (false != false) 0 (c * 2 ^ (52 - c.log2)) (-1074 - (((c.log2 + 1023 : Nat) : Int) - 1075))))).toNat = _
    rw [if_neg (by omega)]
    unfold FP.Core.roundRatio
    rw [if_pos rfl]
    show (UInt64.ofNat (FP.Core.encode FP.Core.b64 (.fin false 0 FP.Core.b64.qmin))).toNat = _
    rw [fp_enc0]
    rfl
  · obtain ⟨la, ea⟩ := fp_i2d ha0 (by omega)
    obtain ⟨a1, a2⟩ := fp_upm ha0 (show a.log2 ≤ 52 by omega)
    have da : FP.Core.decode FP.Core.b64 (FP.i2d (nI a)).toNat = .fin false (a * 2 ^ (52 - a.log2)) (((a.log2 + 1023 : Nat) : Int) - 1075) := by
      rw [ea, fp_dec (by omega) (by omega) (by omega), show 4503599627370496 + (a * 2 ^ (52 - a.log2) - 4503599627370496) = a * 2 ^ (52 - a.log2) by omega]
    have hm := fp_mono ha0 hac
    obtain ⟨E, T, e1, e2, e3, e4⟩ := fp_quo (e := (((a.log2 + 1023 : Nat) : Int) - 1075) - (((c.log2 + 1023 : Nat) : Int) - 1075)) a1 a2 c1 c2 (by omega) (by omega) (fun h => by rw [show a.log2 = c.log2 by omega]; exact Nat.mul_le_mul_right _ hac)
    refine Or.inr ⟨E, T, ?_, e2, e3, e4⟩
    show (UInt64.ofNat (FP.Core.encode FP.Core.b64 (FP.Core.quotient FP.Core.b64 (FP.Core.decode FP.Core.b64 (FP.i2d (nI a)).toNat) (FP.Core.decode FP.Core.b64 (FP.i2d (nI c)).toNat)))).toNat = _
    rw [dc, da]
    show (UInt64.ofNat (FP.Core.encode FP.Core.b64 (if c * 2 ^ (52 - c.log2) = 0 then (if a * 2 ^ (52 - a.log2) = 0 then .nan else .inf (false != false)) else FP.Core.roundRatio FP.Core.b64 false (a * 2 ^ (52 - a.log2)) (c * 2 ^ (52 - c.log2)) ((((a.log2 + 1023 : Nat) : Int) - 1075) - (((c.log2 + 1023 : Nat) : Int) - 1075))))).toNat = _
    rw [if_neg (by omega), e1, fp_of (by omega)]
theorem vf_of {x : UInt64} (h : x.toNat ≤ 9218868437227405312) : vf_n64 x := by
  unfold vf_n64
  refine UInt64.le_iff_toNat_le.mpr ?_
  rw [UInt64.toNat_and]
  exact Nat.le_trans Nat.and_le_left h
theorem FSh_vf {x : UInt64} (h : FSh x) : vf_n64 x := by
  rcases h with rfl | ⟨E, T, e1, e2, e3, e4⟩
  · exact vf_of (by decide)
  · exact vf_of (by omega)
theorem FSh_x {x : UInt64} (h : FSh x) : FP.dcmp x x = some .eq := by
  rcases h with rfl | ⟨E, T, e1, e2, e3, e4⟩
  · decide +kernel
  · exact fp_cmpx (by rw [e1]; exact fp_dec e2 e3 (by omega))
theorem rsP_F {c w : Nat} (h : w ≤ c) (hc : c < 1000000) : FSh (rsP (nI c) (nI w)) := by
  unfold rsP
  by_cases h0 : nI c ≤ 0
  · rw [if_pos h0]
    exact Or.inr ⟨1023, 0, by decide +kernel, by decide, by decide, by decide⟩
  · rw [if_neg h0, pk_sub h]
    exact fp_div (Nat.sub_le _ _) (fun e => h0 (by rw [e]; decide)) hc
theorem shl_52 : ∀ E, E < 1024 → (Int64.ofNat E) <<< ((52 : Int32).toInt64 &&& 63) = Int64.ofInt ((E * 4503599627370496 : Nat) : Int) := by decide +kernel
theorem fp_bits {x : UInt64} {E T : Nat} (hx : x.toNat = E * 4503599627370496 + T) (hE : E < 1024) : (Int64.ofNat E) <<< ((52 : Int32).toInt64 &&& 63) + Int64.ofInt (T : Int) = x.toInt64 := by
  rw [shl_52 E hE, ← Int64.ofInt_add, ← Int.natCast_add, ← hx]
  refine Int64.toBitVec.inj ?_
  show BitVec.ofInt 64 (x.toNat : Int) = x.toBitVec
  rw [BitVec.ofInt_natCast]
  exact BitVec.ofNat_toNat _ _

