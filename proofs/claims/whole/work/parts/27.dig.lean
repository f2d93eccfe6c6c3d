/-- a number that nothing unrolls -/
noncomputable def kO (n : Nat) : Nat := Classical.choose (⟨n, rfl⟩ : ∃ m : Nat, m = n)
theorem kOe (n : Nat) : kO n = n := Classical.choose_spec (⟨n, rfl⟩ : ∃ m : Nat, m = n)
def mxN (f : Nat → Int32) : Nat → Int64 → Int64
  | 0, h => h
  | n + 1, h => 31 * mxN f n h + (f n).toInt64
theorem mxN_0 {f : Nat → Int32} {h : Int64} : mxN f 0 h = h := rfl
theorem mxN_s {f : Nat → Int32} {n : Nat} {h : Int64} : mxN f (n + 1) h = 31 * mxN f n h + (f n).toInt64 := rfl
noncomputable def dgT (p : PS) (a t : Nat) (h : Int64) : Int64 := 31 * (31 * mxN (fun j => (pW p a).1 t (7 + j)) (kO 11) (mxN (fun j => (pW p a).1 t j) (kO 7) h) + (surP ((pW p a).1 t)).toInt64) + (huP p a t).toInt64
def rsP (cm wr : Int32) : UInt64 := if cm ≤ 0 then FP.dconst1 else FP.ddiv (FP.i2d (cm - wr)) (FP.i2d cm)
/-- the share can be reckoned: it is no NaN -/
def RSh (p : PS) (a : Nat) : Prop := ¬ (pW p a).2.2.2.1 ≤ 0 → vf_n64 (FP.ddiv (FP.i2d ((pW p a).2.2.2.1 - (pW p a).2.2.2.2)) (FP.i2d (pW p a).2.2.2.1))
theorem ckMul {x y : Int64} : x * y = x * y := rfl
set_option maxRecDepth 100000 in
set_option maxHeartbeats 4000000 in
theorem m_X6_digestOfTone {E : gE} {ad : Nat → Nat} {ws : va_W} {p : PS} {sv : Nat → PS} {sc r len : Nat} {ch : Nat → Int32} (h : MW E ad ws p sv sc r len ch) {a t : Nat} {hs : Int64} (ha : a < 2) (ht : t < 8) (hA : TA (pW p a)) : C0 E YX6_digestOfTone 0 0 [.ref (ad 0), .long hs, .int (nI a), .int (nI t)] ws (fun v9 w9 => v9 = some (.long (dgT p a t hs)) ∧ MW E ad w9 p sv sc r len ch ∧ FO ws w9) := by
  have e7 := kOe 7
  have e11 := kOe 11
  refine c0V vX6_digestOfTone (Nat.le_of_ble_eq_true rfl) (lv0 := [(0, .ref (ad 0)), (1, .long hs), (3, .int (nI a)), (4, .int (nI t))]) rfl ?_
  have K2 : ∀ (m i : Nat) (x : Int32) (hh : Int64), i + m = kO 11 → x = nI i → hh = mxN (fun j => (pW p a).1 t (7 + j)) i (mxN (fun j => (pW p a).1 t j) (kO 7) hs) → Ev E YX6_digestOfTone (fun v9 w9 => v9 = some (.long (dgT p a t hs)) ∧ MW E ad w9 p sv sc r len ch ∧ FO ws w9) nX 0 0 41 [(0, .ref (ad 0)), (3, .int (nI a)), (4, .int (nI t)), (5, .long hh), (7, .int x)] [] ws := by
    intro m
    induction m with
    | zero =>
      intro i x hh hm hx hq
      obtain rfl : i = kO 11 := by omega
      subst hx
      refine ev_ss DX6_digestOfTone 2 22 (pc' := 45) (lv' := [(0, .ref _), (3, .int _), (4, .int _), (5, .long _), (7, .int _)]) (st' := [.int 10, .int _]) rfl ?_
      refine ev_icgt DX6_digestOfTone 24 rfl (tgt := 73) (by decide) (fun _ => ?_) (fun h => h.elim (by rw [kOe]; decide))
      refine ev_ldc2 DX6_digestOfTone 38 rfl kX6_245 ?_
      refine ev_ss DX6_digestOfTone 5 39 (pc' := 83) (lv' := [(0, .ref _), (3, .int _), (4, .int _), (5, .long _), (7, .int _)]) (st' := [.int _, .int _, .ref _, .long _]) rfl ?_
      refine ev_cV DX6_digestOfTone 44 (m_X6_sure h ha ht) vX6_sure rfl qX6_265 rfl h.1 rfl (hd_of rfl rfl rfl rfl) ?_
      refine ev_ss DX6_digestOfTone 3 45 (pc' := 90) (lv' := [(5, .long _), (0, .ref _), (3, .int _), (4, .int _), (7, .int _)]) (st' := []) rfl ?_
      refine ev_ldc2 DX6_digestOfTone 48 rfl kX6_245 ?_
      refine ev_ss DX6_digestOfTone 5 49 (pc' := 100) (lv' := [(5, .long _), (0, .ref _), (3, .int _), (4, .int _), (7, .int _)]) (st' := [.int _, .int _, .ref _, .long _]) rfl ?_
      refine ev_rV DX6_digestOfTone 54 (m_X6_hurts h ha ht hA) vX6_hurts rfl qX6_269 rfl h.1 rfl (hd_of rfl rfl rfl rfl) (fun v w2 hvw => ?_)
      obtain ⟨rfl, hM2, hO2⟩ := hvw
      refine ev_ss DX6_digestOfTone 2 55 (pc' := 105) (lv' := [(5, .long _), (0, .ref _), (3, .int _), (4, .int _), (7, .int _)]) (st' := [.long _]) rfl ?_
      exact ev_lret DX6_digestOfTone 57 rfl rfl ⟨by rw [hq]; rfl, hM2, hO2⟩
    | succ m ih =>
      intro i x hh hm hx hq
      subst hx
      refine ev_ss DX6_digestOfTone 2 22 (pc' := 45) (lv' := [(0, .ref _), (3, .int _), (4, .int _), (5, .long _), (7, .int _)]) (st' := [.int 10, .int _]) rfl ?_
      refine ev_icgt DX6_digestOfTone 24 rfl (tgt := 73) (by decide) (fun h => absurd h (Int32.not_lt.mpr (nI_le (b := 10) (by omega) (by decide)))) (fun _ => ?_)
      refine ev_ldc2 DX6_digestOfTone 25 rfl kX6_245 ?_
      refine ev_ss DX6_digestOfTone 6 26 (pc' := 60) (lv' := [(0, .ref _), (3, .int _), (4, .int _), (5, .long _), (7, .int _)]) (st' := [.int _, .int _, .int _, .ref _, .long _]) rfl ?_
      refine ev_cV DX6_digestOfTone 32 (m_X6_accent h ha ht (by omega)) vX6_accent rfl qX6_262 rfl h.1 rfl (hd_of rfl rfl rfl rfl) ?_
      refine ev_ss DX6_digestOfTone 4 33 (pc' := 70) (lv' := [(7, .int _), (5, .long _), (0, .ref _), (3, .int _), (4, .int _)]) (st' := []) rfl ?_
      refine ev_goto DX6_digestOfTone 37 rfl (tgt := 41) (by decide) ?_
      refine ev_lvp (lv2 := [(0, .ref _), (3, .int _), (4, .int _), (5, .long _), (7, .int _)]) [2, 3, 4, 1, 0] rfl ?_
      exact ih (i + 1) _ _ (by omega) (nI_1 i) (by rw [mxN_s, ← hq])
  have K1 : ∀ (m i : Nat) (x : Int32) (hh : Int64), i + m = kO 7 → x = nI i → hh = mxN (fun j => (pW p a).1 t j) i hs → Ev E YX6_digestOfTone (fun v9 w9 => v9 = some (.long (dgT p a t hs)) ∧ MW E ad w9 p sv sc r len ch ∧ FO ws w9) nX 0 0 6 [(0, .ref (ad 0)), (3, .int (nI a)), (4, .int (nI t)), (5, .long hh), (7, .int x)] [] ws := by
    intro m
    induction m with
    | zero =>
      intro i x hh hm hx hq
      obtain rfl : i = kO 7 := by omega
      subst hx
      refine ev_ss DX6_digestOfTone 2 4 (pc' := 10) (lv' := [(0, .ref _), (3, .int _), (4, .int _), (5, .long _), (7, .int _)]) (st' := [.int 6, .int _]) rfl ?_
      refine ev_icgt DX6_digestOfTone 6 rfl (tgt := 38) (by decide) (fun _ => ?_) (fun h => h.elim (by rw [kOe]; decide))
      refine ev_ss DX6_digestOfTone 2 20 (pc' := 41) (lv' := [(7, .int 0), (0, .ref _), (3, .int _), (4, .int _), (5, .long _)]) (st' := []) rfl ?_
      refine ev_lvp (lv2 := [(0, .ref _), (3, .int _), (4, .int _), (5, .long _), (7, .int _)]) [1, 2, 3, 4, 0] rfl ?_
      exact K2 (kO 11) 0 _ _ (Nat.zero_add _) nI_0.symm (by rw [mxN_0, hq])
    | succ m ih =>
      intro i x hh hm hx hq
      subst hx
      refine ev_ss DX6_digestOfTone 2 4 (pc' := 10) (lv' := [(0, .ref _), (3, .int _), (4, .int _), (5, .long _), (7, .int _)]) (st' := [.int 6, .int _]) rfl ?_
      refine ev_icgt DX6_digestOfTone 6 rfl (tgt := 38) (by decide) (fun h => absurd h (Int32.not_lt.mpr (nI_le (b := 6) (by omega) (by decide)))) (fun _ => ?_)
      refine ev_ldc2 DX6_digestOfTone 7 rfl kX6_245 ?_
      refine ev_ss DX6_digestOfTone 6 8 (pc' := 25) (lv' := [(0, .ref _), (3, .int _), (4, .int _), (5, .long _), (7, .int _)]) (st' := [.int _, .int _, .int _, .ref _, .long _]) rfl ?_
      refine ev_cV DX6_digestOfTone 14 (m_X6_street h ha ht (by omega)) vX6_street rfl qX6_258 rfl h.1 rfl (hd_of rfl rfl rfl rfl) ?_
      refine ev_ss DX6_digestOfTone 4 15 (pc' := 35) (lv' := [(7, .int _), (5, .long _), (0, .ref _), (3, .int _), (4, .int _)]) (st' := []) rfl ?_
      refine ev_goto DX6_digestOfTone 19 rfl (tgt := 6) (by decide) ?_
      refine ev_lvp (lv2 := [(0, .ref _), (3, .int _), (4, .int _), (5, .long _), (7, .int _)]) [2, 3, 4, 1, 0] rfl ?_
      exact ih (i + 1) _ _ (by omega) (nI_1 i) (by rw [mxN_s, ← hq])
  refine ev_ss DX6_digestOfTone 4 0 (pc' := 6) (lv' := [(7, .int 0), (5, .long _), (0, .ref _), (1, .long _), (3, .int _), (4, .int _)]) (st' := []) rfl ?_
  refine ev_lvp (lv2 := [(0, .ref _), (3, .int _), (4, .int _), (5, .long _), (7, .int _)]) [2, 4, 5, 1, 0] rfl ?_
  exact K1 (kO 7) 0 _ _ (Nat.zero_add _) nI_0.symm (by rw [mxN_0])
set_option maxRecDepth 100000 in
set_option maxHeartbeats 4000000 in
theorem m_X6_rightShare {E : gE} {ad : Nat → Nat} {ws : va_W} {p : PS} {sv : Nat → PS} {sc r len : Nat} {ch : Nat → Int32} (h : MW E ad ws p sv sc r len ch) {a : Nat} (ha : a < 2) (hR : RSh p a) : CD E YX6_rightShare 0 0 [.ref (ad 0), .int (nI a)] ws (some (.double (rsP (pW p a).2.2.2.1 (pW p a).2.2.2.2))) ws := by
  obtain ⟨st, sz, r9, h1, h2, h3, h4, h5, h6⟩ := h.2.1.way ha
  refine cdV vX6_rightShare (Nat.le_of_ble_eq_true rfl) (lv0 := [(0, .ref (ad 0)), (1, .int (nI a))]) rfl ?_
  refine ev_ss DX6_rightShare 2 0 (pc' := 2) (lv' := [(0, .ref _), (1, .int _)]) (st' := [.int _, .ref _]) rfl ?_
  refine ev_cV DX6_rightShare 2 (m_X6_wayOf h ha) vX6_wayOf rfl qX6_94 rfl h.1 rfl (hd_of rfl rfl rfl rfl) ?_
  refine ev_ss DX6_rightShare 2 3 (pc' := 7) (lv' := [(2, .ref _), (0, .ref _), (1, .int _)]) (st' := [.ref _]) rfl ?_
  refine ev_get DX6_rightShare 5 GX5 rfl (k0 := 3) (Nat.le_of_ble_eq_true rfl) fX6_202 h1 rfl ?_
  refine ev_ifle DX6_rightShare 6 rfl (tgt := 32) (by decide) (fun c_1 => ?_) (fun c_1 => ?_)
  · refine ev_dconst1 DX6_rightShare 18 rfl ?_
    exact ev_dret DX6_rightShare 19 rfl rfl ⟨congrArg (fun z => some (Value.double z)) (Eq.symm (if_pos c_1)), rfl⟩
  · refine ev_ss DX6_rightShare 1 7 (pc' := 14) (lv' := [(2, .ref _), (0, .ref _), (1, .int _)]) (st' := [.ref _]) rfl ?_
    refine ev_get DX6_rightShare 8 GX5 rfl (k0 := 3) (Nat.le_of_ble_eq_true rfl) fX6_202 h1 rfl ?_
    refine ev_ss DX6_rightShare 1 9 (pc' := 18) (lv' := [(2, .ref _), (0, .ref _), (1, .int _)]) (st' := [.ref _, .int _]) rfl ?_
    refine ev_get DX6_rightShare 10 GX5 rfl (k0 := 4) (Nat.le_of_ble_eq_true rfl) fX6_205 h1 rfl ?_
    refine ev_ss DX6_rightShare 3 11 (pc' := 24) (lv' := [(2, .ref _), (0, .ref _), (1, .int _)]) (st' := [.ref _, .double _]) rfl ?_
    refine ev_get DX6_rightShare 14 GX5 rfl (k0 := 3) (Nat.le_of_ble_eq_true rfl) fX6_202 h1 rfl ?_
    refine ev_ss DX6_rightShare 1 15 (pc' := 28) (lv' := [(2, .ref _), (0, .ref _), (1, .int _)]) (st' := [.double _, .double _]) rfl ?_
    refine ev_ddiv DX6_rightShare 16 rfl (hR c_1) ?_
    refine ev_goto DX6_rightShare 17 rfl (tgt := 33) (by decide) ?_
    exact ev_dret DX6_rightShare 19 rfl rfl ⟨congrArg (fun z => some (Value.double z)) (Eq.symm (if_neg c_1)), rfl⟩
set_option maxRecDepth 100000 in
set_option maxHeartbeats 4000000 in
theorem xc_X6_rightShare_X6_wayOf {E : gE} {ad : Nat → Nat} {ws : va_W} {p : PS} {sv : Nat → PS} {sc r len : Nat} {ch : Nat → Int32} (h : MW E ad ws p sv sc r len ch) {wy : Int32} (hx : C1 E YX6_wayOf 1 6 [.ref (ad 0), .int wy] ws (fun _ _ => False) (fun X w => X = xI ∧ w = ws)) : C1 E YX6_rightShare 1 6 [.ref (ad 0), .int wy] ws (fun _ _ => False) (fun X w => X = xI ∧ w = ws) := by
  refine c1V vX6_rightShare (Nat.le_of_ble_eq_true rfl) (lv0 := [(0, .ref (ad 0)), (1, .int wy)]) rfl ?_
  refine ev_ss DX6_rightShare 2 0 (pc' := 2) (lv' := [(0, .ref _), (1, .int _)]) (st' := [.int _, .ref _]) rfl ?_
  exact ev_xV DX6_rightShare 2 0 0 hx vX6_wayOf rfl qX6_94 rfl h.1 rfl (hd_of rfl rfl rfl rfl) rfl (by decide) (by decide) (fun X w hx => hx) (fun v w hf => hf.elim)
theorem RQ_at {r : Nat → Int32} {st sz : Int32} {bs : List Int32} (h : RQ r st sz bs) {j : Nat} (hj : j < bs.length) : r (rix (st + nI j)) = bs.getD j 0 := by
  obtain ⟨s0, q1, q2, q3, q4, q5⟩ := h
  have q6 := q5 j hj
  rw [q2, nI_add, rix_nI (by omega), List.getD_eq_getElem?_getD, q6]
  rfl
noncomputable def dgW (p : PS) (a : Nat) (b h : Int64) : Int64 := 31 * (31 * (31 * (31 * mxN (ifS p a 5) (kO 3) (31 * mxN (fun j => (pW p a).2.1.getD j 0) (pW p a).2.1.length h + (pW p a).2.2.1) + (ifL p a 12).toInt64) + (bfW (p.2.2.1 2) k301 0 p.1 (pW p a)).toInt64) + (blN p a k40).1.toInt64) + b
/-- the present state bears every trial -/
def GD (p : PS) (a : Nat) : Prop := TA (pW p a) ∧ LN p a ∧ RSh p a
set_option maxRecDepth 100000 in
set_option maxHeartbeats 4000000 in
theorem m_X6_digestOfWay {E : gE} {ad : Nat → Nat} {ws : va_W} {p : PS} {sv : Nat → PS} {sc r len : Nat} {ch : Nat → Int32} (h : MW E ad ws p sv sc r len ch) {a : Nat} {hs b : Int64} (ha : a < 2) (hG : GD p a) (hB : ∀ w : va_W, CD E YX6_bitsOfShare 0 0 [.double (rsP (pW p a).2.2.2.1 (pW p a).2.2.2.2)] w (some (.long b)) w) : C0 E YX6_digestOfWay 0 0 [.ref (ad 0), .long hs, .int (nI a)] ws (fun v9 w9 => v9 = some (.long (dgW p a b hs)) ∧ MW E ad w9 p sv sc r len ch ∧ FO ws w9) := by
  have e3 := kOe 3
  obtain ⟨hA, hN, hR⟩ := hG
  obtain ⟨st, sz, r9, h1, h2, h3, h4, h5, h6⟩ := id (h.2.1.way ha)
  have hz := RQ_sz h5
  have hwa : CD E YX1_wayAt 0 0 [.ref (ad 1), .int (nI a)] ws (some (.ref (ad (2 + 12 * a)))) ws := by
    rcases (show a = 0 ∨ a = 1 by omega) with rfl | rfl
    · exact m_X1_wayAt_0 h.2.1.1.1
    · exact m_X1_wayAt_1 h.2.1.1.1
  refine c0V vX6_digestOfWay (Nat.le_of_ble_eq_true rfl) (lv0 := [(0, .ref (ad 0)), (1, .long hs), (3, .int (nI a))]) rfl ?_
  have K2 : ∀ (m i : Nat) (x : Int32) (hh : Int64) (w : va_W), i + m = kO 3 → x = nI i → hh = mxN (ifS p a 5) i (31 * mxN (fun j => (pW p a).2.1.getD j 0) (pW p a).2.1.length hs + (pW p a).2.2.1) → MW E ad w p sv sc r len ch → FO ws w → Ev E YX6_digestOfWay (fun v9 w9 => v9 = some (.long (dgW p a b hs)) ∧ MW E ad w9 p sv sc r len ch ∧ FO ws w9) nX 0 0 69 [(0, .ref (ad 0)), (3, .int (nI a)), (4, .long hh), (7, .int x)] [] w := by
    intro m
    induction m with
    | zero =>
      intro i x hh w hm hx hq hM hO
      obtain rfl : i = kO 3 := by omega
      subst hx
      refine ev_ss DX6_digestOfWay 2 35 (pc' := 72) (lv' := [(0, .ref _), (3, .int _), (4, .long _), (7, .int _)]) (st' := [.int 2, .int _]) rfl ?_
      refine ev_icgt DX6_digestOfWay 37 rfl (tgt := 99) (by decide) (fun _ => ?_) (fun h => h.elim (by rw [kOe]; decide))
      refine ev_ldc2 DX6_digestOfWay 51 rfl kX6_245 ?_
      refine ev_ss DX6_digestOfWay 5 52 (pc' := 109) (lv' := [(0, .ref _), (3, .int _), (4, .long _), (7, .int _)]) (st' := [.int 12, .int _, .ref _, .long _]) rfl ?_
      refine ev_rV DX6_digestOfWay 57 (m_X6_ifLearned hM ha (n := 12) (by decide) (by decide) hN) vX6_ifLearned rfl qX6_282 rfl hM.1 rfl (hd_of rfl rfl rfl rfl) (fun v w2 hvw => ?_)
      obtain ⟨rfl, hM2, hX2⟩ := hvw
      have hO2 := hO.tr hX2
      refine ev_ss DX6_digestOfWay 3 58 (pc' := 116) (lv' := [(4, .long _), (0, .ref _), (3, .int _), (7, .int _)]) (st' := []) rfl ?_
      refine ev_ldc2 DX6_digestOfWay 61 rfl kX6_245 ?_
      refine ev_ss DX6_digestOfWay 4 62 (pc' := 124) (lv' := [(4, .long _), (0, .ref _), (3, .int _), (7, .int _)]) (st' := [.int _, .ref _, .long _]) rfl ?_
      refine ev_rV DX6_digestOfWay 66 (m_X6_beatsFor hM2 ha hA) vX6_beatsFor rfl qX6_285 rfl hM2.1 rfl (hd_of rfl rfl rfl rfl) (fun v w3 hvw => ?_)
      obtain ⟨rfl, hM3, hX3⟩ := hvw
      have hO3 := hO2.tr hX3
      refine ev_ss DX6_digestOfWay 3 67 (pc' := 131) (lv' := [(4, .long _), (0, .ref _), (3, .int _), (7, .int _)]) (st' := []) rfl ?_
      refine ev_ldc2 DX6_digestOfWay 70 rfl kX6_245 ?_
      refine ev_ss DX6_digestOfWay 4 71 (pc' := 139) (lv' := [(4, .long _), (0, .ref _), (3, .int _), (7, .int _)]) (st' := [.int _, .ref _, .long _]) rfl ?_
      refine ev_rV DX6_digestOfWay 75 (m_X6_bestLesson hM3 ha hN) vX6_bestLesson rfl qX6_288 rfl hM3.1 rfl (hd_of rfl rfl rfl rfl) (fun v w4 hvw => ?_)
      obtain ⟨rfl, hM4, hX4⟩ := hvw
      have hO4 := hO3.tr hX4
      refine ev_ss DX6_digestOfWay 3 76 (pc' := 146) (lv' := [(4, .long _), (0, .ref _), (3, .int _), (7, .int _)]) (st' := []) rfl ?_
      refine ev_ldc2 DX6_digestOfWay 79 rfl kX6_245 ?_
      refine ev_ss DX6_digestOfWay 4 80 (pc' := 154) (lv' := [(4, .long _), (0, .ref _), (3, .int _), (7, .int _)]) (st' := [.int _, .ref _, .long _]) rfl ?_
      refine ev_cV DX6_digestOfWay 84 (m_X6_rightShare hM4 ha hR) vX6_rightShare rfl qX6_291 rfl hM4.1 rfl (hd_of rfl rfl rfl rfl) ?_
      refine ev_cS DX6_digestOfWay 85 (hB _) vX6_bitsOfShare rfl qX6_295 rfl (hd_of rfl rfl rfl rfl) ?_
      refine ev_ss DX6_digestOfWay 1 86 (pc' := 161) (lv' := [(4, .long _), (0, .ref _), (3, .int _), (7, .int _)]) (st' := [.long _]) rfl ?_
      exact ev_lret DX6_digestOfWay 87 rfl rfl ⟨by rw [hq]; rfl, hM4, hO4⟩
    | succ m ih =>
      intro i x hh w hm hx hq hM hO
      subst hx
      refine ev_ss DX6_digestOfWay 2 35 (pc' := 72) (lv' := [(0, .ref _), (3, .int _), (4, .long _), (7, .int _)]) (st' := [.int 2, .int _]) rfl ?_
      refine ev_icgt DX6_digestOfWay 37 rfl (tgt := 99) (by decide) (fun h => absurd h (Int32.not_lt.mpr (nI_le (b := 2) (by omega) (by decide)))) (fun _ => ?_)
      refine ev_ldc2 DX6_digestOfWay 38 rfl kX6_245 ?_
      refine ev_ss DX6_digestOfWay 6 39 (pc' := 86) (lv' := [(0, .ref _), (3, .int _), (4, .long _), (7, .int _)]) (st' := [.int _, .int 5, .int _, .ref _, .long _]) rfl ?_
      refine ev_rV DX6_digestOfWay 45 (m_X6_ifSent hM ha (n := 5) (j := i) (by decide) (by decide) hA (by omega)) vX6_ifSent rfl qX6_279 rfl hM.1 rfl (hd_of rfl rfl rfl rfl) (fun v w2 hvw => ?_)
      obtain ⟨rfl, hM2, hX2⟩ := hvw
      have hO2 := hO.tr hX2
      refine ev_ss DX6_digestOfWay 4 46 (pc' := 96) (lv' := [(7, .int _), (4, .long _), (0, .ref _), (3, .int _)]) (st' := []) rfl ?_
      refine ev_goto DX6_digestOfWay 50 rfl (tgt := 69) (by decide) ?_
      refine ev_lvp (lv2 := [(0, .ref _), (3, .int _), (4, .long _), (7, .int _)]) [2, 3, 1, 0] rfl ?_
      exact ih (i + 1) _ _ w2 (by omega) (nI_1 i) (by rw [mxN_s, ← hq]) hM2 hO2
  have K1 : ∀ (m i : Nat) (x : Int32) (hh : Int64), i + m = (pW p a).2.1.length → x = nI i → hh = mxN (fun j => (pW p a).2.1.getD j 0) i hs → Ev E YX6_digestOfWay (fun v9 w9 => v9 = some (.long (dgW p a b hs)) ∧ MW E ad w9 p sv sc r len ch ∧ FO ws w9) nX 0 0 19 [(0, .ref (ad 0)), (3, .int (nI a)), (4, .long hh), (6, .ref (ad (2 + 12 * a + 2))), (7, .int x)] [] ws := by
    intro m
    induction m with
    | zero =>
      intro i x hh hm hx hq
      obtain rfl : i = (pW p a).2.1.length := by omega
      subst hx
      refine ev_ss DX6_digestOfWay 2 10 (pc' := 23) (lv' := [(0, .ref _), (3, .int _), (4, .long _), (6, .ref _), (7, .int _)]) (st' := [.ref _, .int _]) rfl ?_
      refine ev_get DX6_digestOfWay 12 GX4 rfl (k0 := 2) (Nat.le_of_ble_eq_true rfl) fX6_155 h3 rfl ?_
      refine ev_icge DX6_digestOfWay 13 rfl (tgt := 52) (by decide) (fun _ => ?_) (fun h => h.elim (by rw [hz.1]; exact nI_le (Nat.le_refl _) (by omega)))
      refine ev_ldc2 DX6_digestOfWay 25 rfl kX6_245 ?_
      refine ev_ss DX6_digestOfWay 4 26 (pc' := 60) (lv' := [(0, .ref _), (3, .int _), (4, .long _), (6, .ref _), (7, .int _)]) (st' := [.int _, .ref _, .long _]) rfl ?_
      refine ev_cV DX6_digestOfWay 30 (m_X6_had h ha) vX6_had rfl qX6_275 rfl h.1 rfl (hd_of rfl rfl rfl rfl) ?_
      refine ev_ss DX6_digestOfWay 4 31 (pc' := 69) (lv' := [(7, .int 0), (4, .long _), (0, .ref _), (3, .int _), (6, .ref _)]) (st' := []) rfl ?_
      refine ev_lvp (lv2 := [(0, .ref _), (3, .int _), (4, .long _), (7, .int _)]) [2, 3, 1, 0] rfl ?_
      exact K2 (kO 3) 0 _ _ ws (Nat.zero_add _) nI_0.symm (by rw [mxN_0, hq]) h FO.rf
    | succ m ih =>
      intro i x hh hm hx hq
      subst hx
      have er := RQ_at h5 (j := i) (by omega)
      refine ev_ss DX6_digestOfWay 2 10 (pc' := 23) (lv' := [(0, .ref _), (3, .int _), (4, .long _), (6, .ref _), (7, .int _)]) (st' := [.ref _, .int _]) rfl ?_
      refine ev_get DX6_digestOfWay 12 GX4 rfl (k0 := 2) (Nat.le_of_ble_eq_true rfl) fX6_155 h3 rfl ?_
      refine ev_icge DX6_digestOfWay 13 rfl (tgt := 52) (by decide) (fun h => absurd h (by rw [hz.1]; exact nI_ge (by omega) (by omega))) (fun _ => ?_)
      refine ev_ldc2 DX6_digestOfWay 14 rfl kX6_245 ?_
      refine ev_ss DX6_digestOfWay 4 15 (pc' := 39) (lv' := [(0, .ref _), (3, .int _), (4, .long _), (6, .ref _), (7, .int _)]) (st' := [.int _, .ref _, .long _]) rfl ?_
      refine ev_cV DX6_digestOfWay 19 (m_X4_bitAt h3 h4) vX4_bitAt rfl qX6_189 rfl h3 rfl (hd_of rfl rfl rfl rfl) ?_
      refine ev_ss DX6_digestOfWay 4 20 (pc' := 49) (lv' := [(7, .int _), (4, .long _), (0, .ref _), (3, .int _), (6, .ref _)]) (st' := []) rfl ?_
      refine ev_goto DX6_digestOfWay 24 rfl (tgt := 19) (by decide) ?_
      refine ev_lvp (lv2 := [(0, .ref _), (3, .int _), (4, .long _), (6, .ref _), (7, .int _)]) [2, 3, 1, 4, 0] rfl ?_
      exact ih (i + 1) _ _ (by omega) (nI_1 i) (by rw [mxN_s, ← hq, ← er])
  refine ev_ss DX6_digestOfWay 3 0 (pc' := 4) (lv' := [(4, .long _), (0, .ref _), (1, .long _), (3, .int _)]) (st' := [.ref _]) rfl ?_
  refine ev_get DX6_digestOfWay 3 GX6 rfl (k0 := 0) (Nat.le_of_ble_eq_true rfl) fX6_12 h.1 rfl ?_
  refine ev_ss DX6_digestOfWay 1 4 (pc' := 8) (lv' := [(4, .long _), (0, .ref _), (1, .long _), (3, .int _)]) (st' := [.int _, .ref _]) rfl ?_
  refine ev_cV DX6_digestOfWay 5 hwa vX1_wayAt rfl qX6_272 rfl h.2.1.1.1 rfl (hd_of rfl rfl rfl rfl) ?_
  refine ev_get DX6_digestOfWay 6 GX5 rfl (k0 := 1) (Nat.le_of_ble_eq_true rfl) fX6_151 h1 rfl ?_
  refine ev_ss DX6_digestOfWay 3 7 (pc' := 19) (lv' := [(7, .int 0), (6, .ref _), (4, .long _), (0, .ref _), (1, .long _), (3, .int _)]) (st' := []) rfl ?_
  refine ev_lvp (lv2 := [(0, .ref _), (3, .int _), (4, .long _), (6, .ref _), (7, .int _)]) [3, 5, 2, 1, 0] rfl ?_
  exact K1 _ 0 _ _ (Nat.zero_add _) nI_0.symm (by rw [mxN_0])
noncomputable def tnD (p : PS) (a : Nat) (h : Int64) : Nat → Int64
  | 0 => h
  | n + 1 => dgT p a n (tnD p a h n)
theorem tnD_0 {p : PS} {a : Nat} {h : Int64} : tnD p a h 0 = h := rfl
theorem tnD_s {p : PS} {a n : Nat} {h : Int64} : tnD p a h (n + 1) = dgT p a n (tnD p a h n) := rfl
noncomputable def wyD (p : PS) (b : Nat → Int64) (h : Int64) : Nat → Int64
  | 0 => h
  | n + 1 => dgW p n (b n) (tnD p n (wyD p b h n) (kO 8))
theorem wyD_0 {p : PS} {b : Nat → Int64} {h : Int64} : wyD p b h 0 = h := rfl
theorem wyD_s {p : PS} {b : Nat → Int64} {h : Int64} {n : Nat} : wyD p b h (n + 1) = dgW p n (b n) (tnD p n (wyD p b h n) (kO 8)) := rfl
noncomputable def dgA (p : PS) (sc len : Nat) (ch : Nat → Int32) (b : Nat → Int64) : Int64 := mxN ch len (31 * wyD p b (mxN p.2.2.1 (kO 3) (mxN (cntV p sc) (kO 13) 2417)) (kO 2) + (nI len).toInt64)
set_option maxRecDepth 100000 in
set_option maxHeartbeats 4000000 in
theorem m_X6_digest {E : gE} {ad : Nat → Nat} {ws : va_W} {p : PS} {sv : Nat → PS} {sc r len : Nat} {ch : Nat → Int32} (h : MW E ad ws p sv sc r len ch) {b : Nat → Int64} (hG : ∀ a, a < 2 → GD p a) (hB : ∀ a, a < 2 → ∀ w : va_W, CD E YX6_bitsOfShare 0 0 [.double (rsP (pW p a).2.2.2.1 (pW p a).2.2.2.2)] w (some (.long (b a))) w) : C0 E YX6_digest 0 0 [.ref (ad 0)] ws (fun v9 w9 => v9 = some (.long (dgA p sc len ch b)) ∧ MW E ad w9 p sv sc r len ch ∧ FO ws w9) := by
  have e2 := kOe 2
  have e3 := kOe 3
  have e8 := kOe 8
  have e13 := kOe 13
  refine c0V vX6_digest (Nat.le_of_ble_eq_true rfl) (lv0 := [(0, .ref (ad 0))]) rfl ?_
  have K5 : ∀ (m i : Nat) (x : Int32) (hh : Int64) (w : va_W), i + m = len → x = nI i → hh = mxN ch i (31 * wyD p b (mxN p.2.2.1 (kO 3) (mxN (cntV p sc) (kO 13) 2417)) (kO 2) + (nI len).toInt64) → MW E ad w p sv sc r len ch → FO ws w → Ev E YX6_digest (fun v9 w9 => v9 = some (.long (dgA p sc len ch b)) ∧ MW E ad w9 p sv sc r len ch ∧ FO ws w9) nX 0 0 123 [(0, .ref (ad 0)), (1, .long hh), (3, .int x)] [] w := by
    intro m
    induction m with
    | zero =>
      intro i x hh w hm hx hq hM hO
      obtain ⟨hl, t1, g, t2, t3⟩ := hM.2.2.2.2.2.1
      obtain rfl : i = len := by omega
      subst hx
      refine ev_ss DX6_digest 2 72 (pc' := 125) (lv' := [(0, .ref _), (1, .long _), (3, .int _)]) (st' := [.ref _, .int _]) rfl ?_
      refine ev_get DX6_digest 74 GX6 rfl (k0 := 4) (Nat.le_of_ble_eq_true rfl) fX6_33 hM.1 rfl ?_
      refine ev_get DX6_digest 75 GX2 rfl (k0 := 1) (Nat.le_of_ble_eq_true rfl) fX6_126 t1 rfl ?_
      refine ev_icge DX6_digest 76 rfl (tgt := 163) (by decide) (fun _ => ?_) (fun h => h.elim (nI_le (Nat.le_refl _) (by omega)))
      refine ev_ss DX6_digest 1 93 (pc' := 164) (lv' := [(0, .ref _), (1, .long _), (3, .int _)]) (st' := [.long _]) rfl ?_
      exact ev_lret DX6_digest 94 rfl rfl ⟨by rw [hq]; rfl, hM, hO⟩
    | succ m ih =>
      intro i x hh w hm hx hq hM hO
      obtain ⟨hl, t1, g, t2, t3⟩ := hM.2.2.2.2.2.1
      subst hx
      have hg := t3 i (by omega)
      refine ev_ss DX6_digest 2 72 (pc' := 125) (lv' := [(0, .ref _), (1, .long _), (3, .int _)]) (st' := [.ref _, .int _]) rfl ?_
      refine ev_get DX6_digest 74 GX6 rfl (k0 := 4) (Nat.le_of_ble_eq_true rfl) fX6_33 hM.1 rfl ?_
      refine ev_get DX6_digest 75 GX2 rfl (k0 := 1) (Nat.le_of_ble_eq_true rfl) fX6_126 t1 rfl ?_
      refine ev_icge DX6_digest 76 rfl (tgt := 163) (by decide) (fun h => absurd h (nI_ge (b := len) (by omega) (by omega))) (fun _ => ?_)
      refine ev_ss DX6_digest 2 77 (pc' := 137) (lv' := [(0, .ref _), (1, .long _), (3, .int _)]) (st' := [.int 60, .int _]) rfl ?_
      refine ev_icge DX6_digest 79 rfl (tgt := 163) (by decide) (fun h => absurd h (nI_ge (b := 60) (by omega) (by decide))) (fun _ => ?_)
      refine ev_ldc2 DX6_digest 80 rfl kX6_245 ?_
      refine ev_ss DX6_digest 3 81 (pc' := 146) (lv' := [(0, .ref _), (1, .long _), (3, .int _)]) (st' := [.ref _, .long _]) rfl ?_
      refine ev_get DX6_digest 84 GX6 rfl (k0 := 4) (Nat.le_of_ble_eq_true rfl) fX6_33 hM.1 rfl ?_
      refine ev_get DX6_digest 85 GX2 rfl (k0 := 0) (Nat.le_of_ble_eq_true rfl) fX6_131 t1 rfl ?_
      refine ev_ss DX6_digest 1 86 (pc' := 153) (lv' := [(0, .ref _), (1, .long _), (3, .int _)]) (st' := [.int _, .ref _, .long _]) rfl ?_
      refine ev_cald DX6_digest 87 rfl t2 (vp_in_nI (by omega) (by decide)) ?_
      rw [nI_clamp (by omega), hg]
      refine ev_ss DX6_digest 4 88 (pc' := 160) (lv' := [(3, .int _), (1, .long _), (0, .ref _)]) (st' := []) rfl ?_
      refine ev_goto DX6_digest 92 rfl (tgt := 123) (by decide) ?_
      refine ev_lvp (lv2 := [(0, .ref _), (1, .long _), (3, .int _)]) [2, 1, 0] rfl ?_
      exact ih (i + 1) _ _ w (by omega) (nI_1 i) (by rw [mxN_s, ← hq]) hM hO
  have K3 : ∀ (m c : Nat) (x : Int32) (hh : Int64) (w : va_W), c + m = kO 2 → x = nI c → hh = wyD p b (mxN p.2.2.1 (kO 3) (mxN (cntV p sc) (kO 13) 2417)) c → MW E ad w p sv sc r len ch → FO ws w → Ev E YX6_digest (fun v9 w9 => v9 = some (.long (dgA p sc len ch b)) ∧ MW E ad w9 p sv sc r len ch ∧ FO ws w9) nX 0 0 63 [(0, .ref (ad 0)), (1, .long hh), (3, .int x)] [] w := by
    intro m
    induction m with
    | zero =>
      intro c x hh w hm hx hq hM hO
      obtain ⟨hl, t1, g, t2, t3⟩ := hM.2.2.2.2.2.1
      obtain rfl : c = kO 2 := by omega
      subst hx
      refine ev_ss DX6_digest 2 38 (pc' := 65) (lv' := [(0, .ref _), (1, .long _), (3, .int _)]) (st' := [.int 2, .int _]) rfl ?_
      refine ev_icge DX6_digest 40 rfl (tgt := 106) (by decide) (fun _ => ?_) (fun h => h.elim (by rw [kOe]; decide))
      refine ev_ldc2 DX6_digest 61 rfl kX6_245 ?_
      refine ev_ss DX6_digest 3 62 (pc' := 112) (lv' := [(0, .ref _), (1, .long _), (3, .int _)]) (st' := [.ref _, .long _]) rfl ?_
      refine ev_get DX6_digest 65 GX6 rfl (k0 := 4) (Nat.le_of_ble_eq_true rfl) fX6_33 hM.1 rfl ?_
      refine ev_get DX6_digest 66 GX2 rfl (k0 := 1) (Nat.le_of_ble_eq_true rfl) fX6_126 t1 rfl ?_
      refine ev_ss DX6_digest 5 67 (pc' := 123) (lv' := [(3, .int 0), (1, .long _), (0, .ref _)]) (st' := []) rfl ?_
      refine ev_lvp (lv2 := [(0, .ref _), (1, .long _), (3, .int _)]) [2, 1, 0] rfl ?_
      exact K5 len 0 _ _ w (Nat.zero_add _) nI_0.symm (by rw [mxN_0, hq]) hM hO
    | succ m ih =>
      intro c x hh w hm hx hq hM hO
      subst hx
      have hc : c < 2 := by omega
      have K4 : ∀ (m2 i : Nat) (x : Int32) (hh : Int64) (w : va_W), i + m2 = kO 8 → x = nI i → hh = tnD p c (wyD p b (mxN p.2.2.1 (kO 3) (mxN (cntV p sc) (kO 13) 2417)) c) i → MW E ad w p sv sc r len ch → FO ws w → Ev E YX6_digest (fun v9 w9 => v9 = some (.long (dgA p sc len ch b)) ∧ MW E ad w9 p sv sc r len ch ∧ FO ws w9) nX 0 0 71 [(0, .ref (ad 0)), (1, .long hh), (3, .int (nI c)), (4, .int x)] [] w := by
        intro m2
        induction m2 with
        | zero =>
          intro i x hh w hm2 hx hq hM hO
          obtain rfl : i = kO 8 := by omega
          subst hx
          refine ev_ss DX6_digest 2 43 (pc' := 75) (lv' := [(0, .ref _), (1, .long _), (3, .int _), (4, .int _)]) (st' := [.int 8, .int _]) rfl ?_
          refine ev_icge DX6_digest 45 rfl (tgt := 93) (by decide) (fun _ => ?_) (fun h => h.elim (by rw [kOe]; decide))
          refine ev_ss DX6_digest 3 54 (pc' := 96) (lv' := [(0, .ref _), (1, .long _), (3, .int _), (4, .int _)]) (st' := [.int _, .long _, .ref _]) rfl ?_
          refine ev_rV DX6_digest 57 (m_X6_digestOfWay hM hc (hG c hc) (hB c hc)) vX6_digestOfWay rfl qX6_254 rfl hM.1 rfl (hd_of rfl rfl rfl rfl) (fun v w2 hvw => ?_)
          obtain ⟨rfl, hM2, hO2⟩ := hvw
          refine ev_ss DX6_digest 2 58 (pc' := 103) (lv' := [(3, .int _), (1, .long _), (0, .ref _), (4, .int _)]) (st' := []) rfl ?_
          refine ev_goto DX6_digest 60 rfl (tgt := 63) (by decide) ?_
          refine ev_lvp (lv2 := [(0, .ref _), (1, .long _), (3, .int _)]) [2, 1, 0] rfl ?_
          exact ih (c + 1) _ _ w2 (by omega) (nI_1 c) (by rw [wyD_s, ← hq]) hM2 (hO.tr hO2)
        | succ m2 ih2 =>
          intro i x hh w hm2 hx hq hM hO
          subst hx
          refine ev_ss DX6_digest 2 43 (pc' := 75) (lv' := [(0, .ref _), (1, .long _), (3, .int _), (4, .int _)]) (st' := [.int 8, .int _]) rfl ?_
          refine ev_icge DX6_digest 45 rfl (tgt := 93) (by decide) (fun h => absurd h (nI_ge (b := 8) (by omega) (by decide))) (fun _ => ?_)
          refine ev_ss DX6_digest 4 46 (pc' := 83) (lv' := [(0, .ref _), (1, .long _), (3, .int _), (4, .int _)]) (st' := [.int _, .int _, .long _, .ref _]) rfl ?_
          refine ev_rV DX6_digest 50 (m_X6_digestOfTone hM hc (t := i) (by omega) (hG c hc).1) vX6_digestOfTone rfl qX6_250 rfl hM.1 rfl (hd_of rfl rfl rfl rfl) (fun v w2 hvw => ?_)
          obtain ⟨rfl, hM2, hO2⟩ := hvw
          refine ev_ss DX6_digest 2 51 (pc' := 90) (lv' := [(4, .int _), (1, .long _), (0, .ref _), (3, .int _)]) (st' := []) rfl ?_
          refine ev_goto DX6_digest 53 rfl (tgt := 71) (by decide) ?_
          refine ev_lvp (lv2 := [(0, .ref _), (1, .long _), (3, .int _), (4, .int _)]) [2, 1, 3, 0] rfl ?_
          exact ih2 (i + 1) _ _ w2 (by omega) (nI_1 i) (by rw [tnD_s, ← hq]) hM2 (hO.tr hO2)
      refine ev_ss DX6_digest 2 38 (pc' := 65) (lv' := [(0, .ref _), (1, .long _), (3, .int _)]) (st' := [.int 2, .int _]) rfl ?_
      refine ev_icge DX6_digest 40 rfl (tgt := 106) (by decide) (fun h => absurd h (nI_ge (b := 2) (by omega) (by decide))) (fun _ => ?_)
      refine ev_ss DX6_digest 2 41 (pc' := 71) (lv' := [(4, .int 0), (0, .ref _), (1, .long _), (3, .int _)]) (st' := []) rfl ?_
      refine ev_lvp (lv2 := [(0, .ref _), (1, .long _), (3, .int _), (4, .int _)]) [1, 2, 3, 0] rfl ?_
      exact K4 (kO 8) 0 _ _ w (Nat.zero_add _) nI_0.symm (by rw [tnD_0, hq]) hM hO
  obtain ⟨-, g, hs2, hs3⟩ := id h.2.1.1
  have K2 : ∀ (m i : Nat) (x : Int32) (hh : Int64), i + m = kO 3 → x = nI i → hh = mxN p.2.2.1 i (mxN (cntV p sc) (kO 13) 2417) → Ev E YX6_digest (fun v9 w9 => v9 = some (.long (dgA p sc len ch b)) ∧ MW E ad w9 p sv sc r len ch ∧ FO ws w9) nX 0 0 33 [(0, .ref (ad 0)), (1, .long hh), (3, .int x)] [] ws := by
    intro m
    induction m with
    | zero =>
      intro i x hh hm hx hq
      obtain rfl : i = kO 3 := by omega
      subst hx
      refine ev_ss DX6_digest 2 20 (pc' := 35) (lv' := [(0, .ref _), (1, .long _), (3, .int _)]) (st' := [.int 3, .int _]) rfl ?_
      refine ev_icge DX6_digest 22 rfl (tgt := 61) (by decide) (fun _ => ?_) (fun h => h.elim (by rw [kOe]; decide))
      refine ev_ss DX6_digest 2 36 (pc' := 63) (lv' := [(3, .int 0), (0, .ref _), (1, .long _)]) (st' := []) rfl ?_
      refine ev_lvp (lv2 := [(0, .ref _), (1, .long _), (3, .int _)]) [1, 2, 0] rfl ?_
      exact K3 (kO 2) 0 _ _ ws (Nat.zero_add _) nI_0.symm (by rw [wyD_0, hq]) h FO.rf
    | succ m ih =>
      intro i x hh hm hx hq
      subst hx
      have hg := hs3 i (by omega)
      refine ev_ss DX6_digest 2 20 (pc' := 35) (lv' := [(0, .ref _), (1, .long _), (3, .int _)]) (st' := [.int 3, .int _]) rfl ?_
      refine ev_icge DX6_digest 22 rfl (tgt := 61) (by decide) (fun h => absurd h (nI_ge (b := 3) (by omega) (by decide))) (fun _ => ?_)
      refine ev_ldc2 DX6_digest 23 rfl kX6_245 ?_
      refine ev_ss DX6_digest 3 24 (pc' := 44) (lv' := [(0, .ref _), (1, .long _), (3, .int _)]) (st' := [.ref _, .long _]) rfl ?_
      refine ev_get DX6_digest 27 GX6 rfl (k0 := 0) (Nat.le_of_ble_eq_true rfl) fX6_12 h.1 rfl ?_
      refine ev_get DX6_digest 28 GX1 rfl (k0 := 2) (Nat.le_of_ble_eq_true rfl) fX6_91 h.2.1.1.1 rfl ?_
      refine ev_ss DX6_digest 1 29 (pc' := 51) (lv' := [(0, .ref _), (1, .long _), (3, .int _)]) (st' := [.int _, .ref _, .long _]) rfl ?_
      refine ev_iald DX6_digest 30 rfl hs2 (vp_in_nI (by omega) (by decide)) ?_
      rw [nI_clamp (by omega), hg]
      refine ev_ss DX6_digest 4 31 (pc' := 58) (lv' := [(3, .int _), (1, .long _), (0, .ref _)]) (st' := []) rfl ?_
      refine ev_goto DX6_digest 35 rfl (tgt := 33) (by decide) ?_
      refine ev_lvp (lv2 := [(0, .ref _), (1, .long _), (3, .int _)]) [2, 1, 0] rfl ?_
      exact ih (i + 1) _ _ (by omega) (nI_1 i) (by rw [mxN_s, ← hq])
  have K1 : ∀ (m i : Nat) (x : Int32) (hh : Int64), i + m = kO 13 → x = nI i → hh = mxN (cntV p sc) i 2417 → Ev E YX6_digest (fun v9 w9 => v9 = some (.long (dgA p sc len ch b)) ∧ MW E ad w9 p sv sc r len ch ∧ FO ws w9) nX 0 0 6 [(0, .ref (ad 0)), (1, .long hh), (3, .int x)] [] ws := by
    intro m
    induction m with
    | zero =>
      intro i x hh hm hx hq
      obtain rfl : i = kO 13 := by omega
      subst hx
      refine ev_ss DX6_digest 2 4 (pc' := 9) (lv' := [(0, .ref _), (1, .long _), (3, .int _)]) (st' := [.int 12, .int _]) rfl ?_
      refine ev_icgt DX6_digest 6 rfl (tgt := 31) (by decide) (fun _ => ?_) (fun h => h.elim (by rw [kOe]; decide))
      refine ev_ss DX6_digest 2 18 (pc' := 33) (lv' := [(3, .int 0), (0, .ref _), (1, .long _)]) (st' := []) rfl ?_
      refine ev_lvp (lv2 := [(0, .ref _), (1, .long _), (3, .int _)]) [1, 2, 0] rfl ?_
      exact K2 (kO 3) 0 _ _ (Nat.zero_add _) nI_0.symm (by rw [mxN_0, hq])
    | succ m ih =>
      intro i x hh hm hx hq
      subst hx
      refine ev_ss DX6_digest 2 4 (pc' := 9) (lv' := [(0, .ref _), (1, .long _), (3, .int _)]) (st' := [.int 12, .int _]) rfl ?_
      refine ev_icgt DX6_digest 6 rfl (tgt := 31) (by decide) (fun h => absurd h (Int32.not_lt.mpr (nI_le (b := 12) (by omega) (by decide)))) (fun _ => ?_)
      refine ev_ldc2 DX6_digest 7 rfl kX6_245 ?_
      refine ev_ss DX6_digest 4 8 (pc' := 19) (lv' := [(0, .ref _), (1, .long _), (3, .int _)]) (st' := [.int _, .ref _, .long _]) rfl ?_
      refine ev_cV DX6_digest 12 (m_X6_count h (j := i) (by omega)) vX6_count rfl qX6_247 rfl h.1 rfl (hd_of rfl rfl rfl rfl) ?_
      refine ev_ss DX6_digest 4 13 (pc' := 28) (lv' := [(3, .int _), (1, .long _), (0, .ref _)]) (st' := []) rfl ?_
      refine ev_goto DX6_digest 17 rfl (tgt := 6) (by decide) ?_
      refine ev_lvp (lv2 := [(0, .ref _), (1, .long _), (3, .int _)]) [2, 1, 0] rfl ?_
      exact ih (i + 1) _ _ (by omega) (nI_1 i) (by rw [mxN_s, ← hq])
  refine ev_ldc2 DX6_digest 0 rfl kX6_243 ?_
  refine ev_ss DX6_digest 3 1 (pc' := 6) (lv' := [(3, .int 0), (1, .long _), (0, .ref _)]) (st' := []) rfl ?_
  refine ev_lvp (lv2 := [(0, .ref _), (1, .long _), (3, .int _)]) [2, 1, 0] rfl ?_
  exact K1 (kO 13) 0 _ _ (Nat.zero_add _) nI_0.symm (by rw [mxN_0])
