/-- a number that nothing unrolls -/
noncomputable def kO (n : Nat) : Nat := Classical.choose (⟨n, rfl⟩ : ∃ m : Nat, m = n)
theorem kOe (n : Nat) : kO n = n := Classical.choose_spec (⟨n, rfl⟩ : ∃ m : Nat, m = n)
def mxN (f : Nat → Int32) : Nat → Int64 → Int64
  | 0, h => h
  | n + 1, h => 31 * mxN f n h + (f n).toInt64
theorem mxN_0 {f : Nat → Int32} {h : Int64} : mxN f 0 h = h := rfl
theorem mxN_s {f : Nat → Int32} {n : Nat} {h : Int64} : mxN f (n + 1) h = 31 * mxN f n h + (f n).toInt64 := rfl
noncomputable def dgT (p : PS) (a t : Nat) (h : Int64) : Int64 := 31 * (31 * mxN (fun j => (pW p a).1 t (7 + j)) (kO 11) (mxN (fun j => (pW p a).1 t j) (kO 7) h) + (surP ((pW p a).1 t)).toInt64) + (huP p a t).toInt64
def rsP (cm wr : Int32) : UInt64 := if cm ≤ 0 then FP.dconst1 else FP.ddiv (FP.i2d (cm - wr)) (FP.i2d cm)
/-- the share can be reckoned: it is no NaN -/
def RSh (p : PS) (a : Nat) : Prop := ¬ (pW p a).2.2.2.1 ≤ 0 → vf_n64 (FP.ddiv (FP.i2d ((pW p a).2.2.2.1 - (pW p a).2.2.2.2)) (FP.i2d (pW p a).2.2.2.1))
theorem ckMul {x y : Int64} : x * y = x * y := rfl
set_option maxRecDepth 100000 in
set_option maxHeartbeats 4000000 in
theorem m_X6_digestOfTone {E : gE} {ad : Nat → Nat} {ws : va_W} {p : PS} {sv : Nat → PS} {sc r len : Nat} {ch : Nat → Int32} (h : MW E ad ws p sv sc r len ch) {a t : Nat} {hs : Int64} (ha : a < 2) (ht : t < 8) (hA : TA (pW p a)) : C0 E YX6_digestOfTone 0 0 [.ref (ad 0), .long hs, .int (nI a), .int (nI t)] ws (fun v9 w9 => v9 = some (.long (dgT p a t hs)) ∧ MW E ad w9 p sv sc r len ch ∧ FO ws w9) := by
  have e7 := kOe 7
  have e11 := kOe 11
  refine c0V vX6_digestOfTone (Nat.le_of_ble_eq_true rfl) (lv0 := [(0, .ref (ad 0)), (1, .long hs), (3, .int (nI a)), (4, .int (nI t))]) rfl ?_
  have K2 : ∀ (m i : Nat) (x : Int32) (hh : Int64), i + m = kO 11 → x = nI i → hh = mxN (fun j => (pW p a).1 t (7 + j)) i (mxN (fun j => (pW p a).1 t j) (kO 7) hs) → Ev E YX6_digestOfTone (fun v9 w9 => v9 = some (.long (dgT p a t hs)) ∧ MW E ad w9 p sv sc r len ch ∧ FO ws w9) nX 0 0 41 [(0, .ref (ad 0)), (3, .int (nI a)), (4, .int (nI t)), (5, .long hh), (7, .int x)] [] ws := by
    intro m
    induction m with
    | zero =>
      intro i x hh hm hx hq
      obtain rfl : i = kO 11 := by omega
      subst hx
      refine ev_ss DX6_digestOfTone 2 22 (pc' := 45) (lv' := [(0, .ref _), (3, .int _), (4, .int _), (5, .long _), (7, .int _)]) (st' := [.int 10, .int _]) rfl ?_
      refine ev_icgt DX6_digestOfTone 24 rfl (tgt := 73) (by decide) (fun _ => ?_) (fun h => h.elim (by rw [kOe]; decide))
      refine ev_ldc2 DX6_digestOfTone 38 rfl kX6_245 ?_
      refine ev_ss DX6_digestOfTone 5 39 (pc' := 83) (lv' := [(0, .ref _), (3, .int _), (4, .int _), (5, .long _), (7, .int _)]) (st' := [.int _, .int _, .ref _, .long _]) rfl ?_
      refine ev_cV DX6_digestOfTone 44 (m_X6_sure h ha ht) vX6_sure rfl qX6_265 rfl h.1 rfl (hd_of rfl rfl rfl rfl) ?_
      refine ev_ss DX6_digestOfTone 3 45 (pc' := 90) (lv' := [(5, .long _), (0, .ref _), (3, .int _), (4, .int _), (7, .int _)]) (st' := []) rfl ?_
      refine ev_ldc2 DX6_digestOfTone 48 rfl kX6_245 ?_
      refine ev_ss DX6_digestOfTone 5 49 (pc' := 100) (lv' := [(5, .long _), (0, .ref _), (3, .int _), (4, .int _), (7, .int _)]) (st' := [.int _, .int _, .ref _, .long _]) rfl ?_
      refine ev_rV DX6_digestOfTone 54 (m_X6_hurts h ha ht hA) vX6_hurts rfl qX6_269 rfl h.1 rfl (hd_of rfl rfl rfl rfl) (fun v w2 hvw => ?_)
      obtain ⟨rfl, hM2, hO2⟩ := hvw
      refine ev_ss DX6_digestOfTone 2 55 (pc' := 105) (lv' := [(5, .long _), (0, .ref _), (3, .int _), (4, .int _), (7, .int _)]) (st' := [.long _]) rfl ?_
      exact ev_lret DX6_digestOfTone 57 rfl rfl ⟨by rw [hq]; rfl, hM2, hO2⟩
    | succ m ih =>
      intro i x hh hm hx hq
      subst hx
      refine ev_ss DX6_digestOfTone 2 22 (pc' := 45) (lv' := [(0, .ref _), (3, .int _), (4, .int _), (5, .long _), (7, .int _)]) (st' := [.int 10, .int _]) rfl ?_
      refine ev_icgt DX6_digestOfTone 24 rfl (tgt := 73) (by decide) (fun h => absurd h (Int32.not_lt.mpr (nI_le (b := 10) (by omega) (by decide)))) (fun _ => ?_)
      refine ev_ldc2 DX6_digestOfTone 25 rfl kX6_245 ?_
      refine ev_ss DX6_digestOfTone 6 26 (pc' := 60) (lv' := [(0, .ref _), (3, .int _), (4, .int _), (5, .long _), (7, .int _)]) (st' := [.int _, .int _, .int _, .ref _, .long _]) rfl ?_
      refine ev_cV DX6_digestOfTone 32 (m_X6_accent h ha ht (by omega)) vX6_accent rfl qX6_262 rfl h.1 rfl (hd_of rfl rfl rfl rfl) ?_
      refine ev_ss DX6_digestOfTone 4 33 (pc' := 70) (lv' := [(7, .int _), (5, .long _), (0, .ref _), (3, .int _), (4, .int _)]) (st' := []) rfl ?_
      refine ev_goto DX6_digestOfTone 37 rfl (tgt := 41) (by decide) ?_
      refine ev_lvp (lv2 := [(0, .ref _), (3, .int _), (4, .int _), (5, .long _), (7, .int _)]) [2, 3, 4, 1, 0] rfl ?_
      exact ih (i + 1) _ _ (by omega) (nI_1 i) (by rw [mxN_s, ← hq])
  have K1 : ∀ (m i : Nat) (x : Int32) (hh : Int64), i + m = kO 7 → x = nI i → hh = mxN (fun j => (pW p a).1 t j) i hs → Ev E YX6_digestOfTone (fun v9 w9 => v9 = some (.long (dgT p a t hs)) ∧ MW E ad w9 p sv sc r len ch ∧ FO ws w9) nX 0 0 6 [(0, .ref (ad 0)), (3, .int (nI a)), (4, .int (nI t)), (5, .long hh), (7, .int x)] [] ws := by
    intro m
    induction m with
    | zero =>
      intro i x hh hm hx hq
      obtain rfl : i = kO 7 := by omega
      subst hx
      refine ev_ss DX6_digestOfTone 2 4 (pc' := 10) (lv' := [(0, .ref _), (3, .int _), (4, .int _), (5, .long _), (7, .int _)]) (st' := [.int 6, .int _]) rfl ?_
      refine ev_icgt DX6_digestOfTone 6 rfl (tgt := 38) (by decide) (fun _ => ?_) (fun h => h.elim (by rw [kOe]; decide))
      refine ev_ss DX6_digestOfTone 2 20 (pc' := 41) (lv' := [(7, .int 0), (0, .ref _), (3, .int _), (4, .int _), (5, .long _)]) (st' := []) rfl ?_
      refine ev_lvp (lv2 := [(0, .ref _), (3, .int _), (4, .int _), (5, .long _), (7, .int _)]) [1, 2, 3, 4, 0] rfl ?_
      exact K2 (kO 11) 0 _ _ (Nat.zero_add _) nI_0.symm (by rw [mxN_0, hq])
    | succ m ih =>
      intro i x hh hm hx hq
      subst hx
      refine ev_ss DX6_digestOfTone 2 4 (pc' := 10) (lv' := [(0, .ref _), (3, .int _), (4, .int _), (5, .long _), (7, .int _)]) (st' := [.int 6, .int _]) rfl ?_
      refine ev_icgt DX6_digestOfTone 6 rfl (tgt := 38) (by decide) (fun h => absurd h (Int32.not_lt.mpr (nI_le (b := 6) (by omega) (by decide)))) (fun _ => ?_)
      refine ev_ldc2 DX6_digestOfTone 7 rfl kX6_245 ?_
      refine ev_ss DX6_digestOfTone 6 8 (pc' := 25) (lv' := [(0, .ref _), (3, .int _), (4, .int _), (5, .long _), (7, .int _)]) (st' := [.int _, .int _, .int _, .ref _, .long _]) rfl ?_
      refine ev_cV DX6_digestOfTone 14 (m_X6_street h ha ht (by omega)) vX6_street rfl qX6_258 rfl h.1 rfl (hd_of rfl rfl rfl rfl) ?_
      refine ev_ss DX6_digestOfTone 4 15 (pc' := 35) (lv' := [(7, .int _), (5, .long _), (0, .ref _), (3, .int _), (4, .int _)]) (st' := []) rfl ?_
      refine ev_goto DX6_digestOfTone 19 rfl (tgt := 6) (by decide) ?_
      refine ev_lvp (lv2 := [(0, .ref _), (3, .int _), (4, .int _), (5, .long _), (7, .int _)]) [2, 3, 4, 1, 0] rfl ?_
      exact ih (i + 1) _ _ (by omega) (nI_1 i) (by rw [mxN_s, ← hq])
  refine ev_ss DX6_digestOfTone 4 0 (pc' := 6) (lv' := [(7, .int 0), (5, .long _), (0, .ref _), (1, .long _), (3, .int _), (4, .int _)]) (st' := []) rfl ?_
  refine ev_lvp (lv2 := [(0, .ref _), (3, .int _), (4, .int _), (5, .long _), (7, .int _)]) [2, 4, 5, 1, 0] rfl ?_
  exact K1 (kO 7) 0 _ _ (Nat.zero_add _) nI_0.symm (by rw [mxN_0])
set_option maxRecDepth 100000 in
set_option maxHeartbeats 4000000 in
theorem m_X6_rightShare {E : gE} {ad : Nat → Nat} {ws : va_W} {p : PS} {sv : Nat → PS} {sc r len : Nat} {ch : Nat → Int32} (h : MW E ad ws p sv sc r len ch) {a : Nat} (ha : a < 2) (hR : RSh p a) : CD E YX6_rightShare 0 0 [.ref (ad 0), .int (nI a)] ws (some (.double (rsP (pW p a).2.2.2.1 (pW p a).2.2.2.2))) ws := by
  obtain ⟨st, sz, r9, h1, h2, h3, h4, h5, h6⟩ := h.2.1.way ha
  refine cdV vX6_rightShare (Nat.le_of_ble_eq_true rfl) (lv0 := [(0, .ref (ad 0)), (1, .int (nI a))]) rfl ?_
  refine ev_ss DX6_rightShare 2 0 (pc' := 2) (lv' := [(0, .ref _), (1, .int _)]) (st' := [.int _, .ref _]) rfl ?_
  refine ev_cV DX6_rightShare 2 (m_X6_wayOf h ha) vX6_wayOf rfl qX6_94 rfl h.1 rfl (hd_of rfl rfl rfl rfl) ?_
  refine ev_ss DX6_rightShare 2 3 (pc' := 7) (lv' := [(2, .ref _), (0, .ref _), (1, .int _)]) (st' := [.ref _]) rfl ?_
  refine ev_get DX6_rightShare 5 GX5 rfl (k0 := 3) (Nat.le_of_ble_eq_true rfl) fX6_202 h1 rfl ?_
  refine ev_ifle DX6_rightShare 6 rfl (tgt := 32) (by decide) (fun c_1 => ?_) (fun c_1 => ?_)
  · refine ev_dconst1 DX6_rightShare 18 rfl ?_
    exact ev_dret DX6_rightShare 19 rfl rfl ⟨congrArg (fun z => some (Value.double z)) (Eq.symm (if_pos c_1)), rfl⟩
  · refine ev_ss DX6_rightShare 1 7 (pc' := 14) (lv' := [(2, .ref _), (0, .ref _), (1, .int _)]) (st' := [.ref _]) rfl ?_
    refine ev_get DX6_rightShare 8 GX5 rfl (k0 := 3) (Nat.le_of_ble_eq_true rfl) fX6_202 h1 rfl ?_
    refine ev_ss DX6_rightShare 1 9 (pc' := 18) (lv' := [(2, .ref _), (0, .ref _), (1, .int _)]) (st' := [.ref _, .int _]) rfl ?_
    refine ev_get DX6_rightShare 10 GX5 rfl (k0 := 4) (Nat.le_of_ble_eq_true rfl) fX6_205 h1 rfl ?_
    refine ev_ss DX6_rightShare 3 11 (pc' := 24) (lv' := [(2, .ref _), (0, .ref _), (1, .int _)]) (st' := [.ref _, .double _]) rfl ?_
    refine ev_get DX6_rightShare 14 GX5 rfl (k0 := 3) (Nat.le_of_ble_eq_true rfl) fX6_202 h1 rfl ?_
    refine ev_ss DX6_rightShare 1 15 (pc' := 28) (lv' := [(2, .ref _), (0, .ref _), (1, .int _)]) (st' := [.double _, .double _]) rfl ?_
    refine ev_ddiv DX6_rightShare 16 rfl (hR c_1) ?_
    refine ev_goto DX6_rightShare 17 rfl (tgt := 33) (by decide) ?_
    exact ev_dret DX6_rightShare 19 rfl rfl ⟨congrArg (fun z => some (Value.double z)) (Eq.symm (if_neg c_1)), rfl⟩
set_option maxRecDepth 100000 in
set_option maxHeartbeats 4000000 in
theorem xc_X6_rightShare_X6_wayOf {E : gE} {ad : Nat → Nat} {ws : va_W} {p : PS} {sv : Nat → PS} {sc r len : Nat} {ch : Nat → Int32} (h : MW E ad ws p sv sc r len ch) {wy : Int32} (hx : C1 E YX6_wayOf 1 6 [.ref (ad 0), .int wy] ws (fun _ _ => False) (fun X w => X = xI ∧ w = ws)) : C1 E YX6_rightShare 1 6 [.ref (ad 0), .int wy] ws (fun _ _ => False) (fun X w => X = xI ∧ w = ws) := by
  refine c1V vX6_rightShare (Nat.le_of_ble_eq_true rfl) (lv0 := [(0, .ref (ad 0)), (1, .int wy)]) rfl ?_
  refine ev_ss DX6_rightShare 2 0 (pc' := 2) (lv' := [(0, .ref _), (1, .int _)]) (st' := [.int _, .ref _]) rfl ?_
  exact ev_xV DX6_rightShare 2 0 0 hx vX6_wayOf rfl qX6_94 rfl h.1 rfl (hd_of rfl rfl rfl rfl) rfl (by decide) (by decide) (fun X w hx => hx) (fun v w hf => hf.elim)
