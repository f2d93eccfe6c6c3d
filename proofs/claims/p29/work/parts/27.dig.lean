/-- a number that nothing unrolls -/
noncomputable def kO (n : Nat) : Nat := Classical.choose (⟨n, rfl⟩ : ∃ m : Nat, m = n)
theorem kOe (n : Nat) : kO n = n := Classical.choose_spec (⟨n, rfl⟩ : ∃ m : Nat, m = n)
def mxN (f : Nat → Int32) : Nat → Int64 → Int64
  | 0, h => h
  | n + 1, h => 31 * mxN f n h + (f n).toInt64
theorem mxN_0 {f : Nat → Int32} {h : Int64} : mxN f 0 h = h := rfl
theorem mxN_s {f : Nat → Int32} {n : Nat} {h : Int64} : mxN f (n + 1) h = 31 * mxN f n h + (f n).toInt64 := rfl
noncomputable def dgT (p : PS) (a t : Nat) (h : Int64) : Int64 := 31 * (31 * mxN (fun j => (pW p a).1 t (7 + j)) (kO 11) (mxN (fun j => (pW p a).1 t j) (kO 7) h) + (surP ((pW p a).1 t)).toInt64) + (huP p a t).toInt64
def rsP (cm wr : Int32) : UInt64 := if cm ≤ 0 then FP.dconst1 else FP.ddiv (FP.i2d (cm - wr)) (FP.i2d cm)
/-- the share can be reckoned: it is no NaN -/
def RSh (p : PS) (a : Nat) : Prop := ¬ (pW p a).2.2.2.1 ≤ 0 → vf_n64 (FP.ddiv (FP.i2d ((pW p a).2.2.2.1 - (pW p a).2.2.2.2)) (FP.i2d (pW p a).2.2.2.1))
theorem ckMul {x y : Int64} : x * y = x * y := rfl
set_option maxRecDepth 100000 in
set_option maxHeartbeats 4000000 in
theorem m_X6_rightShare {E : gE} {ad : Nat → Nat} {ws : va_W} {p : PS} {sv : Nat → PS} {sc r len : Nat} {ch : Nat → Int32} (h : MW E ad ws p sv sc r len ch) {a : Nat} (ha : a < 2) (hR : RSh p a) : CD E YX6_rightShare 0 0 [.ref (ad 0), .int (nI a)] ws (some (.double (rsP (pW p a).2.2.2.1 (pW p a).2.2.2.2))) ws := by
  obtain ⟨st, sz, r9, h1, h2, h3, h4, h5, h6⟩ := h.2.1.way ha
  refine cdV vX6_rightShare (Nat.le_of_ble_eq_true rfl) (lv0 := [(0, .ref (ad 0)), (1, .int (nI a))]) rfl ?_
  refine ev_ss DX6_rightShare 2 0 (pc' := 2) (lv' := [(0, .ref _), (1, .int _)]) (st' := [.int _, .ref _]) rfl ?_
  refine ev_cV DX6_rightShare 2 (m_X6_wayOf h ha) vX6_wayOf rfl qX6_94 rfl h.1 rfl (hd_of rfl rfl rfl rfl) ?_
  refine ev_ss DX6_rightShare 2 3 (pc' := 7) (lv' := [(2, .ref _), (0, .ref _), (1, .int _)]) (st' := [.ref _]) rfl ?_
  refine ev_get DX6_rightShare 5 GX5 rfl (k0 := 3) (Nat.le_of_ble_eq_true rfl) fX6_202 h1 rfl ?_
  refine ev_ifle DX6_rightShare 6 rfl (tgt := 32) (by decide) (fun c_1 => ?_) (fun c_1 => ?_)
  · refine ev_dconst1 DX6_rightShare 18 rfl ?_
    exact ev_dret DX6_rightShare 19 rfl rfl ⟨congrArg (fun z => some (Value.double z)) (Eq.symm (if_pos c_1)), rfl⟩
  · refine ev_ss DX6_rightShare 1 7 (pc' := 14) (lv' := [(2, .ref _), (0, .ref _), (1, .int _)]) (st' := [.ref _]) rfl ?_
    refine ev_get DX6_rightShare 8 GX5 rfl (k0 := 3) (Nat.le_of_ble_eq_true rfl) fX6_202 h1 rfl ?_
    refine ev_ss DX6_rightShare 1 9 (pc' := 18) (lv' := [(2, .ref _), (0, .ref _), (1, .int _)]) (st' := [.ref _, .int _]) rfl ?_
    refine ev_get DX6_rightShare 10 GX5 rfl (k0 := 4) (Nat.le_of_ble_eq_true rfl) fX6_205 h1 rfl ?_
    refine ev_ss DX6_rightShare 3 11 (pc' := 24) (lv' := [(2, .ref _), (0, .ref _), (1, .int _)]) (st' := [.ref _, .double _]) rfl ?_
    refine ev_get DX6_rightShare 14 GX5 rfl (k0 := 3) (Nat.le_of_ble_eq_true rfl) fX6_202 h1 rfl ?_
    refine ev_ss DX6_rightShare 1 15 (pc' := 28) (lv' := [(2, .ref _), (0, .ref _), (1, .int _)]) (st' := [.double _, .double _]) rfl ?_
    refine ev_ddiv DX6_rightShare 16 rfl (hR c_1) ?_
    refine ev_goto DX6_rightShare 17 rfl (tgt := 33) (by decide) ?_
    exact ev_dret DX6_rightShare 19 rfl rfl ⟨congrArg (fun z => some (Value.double z)) (Eq.symm (if_neg c_1)), rfl⟩
set_option maxRecDepth 100000 in
set_option maxHeartbeats 4000000 in
theorem xc_X6_rightShare_X6_wayOf {E : gE} {ad : Nat → Nat} {ws : va_W} {p : PS} {sv : Nat → PS} {sc r len : Nat} {ch : Nat → Int32} (h : MW E ad ws p sv sc r len ch) {wy : Int32} (hx : C1 E YX6_wayOf 1 6 [.ref (ad 0), .int wy] ws (fun _ _ => False) (fun X w => X = xI ∧ w = ws)) : C1 E YX6_rightShare 1 6 [.ref (ad 0), .int wy] ws (fun _ _ => False) (fun X w => X = xI ∧ w = ws) := by
  refine c1V vX6_rightShare (Nat.le_of_ble_eq_true rfl) (lv0 := [(0, .ref (ad 0)), (1, .int wy)]) rfl ?_
  refine ev_ss DX6_rightShare 2 0 (pc' := 2) (lv' := [(0, .ref _), (1, .int _)]) (st' := [.int _, .ref _]) rfl ?_
  exact ev_xV DX6_rightShare 2 0 0 hx vX6_wayOf rfl qX6_94 rfl h.1 rfl (hd_of rfl rfl rfl rfl) rfl (by decide) (by decide) (fun X w hx => hx) (fun v w hf => hf.elim)
theorem RQ_at {r : Nat → Int32} {st sz : Int32} {bs : List Int32} (h : RQ r st sz bs) {j : Nat} (hj : j < bs.length) : r (rix (st + nI j)) = bs.getD j 0 := by
  obtain ⟨s0, q1, q2, q3, q4, q5⟩ := h
  have q6 := q5 j hj
  rw [q2, nI_add, rix_nI (by omega), List.getD_eq_getElem?_getD, q6]
  rfl
noncomputable def dgW (p : PS) (a : Nat) (b h : Int64) : Int64 := 31 * (31 * (31 * (31 * mxN (ifS p a 5) (kO 3) (31 * mxN (fun j => (pW p a).2.1.getD j 0) (pW p a).2.1.length h + (pW p a).2.2.1) + (ifL p a 12).toInt64) + (bfW (p.2.2.1 2) k301 0 p.1 (pW p a)).toInt64) + (blN p a k40).1.toInt64) + b
/-- the present state bears every trial -/
def GD (p : PS) (a : Nat) : Prop := TA (pW p a) ∧ LN p a ∧ RSh p a
noncomputable def tnD (p : PS) (a : Nat) (h : Int64) : Nat → Int64
  | 0 => h
  | n + 1 => dgT p a n (tnD p a h n)
theorem tnD_0 {p : PS} {a : Nat} {h : Int64} : tnD p a h 0 = h := rfl
theorem tnD_s {p : PS} {a n : Nat} {h : Int64} : tnD p a h (n + 1) = dgT p a n (tnD p a h n) := rfl
noncomputable def wyD (p : PS) (b : Nat → Int64) (h : Int64) : Nat → Int64
  | 0 => h
  | n + 1 => dgW p n (b n) (tnD p n (wyD p b h n) (kO 8))
theorem wyD_0 {p : PS} {b : Nat → Int64} {h : Int64} : wyD p b h 0 = h := rfl
theorem wyD_s {p : PS} {b : Nat → Int64} {h : Int64} {n : Nat} : wyD p b h (n + 1) = dgW p n (b n) (tnD p n (wyD p b h n) (kO 8)) := rfl
noncomputable def dgA (p : PS) (sc len : Nat) (ch : Nat → Int32) (b : Nat → Int64) : Int64 := mxN ch len (31 * wyD p b (mxN p.2.2.1 (kO 3) (mxN (cntV p sc) (kO 13) 2417)) (kO 2) + (nI len).toInt64)