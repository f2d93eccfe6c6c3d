section MK
variable {E : gE} {Y : MI} {Pr : Option Value → va_W → Prop} {Px : String → va_W → Prop} {k n pc : Nat} {lv : List (Nat × Value)} {st : List Value} {ws : va_W} {L : LI}
theorem nx_add {x y : Int32} {a b : Nat} (hx : x = nI a) (hy : y = nI b) : x + y = nI (a + b) := by rw [hx, hy, nI_add]
theorem nx_mul {x y : Int32} {a b : Nat} (hx : x = nI a) (hy : y = nI b) : x * y = nI (a * b) := by rw [hx, hy, pk_mul]
theorem upd_eq {f : Nat → Int32} {k : Nat} {x : Int32} : upd f k x k = x := if_pos rfl
theorem upd_ne {f : Nat → Int32} {k j : Nat} {x : Int32} (h : j ≠ k) : upd f k x j = f j := if_neg h
/-- loads and stores at a place that is a natural number -/
theorem ev_ialdv (D : Lst Y L) (i : Nat) {a q N k0 : Nat} {f : Nat → Int32} {i0 v : Int32} (hi : L[i]? = some (pc, .iaload, 1)) (he : ws[q]? = some (a, .inl (gK E 0, N, .inl f))) (h0 : i0 = nI k0) (hk : k0 < N) (hN : N < 2 ^ 31) (hv : f k0 = v) (kt : Ev E Y Pr Px k n (pc + 1) lv (.int v :: st) ws) : Ev E Y Pr Px k n pc lv (.int i0 :: .ref a :: st) ws := by
  subst h0
  exact ev_iald D i hi he (vp_in_nI hk hN) (by rw [nI_clamp (by omega), hv]; exact kt)
theorem ev_iastv (D : Lst Y L) (i : Nat) {a q N k0 : Nat} {f : Nat → Int32} {i0 x : Int32} {ws' : va_W} (hi : L[i]? = some (pc, .iastore, 1)) (he : ws[q]? = some (a, .inl (gK E 0, N, .inl f))) (h0 : i0 = nI k0) (hk : k0 < N) (hN : N < 2 ^ 31) (hws : ws.set q (a, .inl (gK E 0, N, .inl (upd f k0 x))) = ws') (kt : Ev E Y Pr Px k n (pc + 1) lv st ws') : Ev E Y Pr Px k n pc lv (.int x :: .int i0 :: .ref a :: st) ws := by
  subst h0
  exact ev_iast D i hi he (vp_in_nI hk hN) (by rw [nI_clamp (by omega)]; exact hws) kt
theorem ev_laldv (D : Lst Y L) (i : Nat) {a q N k0 : Nat} {f : Nat → Int64} {i0 : Int32} {v : Int64} (hi : L[i]? = some (pc, .laload, 1)) (he : ws[q]? = some (a, .inl (gK E 1, N, .inr (.inl f)))) (h0 : i0 = nI k0) (hk : k0 < N) (hN : N < 2 ^ 31) (hv : f k0 = v) (kt : Ev E Y Pr Px k n (pc + 1) lv (.long v :: st) ws) : Ev E Y Pr Px k n pc lv (.int i0 :: .ref a :: st) ws := by
  subst h0
  exact ev_lald D i hi he (vp_in_nI hk hN) (by rw [nI_clamp (by omega), hv]; exact kt)
theorem ev_lastv (D : Lst Y L) (i : Nat) {a q N k0 : Nat} {f : Nat → Int64} {i0 : Int32} {x : Int64} {ws' : va_W} (hi : L[i]? = some (pc, .lastore, 1)) (he : ws[q]? = some (a, .inl (gK E 1, N, .inr (.inl f)))) (h0 : i0 = nI k0) (hk : k0 < N) (hN : N < 2 ^ 31) (hws : ws.set q (a, .inl (gK E 1, N, .inr (.inl (vp_updL f k0 x)))) = ws') (kt : Ev E Y Pr Px k n (pc + 1) lv st ws') : Ev E Y Pr Px k n pc lv (.long x :: .int i0 :: .ref a :: st) ws := by
  subst h0
  exact ev_last D i hi he (vp_in_nI hk hN) (by rw [nI_clamp (by omega)]; exact hws) kt
end MK
/-- the reference's object -/
abbrev moC (ad : Nat → Nat) (sm bm th ea iw : Int32) (h : Int64) : va_E := .inr (7, [.ref (ad 215), .ref (ad 216), .ref (ad 217), .ref (ad 218), .ref (ad 219), .ref (ad 220), .int sm, .ref (ad 221), .int bm, .int th, .ref (ad 222), .int ea, .int iw, .long h])
abbrev laC (E : gE) (n : Nat) (f : Nat → Int64) : va_E := .inl (gK E 1, n, .inr (.inl f))
def inP (x lo hi : Int32) : Int32 := if x < lo then 0 else if hi < x then 0 else 1
theorem inP_b {x lo hi : Int32} : narrow .boolean (.int (inP x lo hi)) = .int (inP x lo hi) := by unfold inP; split; rfl; split <;> rfl
def stA (a t : Nat) : Nat := 7 * (8 * a + t)
def acA (a t : Nat) : Nat := 112 + 11 * (8 * a + t)
def amQ (b v : Int32) : Int32 := if b = 0 then 0 else ampP b v
set_option maxRecDepth 100000 in
set_option maxHeartbeats 4000000 in
theorem m_X7_in {E : gE} {ws : va_W} {x lo hi : Int32} : CD E YX7_in 0 0 [.int x, .int lo, .int hi] ws (some (.int (inP x lo hi))) ws := by
  refine cdS vX7_in (Nat.le_of_ble_eq_true rfl) (lv0 := [(0, .int x), (1, .int lo), (2, .int hi)]) rfl ?_
  refine ev_ss DX7_in 2 0 (pc' := 2) (lv' := [(0, .int _), (1, .int _), (2, .int _)]) (st' := [.int _, .int _]) rfl ?_
  refine ev_iclt DX7_in 2 rfl (tgt := 14) (by decide) (fun c_1 => ?_) (fun c_1 => ?_)
  · refine ev_ss DX7_in 1 8 (pc' := 15) (lv' := [(0, .int _), (1, .int _), (2, .int _)]) (st' := [.int 0]) rfl ?_
    exact ev_zret DX7_in 9 rfl rfl rfl ⟨congrArg (fun z => some (Value.int z)) (Eq.symm (if_pos c_1)), rfl⟩
  · refine ev_ss DX7_in 2 3 (pc' := 7) (lv' := [(0, .int _), (1, .int _), (2, .int _)]) (st' := [.int _, .int _]) rfl ?_
    refine ev_icgt DX7_in 5 rfl (tgt := 14) (by decide) (fun c_2 => ?_) (fun c_2 => ?_)
    · refine ev_ss DX7_in 1 8 (pc' := 15) (lv' := [(0, .int _), (1, .int _), (2, .int _)]) (st' := [.int 0]) rfl ?_
      exact ev_zret DX7_in 9 rfl rfl rfl ⟨congrArg (fun z => some (Value.int z)) (Eq.symm ((if_neg c_1).trans (if_pos c_2))), rfl⟩
    · refine ev_ss DX7_in 1 6 (pc' := 11) (lv' := [(0, .int _), (1, .int _), (2, .int _)]) (st' := [.int 1]) rfl ?_
      refine ev_goto DX7_in 7 rfl (tgt := 15) (by decide) ?_
      exact ev_zret DX7_in 9 rfl rfl rfl ⟨congrArg (fun z => some (Value.int z)) (Eq.symm ((if_neg c_1).trans (if_neg c_2))), rfl⟩
set_option maxRecDepth 100000 in
set_option maxHeartbeats 4000000 in
theorem m_X7_size {E : gE} {ws : va_W} {x : Int32} : CD E YX7_size 0 0 [.int x] ws (some (.int (absP x))) ws := by
  refine cdS vX7_size (Nat.le_of_ble_eq_true rfl) (lv0 := [(0, .int x)]) rfl ?_
  refine ev_ss DX7_size 1 0 (pc' := 1) (lv' := [(0, .int _)]) (st' := [.int _]) rfl ?_
  refine ev_ifge DX7_size 1 rfl (tgt := 9) (by decide) (fun c_1 => ?_) (fun c_1 => ?_)
  · refine ev_ss DX7_size 1 5 (pc' := 10) (lv' := [(0, .int _)]) (st' := [.int _]) rfl ?_
    exact ev_iret DX7_size 6 rfl rfl ⟨congrArg (fun z => some (Value.int z)) (Eq.symm (if_pos c_1)), rfl⟩
  · refine ev_ss DX7_size 2 2 (pc' := 6) (lv' := [(0, .int _)]) (st' := [.int _]) rfl ?_
    refine ev_goto DX7_size 4 rfl (tgt := 10) (by decide) ?_
    exact ev_iret DX7_size 6 rfl rfl ⟨congrArg (fun z => some (Value.int z)) (Eq.symm (if_neg c_1)), rfl⟩
set_option maxRecDepth 100000 in
set_option maxHeartbeats 4000000 in
theorem m_X7_isWay {E : gE} {ws : va_W} {x : Int32} : CD E YX7_isWay 0 0 [.int x] ws (some (.int (inP x 0 1))) ws := by
  refine cdS vX7_isWay (Nat.le_of_ble_eq_true rfl) (lv0 := [(0, .int x)]) rfl ?_
  refine ev_ss DX7_isWay 3 0 (pc' := 3) (lv' := [(0, .int _)]) (st' := [.int 1, .int 0, .int _]) rfl ?_
  refine ev_cS DX7_isWay 3 m_X7_in vX7_in rfl qX7_39 rfl (hd_of rfl rfl rfl rfl) ?_
  exact ev_zret DX7_isWay 4 rfl rfl inP_b ⟨rfl, rfl⟩
set_option maxRecDepth 100000 in
set_option maxHeartbeats 4000000 in
theorem m_X7_isTone {E : gE} {ws : va_W} {x : Int32} : CD E YX7_isTone 0 0 [.int x] ws (some (.int (inP x 0 7))) ws := by
  refine cdS vX7_isTone (Nat.le_of_ble_eq_true rfl) (lv0 := [(0, .int x)]) rfl ?_
  refine ev_ss DX7_isTone 3 0 (pc' := 4) (lv' := [(0, .int _)]) (st' := [.int 7, .int 0, .int _]) rfl ?_
  refine ev_cS DX7_isTone 3 m_X7_in vX7_in rfl qX7_39 rfl (hd_of rfl rfl rfl rfl) ?_
  exact ev_zret DX7_isTone 4 rfl rfl inP_b ⟨rfl, rfl⟩
set_option maxRecDepth 100000 in
set_option maxHeartbeats 4000000 in
theorem m_X7_held {E : gE} {ws : va_W} {x lo hi : Int32} : CD E YX7_held 0 0 [.int x, .int lo, .int hi] ws (some (.int (heldP x lo hi))) ws := by
  refine cdS vX7_held (Nat.le_of_ble_eq_true rfl) (lv0 := [(0, .int x), (1, .int lo), (2, .int hi)]) rfl ?_
  refine ev_ss DX7_held 2 0 (pc' := 2) (lv' := [(0, .int _), (1, .int _), (2, .int _)]) (st' := [.int _, .int _]) rfl ?_
  refine ev_icge DX7_held 2 rfl (tgt := 9) (by decide) (fun c_1 => ?_) (fun c_1 => ?_)
  · refine ev_ss DX7_held 2 5 (pc' := 11) (lv' := [(0, .int _), (1, .int _), (2, .int _)]) (st' := [.int _, .int _]) rfl ?_
    refine ev_icle DX7_held 7 rfl (tgt := 18) (by decide) (fun c_2 => ?_) (fun c_2 => ?_)
    · refine ev_ss DX7_held 1 10 (pc' := 19) (lv' := [(0, .int _), (1, .int _), (2, .int _)]) (st' := [.int _]) rfl ?_
      exact ev_iret DX7_held 11 rfl rfl ⟨congrArg (fun z => some (Value.int z)) (Eq.symm ((if_pos c_1).trans (if_pos c_2))), rfl⟩
    · refine ev_ss DX7_held 1 8 (pc' := 15) (lv' := [(0, .int _), (1, .int _), (2, .int _)]) (st' := [.int _]) rfl ?_
      refine ev_goto DX7_held 9 rfl (tgt := 19) (by decide) ?_
      exact ev_iret DX7_held 11 rfl rfl ⟨congrArg (fun z => some (Value.int z)) (Eq.symm ((if_pos c_1).trans (if_neg c_2))), rfl⟩
  · refine ev_ss DX7_held 1 3 (pc' := 6) (lv' := [(0, .int _), (1, .int _), (2, .int _)]) (st' := [.int _]) rfl ?_
    refine ev_goto DX7_held 4 rfl (tgt := 19) (by decide) ?_
    exact ev_iret DX7_held 11 rfl rfl ⟨congrArg (fun z => some (Value.int z)) (Eq.symm (if_neg c_1)), rfl⟩
set_option maxRecDepth 100000 in
set_option maxHeartbeats 4000000 in
theorem m_X7_amplitude {E : gE} {ws : va_W} {x v : Int32} : CD E YX7_amplitude 0 0 [.int x, .int v] ws (some (.int (amQ x v))) ws := by
  refine cdS vX7_amplitude (Nat.le_of_ble_eq_true rfl) (lv0 := [(0, .int x), (1, .int v)]) rfl ?_
  refine ev_ss DX7_amplitude 1 0 (pc' := 1) (lv' := [(0, .int _), (1, .int _)]) (st' := [.int _]) rfl ?_
  refine ev_ifne DX7_amplitude 1 rfl (tgt := 8) (by decide) (fun c_1 => ?_) (fun c_1 => ?_)
  · refine ev_ss DX7_amplitude 13 4 (pc' := 23) (lv' := [(0, .int _), (1, .int _)]) (st' := [.int _]) rfl ?_
    exact ev_iret DX7_amplitude 17 rfl rfl ⟨congrArg (fun z => some (Value.int z)) (Eq.symm (if_neg c_1)), rfl⟩
  · refine ev_ss DX7_amplitude 1 2 (pc' := 5) (lv' := [(0, .int _), (1, .int _)]) (st' := [.int 0]) rfl ?_
    refine ev_goto DX7_amplitude 3 rfl (tgt := 23) (by decide) ?_
    exact ev_iret DX7_amplitude 17 rfl rfl ⟨congrArg (fun z => some (Value.int z)) (Eq.symm (if_pos c_1)), rfl⟩
set_option maxRecDepth 100000 in
set_option maxHeartbeats 4000000 in
theorem m_X7_streetAt {E : gE} {ad : Nat → Nat} {ws : va_W} {sm bm tw ea iw : Int32} {hh : Int64} {a t : Nat} (h : ws[214]? = some (ad 214, moC ad sm bm tw ea iw hh)) : CD E YX7_streetAt 0 0 [.ref (ad 214), .int (nI a), .int (nI t)] ws (some (.int (nI (stA a t)))) ws := by
  refine cdV vX7_streetAt (Nat.le_of_ble_eq_true rfl) (lv0 := [(0, .ref (ad 214)), (1, .int (nI a)), (2, .int (nI t))]) rfl ?_
  refine ev_ss DX7_streetAt 7 0 (pc' := 9) (lv' := [(0, .ref _), (1, .int _), (2, .int _)]) (st' := [.int _]) rfl ?_
  exact ev_iret DX7_streetAt 7 rfl rfl ⟨congrArg (fun z => some (Value.int z)) (nx_mul (a := 7) (b := 8 * a + t) rfl (nx_add (a := 8 * a) (b := t) (nx_mul (a := 8) (b := a) rfl rfl) rfl)), rfl⟩
set_option maxRecDepth 100000 in
set_option maxHeartbeats 4000000 in
theorem m_X7_accentAt {E : gE} {ad : Nat → Nat} {ws : va_W} {sm bm tw ea iw : Int32} {hh : Int64} {a t : Nat} (h : ws[214]? = some (ad 214, moC ad sm bm tw ea iw hh)) : CD E YX7_accentAt 0 0 [.ref (ad 214), .int (nI a), .int (nI t)] ws (some (.int (nI (acA a t)))) ws := by
  refine cdV vX7_accentAt (Nat.le_of_ble_eq_true rfl) (lv0 := [(0, .ref (ad 214)), (1, .int (nI a)), (2, .int (nI t))]) rfl ?_
  refine ev_ss DX7_accentAt 9 0 (pc' := 12) (lv' := [(0, .ref _), (1, .int _), (2, .int _)]) (st' := [.int _]) rfl ?_
  exact ev_iret DX7_accentAt 9 rfl rfl ⟨congrArg (fun z => some (Value.int z)) (nx_add (a := 112) (b := 11 * (8 * a + t)) rfl (nx_mul (a := 11) (b := 8 * a + t) rfl (nx_add (a := 8 * a) (b := t) (nx_mul (a := 8) (b := a) rfl rfl) rfl))), rfl⟩
set_option maxRecDepth 100000 in
set_option maxHeartbeats 4000000 in
theorem m_X7_thrown {E : gE} {ad : Nat → Nat} {ws : va_W} {sm bm tw ea iw : Int32} {hh : Int64} {z : Nat → Int32} (h : ws[214]? = some (ad 214, moC ad sm bm tw ea iw hh)) (hz : ws[215]? = some (ad 215, iaC E 811 z)) : CD E YX7_thrown 0 0 [.ref (ad 214)] ws (some (.int tw)) ws := by
  refine cdV vX7_thrown (Nat.le_of_ble_eq_true rfl) (lv0 := [(0, .ref (ad 214))]) rfl ?_
  refine ev_ss DX7_thrown 1 0 (pc' := 1) (lv' := [(0, .ref _)]) (st' := [.ref _]) rfl ?_
  refine ev_get DX7_thrown 1 GX7 rfl (k0 := 9) (Nat.le_of_ble_eq_true rfl) fX7_35 h rfl ?_
  exact ev_iret DX7_thrown 2 rfl rfl ⟨rfl, rfl⟩
set_option maxRecDepth 100000 in
set_option maxHeartbeats 4000000 in
theorem m_X7_fails {E : gE} {ad : Nat → Nat} {ws : va_W} {sm bm tw ea iw : Int32} {hh : Int64} {z : Nat → Int32} (h : ws[214]? = some (ad 214, moC ad sm bm tw ea iw hh)) (hz : ws[215]? = some (ad 215, iaC E 811 z)) {c : Int32} : CD E YX7_fails 0 0 [.ref (ad 214), .int c] ws (some (.int 0)) (ws.set 214 (ad 214, moC ad sm bm c ea iw hh)) := by
  refine cdV vX7_fails (Nat.le_of_ble_eq_true rfl) (lv0 := [(0, .ref (ad 214)), (1, .int c)]) rfl ?_
  refine ev_ss DX7_fails 2 0 (pc' := 2) (lv' := [(0, .ref _), (1, .int _)]) (st' := [.int _, .ref _]) rfl ?_
  refine ev_put (fs' := [_, _, _, _, _, _, _, _, _, _, _, _, _, _]) DX7_fails 2 GX7 rfl (k0 := 9) (Nat.le_of_ble_eq_true rfl) fX7_35 rfl ⟨rfl, rfl⟩ h (Nat.le_of_ble_eq_true rfl) rfl rfl ?_
  refine ev_ss DX7_fails 1 3 (pc' := 6) (lv' := [(0, .ref _), (1, .int _)]) (st' := [.int 0]) rfl ?_
  exact ev_iret DX7_fails 4 rfl rfl ⟨rfl, rfl⟩
set_option maxRecDepth 100000 in
set_option maxHeartbeats 4000000 in
theorem m_X7_draw {E : gE} {ad : Nat → Nat} {ws : va_W} {sm bm tw ea iw : Int32} {hh : Int64} {z : Nat → Int32} (h : ws[214]? = some (ad 214, moC ad sm bm tw ea iw hh)) (hz : ws[215]? = some (ad 215, iaC E 811 z)) {m : Int32} (hm : ¬ m = 0) : CD E YX7_draw 0 0 [.ref (ad 214), .int m] ws (some (.int (drwV (drwS (z 807)) m))) (ws.set 215 (ad 215, iaC E 811 (upd z 807 (drwS (z 807))))) := by
  refine cdV vX7_draw (Nat.le_of_ble_eq_true rfl) (lv0 := [(0, .ref (ad 214)), (1, .int m)]) rfl ?_
  refine ev_ldc2 DX7_draw 0 rfl kX7_74 ?_
  refine ev_ss DX7_draw 1 1 (pc' := 4) (lv' := [(0, .ref _), (1, .int _)]) (st' := [.ref _, .long _]) rfl ?_
  refine ev_get DX7_draw 2 GX7 rfl (k0 := 0) (Nat.le_of_ble_eq_true rfl) fX7_7 h rfl ?_
  refine ev_ss DX7_draw 1 3 (pc' := 10) (lv' := [(0, .ref _), (1, .int _)]) (st' := [.int 807, .ref _, .long _]) rfl ?_
  refine ev_ialdv DX7_draw 4 (k0 := 807) rfl hz rfl (by omega) (by decide) (rfl) ?_
  refine ev_ss DX7_draw 2 5 (pc' := 13) (lv' := [(0, .ref _), (1, .int _)]) (st' := [.long _]) rfl ?_
  refine ev_ldc2 DX7_draw 7 rfl kX7_76 ?_
  refine ev_ss DX7_draw 1 8 (pc' := 17) (lv' := [(0, .ref _), (1, .int _)]) (st' := [.long _]) rfl ?_
  refine ev_ldc2 DX7_draw 9 rfl kX7_78 ?_
  refine ev_lrem DX7_draw 10 rfl (by decide) ?_
  refine ev_ss DX7_draw 2 11 (pc' := 23) (lv' := [(2, .long _), (0, .ref _), (1, .int _)]) (st' := [.ref _]) rfl ?_
  refine ev_get DX7_draw 13 GX7 rfl (k0 := 0) (Nat.le_of_ble_eq_true rfl) fX7_7 h rfl ?_
  refine ev_ss DX7_draw 3 14 (pc' := 31) (lv' := [(2, .long _), (0, .ref _), (1, .int _)]) (st' := [.int _, .int 807, .ref _]) rfl ?_
  refine ev_iastv DX7_draw 17 (k0 := 807) rfl hz rfl (by omega) (by decide) rfl ?_
  refine ev_ss DX7_draw 1 18 (pc' := 33) (lv' := [(2, .long _), (0, .ref _), (1, .int _)]) (st' := [.ref _]) rfl ?_
  refine ev_get DX7_draw 19 GX7 rfl (k0 := 0) (Nat.le_of_ble_eq_true rfl) fX7_7 (wset_o h hz rfl) rfl ?_
  refine ev_ss DX7_draw 1 20 (pc' := 39) (lv' := [(2, .long _), (0, .ref _), (1, .int _)]) (st' := [.int 807, .ref _]) rfl ?_
  refine ev_ialdv DX7_draw 21 (k0 := 807) rfl (wset_get hz) rfl (by omega) (by decide) (upd_eq) ?_
  refine ev_ldc DX7_draw 22 rfl kX7_80 ?_
  refine ev_idiv DX7_draw 23 rfl (by decide) ?_
  refine ev_ss DX7_draw 1 24 (pc' := 44) (lv' := [(2, .long _), (0, .ref _), (1, .int _)]) (st' := [.int _, .int _]) rfl ?_
  refine ev_irem DX7_draw 25 rfl hm ?_
  exact ev_iret DX7_draw 26 rfl rfl ⟨rfl, rfl⟩
/-- a sign on the street, by the reference's numbers -/
def heZ (z : Nat → Int32) (s : Nat) (amp : Int32) : Nat → Int32 := upd (upd (upd (upd z 807 (drwS (z 807))) (s + 4) 0) (s + 6) (z (s + 5))) (s + 5) amp
def heV (z : Nat → Int32) (s : Nat) (amp : Int32) : Int32 := (z s * amp + z (s + 1) * z (s + 5) + z (s + 2) * z (s + 6)) / 64 + (drwV (drwS (z 807)) (2 * z (s + 3) + 1) - z (s + 3)) + z (s + 4)
set_option maxRecDepth 100000 in
set_option maxHeartbeats 4000000 in
theorem m_X7_hear {E : gE} {ad : Nat → Nat} {ws : va_W} {sm bm tw ea iw : Int32} {hh : Int64} {z : Nat → Int32} (h : ws[214]? = some (ad 214, moC ad sm bm tw ea iw hh)) (hz : ws[215]? = some (ad 215, iaC E 811 z)) {a t : Nat} {amp : Int32} (ha : a < 2) (ht : t < 8) (hm : ¬ 2 * z (stA a t + 3) + 1 = 0) : CD E YX7_hear 0 0 [.ref (ad 214), .int (nI a), .int (nI t), .int amp] ws (some (.int (heV z (stA a t) amp))) (ws.set 215 (ad 215, iaC E 811 (heZ z (stA a t) amp))) := by
  have hs : stA a t + 7 ≤ 112 := by unfold stA; omega
  obtain ⟨s, es⟩ : ∃ s, s = stA a t := ⟨_, rfl⟩
  rw [← es] at hm hs ⊢
  refine cdV vX7_hear (Nat.le_of_ble_eq_true rfl) (lv0 := [(0, .ref (ad 214)), (1, .int (nI a)), (2, .int (nI t)), (3, .int amp)]) rfl ?_
  refine ev_ss DX7_hear 3 0 (pc' := 3) (lv' := [(0, .ref _), (1, .int _), (2, .int _), (3, .int _)]) (st' := [.int _, .int _, .ref _]) rfl ?_
  refine ev_cV DX7_hear 3 (m_X7_streetAt h) vX7_streetAt rfl qX7_64 rfl h rfl (hd_of rfl rfl rfl rfl) ?_
  rw [← es]
  refine ev_ss DX7_hear 2 4 (pc' := 9) (lv' := [(4, .int _), (0, .ref _), (1, .int _), (2, .int _), (3, .int _)]) (st' := [.ref _]) rfl ?_
  refine ev_get DX7_hear 6 GX7 rfl (k0 := 0) (Nat.le_of_ble_eq_true rfl) fX7_7 h rfl ?_
  refine ev_ss DX7_hear 3 7 (pc' := 16) (lv' := [(4, .int _), (0, .ref _), (1, .int _), (2, .int _), (3, .int _)]) (st' := [.int _, .ref _]) rfl ?_
  refine ev_ialdv DX7_hear 10 (k0 := (s + 0)) rfl hz (nx_add (a := s) (b := 0) rfl rfl) (by omega) (by decide) (rfl) ?_
  refine ev_ss DX7_hear 3 11 (pc' := 20) (lv' := [(4, .int _), (0, .ref _), (1, .int _), (2, .int _), (3, .int _)]) (st' := [.ref _, .int _]) rfl ?_
  refine ev_get DX7_hear 14 GX7 rfl (k0 := 0) (Nat.le_of_ble_eq_true rfl) fX7_7 h rfl ?_
  refine ev_ss DX7_hear 3 15 (pc' := 27) (lv' := [(4, .int _), (0, .ref _), (1, .int _), (2, .int _), (3, .int _)]) (st' := [.int _, .ref _, .int _]) rfl ?_
  refine ev_ialdv DX7_hear 18 (k0 := (s + 1)) rfl hz (nx_add (a := s) (b := 1) rfl rfl) (by omega) (by decide) (rfl) ?_
  refine ev_ss DX7_hear 1 19 (pc' := 29) (lv' := [(4, .int _), (0, .ref _), (1, .int _), (2, .int _), (3, .int _)]) (st' := [.ref _, .int _, .int _]) rfl ?_
  refine ev_get DX7_hear 20 GX7 rfl (k0 := 0) (Nat.le_of_ble_eq_true rfl) fX7_7 h rfl ?_
  refine ev_ss DX7_hear 3 21 (pc' := 36) (lv' := [(4, .int _), (0, .ref _), (1, .int _), (2, .int _), (3, .int _)]) (st' := [.int _, .ref _, .int _, .int _]) rfl ?_
  refine ev_ialdv DX7_hear 24 (k0 := (s + 5)) rfl hz (nx_add (a := s) (b := 5) rfl rfl) (by omega) (by decide) (rfl) ?_
  refine ev_ss DX7_hear 3 25 (pc' := 40) (lv' := [(4, .int _), (0, .ref _), (1, .int _), (2, .int _), (3, .int _)]) (st' := [.ref _, .int _]) rfl ?_
  refine ev_get DX7_hear 28 GX7 rfl (k0 := 0) (Nat.le_of_ble_eq_true rfl) fX7_7 h rfl ?_
  refine ev_ss DX7_hear 3 29 (pc' := 47) (lv' := [(4, .int _), (0, .ref _), (1, .int _), (2, .int _), (3, .int _)]) (st' := [.int _, .ref _, .int _]) rfl ?_
  refine ev_ialdv DX7_hear 32 (k0 := (s + 2)) rfl hz (nx_add (a := s) (b := 2) rfl rfl) (by omega) (by decide) (rfl) ?_
  refine ev_ss DX7_hear 1 33 (pc' := 49) (lv' := [(4, .int _), (0, .ref _), (1, .int _), (2, .int _), (3, .int _)]) (st' := [.ref _, .int _, .int _]) rfl ?_
  refine ev_get DX7_hear 34 GX7 rfl (k0 := 0) (Nat.le_of_ble_eq_true rfl) fX7_7 h rfl ?_
  refine ev_ss DX7_hear 3 35 (pc' := 57) (lv' := [(4, .int _), (0, .ref _), (1, .int _), (2, .int _), (3, .int _)]) (st' := [.int _, .ref _, .int _, .int _]) rfl ?_
  refine ev_ialdv DX7_hear 38 (k0 := (s + 6)) rfl hz (nx_add (a := s) (b := 6) rfl rfl) (by omega) (by decide) (rfl) ?_
  refine ev_ss DX7_hear 3 39 (pc' := 62) (lv' := [(4, .int _), (0, .ref _), (1, .int _), (2, .int _), (3, .int _)]) (st' := [.int 64, .int _]) rfl ?_
  refine ev_idiv DX7_hear 42 rfl (by decide) ?_
  refine ev_ss DX7_hear 5 43 (pc' := 70) (lv' := [(5, .int _), (4, .int _), (0, .ref _), (1, .int _), (2, .int _), (3, .int _)]) (st' := [.ref _, .int 2, .ref _, .int _]) rfl ?_
  refine ev_get DX7_hear 48 GX7 rfl (k0 := 0) (Nat.le_of_ble_eq_true rfl) fX7_7 h rfl ?_
  refine ev_ss DX7_hear 3 49 (pc' := 77) (lv' := [(5, .int _), (4, .int _), (0, .ref _), (1, .int _), (2, .int _), (3, .int _)]) (st' := [.int _, .ref _, .int 2, .ref _, .int _]) rfl ?_
  refine ev_ialdv DX7_hear 52 (k0 := (s + 3)) rfl hz (nx_add (a := s) (b := 3) rfl rfl) (by omega) (by decide) (rfl) ?_
  refine ev_ss DX7_hear 3 53 (pc' := 81) (lv' := [(5, .int _), (4, .int _), (0, .ref _), (1, .int _), (2, .int _), (3, .int _)]) (st' := [.int _, .ref _, .int _]) rfl ?_
  refine ev_cV DX7_hear 56 (m_X7_draw h hz hm) vX7_draw rfl qX7_81 rfl h rfl (hd_of rfl rfl rfl rfl) ?_
  refine ev_ss DX7_hear 1 57 (pc' := 85) (lv' := [(5, .int _), (4, .int _), (0, .ref _), (1, .int _), (2, .int _), (3, .int _)]) (st' := [.ref _, .int _, .int _]) rfl ?_
  refine ev_get DX7_hear 58 GX7 rfl (k0 := 0) (Nat.le_of_ble_eq_true rfl) fX7_7 (wset_o h hz rfl) rfl ?_
  refine ev_ss DX7_hear 3 59 (pc' := 92) (lv' := [(5, .int _), (4, .int _), (0, .ref _), (1, .int _), (2, .int _), (3, .int _)]) (st' := [.int _, .ref _, .int _, .int _]) rfl ?_
  refine ev_ialdv DX7_hear 62 (k0 := (s + 3)) rfl (wset_get hz) (nx_add (a := s) (b := 3) rfl rfl) (by omega) (by decide) ((upd_ne (by omega)).trans (rfl)) ?_
  refine ev_ss DX7_hear 5 63 (pc' := 100) (lv' := [(5, .int _), (4, .int _), (0, .ref _), (1, .int _), (2, .int _), (3, .int _)]) (st' := [.ref _, .int _]) rfl ?_
  refine ev_get DX7_hear 68 GX7 rfl (k0 := 0) (Nat.le_of_ble_eq_true rfl) fX7_7 (wset_o h hz rfl) rfl ?_
  refine ev_ss DX7_hear 3 69 (pc' := 107) (lv' := [(5, .int _), (4, .int _), (0, .ref _), (1, .int _), (2, .int _), (3, .int _)]) (st' := [.int _, .ref _, .int _]) rfl ?_
  refine ev_ialdv DX7_hear 72 (k0 := (s + 4)) rfl (wset_get hz) (nx_add (a := s) (b := 4) rfl rfl) (by omega) (by decide) ((upd_ne (by omega)).trans (rfl)) ?_
  refine ev_ss DX7_hear 3 73 (pc' := 112) (lv' := [(5, .int _), (4, .int _), (0, .ref _), (1, .int _), (2, .int _), (3, .int _)]) (st' := [.ref _]) rfl ?_
  refine ev_get DX7_hear 76 GX7 rfl (k0 := 0) (Nat.le_of_ble_eq_true rfl) fX7_7 (wset_o h hz rfl) rfl ?_
  refine ev_ss DX7_hear 4 77 (pc' := 120) (lv' := [(5, .int _), (4, .int _), (0, .ref _), (1, .int _), (2, .int _), (3, .int _)]) (st' := [.int 0, .int _, .ref _]) rfl ?_
  refine ev_iastv DX7_hear 81 (k0 := (s + 4)) rfl (wset_get hz) (nx_add (a := s) (b := 4) rfl rfl) (by omega) (by decide) wset_set ?_
  refine ev_ss DX7_hear 1 82 (pc' := 122) (lv' := [(5, .int _), (4, .int _), (0, .ref _), (1, .int _), (2, .int _), (3, .int _)]) (st' := [.ref _]) rfl ?_
  refine ev_get DX7_hear 83 GX7 rfl (k0 := 0) (Nat.le_of_ble_eq_true rfl) fX7_7 (wset_o h hz rfl) rfl ?_
  refine ev_ss DX7_hear 4 84 (pc' := 131) (lv' := [(5, .int _), (4, .int _), (0, .ref _), (1, .int _), (2, .int _), (3, .int _)]) (st' := [.ref _, .int _, .ref _]) rfl ?_
  refine ev_get DX7_hear 88 GX7 rfl (k0 := 0) (Nat.le_of_ble_eq_true rfl) fX7_7 (wset_o h hz rfl) rfl ?_
  refine ev_ss DX7_hear 3 89 (pc' := 138) (lv' := [(5, .int _), (4, .int _), (0, .ref _), (1, .int _), (2, .int _), (3, .int _)]) (st' := [.int _, .ref _, .int _, .ref _]) rfl ?_
  refine ev_ialdv DX7_hear 92 (k0 := (s + 5)) rfl (wset_get hz) (nx_add (a := s) (b := 5) rfl rfl) (by omega) (by decide) ((upd_ne (by omega)).trans ((upd_ne (by omega)).trans (rfl))) ?_
  refine ev_iastv DX7_hear 93 (k0 := (s + 6)) rfl (wset_get hz) (nx_add (a := s) (b := 6) rfl rfl) (by omega) (by decide) wset_set ?_
  refine ev_ss DX7_hear 1 94 (pc' := 141) (lv' := [(5, .int _), (4, .int _), (0, .ref _), (1, .int _), (2, .int _), (3, .int _)]) (st' := [.ref _]) rfl ?_
  refine ev_get DX7_hear 95 GX7 rfl (k0 := 0) (Nat.le_of_ble_eq_true rfl) fX7_7 (wset_o h hz rfl) rfl ?_
  refine ev_ss DX7_hear 4 96 (pc' := 149) (lv' := [(5, .int _), (4, .int _), (0, .ref _), (1, .int _), (2, .int _), (3, .int _)]) (st' := [.int _, .int _, .ref _]) rfl ?_
  refine ev_iastv DX7_hear 100 (k0 := (s + 5)) rfl (wset_get hz) (nx_add (a := s) (b := 5) rfl rfl) (by omega) (by decide) wset_set ?_
  refine ev_ss DX7_hear 1 101 (pc' := 152) (lv' := [(5, .int _), (4, .int _), (0, .ref _), (1, .int _), (2, .int _), (3, .int _)]) (st' := [.int _]) rfl ?_
  exact ev_iret DX7_hear 102 rfl rfl ⟨rfl, rfl⟩
