theorem vI {x y : Int32} (h : y = x) : some (Value.int x) = some (Value.int y) := by rw [h]
theorem cd_hs {E : gE} {Y : MI} {k n : Nat} {av : List Value} {ws ws1 ws2 : va_W} {v : Option Value} (h : CD E Y k n av ws v ws1) (e : ws1 = ws2) : CD E Y k n av ws v ws2 := e ▸ h
theorem tset {ws : va_W} {q a : Nat} {g g2 : TF} {x : va_E} (h : g2 = g) (hx : x = toneC g) : ws.set q (a, x) = ws.set q (a, toneC g2) := by rw [h, hx]
theorem tset0 {ws : va_W} {q a : Nat} {f g2 : TF} (h0 : ws[q]? = some (a, toneC f)) (h : g2 = f) : ws = ws.set q (a, toneC g2) := by rw [h, wset_id h0]
def arrP (f : TF) (amp ns : Int32) : Int32 := (f 0 * amp + f 1 * f 5 + f 2 * f 6) / 64 + ns + f 4
def expP (f : TF) (amp : Int32) : Int32 := (f 7 * amp + f 8 * f 5 + f 9 * f 6) / 64
def ampP (b v : Int32) : Int32 := ((2 : Int32) * v + 1 - ((1 : Int32) <<< (b &&& 31))) * ((256 : Int32) >>> (b &&& 31))
def passP (f : TF) (amp tk : Int32) : TF := upd (upd (upd (upd (upd f 4 0) 6 (f 5)) 5 amp) 17 (f 16)) 16 tk
def knowP (f : TF) : TF := upd f 17 (f 6)
def loseP (f : TF) : TF := upd (upd (upd (upd (upd (upd f 7 64) 8 0) 9 0) 10 0) 11 (-1)) 12 0
def heldP (v lo hi : Int32) : Int32 := if lo ≤ v then (if v ≤ hi then v else hi) else lo
def stepP (pr p : Int32) : Int32 := pr / ((128 : Int32) * p)
def roomP (g m : Int32) : Int32 := ((256 : Int32) >>> (m &&& 31)) * g / 64
def decP (f : TF) (r : Int32) : Int32 :=
  let sg := ((r - (f 8 * f 16 + f 9 * f 17) / 64) * 64 / f 7 + 256 - 1) >>> (((9 : Int32) - f 10) &&& 31)
  let top := ((1 : Int32) <<< (f 10 &&& 31)) - 1
  let y := if top < sg then top else sg
  if 0 < y then y else 0
def impP (f : TF) (err amp p : Int32) : TF := upd (upd (upd f 7 (heldP (f 7 + stepP (err * amp) p) 8 128)) 8 (heldP (f 8 + stepP (err * f 5) p) (-48) 48)) 9 (heldP (f 9 + stepP (err * f 6) p) (-48) 48)
def bfP (g d : Int32) : Int32 := if roomP g 4 ≤ d then (if roomP g 3 ≤ d then (if roomP g 2 ≤ d then (if roomP g 1 ≤ d then 0 else 1) else 2) else 3) else 4
def endP (f : TF) (wo mg : Int32) : TF := upd (upd (upd f 11 wo) 10 (bfP (f 7) (wo * mg / 4))) 12 0
def absP (x : Int32) : Int32 := if 0 ≤ x then x else 0 - x
def misP (f : TF) (m : Int32) : Int32 := (absP (f 0 - f 7) * ((256 : Int32) - ((256 : Int32) >>> (m &&& 31))) + (absP (f 1 - f 8) + absP (f 2 - f 9)) * 256) / 64
def surP (f : TF) : Int32 := if roomP (f 7) 4 ≤ misP f 4 + f 3 + 4 then (if roomP (f 7) 3 ≤ misP f 3 + f 3 + 4 then (if roomP (f 7) 2 ≤ misP f 2 + f 3 + 4 then (if roomP (f 7) 1 ≤ misP f 1 + f 3 + 4 then 0 else 1) else 2) else 3) else 4
def cntP (f : TF) (b : Int32) : TF := if f 10 ≤ 0 then (if b = 0 then f else upd (upd f 15 (f 15 + 1)) 12 (f 12 + 1)) else (if b = 0 then upd f 14 (f 14 + 1) else upd (upd (upd f 14 (f 14 + 1)) 15 (f 15 + 1)) 12 (f 12 + 1))
def shyP (f : TF) (n : Int32) : TF := if f 10 ≤ 0 then f else if f 12 < n then f else upd (upd (upd f 10 (f 10 - 1)) 13 (f 13 + 1)) 12 0
set_option maxRecDepth 100000 in
set_option maxHeartbeats 4000000 in
theorem m_X3_arriving {E : gE} {ws : va_W} {q a : Nat} {f : TF} {amp ns : Int32} (h : ws[q]? = some (a, toneC f)) : CD E YX3_arriving 0 0 [.ref a, .int amp, .int ns] ws (some (.int (arrP f amp ns))) ws := by
  refine cdV vX3_arriving (Nat.le_of_ble_eq_true rfl) (lv0 := [(0, .ref a), (1, .int amp), (2, .int ns)]) rfl ?_
  refine ev_ss DX3_arriving 1 0 (pc' := 1) (lv' := [(0, .ref _), (1, .int _), (2, .int _)]) (st' := [.ref _]) rfl ?_
  refine ev_get DX3_arriving 1 GX3 rfl (k0 := 0) (Nat.le_of_ble_eq_true rfl) fX3_9 h rfl ?_
  refine ev_ss DX3_arriving 3 2 (pc' := 7) (lv' := [(0, .ref _), (1, .int _), (2, .int _)]) (st' := [.ref _, .int _]) rfl ?_
  refine ev_get DX3_arriving 5 GX3 rfl (k0 := 1) (Nat.le_of_ble_eq_true rfl) fX3_21 h rfl ?_
  refine ev_ss DX3_arriving 1 6 (pc' := 11) (lv' := [(0, .ref _), (1, .int _), (2, .int _)]) (st' := [.ref _, .int _, .int _]) rfl ?_
  refine ev_get DX3_arriving 7 GX3 rfl (k0 := 5) (Nat.le_of_ble_eq_true rfl) fX3_33 h rfl ?_
  refine ev_ss DX3_arriving 3 8 (pc' := 17) (lv' := [(0, .ref _), (1, .int _), (2, .int _)]) (st' := [.ref _, .int _]) rfl ?_
  refine ev_get DX3_arriving 11 GX3 rfl (k0 := 2) (Nat.le_of_ble_eq_true rfl) fX3_24 h rfl ?_
  refine ev_ss DX3_arriving 1 12 (pc' := 21) (lv' := [(0, .ref _), (1, .int _), (2, .int _)]) (st' := [.ref _, .int _, .int _]) rfl ?_
  refine ev_get DX3_arriving 13 GX3 rfl (k0 := 6) (Nat.le_of_ble_eq_true rfl) fX3_36 h rfl ?_
  refine ev_ss DX3_arriving 3 14 (pc' := 28) (lv' := [(0, .ref _), (1, .int _), (2, .int _)]) (st' := [.int 64, .int _]) rfl ?_
  refine ev_idiv DX3_arriving 17 rfl (by decide) ?_
  refine ev_ss DX3_arriving 3 18 (pc' := 32) (lv' := [(0, .ref _), (1, .int _), (2, .int _)]) (st' := [.ref _, .int _]) rfl ?_
  refine ev_get DX3_arriving 21 GX3 rfl (k0 := 4) (Nat.le_of_ble_eq_true rfl) fX3_30 h rfl ?_
  refine ev_ss DX3_arriving 1 22 (pc' := 36) (lv' := [(0, .ref _), (1, .int _), (2, .int _)]) (st' := [.int _]) rfl ?_
  exact ev_iret DX3_arriving 23 rfl rfl ⟨rfl, rfl⟩
set_option maxRecDepth 100000 in
set_option maxHeartbeats 4000000 in
theorem m_X3_expected {E : gE} {ws : va_W} {q a : Nat} {f : TF} {amp : Int32} (h : ws[q]? = some (a, toneC f)) : CD E YX3_expected 0 0 [.ref a, .int amp] ws (some (.int (expP f amp))) ws := by
  refine cdV vX3_expected (Nat.le_of_ble_eq_true rfl) (lv0 := [(0, .ref a), (1, .int amp)]) rfl ?_
  refine ev_ss DX3_expected 1 0 (pc' := 1) (lv' := [(0, .ref _), (1, .int _)]) (st' := [.ref _]) rfl ?_
  refine ev_get DX3_expected 1 GX3 rfl (k0 := 7) (Nat.le_of_ble_eq_true rfl) fX3_15 h rfl ?_
  refine ev_ss DX3_expected 3 2 (pc' := 7) (lv' := [(0, .ref _), (1, .int _)]) (st' := [.ref _, .int _]) rfl ?_
  refine ev_get DX3_expected 5 GX3 rfl (k0 := 8) (Nat.le_of_ble_eq_true rfl) fX3_39 h rfl ?_
  refine ev_ss DX3_expected 1 6 (pc' := 11) (lv' := [(0, .ref _), (1, .int _)]) (st' := [.ref _, .int _, .int _]) rfl ?_
  refine ev_get DX3_expected 7 GX3 rfl (k0 := 5) (Nat.le_of_ble_eq_true rfl) fX3_33 h rfl ?_
  refine ev_ss DX3_expected 3 8 (pc' := 17) (lv' := [(0, .ref _), (1, .int _)]) (st' := [.ref _, .int _]) rfl ?_
  refine ev_get DX3_expected 11 GX3 rfl (k0 := 9) (Nat.le_of_ble_eq_true rfl) fX3_42 h rfl ?_
  refine ev_ss DX3_expected 1 12 (pc' := 21) (lv' := [(0, .ref _), (1, .int _)]) (st' := [.ref _, .int _, .int _]) rfl ?_
  refine ev_get DX3_expected 13 GX3 rfl (k0 := 6) (Nat.le_of_ble_eq_true rfl) fX3_36 h rfl ?_
  refine ev_ss DX3_expected 3 14 (pc' := 28) (lv' := [(0, .ref _), (1, .int _)]) (st' := [.int 64, .int _]) rfl ?_
  refine ev_idiv DX3_expected 17 rfl (by decide) ?_
  exact ev_iret DX3_expected 18 rfl rfl ⟨rfl, rfl⟩
set_option maxRecDepth 100000 in
set_option maxHeartbeats 4000000 in
theorem m_X3_amplitudeOf {E : gE} {ws : va_W} {q a : Nat} {f : TF} {v : Int32} (h : ws[q]? = some (a, toneC f)) : CD E YX3_amplitudeOf 0 0 [.ref a, .int v] ws (some (.int (ampP (f 10) v))) ws := by
  refine cdV vX3_amplitudeOf (Nat.le_of_ble_eq_true rfl) (lv0 := [(0, .ref a), (1, .int v)]) rfl ?_
  refine ev_ss DX3_amplitudeOf 7 0 (pc' := 7) (lv' := [(0, .ref _), (1, .int _)]) (st' := [.ref _, .int 1, .int _]) rfl ?_
  refine ev_get DX3_amplitudeOf 7 GX3 rfl (k0 := 10) (Nat.le_of_ble_eq_true rfl) fX3_45 h rfl ?_
  refine ev_ss DX3_amplitudeOf 4 8 (pc' := 16) (lv' := [(0, .ref _), (1, .int _)]) (st' := [.ref _, .int 256, .int _]) rfl ?_
  refine ev_get DX3_amplitudeOf 12 GX3 rfl (k0 := 10) (Nat.le_of_ble_eq_true rfl) fX3_45 h rfl ?_
  refine ev_ss DX3_amplitudeOf 2 13 (pc' := 21) (lv' := [(0, .ref _), (1, .int _)]) (st' := [.int _]) rfl ?_
  exact ev_iret DX3_amplitudeOf 15 rfl rfl ⟨rfl, rfl⟩
set_option maxRecDepth 100000 in
set_option maxHeartbeats 4000000 in
theorem m_X3_pass {E : gE} {ws : va_W} {q a : Nat} {f : TF} {x y : Int32} (h : ws[q]? = some (a, toneC f)) : CD E YX3_pass 0 0 [.ref a, .int x, .int y] ws none (ws.set q (a, toneC (passP f x y))) := by
  refine cdV vX3_pass (Nat.le_of_ble_eq_true rfl) (lv0 := [(0, .ref a), (1, .int x), (2, .int y)]) rfl ?_
  refine ev_ss DX3_pass 2 0 (pc' := 2) (lv' := [(0, .ref _), (1, .int _), (2, .int _)]) (st' := [.int 0, .ref _]) rfl ?_
  refine ev_put (fs' := [_, _, _, _, _, _, _, _, _, _, _, _, _, _, _, _, _, _]) DX3_pass 2 GX3 rfl (k0 := 4) (Nat.le_of_ble_eq_true rfl) fX3_30 rfl ⟨rfl, rfl⟩ h (Nat.le_of_ble_eq_true rfl) rfl rfl ?_
  refine ev_ss DX3_pass 2 3 (pc' := 7) (lv' := [(0, .ref _), (1, .int _), (2, .int _)]) (st' := [.ref _, .ref _]) rfl ?_
  refine ev_get DX3_pass 5 GX3 rfl (k0 := 5) (Nat.le_of_ble_eq_true rfl) fX3_33 (wset_get h) rfl ?_
  refine ev_put (fs' := [_, _, _, _, _, _, _, _, _, _, _, _, _, _, _, _, _, _]) DX3_pass 6 GX3 rfl (k0 := 6) (Nat.le_of_ble_eq_true rfl) fX3_36 rfl ⟨rfl, rfl⟩ (wset_get h) (Nat.le_of_ble_eq_true rfl) rfl wset_set ?_
  refine ev_ss DX3_pass 2 7 (pc' := 15) (lv' := [(0, .ref _), (1, .int _), (2, .int _)]) (st' := [.int _, .ref _]) rfl ?_
  refine ev_put (fs' := [_, _, _, _, _, _, _, _, _, _, _, _, _, _, _, _, _, _]) DX3_pass 9 GX3 rfl (k0 := 5) (Nat.le_of_ble_eq_true rfl) fX3_33 rfl ⟨rfl, rfl⟩ (wset_get h) (Nat.le_of_ble_eq_true rfl) rfl wset_set ?_
  refine ev_ss DX3_pass 2 10 (pc' := 20) (lv' := [(0, .ref _), (1, .int _), (2, .int _)]) (st' := [.ref _, .ref _]) rfl ?_
  refine ev_get DX3_pass 12 GX3 rfl (k0 := 16) (Nat.le_of_ble_eq_true rfl) fX3_60 (wset_get h) rfl ?_
  refine ev_put (fs' := [_, _, _, _, _, _, _, _, _, _, _, _, _, _, _, _, _, _]) DX3_pass 13 GX3 rfl (k0 := 17) (Nat.le_of_ble_eq_true rfl) fX3_63 rfl ⟨rfl, rfl⟩ (wset_get h) (Nat.le_of_ble_eq_true rfl) rfl wset_set ?_
  refine ev_ss DX3_pass 2 14 (pc' := 28) (lv' := [(0, .ref _), (1, .int _), (2, .int _)]) (st' := [.int _, .ref _]) rfl ?_
  refine ev_put (fs' := [_, _, _, _, _, _, _, _, _, _, _, _, _, _, _, _, _, _]) DX3_pass 16 GX3 rfl (k0 := 16) (Nat.le_of_ble_eq_true rfl) fX3_60 rfl ⟨rfl, rfl⟩ (wset_get h) (Nat.le_of_ble_eq_true rfl) rfl wset_set ?_
  exact ev_vret DX3_pass 17 rfl rfl ⟨rfl, rfl⟩
set_option maxRecDepth 100000 in
set_option maxHeartbeats 4000000 in
theorem m_X3_knowSignBefore {E : gE} {ws : va_W} {q a : Nat} {f : TF} (h : ws[q]? = some (a, toneC f)) : CD E YX3_knowSignBefore 0 0 [.ref a] ws none (ws.set q (a, toneC (knowP f))) := by
  refine cdV vX3_knowSignBefore (Nat.le_of_ble_eq_true rfl) (lv0 := [(0, .ref a)]) rfl ?_
  refine ev_ss DX3_knowSignBefore 2 0 (pc' := 2) (lv' := [(0, .ref _)]) (st' := [.ref _, .ref _]) rfl ?_
  refine ev_get DX3_knowSignBefore 2 GX3 rfl (k0 := 6) (Nat.le_of_ble_eq_true rfl) fX3_36 h rfl ?_
  refine ev_put (fs' := [_, _, _, _, _, _, _, _, _, _, _, _, _, _, _, _, _, _]) DX3_knowSignBefore 3 GX3 rfl (k0 := 17) (Nat.le_of_ble_eq_true rfl) fX3_63 rfl ⟨rfl, rfl⟩ h (Nat.le_of_ble_eq_true rfl) rfl rfl ?_
  exact ev_vret DX3_knowSignBefore 4 rfl rfl ⟨rfl, rfl⟩
set_option maxRecDepth 100000 in
set_option maxHeartbeats 4000000 in
theorem m_X3_loseAccent {E : gE} {ws : va_W} {q a : Nat} {f : TF} (h : ws[q]? = some (a, toneC f)) : CD E YX3_loseAccent 0 0 [.ref a] ws none (ws.set q (a, toneC (loseP f))) := by
  refine cdV vX3_loseAccent (Nat.le_of_ble_eq_true rfl) (lv0 := [(0, .ref a)]) rfl ?_
  refine ev_ss DX3_loseAccent 2 0 (pc' := 3) (lv' := [(0, .ref _)]) (st' := [.int 64, .ref _]) rfl ?_
  refine ev_put (fs' := [_, _, _, _, _, _, _, _, _, _, _, _, _, _, _, _, _, _]) DX3_loseAccent 2 GX3 rfl (k0 := 7) (Nat.le_of_ble_eq_true rfl) fX3_15 rfl ⟨rfl, rfl⟩ h (Nat.le_of_ble_eq_true rfl) rfl rfl ?_
  refine ev_ss DX3_loseAccent 2 3 (pc' := 8) (lv' := [(0, .ref _)]) (st' := [.int 0, .ref _]) rfl ?_
  refine ev_put (fs' := [_, _, _, _, _, _, _, _, _, _, _, _, _, _, _, _, _, _]) DX3_loseAccent 5 GX3 rfl (k0 := 8) (Nat.le_of_ble_eq_true rfl) fX3_39 rfl ⟨rfl, rfl⟩ (wset_get h) (Nat.le_of_ble_eq_true rfl) rfl wset_set ?_
  refine ev_ss DX3_loseAccent 2 6 (pc' := 13) (lv' := [(0, .ref _)]) (st' := [.int 0, .ref _]) rfl ?_
  refine ev_put (fs' := [_, _, _, _, _, _, _, _, _, _, _, _, _, _, _, _, _, _]) DX3_loseAccent 8 GX3 rfl (k0 := 9) (Nat.le_of_ble_eq_true rfl) fX3_42 rfl ⟨rfl, rfl⟩ (wset_get h) (Nat.le_of_ble_eq_true rfl) rfl wset_set ?_
  refine ev_ss DX3_loseAccent 2 9 (pc' := 18) (lv' := [(0, .ref _)]) (st' := [.int 0, .ref _]) rfl ?_
  refine ev_put (fs' := [_, _, _, _, _, _, _, _, _, _, _, _, _, _, _, _, _, _]) DX3_loseAccent 11 GX3 rfl (k0 := 10) (Nat.le_of_ble_eq_true rfl) fX3_45 rfl ⟨rfl, rfl⟩ (wset_get h) (Nat.le_of_ble_eq_true rfl) rfl wset_set ?_
  refine ev_ss DX3_loseAccent 2 12 (pc' := 23) (lv' := [(0, .ref _)]) (st' := [.int (-1), .ref _]) rfl ?_
  refine ev_put (fs' := [_, _, _, _, _, _, _, _, _, _, _, _, _, _, _, _, _, _]) DX3_loseAccent 14 GX3 rfl (k0 := 11) (Nat.le_of_ble_eq_true rfl) fX3_18 rfl ⟨rfl, rfl⟩ (wset_get h) (Nat.le_of_ble_eq_true rfl) rfl wset_set ?_
  refine ev_ss DX3_loseAccent 2 15 (pc' := 28) (lv' := [(0, .ref _)]) (st' := [.int 0, .ref _]) rfl ?_
  refine ev_put (fs' := [_, _, _, _, _, _, _, _, _, _, _, _, _, _, _, _, _, _]) DX3_loseAccent 17 GX3 rfl (k0 := 12) (Nat.le_of_ble_eq_true rfl) fX3_48 rfl ⟨rfl, rfl⟩ (wset_get h) (Nat.le_of_ble_eq_true rfl) rfl wset_set ?_
  exact ev_vret DX3_loseAccent 18 rfl rfl ⟨rfl, rfl⟩
set_option maxRecDepth 100000 in
set_option maxHeartbeats 4000000 in
theorem m_X3_held {E : gE} {ws : va_W} {v lo hi : Int32}  : CD E YX3_held 0 0 [.int v, .int lo, .int hi] ws (some (.int (heldP v lo hi))) ws := by
  refine cdS vX3_held (Nat.le_of_ble_eq_true rfl) (lv0 := [(0, .int v), (1, .int lo), (2, .int hi)]) rfl ?_
  refine ev_ss DX3_held 2 0 (pc' := 2) (lv' := [(0, .int _), (1, .int _), (2, .int _)]) (st' := [.int _, .int _]) rfl ?_
  refine ev_icge DX3_held 2 rfl (tgt := 7) (by decide) (fun c_1 => ?_) (fun c_1 => ?_)
  · refine ev_ss DX3_held 2 5 (pc' := 9) (lv' := [(0, .int _), (1, .int _), (2, .int _)]) (st' := [.int _, .int _]) rfl ?_
    refine ev_icle DX3_held 7 rfl (tgt := 16) (by decide) (fun c_2 => ?_) (fun c_2 => ?_)
    · refine ev_ss DX3_held 1 10 (pc' := 17) (lv' := [(0, .int _), (1, .int _), (2, .int _)]) (st' := [.int _]) rfl ?_
      exact ev_iret DX3_held 11 rfl rfl ⟨vI ((if_pos c_1).trans (if_pos c_2)), rfl⟩
    · refine ev_ss DX3_held 1 8 (pc' := 13) (lv' := [(0, .int _), (1, .int _), (2, .int _)]) (st' := [.int _]) rfl ?_
      refine ev_goto DX3_held 9 rfl (tgt := 17) (by decide) ?_
      exact ev_iret DX3_held 11 rfl rfl ⟨vI ((if_pos c_1).trans (if_neg c_2)), rfl⟩
  · refine ev_ss DX3_held 1 3 (pc' := 6) (lv' := [(0, .int _), (1, .int _), (2, .int _)]) (st' := [.int _]) rfl ?_
    exact ev_iret DX3_held 4 rfl rfl ⟨vI (if_neg c_1), rfl⟩
set_option maxRecDepth 100000 in
set_option maxHeartbeats 4000000 in
theorem m_X3_roomWith {E : gE} {ws : va_W} {q a : Nat} {f : TF} {m : Int32} (h : ws[q]? = some (a, toneC f)) : CD E YX3_roomWith 0 0 [.ref a, .int m] ws (some (.int (roomP (f 7) m))) ws := by
  refine cdV vX3_roomWith (Nat.le_of_ble_eq_true rfl) (lv0 := [(0, .ref a), (1, .int m)]) rfl ?_
  refine ev_ss DX3_roomWith 4 0 (pc' := 6) (lv' := [(0, .ref _), (1, .int _)]) (st' := [.ref _, .int _]) rfl ?_
  refine ev_get DX3_roomWith 4 GX3 rfl (k0 := 7) (Nat.le_of_ble_eq_true rfl) fX3_15 h rfl ?_
  refine ev_ss DX3_roomWith 2 5 (pc' := 12) (lv' := [(0, .ref _), (1, .int _)]) (st' := [.int 64, .int _]) rfl ?_
  refine ev_idiv DX3_roomWith 7 rfl (by decide) ?_
  exact ev_iret DX3_roomWith 8 rfl rfl ⟨rfl, rfl⟩
set_option maxRecDepth 100000 in
set_option maxHeartbeats 4000000 in
theorem m_X3_decide {E : gE} {ws : va_W} {q a : Nat} {f : TF} {r : Int32} (h : ws[q]? = some (a, toneC f)) (hg : ¬ f 7 ≤ 0) : CD E YX3_decide 0 0 [.ref a, .int r] ws (some (.int (decP f r))) ws := by
  refine cdV vX3_decide (Nat.le_of_ble_eq_true rfl) (lv0 := [(0, .ref a), (1, .int r)]) rfl ?_
  refine ev_ss DX3_decide 2 0 (pc' := 2) (lv' := [(0, .ref _), (1, .int _)]) (st' := [.ref _, .int _]) rfl ?_
  refine ev_get DX3_decide 2 GX3 rfl (k0 := 8) (Nat.le_of_ble_eq_true rfl) fX3_39 h rfl ?_
  refine ev_ss DX3_decide 1 3 (pc' := 6) (lv' := [(0, .ref _), (1, .int _)]) (st' := [.ref _, .int _, .int _]) rfl ?_
  refine ev_get DX3_decide 4 GX3 rfl (k0 := 16) (Nat.le_of_ble_eq_true rfl) fX3_60 h rfl ?_
  refine ev_ss DX3_decide 2 5 (pc' := 11) (lv' := [(0, .ref _), (1, .int _)]) (st' := [.ref _, .int _, .int _]) rfl ?_
  refine ev_get DX3_decide 7 GX3 rfl (k0 := 9) (Nat.le_of_ble_eq_true rfl) fX3_42 h rfl ?_
  refine ev_ss DX3_decide 1 8 (pc' := 15) (lv' := [(0, .ref _), (1, .int _)]) (st' := [.ref _, .int _, .int _, .int _]) rfl ?_
  refine ev_get DX3_decide 9 GX3 rfl (k0 := 17) (Nat.le_of_ble_eq_true rfl) fX3_63 h rfl ?_
  refine ev_ss DX3_decide 3 10 (pc' := 22) (lv' := [(0, .ref _), (1, .int _)]) (st' := [.int 64, .int _, .int _]) rfl ?_
  refine ev_idiv DX3_decide 13 rfl (by decide) ?_
  refine ev_ss DX3_decide 3 14 (pc' := 26) (lv' := [(2, .int _), (0, .ref _), (1, .int _)]) (st' := [.ref _]) rfl ?_
  refine ev_get DX3_decide 17 GX3 rfl (k0 := 7) (Nat.le_of_ble_eq_true rfl) fX3_15 h rfl ?_
  refine ev_ifle DX3_decide 18 rfl (tgt := 44) (by decide) (fun h => absurd h hg) (fun _ => ?_)
  refine ev_ss DX3_decide 4 19 (pc' := 37) (lv' := [(2, .int _), (0, .ref _), (1, .int _)]) (st' := [.ref _, .int _]) rfl ?_
  refine ev_get DX3_decide 23 GX3 rfl (k0 := 7) (Nat.le_of_ble_eq_true rfl) fX3_15 h rfl ?_
  refine ev_idiv DX3_decide 24 rfl (fun e => hg (by rw [e]; decide)) ?_
  refine ev_goto DX3_decide 25 rfl (tgt := 45) (by decide) ?_
  refine ev_ss DX3_decide 8 27 (pc' := 56) (lv' := [(3, .int _), (2, .int _), (0, .ref _), (1, .int _)]) (st' := [.ref _, .int 9, .int _]) rfl ?_
  refine ev_get DX3_decide 35 GX3 rfl (k0 := 10) (Nat.le_of_ble_eq_true rfl) fX3_45 h rfl ?_
  refine ev_ss DX3_decide 7 36 (pc' := 68) (lv' := [(4, .int _), (3, .int _), (2, .int _), (0, .ref _), (1, .int _)]) (st' := [.ref _, .int 1, .int _, .int 0]) rfl ?_
  refine ev_get DX3_decide 43 GX3 rfl (k0 := 10) (Nat.le_of_ble_eq_true rfl) fX3_45 h rfl ?_
  refine ev_ss DX3_decide 3 44 (pc' := 74) (lv' := [(4, .int _), (3, .int _), (2, .int _), (0, .ref _), (1, .int _)]) (st' := [.int _, .int _, .int 0]) rfl ?_
  refine ev_min DX3_decide 47 rfl qX3_66 (Nat.le_of_ble_eq_true rfl) (Nat.le_of_ble_eq_true rfl) ?_
  refine ev_max DX3_decide 48 rfl qX3_72 (Nat.le_of_ble_eq_true rfl) (Nat.le_of_ble_eq_true rfl) ?_
  exact ev_iret DX3_decide 49 rfl rfl ⟨rfl, rfl⟩
set_option maxRecDepth 100000 in
set_option maxHeartbeats 4000000 in
theorem m_X3_step {E : gE} {ws : va_W} {pr p : Int32} (hp : ¬ p ≤ 0) (hp2 : ¬ (128 : Int32) * p = 0) : CD E YX3_step 0 0 [.int pr, .int p] ws (some (.int (stepP pr p))) ws := by
  refine cdS vX3_step (Nat.le_of_ble_eq_true rfl) (lv0 := [(0, .int pr), (1, .int p)]) rfl ?_
  refine ev_ss DX3_step 1 0 (pc' := 1) (lv' := [(0, .int _), (1, .int _)]) (st' := [.int _]) rfl ?_
  refine ev_ifle DX3_step 1 rfl (tgt := 14) (by decide) (fun h => absurd h hp) (fun _ => ?_)
  refine ev_ss DX3_step 4 2 (pc' := 10) (lv' := [(0, .int _), (1, .int _)]) (st' := [.int _, .int _]) rfl ?_
  refine ev_idiv DX3_step 6 rfl hp2 ?_
  refine ev_goto DX3_step 7 rfl (tgt := 15) (by decide) ?_
  exact ev_iret DX3_step 9 rfl rfl ⟨rfl, rfl⟩
set_option maxRecDepth 100000 in
set_option maxHeartbeats 4000000 in
theorem m_X3_improve {E : gE} {ws : va_W} {q a : Nat} {f : TF} {er amp p : Int32} (h : ws[q]? = some (a, toneC f)) (hp : ¬ p ≤ 0) (hp2 : ¬ (128 : Int32) * p = 0) : CD E YX3_improve 0 0 [.ref a, .int er, .int amp, .int p] ws none (ws.set q (a, toneC (impP f er amp p))) := by
  refine cdV vX3_improve (Nat.le_of_ble_eq_true rfl) (lv0 := [(0, .ref a), (1, .int er), (2, .int amp), (3, .int p)]) rfl ?_
  refine ev_ss DX3_improve 2 0 (pc' := 2) (lv' := [(0, .ref _), (1, .int _), (2, .int _), (3, .int _)]) (st' := [.ref _, .ref _]) rfl ?_
  refine ev_get DX3_improve 2 GX3 rfl (k0 := 7) (Nat.le_of_ble_eq_true rfl) fX3_15 h rfl ?_
  refine ev_ss DX3_improve 4 3 (pc' := 9) (lv' := [(0, .ref _), (1, .int _), (2, .int _), (3, .int _)]) (st' := [.int _, .int _, .int _, .ref _]) rfl ?_
  refine ev_cS DX3_improve 7 (m_X3_step hp hp2) vX3_step rfl qX3_75 rfl (hd_of rfl rfl rfl rfl) ?_
  refine ev_ss DX3_improve 3 8 (pc' := 18) (lv' := [(0, .ref _), (1, .int _), (2, .int _), (3, .int _)]) (st' := [.int 128, .int 8, .int _, .ref _]) rfl ?_
  refine ev_cS DX3_improve 11 m_X3_held vX3_held rfl qX3_78 rfl (hd_of rfl rfl rfl rfl) ?_
  refine ev_put (fs' := [_, _, _, _, _, _, _, _, _, _, _, _, _, _, _, _, _, _]) DX3_improve 12 GX3 rfl (k0 := 7) (Nat.le_of_ble_eq_true rfl) fX3_15 rfl ⟨rfl, rfl⟩ h (Nat.le_of_ble_eq_true rfl) rfl rfl ?_
  refine ev_ss DX3_improve 2 13 (pc' := 26) (lv' := [(0, .ref _), (1, .int _), (2, .int _), (3, .int _)]) (st' := [.ref _, .ref _]) rfl ?_
  refine ev_get DX3_improve 15 GX3 rfl (k0 := 8) (Nat.le_of_ble_eq_true rfl) fX3_39 (wset_get h) rfl ?_
  refine ev_ss DX3_improve 2 16 (pc' := 31) (lv' := [(0, .ref _), (1, .int _), (2, .int _), (3, .int _)]) (st' := [.ref _, .int _, .int _, .ref _]) rfl ?_
  refine ev_get DX3_improve 18 GX3 rfl (k0 := 5) (Nat.le_of_ble_eq_true rfl) fX3_33 (wset_get h) rfl ?_
  refine ev_ss DX3_improve 2 19 (pc' := 36) (lv' := [(0, .ref _), (1, .int _), (2, .int _), (3, .int _)]) (st' := [.int _, .int _, .int _, .ref _]) rfl ?_
  refine ev_cS DX3_improve 21 (m_X3_step hp hp2) vX3_step rfl qX3_75 rfl (hd_of rfl rfl rfl rfl) ?_
  refine ev_ss DX3_improve 3 22 (pc' := 44) (lv' := [(0, .ref _), (1, .int _), (2, .int _), (3, .int _)]) (st' := [.int 48, .int (-48), .int _, .ref _]) rfl ?_
  refine ev_cS DX3_improve 25 m_X3_held vX3_held rfl qX3_78 rfl (hd_of rfl rfl rfl rfl) ?_
  refine ev_put (fs' := [_, _, _, _, _, _, _, _, _, _, _, _, _, _, _, _, _, _]) DX3_improve 26 GX3 rfl (k0 := 8) (Nat.le_of_ble_eq_true rfl) fX3_39 rfl ⟨rfl, rfl⟩ (wset_get h) (Nat.le_of_ble_eq_true rfl) rfl wset_set ?_
  refine ev_ss DX3_improve 2 27 (pc' := 52) (lv' := [(0, .ref _), (1, .int _), (2, .int _), (3, .int _)]) (st' := [.ref _, .ref _]) rfl ?_
  refine ev_get DX3_improve 29 GX3 rfl (k0 := 9) (Nat.le_of_ble_eq_true rfl) fX3_42 (wset_get h) rfl ?_
  refine ev_ss DX3_improve 2 30 (pc' := 57) (lv' := [(0, .ref _), (1, .int _), (2, .int _), (3, .int _)]) (st' := [.ref _, .int _, .int _, .ref _]) rfl ?_
  refine ev_get DX3_improve 32 GX3 rfl (k0 := 6) (Nat.le_of_ble_eq_true rfl) fX3_36 (wset_get h) rfl ?_
  refine ev_ss DX3_improve 2 33 (pc' := 62) (lv' := [(0, .ref _), (1, .int _), (2, .int _), (3, .int _)]) (st' := [.int _, .int _, .int _, .ref _]) rfl ?_
  refine ev_cS DX3_improve 35 (m_X3_step hp hp2) vX3_step rfl qX3_75 rfl (hd_of rfl rfl rfl rfl) ?_
  refine ev_ss DX3_improve 3 36 (pc' := 70) (lv' := [(0, .ref _), (1, .int _), (2, .int _), (3, .int _)]) (st' := [.int 48, .int (-48), .int _, .ref _]) rfl ?_
  refine ev_cS DX3_improve 39 m_X3_held vX3_held rfl qX3_78 rfl (hd_of rfl rfl rfl rfl) ?_
  refine ev_put (fs' := [_, _, _, _, _, _, _, _, _, _, _, _, _, _, _, _, _, _]) DX3_improve 40 GX3 rfl (k0 := 9) (Nat.le_of_ble_eq_true rfl) fX3_42 rfl ⟨rfl, rfl⟩ (wset_get h) (Nat.le_of_ble_eq_true rfl) rfl wset_set ?_
  exact ev_vret DX3_improve 41 rfl rfl ⟨rfl, rfl⟩
set_option maxRecDepth 100000 in
set_option maxHeartbeats 4000000 in
theorem m_X3_bitsFor {E : gE} {ws : va_W} {q a : Nat} {f : TF} {wo mg : Int32} (h : ws[q]? = some (a, toneC f)) : CD E YX3_bitsFor 0 0 [.ref a, .int wo, .int mg] ws (some (.int (bfP (f 7) (wo * mg / 4)))) ws := by
  refine cdV vX3_bitsFor (Nat.le_of_ble_eq_true rfl) (lv0 := [(0, .ref a), (1, .int wo), (2, .int mg)]) rfl ?_
  refine ev_ss DX3_bitsFor 4 0 (pc' := 4) (lv' := [(0, .ref _), (1, .int _), (2, .int _)]) (st' := [.int 4, .int _]) rfl ?_
  refine ev_idiv DX3_bitsFor 4 rfl (by decide) ?_
  refine ev_ss DX3_bitsFor 4 5 (pc' := 11) (lv' := [(4, .int 4), (3, .int _), (0, .ref _), (1, .int _), (2, .int _)]) (st' := [.int 4]) rfl ?_
  refine ev_ifle DX3_bitsFor 9 rfl (tgt := 33) (by decide) (fun h => absurd h (by decide)) (fun _ => ?_)
  refine ev_ss DX3_bitsFor 3 10 (pc' := 18) (lv' := [(4, .int 4), (3, .int _), (0, .ref _), (1, .int _), (2, .int _)]) (st' := [.int 4, .ref _, .int _]) rfl ?_
  refine ev_cV DX3_bitsFor 13 (m_X3_roomWith h) vX3_roomWith rfl qX3_85 rfl h rfl (hd_of rfl rfl rfl rfl) ?_
  refine ev_icge DX3_bitsFor 14 rfl (tgt := 27) (by decide) (fun c_2 => ?_) (fun c_2 => ?_)
  · refine ev_ss DX3_bitsFor 1 17 (pc' := 30) (lv' := [(4, .int 3), (3, .int _), (0, .ref _), (1, .int _), (2, .int _)]) (st' := []) rfl ?_
    refine ev_goto DX3_bitsFor 18 rfl (tgt := 9) (by decide) ?_
    refine ev_ss DX3_bitsFor 1 8 (pc' := 11) (lv' := [(4, .int 3), (3, .int _), (0, .ref _), (1, .int _), (2, .int _)]) (st' := [.int 3]) rfl ?_
    refine ev_ifle DX3_bitsFor 9 rfl (tgt := 33) (by decide) (fun h => absurd h (by decide)) (fun _ => ?_)
    refine ev_ss DX3_bitsFor 3 10 (pc' := 18) (lv' := [(4, .int 3), (3, .int _), (0, .ref _), (1, .int _), (2, .int _)]) (st' := [.int 3, .ref _, .int _]) rfl ?_
    refine ev_cV DX3_bitsFor 13 (m_X3_roomWith h) vX3_roomWith rfl qX3_85 rfl h rfl (hd_of rfl rfl rfl rfl) ?_
    refine ev_icge DX3_bitsFor 14 rfl (tgt := 27) (by decide) (fun c_4 => ?_) (fun c_4 => ?_)
    · refine ev_ss DX3_bitsFor 1 17 (pc' := 30) (lv' := [(4, .int 2), (3, .int _), (0, .ref _), (1, .int _), (2, .int _)]) (st' := []) rfl ?_
      refine ev_goto DX3_bitsFor 18 rfl (tgt := 9) (by decide) ?_
      refine ev_ss DX3_bitsFor 1 8 (pc' := 11) (lv' := [(4, .int 2), (3, .int _), (0, .ref _), (1, .int _), (2, .int _)]) (st' := [.int 2]) rfl ?_
      refine ev_ifle DX3_bitsFor 9 rfl (tgt := 33) (by decide) (fun h => absurd h (by decide)) (fun _ => ?_)
      refine ev_ss DX3_bitsFor 3 10 (pc' := 18) (lv' := [(4, .int 2), (3, .int _), (0, .ref _), (1, .int _), (2, .int _)]) (st' := [.int 2, .ref _, .int _]) rfl ?_
      refine ev_cV DX3_bitsFor 13 (m_X3_roomWith h) vX3_roomWith rfl qX3_85 rfl h rfl (hd_of rfl rfl rfl rfl) ?_
      refine ev_icge DX3_bitsFor 14 rfl (tgt := 27) (by decide) (fun c_6 => ?_) (fun c_6 => ?_)
      · refine ev_ss DX3_bitsFor 1 17 (pc' := 30) (lv' := [(4, .int 1), (3, .int _), (0, .ref _), (1, .int _), (2, .int _)]) (st' := []) rfl ?_
        refine ev_goto DX3_bitsFor 18 rfl (tgt := 9) (by decide) ?_
        refine ev_ss DX3_bitsFor 1 8 (pc' := 11) (lv' := [(4, .int 1), (3, .int _), (0, .ref _), (1, .int _), (2, .int _)]) (st' := [.int 1]) rfl ?_
        refine ev_ifle DX3_bitsFor 9 rfl (tgt := 33) (by decide) (fun h => absurd h (by decide)) (fun _ => ?_)
        refine ev_ss DX3_bitsFor 3 10 (pc' := 18) (lv' := [(4, .int 1), (3, .int _), (0, .ref _), (1, .int _), (2, .int _)]) (st' := [.int 1, .ref _, .int _]) rfl ?_
        refine ev_cV DX3_bitsFor 13 (m_X3_roomWith h) vX3_roomWith rfl qX3_85 rfl h rfl (hd_of rfl rfl rfl rfl) ?_
        refine ev_icge DX3_bitsFor 14 rfl (tgt := 27) (by decide) (fun c_8 => ?_) (fun c_8 => ?_)
        · refine ev_ss DX3_bitsFor 1 17 (pc' := 30) (lv' := [(4, .int 0), (3, .int _), (0, .ref _), (1, .int _), (2, .int _)]) (st' := []) rfl ?_
          refine ev_goto DX3_bitsFor 18 rfl (tgt := 9) (by decide) ?_
          refine ev_ss DX3_bitsFor 1 8 (pc' := 11) (lv' := [(4, .int 0), (3, .int _), (0, .ref _), (1, .int _), (2, .int _)]) (st' := [.int 0]) rfl ?_
          refine ev_ifle DX3_bitsFor 9 rfl (tgt := 33) (by decide) (fun _ => ?_) (fun h => h.elim (by decide))
          refine ev_ss DX3_bitsFor 1 19 (pc' := 34) (lv' := [(4, .int 0), (3, .int _), (0, .ref _), (1, .int _), (2, .int _)]) (st' := [.int 0]) rfl ?_
          exact ev_iret DX3_bitsFor 20 rfl rfl ⟨vI ((if_pos c_2).trans ((if_pos c_4).trans ((if_pos c_6).trans (if_pos c_8)))), rfl⟩
        · refine ev_ss DX3_bitsFor 1 15 (pc' := 26) (lv' := [(4, .int 1), (3, .int _), (0, .ref _), (1, .int _), (2, .int _)]) (st' := [.int 1]) rfl ?_
          exact ev_iret DX3_bitsFor 16 rfl rfl ⟨vI ((if_pos c_2).trans ((if_pos c_4).trans ((if_pos c_6).trans (if_neg c_8)))), rfl⟩
      · refine ev_ss DX3_bitsFor 1 15 (pc' := 26) (lv' := [(4, .int 2), (3, .int _), (0, .ref _), (1, .int _), (2, .int _)]) (st' := [.int 2]) rfl ?_
        exact ev_iret DX3_bitsFor 16 rfl rfl ⟨vI ((if_pos c_2).trans ((if_pos c_4).trans (if_neg c_6))), rfl⟩
    · refine ev_ss DX3_bitsFor 1 15 (pc' := 26) (lv' := [(4, .int 3), (3, .int _), (0, .ref _), (1, .int _), (2, .int _)]) (st' := [.int 3]) rfl ?_
      exact ev_iret DX3_bitsFor 16 rfl rfl ⟨vI ((if_pos c_2).trans (if_neg c_4)), rfl⟩
  · refine ev_ss DX3_bitsFor 1 15 (pc' := 26) (lv' := [(4, .int 4), (3, .int _), (0, .ref _), (1, .int _), (2, .int _)]) (st' := [.int 4]) rfl ?_
    exact ev_iret DX3_bitsFor 16 rfl rfl ⟨vI (if_neg c_2), rfl⟩
set_option maxRecDepth 100000 in
set_option maxHeartbeats 4000000 in
theorem m_X3_endLesson {E : gE} {ws : va_W} {q a : Nat} {f : TF} {wo mg : Int32} (h : ws[q]? = some (a, toneC f)) : CD E YX3_endLesson 0 0 [.ref a, .int wo, .int mg] ws none (ws.set q (a, toneC (endP f wo mg))) := by
  refine cdV vX3_endLesson (Nat.le_of_ble_eq_true rfl) (lv0 := [(0, .ref a), (1, .int wo), (2, .int mg)]) rfl ?_
  refine ev_ss DX3_endLesson 2 0 (pc' := 2) (lv' := [(0, .ref _), (1, .int _), (2, .int _)]) (st' := [.int _, .ref _]) rfl ?_
  refine ev_put (fs' := [_, _, _, _, _, _, _, _, _, _, _, _, _, _, _, _, _, _]) DX3_endLesson 2 GX3 rfl (k0 := 11) (Nat.le_of_ble_eq_true rfl) fX3_18 rfl ⟨rfl, rfl⟩ h (Nat.le_of_ble_eq_true rfl) rfl rfl ?_
  refine ev_ss DX3_endLesson 4 3 (pc' := 9) (lv' := [(0, .ref _), (1, .int _), (2, .int _)]) (st' := [.int _, .int _, .ref _, .ref _]) rfl ?_
  refine ev_cV DX3_endLesson 7 (m_X3_bitsFor (f := upd f 11 wo) (wo := wo) (mg := mg) (wset_get h)) vX3_bitsFor rfl qX3_82 rfl (wset_get h) rfl (hd_of rfl rfl rfl rfl) ?_
  refine ev_put (fs' := [_, _, _, _, _, _, _, _, _, _, _, _, _, _, _, _, _, _]) DX3_endLesson 8 GX3 rfl (k0 := 10) (Nat.le_of_ble_eq_true rfl) fX3_45 rfl ⟨rfl, rfl⟩ (wset_get h) (Nat.le_of_ble_eq_true rfl) rfl wset_set ?_
  refine ev_ss DX3_endLesson 2 9 (pc' := 17) (lv' := [(0, .ref _), (1, .int _), (2, .int _)]) (st' := [.int 0, .ref _]) rfl ?_
  refine ev_put (fs' := [_, _, _, _, _, _, _, _, _, _, _, _, _, _, _, _, _, _]) DX3_endLesson 11 GX3 rfl (k0 := 12) (Nat.le_of_ble_eq_true rfl) fX3_48 rfl ⟨rfl, rfl⟩ (wset_get h) (Nat.le_of_ble_eq_true rfl) rfl wset_set ?_
  exact ev_vret DX3_endLesson 12 rfl rfl ⟨rfl, rfl⟩
set_option maxRecDepth 100000 in
set_option maxHeartbeats 4000000 in
theorem m_X3_misheardWith {E : gE} {ws : va_W} {q a : Nat} {f : TF} {m : Int32} (h : ws[q]? = some (a, toneC f)) : CD E YX3_misheardWith 0 0 [.ref a, .int m] ws (some (.int (misP f m))) ws := by
  refine cdV vX3_misheardWith (Nat.le_of_ble_eq_true rfl) (lv0 := [(0, .ref a), (1, .int m)]) rfl ?_
  refine ev_ss DX3_misheardWith 7 0 (pc' := 11) (lv' := [(2, .int _), (0, .ref _), (1, .int _)]) (st' := [.ref _]) rfl ?_
  refine ev_get DX3_misheardWith 7 GX3 rfl (k0 := 1) (Nat.le_of_ble_eq_true rfl) fX3_21 h rfl ?_
  refine ev_ss DX3_misheardWith 1 8 (pc' := 15) (lv' := [(2, .int _), (0, .ref _), (1, .int _)]) (st' := [.ref _, .int _]) rfl ?_
  refine ev_get DX3_misheardWith 9 GX3 rfl (k0 := 8) (Nat.le_of_ble_eq_true rfl) fX3_39 h rfl ?_
  refine ev_ss DX3_misheardWith 1 10 (pc' := 19) (lv' := [(2, .int _), (0, .ref _), (1, .int _)]) (st' := [.int _]) rfl ?_
  refine ev_abs DX3_misheardWith 11 rfl qX3_92 (Nat.le_of_ble_eq_true rfl) (Nat.le_of_ble_eq_true rfl) ?_
  refine ev_ss DX3_misheardWith 1 12 (pc' := 23) (lv' := [(2, .int _), (0, .ref _), (1, .int _)]) (st' := [.ref _, .int _]) rfl ?_
  refine ev_get DX3_misheardWith 13 GX3 rfl (k0 := 2) (Nat.le_of_ble_eq_true rfl) fX3_24 h rfl ?_
  refine ev_ss DX3_misheardWith 1 14 (pc' := 27) (lv' := [(2, .int _), (0, .ref _), (1, .int _)]) (st' := [.ref _, .int _, .int _]) rfl ?_
  refine ev_get DX3_misheardWith 15 GX3 rfl (k0 := 9) (Nat.le_of_ble_eq_true rfl) fX3_42 h rfl ?_
  refine ev_ss DX3_misheardWith 1 16 (pc' := 31) (lv' := [(2, .int _), (0, .ref _), (1, .int _)]) (st' := [.int _, .int _]) rfl ?_
  refine ev_abs DX3_misheardWith 17 rfl qX3_92 (Nat.le_of_ble_eq_true rfl) (Nat.le_of_ble_eq_true rfl) ?_
  refine ev_ss DX3_misheardWith 3 18 (pc' := 37) (lv' := [(3, .int _), (2, .int _), (0, .ref _), (1, .int _)]) (st' := [.ref _]) rfl ?_
  refine ev_get DX3_misheardWith 21 GX3 rfl (k0 := 0) (Nat.le_of_ble_eq_true rfl) fX3_9 h rfl ?_
  refine ev_ss DX3_misheardWith 1 22 (pc' := 41) (lv' := [(3, .int _), (2, .int _), (0, .ref _), (1, .int _)]) (st' := [.ref _, .int _]) rfl ?_
  refine ev_get DX3_misheardWith 23 GX3 rfl (k0 := 7) (Nat.le_of_ble_eq_true rfl) fX3_15 h rfl ?_
  refine ev_ss DX3_misheardWith 1 24 (pc' := 45) (lv' := [(3, .int _), (2, .int _), (0, .ref _), (1, .int _)]) (st' := [.int _]) rfl ?_
  refine ev_abs DX3_misheardWith 25 rfl qX3_92 (Nat.le_of_ble_eq_true rfl) (Nat.le_of_ble_eq_true rfl) ?_
  refine ev_ss DX3_misheardWith 7 26 (pc' := 58) (lv' := [(3, .int _), (2, .int _), (0, .ref _), (1, .int _)]) (st' := [.int 64, .int _]) rfl ?_
  refine ev_idiv DX3_misheardWith 33 rfl (by decide) ?_
  exact ev_iret DX3_misheardWith 34 rfl rfl ⟨rfl, rfl⟩
set_option maxRecDepth 100000 in
set_option maxHeartbeats 4000000 in
theorem m_X3_sureBits {E : gE} {ws : va_W} {q a : Nat} {f : TF} (h : ws[q]? = some (a, toneC f)) : CD E YX3_sureBits 0 0 [.ref a] ws (some (.int (surP f))) ws := by
  refine cdV vX3_sureBits (Nat.le_of_ble_eq_true rfl) (lv0 := [(0, .ref a)]) rfl ?_
  refine ev_ss DX3_sureBits 3 0 (pc' := 3) (lv' := [(1, .int 4), (0, .ref _)]) (st' := [.int 4]) rfl ?_
  refine ev_ifle DX3_sureBits 3 rfl (tgt := 34) (by decide) (fun h => absurd h (by decide)) (fun _ => ?_)
  refine ev_ss DX3_sureBits 2 4 (pc' := 8) (lv' := [(1, .int 4), (0, .ref _)]) (st' := [.int 4, .ref _]) rfl ?_
  refine ev_cV DX3_sureBits 6 (m_X3_misheardWith h) vX3_misheardWith rfl qX3_89 rfl h rfl (hd_of rfl rfl rfl rfl) ?_
  refine ev_ss DX3_sureBits 1 7 (pc' := 12) (lv' := [(1, .int 4), (0, .ref _)]) (st' := [.ref _, .int _]) rfl ?_
  refine ev_get DX3_sureBits 8 GX3 rfl (k0 := 3) (Nat.le_of_ble_eq_true rfl) fX3_27 h rfl ?_
  refine ev_ss DX3_sureBits 5 9 (pc' := 20) (lv' := [(1, .int 4), (0, .ref _)]) (st' := [.int 4, .ref _, .int _]) rfl ?_
  refine ev_cV DX3_sureBits 14 (m_X3_roomWith h) vX3_roomWith rfl qX3_85 rfl h rfl (hd_of rfl rfl rfl rfl) ?_
  refine ev_icge DX3_sureBits 15 rfl (tgt := 28) (by decide) (fun c_2 => ?_) (fun c_2 => ?_)
  · refine ev_ss DX3_sureBits 1 18 (pc' := 31) (lv' := [(1, .int 3), (0, .ref _)]) (st' := []) rfl ?_
    refine ev_goto DX3_sureBits 19 rfl (tgt := 2) (by decide) ?_
    refine ev_ss DX3_sureBits 1 2 (pc' := 3) (lv' := [(1, .int 3), (0, .ref _)]) (st' := [.int 3]) rfl ?_
    refine ev_ifle DX3_sureBits 3 rfl (tgt := 34) (by decide) (fun h => absurd h (by decide)) (fun _ => ?_)
    refine ev_ss DX3_sureBits 2 4 (pc' := 8) (lv' := [(1, .int 3), (0, .ref _)]) (st' := [.int 3, .ref _]) rfl ?_
    refine ev_cV DX3_sureBits 6 (m_X3_misheardWith h) vX3_misheardWith rfl qX3_89 rfl h rfl (hd_of rfl rfl rfl rfl) ?_
    refine ev_ss DX3_sureBits 1 7 (pc' := 12) (lv' := [(1, .int 3), (0, .ref _)]) (st' := [.ref _, .int _]) rfl ?_
    refine ev_get DX3_sureBits 8 GX3 rfl (k0 := 3) (Nat.le_of_ble_eq_true rfl) fX3_27 h rfl ?_
    refine ev_ss DX3_sureBits 5 9 (pc' := 20) (lv' := [(1, .int 3), (0, .ref _)]) (st' := [.int 3, .ref _, .int _]) rfl ?_
    refine ev_cV DX3_sureBits 14 (m_X3_roomWith h) vX3_roomWith rfl qX3_85 rfl h rfl (hd_of rfl rfl rfl rfl) ?_
    refine ev_icge DX3_sureBits 15 rfl (tgt := 28) (by decide) (fun c_4 => ?_) (fun c_4 => ?_)
    · refine ev_ss DX3_sureBits 1 18 (pc' := 31) (lv' := [(1, .int 2), (0, .ref _)]) (st' := []) rfl ?_
      refine ev_goto DX3_sureBits 19 rfl (tgt := 2) (by decide) ?_
      refine ev_ss DX3_sureBits 1 2 (pc' := 3) (lv' := [(1, .int 2), (0, .ref _)]) (st' := [.int 2]) rfl ?_
      refine ev_ifle DX3_sureBits 3 rfl (tgt := 34) (by decide) (fun h => absurd h (by decide)) (fun _ => ?_)
      refine ev_ss DX3_sureBits 2 4 (pc' := 8) (lv' := [(1, .int 2), (0, .ref _)]) (st' := [.int 2, .ref _]) rfl ?_
      refine ev_cV DX3_sureBits 6 (m_X3_misheardWith h) vX3_misheardWith rfl qX3_89 rfl h rfl (hd_of rfl rfl rfl rfl) ?_
      refine ev_ss DX3_sureBits 1 7 (pc' := 12) (lv' := [(1, .int 2), (0, .ref _)]) (st' := [.ref _, .int _]) rfl ?_
      refine ev_get DX3_sureBits 8 GX3 rfl (k0 := 3) (Nat.le_of_ble_eq_true rfl) fX3_27 h rfl ?_
      refine ev_ss DX3_sureBits 5 9 (pc' := 20) (lv' := [(1, .int 2), (0, .ref _)]) (st' := [.int 2, .ref _, .int _]) rfl ?_
      refine ev_cV DX3_sureBits 14 (m_X3_roomWith h) vX3_roomWith rfl qX3_85 rfl h rfl (hd_of rfl rfl rfl rfl) ?_
      refine ev_icge DX3_sureBits 15 rfl (tgt := 28) (by decide) (fun c_6 => ?_) (fun c_6 => ?_)
      · refine ev_ss DX3_sureBits 1 18 (pc' := 31) (lv' := [(1, .int 1), (0, .ref _)]) (st' := []) rfl ?_
        refine ev_goto DX3_sureBits 19 rfl (tgt := 2) (by decide) ?_
        refine ev_ss DX3_sureBits 1 2 (pc' := 3) (lv' := [(1, .int 1), (0, .ref _)]) (st' := [.int 1]) rfl ?_
        refine ev_ifle DX3_sureBits 3 rfl (tgt := 34) (by decide) (fun h => absurd h (by decide)) (fun _ => ?_)
        refine ev_ss DX3_sureBits 2 4 (pc' := 8) (lv' := [(1, .int 1), (0, .ref _)]) (st' := [.int 1, .ref _]) rfl ?_
        refine ev_cV DX3_sureBits 6 (m_X3_misheardWith h) vX3_misheardWith rfl qX3_89 rfl h rfl (hd_of rfl rfl rfl rfl) ?_
        refine ev_ss DX3_sureBits 1 7 (pc' := 12) (lv' := [(1, .int 1), (0, .ref _)]) (st' := [.ref _, .int _]) rfl ?_
        refine ev_get DX3_sureBits 8 GX3 rfl (k0 := 3) (Nat.le_of_ble_eq_true rfl) fX3_27 h rfl ?_
        refine ev_ss DX3_sureBits 5 9 (pc' := 20) (lv' := [(1, .int 1), (0, .ref _)]) (st' := [.int 1, .ref _, .int _]) rfl ?_
        refine ev_cV DX3_sureBits 14 (m_X3_roomWith h) vX3_roomWith rfl qX3_85 rfl h rfl (hd_of rfl rfl rfl rfl) ?_
        refine ev_icge DX3_sureBits 15 rfl (tgt := 28) (by decide) (fun c_8 => ?_) (fun c_8 => ?_)
        · refine ev_ss DX3_sureBits 1 18 (pc' := 31) (lv' := [(1, .int 0), (0, .ref _)]) (st' := []) rfl ?_
          refine ev_goto DX3_sureBits 19 rfl (tgt := 2) (by decide) ?_
          refine ev_ss DX3_sureBits 1 2 (pc' := 3) (lv' := [(1, .int 0), (0, .ref _)]) (st' := [.int 0]) rfl ?_
          refine ev_ifle DX3_sureBits 3 rfl (tgt := 34) (by decide) (fun _ => ?_) (fun h => h.elim (by decide))
          refine ev_ss DX3_sureBits 1 20 (pc' := 35) (lv' := [(1, .int 0), (0, .ref _)]) (st' := [.int 0]) rfl ?_
          exact ev_iret DX3_sureBits 21 rfl rfl ⟨vI ((if_pos c_2).trans ((if_pos c_4).trans ((if_pos c_6).trans (if_pos c_8)))), rfl⟩
        · refine ev_ss DX3_sureBits 1 16 (pc' := 27) (lv' := [(1, .int 1), (0, .ref _)]) (st' := [.int 1]) rfl ?_
          exact ev_iret DX3_sureBits 17 rfl rfl ⟨vI ((if_pos c_2).trans ((if_pos c_4).trans ((if_pos c_6).trans (if_neg c_8)))), rfl⟩
      · refine ev_ss DX3_sureBits 1 16 (pc' := 27) (lv' := [(1, .int 2), (0, .ref _)]) (st' := [.int 2]) rfl ?_
        exact ev_iret DX3_sureBits 17 rfl rfl ⟨vI ((if_pos c_2).trans ((if_pos c_4).trans (if_neg c_6))), rfl⟩
    · refine ev_ss DX3_sureBits 1 16 (pc' := 27) (lv' := [(1, .int 3), (0, .ref _)]) (st' := [.int 3]) rfl ?_
      exact ev_iret DX3_sureBits 17 rfl rfl ⟨vI ((if_pos c_2).trans (if_neg c_4)), rfl⟩
  · refine ev_ss DX3_sureBits 1 16 (pc' := 27) (lv' := [(1, .int 4), (0, .ref _)]) (st' := [.int 4]) rfl ?_
    exact ev_iret DX3_sureBits 17 rfl rfl ⟨vI (if_neg c_2), rfl⟩
set_option maxRecDepth 100000 in
set_option maxHeartbeats 4000000 in
theorem m_X3_countSign {E : gE} {ws : va_W} {q a : Nat} {f : TF} {b : Int32} (h : ws[q]? = some (a, toneC f)) : CD E YX3_countSign 0 0 [.ref a, .int b] ws none (ws.set q (a, toneC (cntP f b))) := by
  refine cdV vX3_countSign (Nat.le_of_ble_eq_true rfl) (lv0 := [(0, .ref a), (1, .int b)]) rfl ?_
  refine ev_ss DX3_countSign 1 0 (pc' := 1) (lv' := [(0, .ref _), (1, .int _)]) (st' := [.ref _]) rfl ?_
  refine ev_get DX3_countSign 1 GX3 rfl (k0 := 10) (Nat.le_of_ble_eq_true rfl) fX3_45 h rfl ?_
  refine ev_ifle DX3_countSign 2 rfl (tgt := 17) (by decide) (fun c_1 => ?_) (fun c_1 => ?_)
  · refine ev_ss DX3_countSign 1 9 (pc' := 18) (lv' := [(0, .ref _), (1, .int _)]) (st' := [.int _]) rfl ?_
    refine ev_ifeq DX3_countSign 10 rfl (tgt := 41) (by decide) (fun c_2 => ?_) (fun c_2 => ?_)
    · exact ev_vret DX3_countSign 23 rfl rfl ⟨rfl, tset0 h ((if_pos c_1).trans (if_pos c_2))⟩
    · refine ev_ss DX3_countSign 2 11 (pc' := 23) (lv' := [(0, .ref _), (1, .int _)]) (st' := [.ref _, .ref _]) rfl ?_
      refine ev_get DX3_countSign 13 GX3 rfl (k0 := 15) (Nat.le_of_ble_eq_true rfl) fX3_57 h rfl ?_
      refine ev_ss DX3_countSign 2 14 (pc' := 28) (lv' := [(0, .ref _), (1, .int _)]) (st' := [.int _, .ref _]) rfl ?_
      refine ev_put (fs' := [_, _, _, _, _, _, _, _, _, _, _, _, _, _, _, _, _, _]) DX3_countSign 16 GX3 rfl (k0 := 15) (Nat.le_of_ble_eq_true rfl) fX3_57 rfl ⟨rfl, rfl⟩ h (Nat.le_of_ble_eq_true rfl) rfl rfl ?_
      refine ev_ss DX3_countSign 2 17 (pc' := 33) (lv' := [(0, .ref _), (1, .int _)]) (st' := [.ref _, .ref _]) rfl ?_
      refine ev_get DX3_countSign 19 GX3 rfl (k0 := 12) (Nat.le_of_ble_eq_true rfl) fX3_48 (wset_get h) rfl ?_
      refine ev_ss DX3_countSign 2 20 (pc' := 38) (lv' := [(0, .ref _), (1, .int _)]) (st' := [.int _, .ref _]) rfl ?_
      refine ev_put (fs' := [_, _, _, _, _, _, _, _, _, _, _, _, _, _, _, _, _, _]) DX3_countSign 22 GX3 rfl (k0 := 12) (Nat.le_of_ble_eq_true rfl) fX3_48 rfl ⟨rfl, rfl⟩ (wset_get h) (Nat.le_of_ble_eq_true rfl) rfl wset_set ?_
      exact ev_vret DX3_countSign 23 rfl rfl ⟨rfl, tset (g2 := cntP f b) ((if_pos c_1).trans (if_neg c_2)) rfl⟩
  · refine ev_ss DX3_countSign 2 3 (pc' := 9) (lv' := [(0, .ref _), (1, .int _)]) (st' := [.ref _, .ref _]) rfl ?_
    refine ev_get DX3_countSign 5 GX3 rfl (k0 := 14) (Nat.le_of_ble_eq_true rfl) fX3_54 h rfl ?_
    refine ev_ss DX3_countSign 2 6 (pc' := 14) (lv' := [(0, .ref _), (1, .int _)]) (st' := [.int _, .ref _]) rfl ?_
    refine ev_put (fs' := [_, _, _, _, _, _, _, _, _, _, _, _, _, _, _, _, _, _]) DX3_countSign 8 GX3 rfl (k0 := 14) (Nat.le_of_ble_eq_true rfl) fX3_54 rfl ⟨rfl, rfl⟩ h (Nat.le_of_ble_eq_true rfl) rfl rfl ?_
    refine ev_ss DX3_countSign 1 9 (pc' := 18) (lv' := [(0, .ref _), (1, .int _)]) (st' := [.int _]) rfl ?_
    refine ev_ifeq DX3_countSign 10 rfl (tgt := 41) (by decide) (fun c_3 => ?_) (fun c_3 => ?_)
    · exact ev_vret DX3_countSign 23 rfl rfl ⟨rfl, tset (g2 := cntP f b) ((if_neg c_1).trans (if_pos c_3)) rfl⟩
    · refine ev_ss DX3_countSign 2 11 (pc' := 23) (lv' := [(0, .ref _), (1, .int _)]) (st' := [.ref _, .ref _]) rfl ?_
      refine ev_get DX3_countSign 13 GX3 rfl (k0 := 15) (Nat.le_of_ble_eq_true rfl) fX3_57 (wset_get h) rfl ?_
      refine ev_ss DX3_countSign 2 14 (pc' := 28) (lv' := [(0, .ref _), (1, .int _)]) (st' := [.int _, .ref _]) rfl ?_
      refine ev_put (fs' := [_, _, _, _, _, _, _, _, _, _, _, _, _, _, _, _, _, _]) DX3_countSign 16 GX3 rfl (k0 := 15) (Nat.le_of_ble_eq_true rfl) fX3_57 rfl ⟨rfl, rfl⟩ (wset_get h) (Nat.le_of_ble_eq_true rfl) rfl wset_set ?_
      refine ev_ss DX3_countSign 2 17 (pc' := 33) (lv' := [(0, .ref _), (1, .int _)]) (st' := [.ref _, .ref _]) rfl ?_
      refine ev_get DX3_countSign 19 GX3 rfl (k0 := 12) (Nat.le_of_ble_eq_true rfl) fX3_48 (wset_get h) rfl ?_
      refine ev_ss DX3_countSign 2 20 (pc' := 38) (lv' := [(0, .ref _), (1, .int _)]) (st' := [.int _, .ref _]) rfl ?_
      refine ev_put (fs' := [_, _, _, _, _, _, _, _, _, _, _, _, _, _, _, _, _, _]) DX3_countSign 22 GX3 rfl (k0 := 12) (Nat.le_of_ble_eq_true rfl) fX3_48 rfl ⟨rfl, rfl⟩ (wset_get h) (Nat.le_of_ble_eq_true rfl) rfl wset_set ?_
      exact ev_vret DX3_countSign 23 rfl rfl ⟨rfl, tset (g2 := cntP f b) ((if_neg c_1).trans (if_neg c_3)) rfl⟩
set_option maxRecDepth 100000 in
set_option maxHeartbeats 4000000 in
theorem m_X3_becomeShyAt {E : gE} {ws : va_W} {q a : Nat} {f : TF} {m : Int32} (h : ws[q]? = some (a, toneC f)) : CD E YX3_becomeShyAt 0 0 [.ref a, .int m] ws none (ws.set q (a, toneC (shyP f m))) := by
  refine cdV vX3_becomeShyAt (Nat.le_of_ble_eq_true rfl) (lv0 := [(0, .ref a), (1, .int m)]) rfl ?_
  refine ev_ss DX3_becomeShyAt 1 0 (pc' := 1) (lv' := [(0, .ref _), (1, .int _)]) (st' := [.ref _]) rfl ?_
  refine ev_get DX3_becomeShyAt 1 GX3 rfl (k0 := 10) (Nat.le_of_ble_eq_true rfl) fX3_45 h rfl ?_
  refine ev_ifle DX3_becomeShyAt 2 rfl (tgt := 40) (by decide) (fun c_1 => ?_) (fun c_1 => ?_)
  · exact ev_vret DX3_becomeShyAt 22 rfl rfl ⟨rfl, tset0 h (if_pos c_1)⟩
  · refine ev_ss DX3_becomeShyAt 1 3 (pc' := 8) (lv' := [(0, .ref _), (1, .int _)]) (st' := [.ref _]) rfl ?_
    refine ev_get DX3_becomeShyAt 4 GX3 rfl (k0 := 12) (Nat.le_of_ble_eq_true rfl) fX3_48 h rfl ?_
    refine ev_ss DX3_becomeShyAt 1 5 (pc' := 12) (lv' := [(0, .ref _), (1, .int _)]) (st' := [.int _, .int _]) rfl ?_
    refine ev_iclt DX3_becomeShyAt 6 rfl (tgt := 40) (by decide) (fun c_2 => ?_) (fun c_2 => ?_)
    · exact ev_vret DX3_becomeShyAt 22 rfl rfl ⟨rfl, tset0 h ((if_neg c_1).trans (if_pos c_2))⟩
    · refine ev_ss DX3_becomeShyAt 2 7 (pc' := 17) (lv' := [(0, .ref _), (1, .int _)]) (st' := [.ref _, .ref _]) rfl ?_
      refine ev_get DX3_becomeShyAt 9 GX3 rfl (k0 := 10) (Nat.le_of_ble_eq_true rfl) fX3_45 h rfl ?_
      refine ev_ss DX3_becomeShyAt 2 10 (pc' := 22) (lv' := [(0, .ref _), (1, .int _)]) (st' := [.int _, .ref _]) rfl ?_
      refine ev_put (fs' := [_, _, _, _, _, _, _, _, _, _, _, _, _, _, _, _, _, _]) DX3_becomeShyAt 12 GX3 rfl (k0 := 10) (Nat.le_of_ble_eq_true rfl) fX3_45 rfl ⟨rfl, rfl⟩ h (Nat.le_of_ble_eq_true rfl) rfl rfl ?_
      refine ev_ss DX3_becomeShyAt 2 13 (pc' := 27) (lv' := [(0, .ref _), (1, .int _)]) (st' := [.ref _, .ref _]) rfl ?_
      refine ev_get DX3_becomeShyAt 15 GX3 rfl (k0 := 13) (Nat.le_of_ble_eq_true rfl) fX3_51 (wset_get h) rfl ?_
      refine ev_ss DX3_becomeShyAt 2 16 (pc' := 32) (lv' := [(0, .ref _), (1, .int _)]) (st' := [.int _, .ref _]) rfl ?_
      refine ev_put (fs' := [_, _, _, _, _, _, _, _, _, _, _, _, _, _, _, _, _, _]) DX3_becomeShyAt 18 GX3 rfl (k0 := 13) (Nat.le_of_ble_eq_true rfl) fX3_51 rfl ⟨rfl, rfl⟩ (wset_get h) (Nat.le_of_ble_eq_true rfl) rfl wset_set ?_
      refine ev_ss DX3_becomeShyAt 2 19 (pc' := 37) (lv' := [(0, .ref _), (1, .int _)]) (st' := [.int 0, .ref _]) rfl ?_
      refine ev_put (fs' := [_, _, _, _, _, _, _, _, _, _, _, _, _, _, _, _, _, _]) DX3_becomeShyAt 21 GX3 rfl (k0 := 12) (Nat.le_of_ble_eq_true rfl) fX3_48 rfl ⟨rfl, rfl⟩ (wset_get h) (Nat.le_of_ble_eq_true rfl) rfl wset_set ?_
      exact ev_vret DX3_becomeShyAt 22 rfl rfl ⟨rfl, tset (g2 := shyP f m) ((if_neg c_1).trans (if_neg c_2)) rfl⟩
set_option maxRecDepth 100000 in
set_option maxHeartbeats 4000000 in
theorem m_X3_copyFrom {E : gE} {ws : va_W} {q a q2 a2 : Nat} {f g : TF} (h : ws[q]? = some (a, toneC f)) (h2 : ws[q2]? = some (a2, toneC g)) (hne : q ≠ q2) : CD E YX3_copyFrom 0 0 [.ref a, .ref a2] ws none (ws.set q (a, toneC g)) := by
  refine cdV vX3_copyFrom (Nat.le_of_ble_eq_true rfl) (lv0 := [(0, .ref a), (1, .ref a2)]) rfl ?_
  refine ev_ss DX3_copyFrom 2 0 (pc' := 2) (lv' := [(0, .ref _), (1, .ref _)]) (st' := [.ref _, .ref _]) rfl ?_
  refine ev_get DX3_copyFrom 2 GX3 rfl (k0 := 0) (Nat.le_of_ble_eq_true rfl) fX3_9 h2 rfl ?_
  refine ev_put (fs' := [_, _, _, _, _, _, _, _, _, _, _, _, _, _, _, _, _, _]) DX3_copyFrom 3 GX3 rfl (k0 := 0) (Nat.le_of_ble_eq_true rfl) fX3_9 rfl ⟨rfl, rfl⟩ h (Nat.le_of_ble_eq_true rfl) rfl rfl ?_
  refine ev_ss DX3_copyFrom 2 4 (pc' := 10) (lv' := [(0, .ref _), (1, .ref _)]) (st' := [.ref _, .ref _]) rfl ?_
  refine ev_get DX3_copyFrom 6 GX3 rfl (k0 := 1) (Nat.le_of_ble_eq_true rfl) fX3_21 (wset_n h2 hne) rfl ?_
  refine ev_put (fs' := [_, _, _, _, _, _, _, _, _, _, _, _, _, _, _, _, _, _]) DX3_copyFrom 7 GX3 rfl (k0 := 1) (Nat.le_of_ble_eq_true rfl) fX3_21 rfl ⟨rfl, rfl⟩ (wset_get h) (Nat.le_of_ble_eq_true rfl) rfl wset_set ?_
  refine ev_ss DX3_copyFrom 2 8 (pc' := 18) (lv' := [(0, .ref _), (1, .ref _)]) (st' := [.ref _, .ref _]) rfl ?_
  refine ev_get DX3_copyFrom 10 GX3 rfl (k0 := 2) (Nat.le_of_ble_eq_true rfl) fX3_24 (wset_n h2 hne) rfl ?_
  refine ev_put (fs' := [_, _, _, _, _, _, _, _, _, _, _, _, _, _, _, _, _, _]) DX3_copyFrom 11 GX3 rfl (k0 := 2) (Nat.le_of_ble_eq_true rfl) fX3_24 rfl ⟨rfl, rfl⟩ (wset_get h) (Nat.le_of_ble_eq_true rfl) rfl wset_set ?_
  refine ev_ss DX3_copyFrom 2 12 (pc' := 26) (lv' := [(0, .ref _), (1, .ref _)]) (st' := [.ref _, .ref _]) rfl ?_
  refine ev_get DX3_copyFrom 14 GX3 rfl (k0 := 3) (Nat.le_of_ble_eq_true rfl) fX3_27 (wset_n h2 hne) rfl ?_
  refine ev_put (fs' := [_, _, _, _, _, _, _, _, _, _, _, _, _, _, _, _, _, _]) DX3_copyFrom 15 GX3 rfl (k0 := 3) (Nat.le_of_ble_eq_true rfl) fX3_27 rfl ⟨rfl, rfl⟩ (wset_get h) (Nat.le_of_ble_eq_true rfl) rfl wset_set ?_
  refine ev_ss DX3_copyFrom 2 16 (pc' := 34) (lv' := [(0, .ref _), (1, .ref _)]) (st' := [.ref _, .ref _]) rfl ?_
  refine ev_get DX3_copyFrom 18 GX3 rfl (k0 := 4) (Nat.le_of_ble_eq_true rfl) fX3_30 (wset_n h2 hne) rfl ?_
  refine ev_put (fs' := [_, _, _, _, _, _, _, _, _, _, _, _, _, _, _, _, _, _]) DX3_copyFrom 19 GX3 rfl (k0 := 4) (Nat.le_of_ble_eq_true rfl) fX3_30 rfl ⟨rfl, rfl⟩ (wset_get h) (Nat.le_of_ble_eq_true rfl) rfl wset_set ?_
  refine ev_ss DX3_copyFrom 2 20 (pc' := 42) (lv' := [(0, .ref _), (1, .ref _)]) (st' := [.ref _, .ref _]) rfl ?_
  refine ev_get DX3_copyFrom 22 GX3 rfl (k0 := 5) (Nat.le_of_ble_eq_true rfl) fX3_33 (wset_n h2 hne) rfl ?_
  refine ev_put (fs' := [_, _, _, _, _, _, _, _, _, _, _, _, _, _, _, _, _, _]) DX3_copyFrom 23 GX3 rfl (k0 := 5) (Nat.le_of_ble_eq_true rfl) fX3_33 rfl ⟨rfl, rfl⟩ (wset_get h) (Nat.le_of_ble_eq_true rfl) rfl wset_set ?_
  refine ev_ss DX3_copyFrom 2 24 (pc' := 50) (lv' := [(0, .ref _), (1, .ref _)]) (st' := [.ref _, .ref _]) rfl ?_
  refine ev_get DX3_copyFrom 26 GX3 rfl (k0 := 6) (Nat.le_of_ble_eq_true rfl) fX3_36 (wset_n h2 hne) rfl ?_
  refine ev_put (fs' := [_, _, _, _, _, _, _, _, _, _, _, _, _, _, _, _, _, _]) DX3_copyFrom 27 GX3 rfl (k0 := 6) (Nat.le_of_ble_eq_true rfl) fX3_36 rfl ⟨rfl, rfl⟩ (wset_get h) (Nat.le_of_ble_eq_true rfl) rfl wset_set ?_
  refine ev_ss DX3_copyFrom 2 28 (pc' := 58) (lv' := [(0, .ref _), (1, .ref _)]) (st' := [.ref _, .ref _]) rfl ?_
  refine ev_get DX3_copyFrom 30 GX3 rfl (k0 := 7) (Nat.le_of_ble_eq_true rfl) fX3_15 (wset_n h2 hne) rfl ?_
  refine ev_put (fs' := [_, _, _, _, _, _, _, _, _, _, _, _, _, _, _, _, _, _]) DX3_copyFrom 31 GX3 rfl (k0 := 7) (Nat.le_of_ble_eq_true rfl) fX3_15 rfl ⟨rfl, rfl⟩ (wset_get h) (Nat.le_of_ble_eq_true rfl) rfl wset_set ?_
  refine ev_ss DX3_copyFrom 2 32 (pc' := 66) (lv' := [(0, .ref _), (1, .ref _)]) (st' := [.ref _, .ref _]) rfl ?_
  refine ev_get DX3_copyFrom 34 GX3 rfl (k0 := 8) (Nat.le_of_ble_eq_true rfl) fX3_39 (wset_n h2 hne) rfl ?_
  refine ev_put (fs' := [_, _, _, _, _, _, _, _, _, _, _, _, _, _, _, _, _, _]) DX3_copyFrom 35 GX3 rfl (k0 := 8) (Nat.le_of_ble_eq_true rfl) fX3_39 rfl ⟨rfl, rfl⟩ (wset_get h) (Nat.le_of_ble_eq_true rfl) rfl wset_set ?_
  refine ev_ss DX3_copyFrom 2 36 (pc' := 74) (lv' := [(0, .ref _), (1, .ref _)]) (st' := [.ref _, .ref _]) rfl ?_
  refine ev_get DX3_copyFrom 38 GX3 rfl (k0 := 9) (Nat.le_of_ble_eq_true rfl) fX3_42 (wset_n h2 hne) rfl ?_
  refine ev_put (fs' := [_, _, _, _, _, _, _, _, _, _, _, _, _, _, _, _, _, _]) DX3_copyFrom 39 GX3 rfl (k0 := 9) (Nat.le_of_ble_eq_true rfl) fX3_42 rfl ⟨rfl, rfl⟩ (wset_get h) (Nat.le_of_ble_eq_true rfl) rfl wset_set ?_
  refine ev_ss DX3_copyFrom 2 40 (pc' := 82) (lv' := [(0, .ref _), (1, .ref _)]) (st' := [.ref _, .ref _]) rfl ?_
  refine ev_get DX3_copyFrom 42 GX3 rfl (k0 := 10) (Nat.le_of_ble_eq_true rfl) fX3_45 (wset_n h2 hne) rfl ?_
  refine ev_put (fs' := [_, _, _, _, _, _, _, _, _, _, _, _, _, _, _, _, _, _]) DX3_copyFrom 43 GX3 rfl (k0 := 10) (Nat.le_of_ble_eq_true rfl) fX3_45 rfl ⟨rfl, rfl⟩ (wset_get h) (Nat.le_of_ble_eq_true rfl) rfl wset_set ?_
  refine ev_ss DX3_copyFrom 2 44 (pc' := 90) (lv' := [(0, .ref _), (1, .ref _)]) (st' := [.ref _, .ref _]) rfl ?_
  refine ev_get DX3_copyFrom 46 GX3 rfl (k0 := 11) (Nat.le_of_ble_eq_true rfl) fX3_18 (wset_n h2 hne) rfl ?_
  refine ev_put (fs' := [_, _, _, _, _, _, _, _, _, _, _, _, _, _, _, _, _, _]) DX3_copyFrom 47 GX3 rfl (k0 := 11) (Nat.le_of_ble_eq_true rfl) fX3_18 rfl ⟨rfl, rfl⟩ (wset_get h) (Nat.le_of_ble_eq_true rfl) rfl wset_set ?_
  refine ev_ss DX3_copyFrom 2 48 (pc' := 98) (lv' := [(0, .ref _), (1, .ref _)]) (st' := [.ref _, .ref _]) rfl ?_
  refine ev_get DX3_copyFrom 50 GX3 rfl (k0 := 12) (Nat.le_of_ble_eq_true rfl) fX3_48 (wset_n h2 hne) rfl ?_
  refine ev_put (fs' := [_, _, _, _, _, _, _, _, _, _, _, _, _, _, _, _, _, _]) DX3_copyFrom 51 GX3 rfl (k0 := 12) (Nat.le_of_ble_eq_true rfl) fX3_48 rfl ⟨rfl, rfl⟩ (wset_get h) (Nat.le_of_ble_eq_true rfl) rfl wset_set ?_
  refine ev_ss DX3_copyFrom 2 52 (pc' := 106) (lv' := [(0, .ref _), (1, .ref _)]) (st' := [.ref _, .ref _]) rfl ?_
  refine ev_get DX3_copyFrom 54 GX3 rfl (k0 := 13) (Nat.le_of_ble_eq_true rfl) fX3_51 (wset_n h2 hne) rfl ?_
  refine ev_put (fs' := [_, _, _, _, _, _, _, _, _, _, _, _, _, _, _, _, _, _]) DX3_copyFrom 55 GX3 rfl (k0 := 13) (Nat.le_of_ble_eq_true rfl) fX3_51 rfl ⟨rfl, rfl⟩ (wset_get h) (Nat.le_of_ble_eq_true rfl) rfl wset_set ?_
  refine ev_ss DX3_copyFrom 2 56 (pc' := 114) (lv' := [(0, .ref _), (1, .ref _)]) (st' := [.ref _, .ref _]) rfl ?_
  refine ev_get DX3_copyFrom 58 GX3 rfl (k0 := 14) (Nat.le_of_ble_eq_true rfl) fX3_54 (wset_n h2 hne) rfl ?_
  refine ev_put (fs' := [_, _, _, _, _, _, _, _, _, _, _, _, _, _, _, _, _, _]) DX3_copyFrom 59 GX3 rfl (k0 := 14) (Nat.le_of_ble_eq_true rfl) fX3_54 rfl ⟨rfl, rfl⟩ (wset_get h) (Nat.le_of_ble_eq_true rfl) rfl wset_set ?_
  refine ev_ss DX3_copyFrom 2 60 (pc' := 122) (lv' := [(0, .ref _), (1, .ref _)]) (st' := [.ref _, .ref _]) rfl ?_
  refine ev_get DX3_copyFrom 62 GX3 rfl (k0 := 15) (Nat.le_of_ble_eq_true rfl) fX3_57 (wset_n h2 hne) rfl ?_
  refine ev_put (fs' := [_, _, _, _, _, _, _, _, _, _, _, _, _, _, _, _, _, _]) DX3_copyFrom 63 GX3 rfl (k0 := 15) (Nat.le_of_ble_eq_true rfl) fX3_57 rfl ⟨rfl, rfl⟩ (wset_get h) (Nat.le_of_ble_eq_true rfl) rfl wset_set ?_
  refine ev_ss DX3_copyFrom 2 64 (pc' := 130) (lv' := [(0, .ref _), (1, .ref _)]) (st' := [.ref _, .ref _]) rfl ?_
  refine ev_get DX3_copyFrom 66 GX3 rfl (k0 := 16) (Nat.le_of_ble_eq_true rfl) fX3_60 (wset_n h2 hne) rfl ?_
  refine ev_put (fs' := [_, _, _, _, _, _, _, _, _, _, _, _, _, _, _, _, _, _]) DX3_copyFrom 67 GX3 rfl (k0 := 16) (Nat.le_of_ble_eq_true rfl) fX3_60 rfl ⟨rfl, rfl⟩ (wset_get h) (Nat.le_of_ble_eq_true rfl) rfl wset_set ?_
  refine ev_ss DX3_copyFrom 2 68 (pc' := 138) (lv' := [(0, .ref _), (1, .ref _)]) (st' := [.ref _, .ref _]) rfl ?_
  refine ev_get DX3_copyFrom 70 GX3 rfl (k0 := 17) (Nat.le_of_ble_eq_true rfl) fX3_63 (wset_n h2 hne) rfl ?_
  refine ev_put (fs' := [_, _, _, _, _, _, _, _, _, _, _, _, _, _, _, _, _, _]) DX3_copyFrom 71 GX3 rfl (k0 := 17) (Nat.le_of_ble_eq_true rfl) fX3_63 rfl ⟨rfl, rfl⟩ (wset_get h) (Nat.le_of_ble_eq_true rfl) rfl wset_set ?_
  exact ev_vret DX3_copyFrom 72 rfl rfl ⟨rfl, rfl⟩
set_option maxRecDepth 100000 in
set_option maxHeartbeats 4000000 in
theorem m_X3_streetNumber_0 {E : gE} {ws : va_W} {q a : Nat} {f : TF} (h : ws[q]? = some (a, toneC f)) : CD E YX3_streetNumber 0 0 [.ref a, .int 0] ws (some (.int (f 0))) ws := by
  refine cdV vX3_streetNumber (Nat.le_of_ble_eq_true rfl) (lv0 := [(0, .ref a), (1, .int 0)]) rfl ?_
  refine ev_ss DX3_streetNumber 1 0 (pc' := 1) (lv' := [(0, .ref _), (1, .int 0)]) (st' := [.int 0]) rfl ?_
  refine ev_swin DX3_streetNumber 1 rfl (by decide) (by decide) (off := 39) (by decide) (tgt := 40) (by decide) ?_
  refine ev_ss DX3_streetNumber 1 2 (pc' := 41) (lv' := [(0, .ref _), (1, .int 0)]) (st' := [.ref _]) rfl ?_
  refine ev_get DX3_streetNumber 3 GX3 rfl (k0 := 0) (Nat.le_of_ble_eq_true rfl) fX3_9 h rfl ?_
  exact ev_iret DX3_streetNumber 4 rfl rfl ⟨rfl, rfl⟩
set_option maxRecDepth 100000 in
set_option maxHeartbeats 4000000 in
theorem m_X3_streetNumber_1 {E : gE} {ws : va_W} {q a : Nat} {f : TF} (h : ws[q]? = some (a, toneC f)) : CD E YX3_streetNumber 0 0 [.ref a, .int 1] ws (some (.int (f 1))) ws := by
  refine cdV vX3_streetNumber (Nat.le_of_ble_eq_true rfl) (lv0 := [(0, .ref a), (1, .int 1)]) rfl ?_
  refine ev_ss DX3_streetNumber 1 0 (pc' := 1) (lv' := [(0, .ref _), (1, .int 1)]) (st' := [.int 1]) rfl ?_
  refine ev_swin DX3_streetNumber 1 rfl (by decide) (by decide) (off := 44) (by decide) (tgt := 45) (by decide) ?_
  refine ev_ss DX3_streetNumber 1 5 (pc' := 46) (lv' := [(0, .ref _), (1, .int 1)]) (st' := [.ref _]) rfl ?_
  refine ev_get DX3_streetNumber 6 GX3 rfl (k0 := 1) (Nat.le_of_ble_eq_true rfl) fX3_21 h rfl ?_
  exact ev_iret DX3_streetNumber 7 rfl rfl ⟨rfl, rfl⟩
set_option maxRecDepth 100000 in
set_option maxHeartbeats 4000000 in
theorem m_X3_streetNumber_2 {E : gE} {ws : va_W} {q a : Nat} {f : TF} (h : ws[q]? = some (a, toneC f)) : CD E YX3_streetNumber 0 0 [.ref a, .int 2] ws (some (.int (f 2))) ws := by
  refine cdV vX3_streetNumber (Nat.le_of_ble_eq_true rfl) (lv0 := [(0, .ref a), (1, .int 2)]) rfl ?_
  refine ev_ss DX3_streetNumber 1 0 (pc' := 1) (lv' := [(0, .ref _), (1, .int 2)]) (st' := [.int 2]) rfl ?_
  refine ev_swin DX3_streetNumber 1 rfl (by decide) (by decide) (off := 49) (by decide) (tgt := 50) (by decide) ?_
  refine ev_ss DX3_streetNumber 1 8 (pc' := 51) (lv' := [(0, .ref _), (1, .int 2)]) (st' := [.ref _]) rfl ?_
  refine ev_get DX3_streetNumber 9 GX3 rfl (k0 := 2) (Nat.le_of_ble_eq_true rfl) fX3_24 h rfl ?_
  exact ev_iret DX3_streetNumber 10 rfl rfl ⟨rfl, rfl⟩
set_option maxRecDepth 100000 in
set_option maxHeartbeats 4000000 in
theorem m_X3_streetNumber_3 {E : gE} {ws : va_W} {q a : Nat} {f : TF} (h : ws[q]? = some (a, toneC f)) : CD E YX3_streetNumber 0 0 [.ref a, .int 3] ws (some (.int (f 3))) ws := by
  refine cdV vX3_streetNumber (Nat.le_of_ble_eq_true rfl) (lv0 := [(0, .ref a), (1, .int 3)]) rfl ?_
  refine ev_ss DX3_streetNumber 1 0 (pc' := 1) (lv' := [(0, .ref _), (1, .int 3)]) (st' := [.int 3]) rfl ?_
  refine ev_swin DX3_streetNumber 1 rfl (by decide) (by decide) (off := 54) (by decide) (tgt := 55) (by decide) ?_
  refine ev_ss DX3_streetNumber 1 11 (pc' := 56) (lv' := [(0, .ref _), (1, .int 3)]) (st' := [.ref _]) rfl ?_
  refine ev_get DX3_streetNumber 12 GX3 rfl (k0 := 3) (Nat.le_of_ble_eq_true rfl) fX3_27 h rfl ?_
  exact ev_iret DX3_streetNumber 13 rfl rfl ⟨rfl, rfl⟩
set_option maxRecDepth 100000 in
set_option maxHeartbeats 4000000 in
theorem m_X3_streetNumber_4 {E : gE} {ws : va_W} {q a : Nat} {f : TF} (h : ws[q]? = some (a, toneC f)) : CD E YX3_streetNumber 0 0 [.ref a, .int 4] ws (some (.int (f 4))) ws := by
  refine cdV vX3_streetNumber (Nat.le_of_ble_eq_true rfl) (lv0 := [(0, .ref a), (1, .int 4)]) rfl ?_
  refine ev_ss DX3_streetNumber 1 0 (pc' := 1) (lv' := [(0, .ref _), (1, .int 4)]) (st' := [.int 4]) rfl ?_
  refine ev_swin DX3_streetNumber 1 rfl (by decide) (by decide) (off := 59) (by decide) (tgt := 60) (by decide) ?_
  refine ev_ss DX3_streetNumber 1 14 (pc' := 61) (lv' := [(0, .ref _), (1, .int 4)]) (st' := [.ref _]) rfl ?_
  refine ev_get DX3_streetNumber 15 GX3 rfl (k0 := 4) (Nat.le_of_ble_eq_true rfl) fX3_30 h rfl ?_
  exact ev_iret DX3_streetNumber 16 rfl rfl ⟨rfl, rfl⟩
set_option maxRecDepth 100000 in
set_option maxHeartbeats 4000000 in
theorem m_X3_streetNumber_5 {E : gE} {ws : va_W} {q a : Nat} {f : TF} (h : ws[q]? = some (a, toneC f)) : CD E YX3_streetNumber 0 0 [.ref a, .int 5] ws (some (.int (f 5))) ws := by
  refine cdV vX3_streetNumber (Nat.le_of_ble_eq_true rfl) (lv0 := [(0, .ref a), (1, .int 5)]) rfl ?_
  refine ev_ss DX3_streetNumber 1 0 (pc' := 1) (lv' := [(0, .ref _), (1, .int 5)]) (st' := [.int 5]) rfl ?_
  refine ev_swin DX3_streetNumber 1 rfl (by decide) (by decide) (off := 64) (by decide) (tgt := 65) (by decide) ?_
  refine ev_ss DX3_streetNumber 1 17 (pc' := 66) (lv' := [(0, .ref _), (1, .int 5)]) (st' := [.ref _]) rfl ?_
  refine ev_get DX3_streetNumber 18 GX3 rfl (k0 := 5) (Nat.le_of_ble_eq_true rfl) fX3_33 h rfl ?_
  exact ev_iret DX3_streetNumber 19 rfl rfl ⟨rfl, rfl⟩
set_option maxRecDepth 100000 in
set_option maxHeartbeats 4000000 in
theorem m_X3_streetNumber_6 {E : gE} {ws : va_W} {q a : Nat} {f : TF} (h : ws[q]? = some (a, toneC f)) : CD E YX3_streetNumber 0 0 [.ref a, .int 6] ws (some (.int (f 6))) ws := by
  refine cdV vX3_streetNumber (Nat.le_of_ble_eq_true rfl) (lv0 := [(0, .ref a), (1, .int 6)]) rfl ?_
  refine ev_ss DX3_streetNumber 1 0 (pc' := 1) (lv' := [(0, .ref _), (1, .int 6)]) (st' := [.int 6]) rfl ?_
  refine ev_swout DX3_streetNumber 1 rfl (by decide) (tgt := 70) (by decide) ?_
  refine ev_ss DX3_streetNumber 1 20 (pc' := 71) (lv' := [(0, .ref _), (1, .int 6)]) (st' := [.ref _]) rfl ?_
  refine ev_get DX3_streetNumber 21 GX3 rfl (k0 := 6) (Nat.le_of_ble_eq_true rfl) fX3_36 h rfl ?_
  exact ev_iret DX3_streetNumber 22 rfl rfl ⟨rfl, rfl⟩
set_option maxRecDepth 100000 in
set_option maxHeartbeats 4000000 in
theorem m_X3_accentNumber_0 {E : gE} {ws : va_W} {q a : Nat} {f : TF} (h : ws[q]? = some (a, toneC f)) : CD E YX3_accentNumber 0 0 [.ref a, .int 0] ws (some (.int (f 7))) ws := by
  refine cdV vX3_accentNumber (Nat.le_of_ble_eq_true rfl) (lv0 := [(0, .ref a), (1, .int 0)]) rfl ?_
  refine ev_ss DX3_accentNumber 1 0 (pc' := 1) (lv' := [(0, .ref _), (1, .int 0)]) (st' := [.int 0]) rfl ?_
  refine ev_swin DX3_accentNumber 1 rfl (by decide) (by decide) (off := 55) (by decide) (tgt := 56) (by decide) ?_
  refine ev_ss DX3_accentNumber 1 2 (pc' := 57) (lv' := [(0, .ref _), (1, .int 0)]) (st' := [.ref _]) rfl ?_
  refine ev_get DX3_accentNumber 3 GX3 rfl (k0 := 7) (Nat.le_of_ble_eq_true rfl) fX3_15 h rfl ?_
  exact ev_iret DX3_accentNumber 4 rfl rfl ⟨rfl, rfl⟩
set_option maxRecDepth 100000 in
set_option maxHeartbeats 4000000 in
theorem m_X3_accentNumber_1 {E : gE} {ws : va_W} {q a : Nat} {f : TF} (h : ws[q]? = some (a, toneC f)) : CD E YX3_accentNumber 0 0 [.ref a, .int 1] ws (some (.int (f 8))) ws := by
  refine cdV vX3_accentNumber (Nat.le_of_ble_eq_true rfl) (lv0 := [(0, .ref a), (1, .int 1)]) rfl ?_
  refine ev_ss DX3_accentNumber 1 0 (pc' := 1) (lv' := [(0, .ref _), (1, .int 1)]) (st' := [.int 1]) rfl ?_
  refine ev_swin DX3_accentNumber 1 rfl (by decide) (by decide) (off := 60) (by decide) (tgt := 61) (by decide) ?_
  refine ev_ss DX3_accentNumber 1 5 (pc' := 62) (lv' := [(0, .ref _), (1, .int 1)]) (st' := [.ref _]) rfl ?_
  refine ev_get DX3_accentNumber 6 GX3 rfl (k0 := 8) (Nat.le_of_ble_eq_true rfl) fX3_39 h rfl ?_
  exact ev_iret DX3_accentNumber 7 rfl rfl ⟨rfl, rfl⟩
set_option maxRecDepth 100000 in
set_option maxHeartbeats 4000000 in
theorem m_X3_accentNumber_2 {E : gE} {ws : va_W} {q a : Nat} {f : TF} (h : ws[q]? = some (a, toneC f)) : CD E YX3_accentNumber 0 0 [.ref a, .int 2] ws (some (.int (f 9))) ws := by
  refine cdV vX3_accentNumber (Nat.le_of_ble_eq_true rfl) (lv0 := [(0, .ref a), (1, .int 2)]) rfl ?_
  refine ev_ss DX3_accentNumber 1 0 (pc' := 1) (lv' := [(0, .ref _), (1, .int 2)]) (st' := [.int 2]) rfl ?_
  refine ev_swin DX3_accentNumber 1 rfl (by decide) (by decide) (off := 65) (by decide) (tgt := 66) (by decide) ?_
  refine ev_ss DX3_accentNumber 1 8 (pc' := 67) (lv' := [(0, .ref _), (1, .int 2)]) (st' := [.ref _]) rfl ?_
  refine ev_get DX3_accentNumber 9 GX3 rfl (k0 := 9) (Nat.le_of_ble_eq_true rfl) fX3_42 h rfl ?_
  exact ev_iret DX3_accentNumber 10 rfl rfl ⟨rfl, rfl⟩
set_option maxRecDepth 100000 in
set_option maxHeartbeats 4000000 in
theorem m_X3_accentNumber_3 {E : gE} {ws : va_W} {q a : Nat} {f : TF} (h : ws[q]? = some (a, toneC f)) : CD E YX3_accentNumber 0 0 [.ref a, .int 3] ws (some (.int (f 10))) ws := by
  refine cdV vX3_accentNumber (Nat.le_of_ble_eq_true rfl) (lv0 := [(0, .ref a), (1, .int 3)]) rfl ?_
  refine ev_ss DX3_accentNumber 1 0 (pc' := 1) (lv' := [(0, .ref _), (1, .int 3)]) (st' := [.int 3]) rfl ?_
  refine ev_swin DX3_accentNumber 1 rfl (by decide) (by decide) (off := 70) (by decide) (tgt := 71) (by decide) ?_
  refine ev_ss DX3_accentNumber 1 11 (pc' := 72) (lv' := [(0, .ref _), (1, .int 3)]) (st' := [.ref _]) rfl ?_
  refine ev_get DX3_accentNumber 12 GX3 rfl (k0 := 10) (Nat.le_of_ble_eq_true rfl) fX3_45 h rfl ?_
  exact ev_iret DX3_accentNumber 13 rfl rfl ⟨rfl, rfl⟩
set_option maxRecDepth 100000 in
set_option maxHeartbeats 4000000 in
theorem m_X3_accentNumber_4 {E : gE} {ws : va_W} {q a : Nat} {f : TF} (h : ws[q]? = some (a, toneC f)) : CD E YX3_accentNumber 0 0 [.ref a, .int 4] ws (some (.int (f 11))) ws := by
  refine cdV vX3_accentNumber (Nat.le_of_ble_eq_true rfl) (lv0 := [(0, .ref a), (1, .int 4)]) rfl ?_
  refine ev_ss DX3_accentNumber 1 0 (pc' := 1) (lv' := [(0, .ref _), (1, .int 4)]) (st' := [.int 4]) rfl ?_
  refine ev_swin DX3_accentNumber 1 rfl (by decide) (by decide) (off := 75) (by decide) (tgt := 76) (by decide) ?_
  refine ev_ss DX3_accentNumber 1 14 (pc' := 77) (lv' := [(0, .ref _), (1, .int 4)]) (st' := [.ref _]) rfl ?_
  refine ev_get DX3_accentNumber 15 GX3 rfl (k0 := 11) (Nat.le_of_ble_eq_true rfl) fX3_18 h rfl ?_
  exact ev_iret DX3_accentNumber 16 rfl rfl ⟨rfl, rfl⟩
set_option maxRecDepth 100000 in
set_option maxHeartbeats 4000000 in
theorem m_X3_accentNumber_5 {E : gE} {ws : va_W} {q a : Nat} {f : TF} (h : ws[q]? = some (a, toneC f)) : CD E YX3_accentNumber 0 0 [.ref a, .int 5] ws (some (.int (f 12))) ws := by
  refine cdV vX3_accentNumber (Nat.le_of_ble_eq_true rfl) (lv0 := [(0, .ref a), (1, .int 5)]) rfl ?_
  refine ev_ss DX3_accentNumber 1 0 (pc' := 1) (lv' := [(0, .ref _), (1, .int 5)]) (st' := [.int 5]) rfl ?_
  refine ev_swin DX3_accentNumber 1 rfl (by decide) (by decide) (off := 80) (by decide) (tgt := 81) (by decide) ?_
  refine ev_ss DX3_accentNumber 1 17 (pc' := 82) (lv' := [(0, .ref _), (1, .int 5)]) (st' := [.ref _]) rfl ?_
  refine ev_get DX3_accentNumber 18 GX3 rfl (k0 := 12) (Nat.le_of_ble_eq_true rfl) fX3_48 h rfl ?_
  exact ev_iret DX3_accentNumber 19 rfl rfl ⟨rfl, rfl⟩
set_option maxRecDepth 100000 in
set_option maxHeartbeats 4000000 in
theorem m_X3_accentNumber_6 {E : gE} {ws : va_W} {q a : Nat} {f : TF} (h : ws[q]? = some (a, toneC f)) : CD E YX3_accentNumber 0 0 [.ref a, .int 6] ws (some (.int (f 13))) ws := by
  refine cdV vX3_accentNumber (Nat.le_of_ble_eq_true rfl) (lv0 := [(0, .ref a), (1, .int 6)]) rfl ?_
  refine ev_ss DX3_accentNumber 1 0 (pc' := 1) (lv' := [(0, .ref _), (1, .int 6)]) (st' := [.int 6]) rfl ?_
  refine ev_swin DX3_accentNumber 1 rfl (by decide) (by decide) (off := 85) (by decide) (tgt := 86) (by decide) ?_
  refine ev_ss DX3_accentNumber 1 20 (pc' := 87) (lv' := [(0, .ref _), (1, .int 6)]) (st' := [.ref _]) rfl ?_
  refine ev_get DX3_accentNumber 21 GX3 rfl (k0 := 13) (Nat.le_of_ble_eq_true rfl) fX3_51 h rfl ?_
  exact ev_iret DX3_accentNumber 22 rfl rfl ⟨rfl, rfl⟩
set_option maxRecDepth 100000 in
set_option maxHeartbeats 4000000 in
theorem m_X3_accentNumber_7 {E : gE} {ws : va_W} {q a : Nat} {f : TF} (h : ws[q]? = some (a, toneC f)) : CD E YX3_accentNumber 0 0 [.ref a, .int 7] ws (some (.int (f 14))) ws := by
  refine cdV vX3_accentNumber (Nat.le_of_ble_eq_true rfl) (lv0 := [(0, .ref a), (1, .int 7)]) rfl ?_
  refine ev_ss DX3_accentNumber 1 0 (pc' := 1) (lv' := [(0, .ref _), (1, .int 7)]) (st' := [.int 7]) rfl ?_
  refine ev_swin DX3_accentNumber 1 rfl (by decide) (by decide) (off := 90) (by decide) (tgt := 91) (by decide) ?_
  refine ev_ss DX3_accentNumber 1 23 (pc' := 92) (lv' := [(0, .ref _), (1, .int 7)]) (st' := [.ref _]) rfl ?_
  refine ev_get DX3_accentNumber 24 GX3 rfl (k0 := 14) (Nat.le_of_ble_eq_true rfl) fX3_54 h rfl ?_
  exact ev_iret DX3_accentNumber 25 rfl rfl ⟨rfl, rfl⟩
set_option maxRecDepth 100000 in
set_option maxHeartbeats 4000000 in
theorem m_X3_accentNumber_8 {E : gE} {ws : va_W} {q a : Nat} {f : TF} (h : ws[q]? = some (a, toneC f)) : CD E YX3_accentNumber 0 0 [.ref a, .int 8] ws (some (.int (f 15))) ws := by
  refine cdV vX3_accentNumber (Nat.le_of_ble_eq_true rfl) (lv0 := [(0, .ref a), (1, .int 8)]) rfl ?_
  refine ev_ss DX3_accentNumber 1 0 (pc' := 1) (lv' := [(0, .ref _), (1, .int 8)]) (st' := [.int 8]) rfl ?_
  refine ev_swin DX3_accentNumber 1 rfl (by decide) (by decide) (off := 95) (by decide) (tgt := 96) (by decide) ?_
  refine ev_ss DX3_accentNumber 1 26 (pc' := 97) (lv' := [(0, .ref _), (1, .int 8)]) (st' := [.ref _]) rfl ?_
  refine ev_get DX3_accentNumber 27 GX3 rfl (k0 := 15) (Nat.le_of_ble_eq_true rfl) fX3_57 h rfl ?_
  exact ev_iret DX3_accentNumber 28 rfl rfl ⟨rfl, rfl⟩
set_option maxRecDepth 100000 in
set_option maxHeartbeats 4000000 in
theorem m_X3_accentNumber_9 {E : gE} {ws : va_W} {q a : Nat} {f : TF} (h : ws[q]? = some (a, toneC f)) : CD E YX3_accentNumber 0 0 [.ref a, .int 9] ws (some (.int (f 16))) ws := by
  refine cdV vX3_accentNumber (Nat.le_of_ble_eq_true rfl) (lv0 := [(0, .ref a), (1, .int 9)]) rfl ?_
  refine ev_ss DX3_accentNumber 1 0 (pc' := 1) (lv' := [(0, .ref _), (1, .int 9)]) (st' := [.int 9]) rfl ?_
  refine ev_swin DX3_accentNumber 1 rfl (by decide) (by decide) (off := 100) (by decide) (tgt := 101) (by decide) ?_
  refine ev_ss DX3_accentNumber 1 29 (pc' := 102) (lv' := [(0, .ref _), (1, .int 9)]) (st' := [.ref _]) rfl ?_
  refine ev_get DX3_accentNumber 30 GX3 rfl (k0 := 16) (Nat.le_of_ble_eq_true rfl) fX3_60 h rfl ?_
  exact ev_iret DX3_accentNumber 31 rfl rfl ⟨rfl, rfl⟩
set_option maxRecDepth 100000 in
set_option maxHeartbeats 4000000 in
theorem m_X3_accentNumber_10 {E : gE} {ws : va_W} {q a : Nat} {f : TF} (h : ws[q]? = some (a, toneC f)) : CD E YX3_accentNumber 0 0 [.ref a, .int 10] ws (some (.int (f 17))) ws := by
  refine cdV vX3_accentNumber (Nat.le_of_ble_eq_true rfl) (lv0 := [(0, .ref a), (1, .int 10)]) rfl ?_
  refine ev_ss DX3_accentNumber 1 0 (pc' := 1) (lv' := [(0, .ref _), (1, .int 10)]) (st' := [.int 10]) rfl ?_
  refine ev_swout DX3_accentNumber 1 rfl (by decide) (tgt := 106) (by decide) ?_
  refine ev_ss DX3_accentNumber 1 32 (pc' := 107) (lv' := [(0, .ref _), (1, .int 10)]) (st' := [.ref _]) rfl ?_
  refine ev_get DX3_accentNumber 33 GX3 rfl (k0 := 17) (Nat.le_of_ble_eq_true rfl) fX3_63 h rfl ?_
  exact ev_iret DX3_accentNumber 34 rfl rfl ⟨rfl, rfl⟩
set_option maxRecDepth 100000 in
set_option maxHeartbeats 4000000 in
theorem m_X3_setStreetNumber_0 {E : gE} {ws : va_W} {q a : Nat} {f : TF} {v : Int32} (h : ws[q]? = some (a, toneC f)) : CD E YX3_setStreetNumber 0 0 [.ref a, .int 0, .int v] ws none (ws.set q (a, toneC (upd f 0 v))) := by
  refine cdV vX3_setStreetNumber (Nat.le_of_ble_eq_true rfl) (lv0 := [(0, .ref a), (1, .int 0), (2, .int v)]) rfl ?_
  refine ev_ss DX3_setStreetNumber 1 0 (pc' := 1) (lv' := [(0, .ref _), (1, .int 0), (2, .int _)]) (st' := [.int 0]) rfl ?_
  refine ev_swin DX3_setStreetNumber 1 rfl (by decide) (by decide) (off := 27) (by decide) (tgt := 28) (by decide) ?_
  refine ev_ss DX3_setStreetNumber 2 2 (pc' := 30) (lv' := [(0, .ref _), (1, .int 0), (2, .int _)]) (st' := [.int _, .ref _]) rfl ?_
  refine ev_put (fs' := [_, _, _, _, _, _, _, _, _, _, _, _, _, _, _, _, _, _]) DX3_setStreetNumber 4 GX3 rfl (k0 := 0) (Nat.le_of_ble_eq_true rfl) fX3_9 rfl ⟨rfl, rfl⟩ h (Nat.le_of_ble_eq_true rfl) rfl rfl ?_
  refine ev_goto DX3_setStreetNumber 5 rfl (tgt := 57) (by decide) ?_
  exact ev_vret DX3_setStreetNumber 17 rfl rfl ⟨rfl, rfl⟩
set_option maxRecDepth 100000 in
set_option maxHeartbeats 4000000 in
theorem m_X3_setStreetNumber_1 {E : gE} {ws : va_W} {q a : Nat} {f : TF} {v : Int32} (h : ws[q]? = some (a, toneC f)) : CD E YX3_setStreetNumber 0 0 [.ref a, .int 1, .int v] ws none (ws.set q (a, toneC (upd f 1 v))) := by
  refine cdV vX3_setStreetNumber (Nat.le_of_ble_eq_true rfl) (lv0 := [(0, .ref a), (1, .int 1), (2, .int v)]) rfl ?_
  refine ev_ss DX3_setStreetNumber 1 0 (pc' := 1) (lv' := [(0, .ref _), (1, .int 1), (2, .int _)]) (st' := [.int 1]) rfl ?_
  refine ev_swin DX3_setStreetNumber 1 rfl (by decide) (by decide) (off := 35) (by decide) (tgt := 36) (by decide) ?_
  refine ev_ss DX3_setStreetNumber 2 6 (pc' := 38) (lv' := [(0, .ref _), (1, .int 1), (2, .int _)]) (st' := [.int _, .ref _]) rfl ?_
  refine ev_put (fs' := [_, _, _, _, _, _, _, _, _, _, _, _, _, _, _, _, _, _]) DX3_setStreetNumber 8 GX3 rfl (k0 := 1) (Nat.le_of_ble_eq_true rfl) fX3_21 rfl ⟨rfl, rfl⟩ h (Nat.le_of_ble_eq_true rfl) rfl rfl ?_
  refine ev_goto DX3_setStreetNumber 9 rfl (tgt := 57) (by decide) ?_
  exact ev_vret DX3_setStreetNumber 17 rfl rfl ⟨rfl, rfl⟩
set_option maxRecDepth 100000 in
set_option maxHeartbeats 4000000 in
theorem m_X3_setStreetNumber_2 {E : gE} {ws : va_W} {q a : Nat} {f : TF} {v : Int32} (h : ws[q]? = some (a, toneC f)) : CD E YX3_setStreetNumber 0 0 [.ref a, .int 2, .int v] ws none (ws.set q (a, toneC (upd f 2 v))) := by
  refine cdV vX3_setStreetNumber (Nat.le_of_ble_eq_true rfl) (lv0 := [(0, .ref a), (1, .int 2), (2, .int v)]) rfl ?_
  refine ev_ss DX3_setStreetNumber 1 0 (pc' := 1) (lv' := [(0, .ref _), (1, .int 2), (2, .int _)]) (st' := [.int 2]) rfl ?_
  refine ev_swin DX3_setStreetNumber 1 rfl (by decide) (by decide) (off := 43) (by decide) (tgt := 44) (by decide) ?_
  refine ev_ss DX3_setStreetNumber 2 10 (pc' := 46) (lv' := [(0, .ref _), (1, .int 2), (2, .int _)]) (st' := [.int _, .ref _]) rfl ?_
  refine ev_put (fs' := [_, _, _, _, _, _, _, _, _, _, _, _, _, _, _, _, _, _]) DX3_setStreetNumber 12 GX3 rfl (k0 := 2) (Nat.le_of_ble_eq_true rfl) fX3_24 rfl ⟨rfl, rfl⟩ h (Nat.le_of_ble_eq_true rfl) rfl rfl ?_
  refine ev_goto DX3_setStreetNumber 13 rfl (tgt := 57) (by decide) ?_
  exact ev_vret DX3_setStreetNumber 17 rfl rfl ⟨rfl, rfl⟩
set_option maxRecDepth 100000 in
set_option maxHeartbeats 4000000 in
theorem m_X3_setStreetNumber_3 {E : gE} {ws : va_W} {q a : Nat} {f : TF} {v : Int32} (h : ws[q]? = some (a, toneC f)) : CD E YX3_setStreetNumber 0 0 [.ref a, .int 3, .int v] ws none (ws.set q (a, toneC (upd f 3 v))) := by
  refine cdV vX3_setStreetNumber (Nat.le_of_ble_eq_true rfl) (lv0 := [(0, .ref a), (1, .int 3), (2, .int v)]) rfl ?_
  refine ev_ss DX3_setStreetNumber 1 0 (pc' := 1) (lv' := [(0, .ref _), (1, .int 3), (2, .int _)]) (st' := [.int 3]) rfl ?_
  refine ev_swout DX3_setStreetNumber 1 rfl (by decide) (tgt := 52) (by decide) ?_
  refine ev_ss DX3_setStreetNumber 2 14 (pc' := 54) (lv' := [(0, .ref _), (1, .int 3), (2, .int _)]) (st' := [.int _, .ref _]) rfl ?_
  refine ev_put (fs' := [_, _, _, _, _, _, _, _, _, _, _, _, _, _, _, _, _, _]) DX3_setStreetNumber 16 GX3 rfl (k0 := 3) (Nat.le_of_ble_eq_true rfl) fX3_27 rfl ⟨rfl, rfl⟩ h (Nat.le_of_ble_eq_true rfl) rfl rfl ?_
  exact ev_vret DX3_setStreetNumber 17 rfl rfl ⟨rfl, rfl⟩
theorem m_X3_streetNumber {E : gE} {ws : va_W} {j : Nat} {q a : Nat} {f : TF} (h : ws[q]? = some (a, toneC f)) (hj : j < 7) : CD E YX3_streetNumber 0 0 [.ref a, .int (nI j)] ws (some (.int (f j))) ws := by
  rcases (show j = 0 ∨ j = 1 ∨ j = 2 ∨ j = 3 ∨ j = 4 ∨ j = 5 ∨ j = 6 by omega) with rfl | rfl | rfl | rfl | rfl | rfl | rfl
  · exact m_X3_streetNumber_0 h
  · exact m_X3_streetNumber_1 h
  · exact m_X3_streetNumber_2 h
  · exact m_X3_streetNumber_3 h
  · exact m_X3_streetNumber_4 h
  · exact m_X3_streetNumber_5 h
  · exact m_X3_streetNumber_6 h
theorem m_X3_accentNumber {E : gE} {ws : va_W} {j : Nat} {q a : Nat} {f : TF} (h : ws[q]? = some (a, toneC f)) (hj : j < 11) : CD E YX3_accentNumber 0 0 [.ref a, .int (nI j)] ws (some (.int (f (7 + j)))) ws := by
  rcases (show j = 0 ∨ j = 1 ∨ j = 2 ∨ j = 3 ∨ j = 4 ∨ j = 5 ∨ j = 6 ∨ j = 7 ∨ j = 8 ∨ j = 9 ∨ j = 10 by omega) with rfl | rfl | rfl | rfl | rfl | rfl | rfl | rfl | rfl | rfl | rfl
  · exact m_X3_accentNumber_0 h
  · exact m_X3_accentNumber_1 h
  · exact m_X3_accentNumber_2 h
  · exact m_X3_accentNumber_3 h
  · exact m_X3_accentNumber_4 h
  · exact m_X3_accentNumber_5 h
  · exact m_X3_accentNumber_6 h
  · exact m_X3_accentNumber_7 h
  · exact m_X3_accentNumber_8 h
  · exact m_X3_accentNumber_9 h
  · exact m_X3_accentNumber_10 h
theorem m_X3_setStreetNumber {E : gE} {ws : va_W} {j : Nat} {v : Int32} {q a : Nat} {f : TF} (h : ws[q]? = some (a, toneC f)) (hj : j < 4) : CD E YX3_setStreetNumber 0 0 [.ref a, .int (nI j), .int v] ws none (ws.set q (a, toneC (upd f j v))) := by
  rcases (show j = 0 ∨ j = 1 ∨ j = 2 ∨ j = 3 by omega) with rfl | rfl | rfl | rfl
  · exact m_X3_setStreetNumber_0 h
  · exact m_X3_setStreetNumber_1 h
  · exact m_X3_setStreetNumber_2 h
  · exact m_X3_setStreetNumber_3 h
