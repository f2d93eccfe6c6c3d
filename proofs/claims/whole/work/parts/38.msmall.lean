set_option maxRecDepth 100000 in
set_option maxHeartbeats 4000000 in
theorem m_X7_mix {E : gE} {ad : Nat → Nat} {ws : va_W} {sm bm tw ea iw : Int32} {hh v : Int64} (h : ws[214]? = some (ad 214, moC ad sm bm tw ea iw hh)) : CD E YX7_mix 0 0 [.ref (ad 214), .long v] ws none (ws.set 214 (ad 214, moC ad sm bm tw ea iw (31 * hh + v))) := by
  refine cdV vX7_mix (Nat.le_of_ble_eq_true rfl) (lv0 := [(0, .ref (ad 214)), (1, .long v)]) rfl ?_
  refine ev_ss DX7_mix 1 0 (pc' := 1) (lv' := [(0, .ref _), (1, .long _)]) (st' := [.ref _]) rfl ?_
  refine ev_ldc2 DX7_mix 1 rfl kX7_203 ?_
  refine ev_ss DX7_mix 1 2 (pc' := 5) (lv' := [(0, .ref _), (1, .long _)]) (st' := [.ref _, .long _, .ref _]) rfl ?_
  refine ev_get DX7_mix 3 GX7 rfl (k0 := 13) (Nat.le_of_ble_eq_true rfl) fX7_205 h rfl ?_
  refine ev_ss DX7_mix 3 4 (pc' := 11) (lv' := [(0, .ref _), (1, .long _)]) (st' := [.long _, .ref _]) rfl ?_
  refine ev_put (fs' := [_, _, _, _, _, _, _, _, _, _, _, _, _, _]) DX7_mix 7 GX7 rfl (k0 := 13) (Nat.le_of_ble_eq_true rfl) fX7_205 rfl ⟨rfl, rfl⟩ h (Nat.le_of_ble_eq_true rfl) rfl rfl ?_
  exact ev_vret DX7_mix 8 rfl rfl ⟨rfl, rfl⟩
set_option maxRecDepth 100000 in
set_option maxHeartbeats 4000000 in
theorem m_X7_clearBuffer {E : gE} {ad : Nat → Nat} {ws : va_W} {sm bm tw ea iw : Int32} {hh : Int64} (h : ws[214]? = some (ad 214, moC ad sm bm tw ea iw hh)) : CD E YX7_clearBuffer 0 0 [.ref (ad 214)] ws (some (.int bm)) (ws.set 214 (ad 214, moC ad sm 0 0 ea iw hh)) := by
  refine cdV vX7_clearBuffer (Nat.le_of_ble_eq_true rfl) (lv0 := [(0, .ref (ad 214))]) rfl ?_
  refine ev_ss DX7_clearBuffer 2 0 (pc' := 2) (lv' := [(0, .ref _)]) (st' := [.int 0, .ref _]) rfl ?_
  refine ev_put (fs' := [_, _, _, _, _, _, _, _, _, _, _, _, _, _]) DX7_clearBuffer 2 GX7 rfl (k0 := 9) (Nat.le_of_ble_eq_true rfl) fX7_35 rfl ⟨rfl, rfl⟩ h (Nat.le_of_ble_eq_true rfl) rfl rfl ?_
  refine ev_ss DX7_clearBuffer 1 3 (pc' := 6) (lv' := [(0, .ref _)]) (st' := [.ref _]) rfl ?_
  refine ev_get DX7_clearBuffer 4 GX7 rfl (k0 := 8) (Nat.le_of_ble_eq_true rfl) fX7_140 (wset_get h) rfl ?_
  refine ev_ss DX7_clearBuffer 3 5 (pc' := 12) (lv' := [(1, .int _), (0, .ref _)]) (st' := [.int 0, .ref _]) rfl ?_
  refine ev_put (fs' := [_, _, _, _, _, _, _, _, _, _, _, _, _, _]) DX7_clearBuffer 8 GX7 rfl (k0 := 8) (Nat.le_of_ble_eq_true rfl) fX7_140 rfl ⟨rfl, rfl⟩ (wset_get h) (Nat.le_of_ble_eq_true rfl) rfl wset_set ?_
  refine ev_ss DX7_clearBuffer 1 9 (pc' := 16) (lv' := [(1, .int _), (0, .ref _)]) (st' := [.int _]) rfl ?_
  exact ev_iret DX7_clearBuffer 10 rfl rfl ⟨rfl, rfl⟩
