theorem wbits {E : gE} {ad : Nat → Nat} {ws : va_W} {iw : Nat} {σ : WS} (h : WY E ad ws iw σ) : CD E YX5_bits 0 0 [.ref (ad iw)] ws (some (.int (sumN (fun t => σ.1 t 10) 8))) ws := by
  obtain ⟨st, sz, r9, h1, h2, h3, h4, h5, h6⟩ := h
  exact m_X5_bits h2 (tn := fun t => ad (iw + 4 + t)) (fun t ht => if_pos ht) (fun t ht => ⟨iw + 4 + t, h6 t ht⟩) h1
theorem wshies {E : gE} {ad : Nat → Nat} {ws : va_W} {iw : Nat} {σ : WS} (h : WY E ad ws iw σ) : CD E YX5_shies 0 0 [.ref (ad iw)] ws (some (.int (sumN (fun t => σ.1 t 13) 8))) ws := by
  obtain ⟨st, sz, r9, h1, h2, h3, h4, h5, h6⟩ := h
  exact m_X5_shies h2 (tn := fun t => ad (iw + 4 + t)) (fun t ht => if_pos ht) (fun t ht => ⟨iw + 4 + t, h6 t ht⟩) h1
theorem wins {E : gE} {ad : Nat → Nat} {ws : va_W} {iw : Nat} {σ : WS} (h : WY E ad ws iw σ) : CD E YX5_insulted 0 0 [.ref (ad iw)] ws (some (.int (sumN (insP σ.1) 8))) ws := by
  obtain ⟨st, sz, r9, h1, h2, h3, h4, h5, h6⟩ := h
  exact m_X5_insulted h2 (tn := fun t => ad (iw + 4 + t)) (fun t ht => if_pos ht) (fun t ht => ⟨iw + 4 + t, h6 t ht⟩) h1
theorem RQ_sz {r : Nat → Int32} {st sz : Int32} {bs : List Int32} (h : RQ r st sz bs) : sz = nI bs.length ∧ bs.length ≤ 256 := by
  obtain ⟨s0, h1, h2, h3, h4, h5⟩ := h
  exact ⟨h3, h4⟩
set_option maxRecDepth 100000 in
set_option maxHeartbeats 4000000 in
theorem m_X6_street {E : gE} {ad : Nat → Nat} {ws : va_W} {p : PS} {sv : Nat → PS} {sc r len : Nat} {ch : Nat → Int32} (h : MW E ad ws p sv sc r len ch) {a t j : Nat} (ha : a < 2) (ht : t < 8) (hj : j < 7) : CD E YX6_street 0 0 [.ref (ad 0), .int (nI a), .int (nI t), .int (nI j)] ws (some (.int ((pW p a).1 t j))) ws := by
  obtain ⟨st, sz, r9, h1, h2, h3, h4, h5, h6⟩ := h.2.1.way ha
  refine cdV vX6_street (Nat.le_of_ble_eq_true rfl) (lv0 := [(0, .ref (ad 0)), (1, .int (nI a)), (2, .int (nI t)), (3, .int (nI j))]) rfl ?_
  refine ev_ss DX6_street 3 0 (pc' := 3) (lv' := [(0, .ref _), (1, .int _), (2, .int _), (3, .int _)]) (st' := [.int _, .int _, .ref _]) rfl ?_
  refine ev_cV DX6_street 3 (m_X6_toneOf h ha ht) vX6_toneOf rfl qX6_37 rfl h.1 rfl (hd_of rfl rfl rfl rfl) ?_
  refine ev_ss DX6_street 2 4 (pc' := 9) (lv' := [(4, .ref _), (0, .ref _), (1, .int _), (2, .int _), (3, .int _)]) (st' := [.int _]) rfl ?_
  refine ev_iflt DX6_street 6 rfl (tgt := 18) (by decide) (fun h => absurd h (nI_pos (by omega))) (fun _ => ?_)
  refine ev_ss DX6_street 2 7 (pc' := 15) (lv' := [(4, .ref _), (0, .ref _), (1, .int _), (2, .int _), (3, .int _)]) (st' := [.int 6, .int _]) rfl ?_
  refine ev_icle DX6_street 9 rfl (tgt := 28) (by decide) (fun _ => ?_) (fun h => h.elim (nI_le (b := 6) (by omega) (by decide)))
  refine ev_ss DX6_street 2 15 (pc' := 31) (lv' := [(4, .ref _), (0, .ref _), (1, .int _), (2, .int _), (3, .int _)]) (st' := [.int _, .ref _]) rfl ?_
  refine ev_cV DX6_street 17 (m_X3_streetNumber (h6 t ht) hj) vX3_streetNumber rfl qX6_48 rfl (h6 t ht) rfl (hd_of rfl rfl rfl rfl) ?_
  exact ev_iret DX6_street 18 rfl rfl ⟨rfl, rfl⟩
set_option maxRecDepth 100000 in
set_option maxHeartbeats 4000000 in
theorem xc_X6_street_X6_toneOf {E : gE} {ad : Nat → Nat} {ws : va_W} {p : PS} {sv : Nat → PS} {sc r len : Nat} {ch : Nat → Int32} (h : MW E ad ws p sv sc r len ch) {wy t x : Int32} (hx : C1 E YX6_toneOf 1 6 [.ref (ad 0), .int wy, .int t] ws (fun _ _ => False) (fun X w => X = xI ∧ w = ws)) : C1 E YX6_street 1 6 [.ref (ad 0), .int wy, .int t, .int x] ws (fun _ _ => False) (fun X w => X = xI ∧ w = ws) := by
  refine c1V vX6_street (Nat.le_of_ble_eq_true rfl) (lv0 := [(0, .ref (ad 0)), (1, .int wy), (2, .int t), (3, .int x)]) rfl ?_
  refine ev_ss DX6_street 3 0 (pc' := 3) (lv' := [(0, .ref _), (1, .int _), (2, .int _), (3, .int _)]) (st' := [.int _, .int _, .ref _]) rfl ?_
  exact ev_xV DX6_street 3 0 0 hx vX6_toneOf rfl qX6_37 rfl h.1 rfl (hd_of rfl rfl rfl rfl) rfl (by decide) (by decide) (fun X w hx => hx) (fun v w hf => hf.elim)
set_option maxRecDepth 100000 in
set_option maxHeartbeats 4000000 in
theorem x_X6_street {E : gE} {ad : Nat → Nat} {ws : va_W} {p : PS} {sv : Nat → PS} {sc r len : Nat} {ch : Nat → Int32} (h : MW E ad ws p sv sc r len ch) {a t : Nat} {x : Int32} (ha : a < 2) (ht : t < 8) (hb : x < 0 ∨ 6 < x) : C1 E YX6_street 1 6 [.ref (ad 0), .int (nI a), .int (nI t), .int x] ws (fun _ _ => False) (fun X w => X = xA ∧ w = ws) := by
  refine c1V vX6_street (Nat.le_of_ble_eq_true rfl) (lv0 := [(0, .ref (ad 0)), (1, .int (nI a)), (2, .int (nI t)), (3, .int x)]) rfl ?_
  refine ev_ss DX6_street 3 0 (pc' := 3) (lv' := [(0, .ref _), (1, .int _), (2, .int _), (3, .int _)]) (st' := [.int _, .int _, .ref _]) rfl ?_
  refine ev_cV DX6_street 3 (m_X6_toneOf h ha ht) vX6_toneOf rfl qX6_37 rfl h.1 rfl (hd_of rfl rfl rfl rfl) ?_
  refine ev_ss DX6_street 2 4 (pc' := 9) (lv' := [(4, .ref _), (0, .ref _), (1, .int _), (2, .int _), (3, .int _)]) (st' := [.int _]) rfl ?_
  refine ev_iflt DX6_street 6 rfl (tgt := 18) (by decide) (fun c_1 => ?_) (fun c_1 => ?_)
  · exact ev_throw DX6_street 10 XbA rfl rfl nX6_57 (List.mem_of_getElem? (i := 3) rfl) rfl rfl rfl rfl rfl (Nat.le_of_ble_eq_true rfl) (Nat.le_of_ble_eq_true rfl) (by decide) (by decide) ⟨rfl, rfl⟩
  · refine ev_ss DX6_street 2 7 (pc' := 15) (lv' := [(4, .ref _), (0, .ref _), (1, .int _), (2, .int _), (3, .int _)]) (st' := [.int 6, .int _]) rfl ?_
    refine ev_icle DX6_street 9 rfl (tgt := 28) (by decide) (fun c_2 => ?_) (fun c_2 => ?_)
    · exact absurd (hb.resolve_left c_1) (Int32.not_lt.mpr c_2)
    · exact ev_throw DX6_street 10 XbA rfl rfl nX6_57 (List.mem_of_getElem? (i := 3) rfl) rfl rfl rfl rfl rfl (Nat.le_of_ble_eq_true rfl) (Nat.le_of_ble_eq_true rfl) (by decide) (by decide) ⟨rfl, rfl⟩
set_option maxRecDepth 100000 in
set_option maxHeartbeats 4000000 in
theorem m_X6_accent {E : gE} {ad : Nat → Nat} {ws : va_W} {p : PS} {sv : Nat → PS} {sc r len : Nat} {ch : Nat → Int32} (h : MW E ad ws p sv sc r len ch) {a t j : Nat} (ha : a < 2) (ht : t < 8) (hj : j < 11) : CD E YX6_accent 0 0 [.ref (ad 0), .int (nI a), .int (nI t), .int (nI j)] ws (some (.int ((pW p a).1 t (7 + j)))) ws := by
  obtain ⟨st, sz, r9, h1, h2, h3, h4, h5, h6⟩ := h.2.1.way ha
  refine cdV vX6_accent (Nat.le_of_ble_eq_true rfl) (lv0 := [(0, .ref (ad 0)), (1, .int (nI a)), (2, .int (nI t)), (3, .int (nI j))]) rfl ?_
  refine ev_ss DX6_accent 3 0 (pc' := 3) (lv' := [(0, .ref _), (1, .int _), (2, .int _), (3, .int _)]) (st' := [.int _, .int _, .ref _]) rfl ?_
  refine ev_cV DX6_accent 3 (m_X6_toneOf h ha ht) vX6_toneOf rfl qX6_37 rfl h.1 rfl (hd_of rfl rfl rfl rfl) ?_
  refine ev_ss DX6_accent 2 4 (pc' := 9) (lv' := [(4, .ref _), (0, .ref _), (1, .int _), (2, .int _), (3, .int _)]) (st' := [.int _]) rfl ?_
  refine ev_iflt DX6_accent 6 rfl (tgt := 18) (by decide) (fun h => absurd h (nI_pos (by omega))) (fun _ => ?_)
  refine ev_ss DX6_accent 2 7 (pc' := 15) (lv' := [(4, .ref _), (0, .ref _), (1, .int _), (2, .int _), (3, .int _)]) (st' := [.int 10, .int _]) rfl ?_
  refine ev_icle DX6_accent 9 rfl (tgt := 28) (by decide) (fun _ => ?_) (fun h => h.elim (nI_le (b := 10) (by omega) (by decide)))
  refine ev_ss DX6_accent 2 15 (pc' := 31) (lv' := [(4, .ref _), (0, .ref _), (1, .int _), (2, .int _), (3, .int _)]) (st' := [.int _, .ref _]) rfl ?_
  refine ev_cV DX6_accent 17 (m_X3_accentNumber (h6 t ht) hj) vX3_accentNumber rfl qX6_181 rfl (h6 t ht) rfl (hd_of rfl rfl rfl rfl) ?_
  exact ev_iret DX6_accent 18 rfl rfl ⟨rfl, rfl⟩
set_option maxRecDepth 100000 in
set_option maxHeartbeats 4000000 in
theorem xc_X6_accent_X6_toneOf {E : gE} {ad : Nat → Nat} {ws : va_W} {p : PS} {sv : Nat → PS} {sc r len : Nat} {ch : Nat → Int32} (h : MW E ad ws p sv sc r len ch) {wy t x : Int32} (hx : C1 E YX6_toneOf 1 6 [.ref (ad 0), .int wy, .int t] ws (fun _ _ => False) (fun X w => X = xI ∧ w = ws)) : C1 E YX6_accent 1 6 [.ref (ad 0), .int wy, .int t, .int x] ws (fun _ _ => False) (fun X w => X = xI ∧ w = ws) := by
  refine c1V vX6_accent (Nat.le_of_ble_eq_true rfl) (lv0 := [(0, .ref (ad 0)), (1, .int wy), (2, .int t), (3, .int x)]) rfl ?_
  refine ev_ss DX6_accent 3 0 (pc' := 3) (lv' := [(0, .ref _), (1, .int _), (2, .int _), (3, .int _)]) (st' := [.int _, .int _, .ref _]) rfl ?_
  exact ev_xV DX6_accent 3 0 0 hx vX6_toneOf rfl qX6_37 rfl h.1 rfl (hd_of rfl rfl rfl rfl) rfl (by decide) (by decide) (fun X w hx => hx) (fun v w hf => hf.elim)
set_option maxRecDepth 100000 in
set_option maxHeartbeats 4000000 in
theorem x_X6_accent {E : gE} {ad : Nat → Nat} {ws : va_W} {p : PS} {sv : Nat → PS} {sc r len : Nat} {ch : Nat → Int32} (h : MW E ad ws p sv sc r len ch) {a t : Nat} {x : Int32} (ha : a < 2) (ht : t < 8) (hb : x < 0 ∨ 10 < x) : C1 E YX6_accent 1 6 [.ref (ad 0), .int (nI a), .int (nI t), .int x] ws (fun _ _ => False) (fun X w => X = xA ∧ w = ws) := by
  refine c1V vX6_accent (Nat.le_of_ble_eq_true rfl) (lv0 := [(0, .ref (ad 0)), (1, .int (nI a)), (2, .int (nI t)), (3, .int x)]) rfl ?_
  refine ev_ss DX6_accent 3 0 (pc' := 3) (lv' := [(0, .ref _), (1, .int _), (2, .int _), (3, .int _)]) (st' := [.int _, .int _, .ref _]) rfl ?_
  refine ev_cV DX6_accent 3 (m_X6_toneOf h ha ht) vX6_toneOf rfl qX6_37 rfl h.1 rfl (hd_of rfl rfl rfl rfl) ?_
  refine ev_ss DX6_accent 2 4 (pc' := 9) (lv' := [(4, .ref _), (0, .ref _), (1, .int _), (2, .int _), (3, .int _)]) (st' := [.int _]) rfl ?_
  refine ev_iflt DX6_accent 6 rfl (tgt := 18) (by decide) (fun c_1 => ?_) (fun c_1 => ?_)
  · exact ev_throw DX6_accent 10 XbA rfl rfl nX6_57 (List.mem_of_getElem? (i := 4) rfl) rfl rfl rfl rfl rfl (Nat.le_of_ble_eq_true rfl) (Nat.le_of_ble_eq_true rfl) (by decide) (by decide) ⟨rfl, rfl⟩
  · refine ev_ss DX6_accent 2 7 (pc' := 15) (lv' := [(4, .ref _), (0, .ref _), (1, .int _), (2, .int _), (3, .int _)]) (st' := [.int 10, .int _]) rfl ?_
    refine ev_icle DX6_accent 9 rfl (tgt := 28) (by decide) (fun c_2 => ?_) (fun c_2 => ?_)
    · exact absurd (hb.resolve_left c_1) (Int32.not_lt.mpr c_2)
    · exact ev_throw DX6_accent 10 XbA rfl rfl nX6_57 (List.mem_of_getElem? (i := 4) rfl) rfl rfl rfl rfl rfl (Nat.le_of_ble_eq_true rfl) (Nat.le_of_ble_eq_true rfl) (by decide) (by decide) ⟨rfl, rfl⟩
set_option maxRecDepth 100000 in
set_option maxHeartbeats 4000000 in
theorem m_X6_sure {E : gE} {ad : Nat → Nat} {ws : va_W} {p : PS} {sv : Nat → PS} {sc r len : Nat} {ch : Nat → Int32} (h : MW E ad ws p sv sc r len ch) {a t : Nat} (ha : a < 2) (ht : t < 8) : CD E YX6_sure 0 0 [.ref (ad 0), .int (nI a), .int (nI t)] ws (some (.int (surP ((pW p a).1 t)))) ws := by
  obtain ⟨st, sz, r9, h1, h2, h3, h4, h5, h6⟩ := h.2.1.way ha
  refine cdV vX6_sure (Nat.le_of_ble_eq_true rfl) (lv0 := [(0, .ref (ad 0)), (1, .int (nI a)), (2, .int (nI t))]) rfl ?_
  refine ev_ss DX6_sure 3 0 (pc' := 3) (lv' := [(0, .ref _), (1, .int _), (2, .int _)]) (st' := [.int _, .int _, .ref _]) rfl ?_
  refine ev_cV DX6_sure 3 (m_X6_toneOf h ha ht) vX6_toneOf rfl qX6_37 rfl h.1 rfl (hd_of rfl rfl rfl rfl) ?_
  refine ev_cV DX6_sure 4 (m_X3_sureBits (h6 t ht)) vX3_sureBits rfl qX6_216 rfl (h6 t ht) rfl (hd_of rfl rfl rfl rfl) ?_
  exact ev_iret DX6_sure 5 rfl rfl ⟨rfl, rfl⟩
set_option maxRecDepth 100000 in
set_option maxHeartbeats 4000000 in
theorem xc_X6_sure_X6_toneOf {E : gE} {ad : Nat → Nat} {ws : va_W} {p : PS} {sv : Nat → PS} {sc r len : Nat} {ch : Nat → Int32} (h : MW E ad ws p sv sc r len ch) {wy t : Int32} (hx : C1 E YX6_toneOf 1 6 [.ref (ad 0), .int wy, .int t] ws (fun _ _ => False) (fun X w => X = xI ∧ w = ws)) : C1 E YX6_sure 1 6 [.ref (ad 0), .int wy, .int t] ws (fun _ _ => False) (fun X w => X = xI ∧ w = ws) := by
  refine c1V vX6_sure (Nat.le_of_ble_eq_true rfl) (lv0 := [(0, .ref (ad 0)), (1, .int wy), (2, .int t)]) rfl ?_
  refine ev_ss DX6_sure 3 0 (pc' := 3) (lv' := [(0, .ref _), (1, .int _), (2, .int _)]) (st' := [.int _, .int _, .ref _]) rfl ?_
  exact ev_xV DX6_sure 3 0 0 hx vX6_toneOf rfl qX6_37 rfl h.1 rfl (hd_of rfl rfl rfl rfl) rfl (by decide) (by decide) (fun X w hx => hx) (fun v w hf => hf.elim)
set_option maxRecDepth 100000 in
set_option maxHeartbeats 4000000 in
theorem m_X6_had {E : gE} {ad : Nat → Nat} {ws : va_W} {p : PS} {sv : Nat → PS} {sc r len : Nat} {ch : Nat → Int32} (h : MW E ad ws p sv sc r len ch) {a : Nat} (ha : a < 2) : CD E YX6_had 0 0 [.ref (ad 0), .int (nI a)] ws (some (.long (pW p a).2.2.1)) ws := by
  obtain ⟨st, sz, r9, h1, h2, h3, h4, h5, h6⟩ := h.2.1.way ha
  refine cdV vX6_had (Nat.le_of_ble_eq_true rfl) (lv0 := [(0, .ref (ad 0)), (1, .int (nI a))]) rfl ?_
  refine ev_ss DX6_had 2 0 (pc' := 2) (lv' := [(0, .ref _), (1, .int _)]) (st' := [.int _, .ref _]) rfl ?_
  refine ev_cV DX6_had 2 (m_X6_wayOf h ha) vX6_wayOf rfl qX6_94 rfl h.1 rfl (hd_of rfl rfl rfl rfl) ?_
  refine ev_get DX6_had 3 GX5 rfl (k0 := 2) (Nat.le_of_ble_eq_true rfl) fX6_192 h1 rfl ?_
  exact ev_lret DX6_had 4 rfl rfl ⟨rfl, rfl⟩
set_option maxRecDepth 100000 in
set_option maxHeartbeats 4000000 in
theorem xc_X6_had_X6_wayOf {E : gE} {ad : Nat → Nat} {ws : va_W} {p : PS} {sv : Nat → PS} {sc r len : Nat} {ch : Nat → Int32} (h : MW E ad ws p sv sc r len ch) {wy : Int32} (hx : C1 E YX6_wayOf 1 6 [.ref (ad 0), .int wy] ws (fun _ _ => False) (fun X w => X = xI ∧ w = ws)) : C1 E YX6_had 1 6 [.ref (ad 0), .int wy] ws (fun _ _ => False) (fun X w => X = xI ∧ w = ws) := by
  refine c1V vX6_had (Nat.le_of_ble_eq_true rfl) (lv0 := [(0, .ref (ad 0)), (1, .int wy)]) rfl ?_
  refine ev_ss DX6_had 2 0 (pc' := 2) (lv' := [(0, .ref _), (1, .int _)]) (st' := [.int _, .ref _]) rfl ?_
  exact ev_xV DX6_had 2 0 0 hx vX6_wayOf rfl qX6_94 rfl h.1 rfl (hd_of rfl rfl rfl rfl) rfl (by decide) (by decide) (fun X w hx => hx) (fun v w hf => hf.elim)
set_option maxRecDepth 100000 in
set_option maxHeartbeats 4000000 in
theorem m_X6_waits {E : gE} {ad : Nat → Nat} {ws : va_W} {p : PS} {sv : Nat → PS} {sc r len : Nat} {ch : Nat → Int32} (h : MW E ad ws p sv sc r len ch) {a j : Nat} {b : Int32} (ha : a < 2) (hj : (pW p a).2.1[j]? = some b) : CD E YX6_waits 0 0 [.ref (ad 0), .int (nI a), .int (nI j)] ws (some (.int b)) ws := by
  obtain ⟨st, sz, r9, h1, h2, h3, h4, h5, h6⟩ := h.2.1.way ha
  have hz := RQ_sz h5
  have hjl : j < (pW p a).2.1.length := (List.getElem?_eq_some_iff.mp hj).1
  have e1 : nI j < sz := by rw [hz.1]; exact nI_lt hjl (by omega)
  have eb : r9 (rix (st + nI j)) = b := by
    obtain ⟨s0, q1, q2, q3, q4, q5⟩ := h5
    have q6 := q5 j hjl
    rw [hj] at q6
    rw [q2, nI_add, rix_nI (by omega)]
    exact (Option.some.inj q6).symm
  refine cdV vX6_waits (Nat.le_of_ble_eq_true rfl) (lv0 := [(0, .ref (ad 0)), (1, .int (nI a)), (2, .int (nI j))]) rfl ?_
  refine ev_ss DX6_waits 2 0 (pc' := 2) (lv' := [(0, .ref _), (1, .int _), (2, .int _)]) (st' := [.int _, .ref _]) rfl ?_
  refine ev_cV DX6_waits 2 (m_X6_wayOf h ha) vX6_wayOf rfl qX6_94 rfl h.1 rfl (hd_of rfl rfl rfl rfl) ?_
  refine ev_get DX6_waits 3 GX5 rfl (k0 := 1) (Nat.le_of_ble_eq_true rfl) fX6_151 h1 rfl ?_
  refine ev_ss DX6_waits 2 4 (pc' := 10) (lv' := [(3, .ref _), (0, .ref _), (1, .int _), (2, .int _)]) (st' := [.int _]) rfl ?_
  refine ev_iflt DX6_waits 6 rfl (tgt := 21) (by decide) (fun h => absurd h (nI_pos (by omega))) (fun _ => ?_)
  refine ev_ss DX6_waits 2 7 (pc' := 15) (lv' := [(3, .ref _), (0, .ref _), (1, .int _), (2, .int _)]) (st' := [.ref _, .int _]) rfl ?_
  refine ev_get DX6_waits 9 GX4 rfl (k0 := 2) (Nat.le_of_ble_eq_true rfl) fX6_155 h3 rfl ?_
  refine ev_iclt DX6_waits 10 rfl (tgt := 31) (by decide) (fun _ => ?_) (fun h => h.elim e1)
  refine ev_ss DX6_waits 2 16 (pc' := 33) (lv' := [(3, .ref _), (0, .ref _), (1, .int _), (2, .int _)]) (st' := [.int _, .ref _]) rfl ?_
  refine ev_cV DX6_waits 18 (m_X4_bitAt h3 h4) vX4_bitAt rfl qX6_189 rfl h3 rfl (hd_of rfl rfl rfl rfl) ?_
  exact ev_iret DX6_waits 19 rfl rfl ⟨by rw [← eb], rfl⟩
set_option maxRecDepth 100000 in
set_option maxHeartbeats 4000000 in
theorem xc_X6_waits_X6_wayOf {E : gE} {ad : Nat → Nat} {ws : va_W} {p : PS} {sv : Nat → PS} {sc r len : Nat} {ch : Nat → Int32} (h : MW E ad ws p sv sc r len ch) {wy x : Int32} (hx : C1 E YX6_wayOf 1 6 [.ref (ad 0), .int wy] ws (fun _ _ => False) (fun X w => X = xI ∧ w = ws)) : C1 E YX6_waits 1 6 [.ref (ad 0), .int wy, .int x] ws (fun _ _ => False) (fun X w => X = xI ∧ w = ws) := by
  refine c1V vX6_waits (Nat.le_of_ble_eq_true rfl) (lv0 := [(0, .ref (ad 0)), (1, .int wy), (2, .int x)]) rfl ?_
  refine ev_ss DX6_waits 2 0 (pc' := 2) (lv' := [(0, .ref _), (1, .int _), (2, .int _)]) (st' := [.int _, .ref _]) rfl ?_
  exact ev_xV DX6_waits 2 0 0 hx vX6_wayOf rfl qX6_94 rfl h.1 rfl (hd_of rfl rfl rfl rfl) rfl (by decide) (by decide) (fun X w hx => hx) (fun v w hf => hf.elim)
set_option maxRecDepth 100000 in
set_option maxHeartbeats 4000000 in
theorem x_X6_waits {E : gE} {ad : Nat → Nat} {ws : va_W} {p : PS} {sv : Nat → PS} {sc r len : Nat} {ch : Nat → Int32} (h : MW E ad ws p sv sc r len ch) {a : Nat} {x : Int32} (ha : a < 2) (hb : x < 0 ∨ ¬ x < nI (pW p a).2.1.length) : C1 E YX6_waits 1 6 [.ref (ad 0), .int (nI a), .int x] ws (fun _ _ => False) (fun X w => X = xI ∧ w = ws) := by
  obtain ⟨st, sz, r9, h1, h2, h3, h4, h5, h6⟩ := h.2.1.way ha
  rw [← (RQ_sz h5).1] at hb
  refine c1V vX6_waits (Nat.le_of_ble_eq_true rfl) (lv0 := [(0, .ref (ad 0)), (1, .int (nI a)), (2, .int x)]) rfl ?_
  refine ev_ss DX6_waits 2 0 (pc' := 2) (lv' := [(0, .ref _), (1, .int _), (2, .int _)]) (st' := [.int _, .ref _]) rfl ?_
  refine ev_cV DX6_waits 2 (m_X6_wayOf h ha) vX6_wayOf rfl qX6_94 rfl h.1 rfl (hd_of rfl rfl rfl rfl) ?_
  refine ev_get DX6_waits 3 GX5 rfl (k0 := 1) (Nat.le_of_ble_eq_true rfl) fX6_151 h1 rfl ?_
  refine ev_ss DX6_waits 2 4 (pc' := 10) (lv' := [(3, .ref _), (0, .ref _), (1, .int _), (2, .int _)]) (st' := [.int _]) rfl ?_
  refine ev_iflt DX6_waits 6 rfl (tgt := 21) (by decide) (fun c_1 => ?_) (fun c_1 => ?_)
  · exact ev_throw DX6_waits 11 XbI rfl rfl nX6_184 (List.mem_of_getElem? (i := 18) rfl) rfl rfl rfl rfl rfl (Nat.le_of_ble_eq_true rfl) (Nat.le_of_ble_eq_true rfl) (by decide) (by decide) ⟨rfl, rfl⟩
  · refine ev_ss DX6_waits 2 7 (pc' := 15) (lv' := [(3, .ref _), (0, .ref _), (1, .int _), (2, .int _)]) (st' := [.ref _, .int _]) rfl ?_
    refine ev_get DX6_waits 9 GX4 rfl (k0 := 2) (Nat.le_of_ble_eq_true rfl) fX6_155 h3 rfl ?_
    refine ev_iclt DX6_waits 10 rfl (tgt := 31) (by decide) (fun c_2 => ?_) (fun c_2 => ?_)
    · exact absurd c_2 (hb.resolve_left c_1)
    · exact ev_throw DX6_waits 11 XbI rfl rfl nX6_184 (List.mem_of_getElem? (i := 18) rfl) rfl rfl rfl rfl rfl (Nat.le_of_ble_eq_true rfl) (Nat.le_of_ble_eq_true rfl) (by decide) (by decide) ⟨rfl, rfl⟩
set_option maxRecDepth 100000 in
set_option maxHeartbeats 4000000 in
theorem m_X6_setting {E : gE} {ad : Nat → Nat} {ws : va_W} {p : PS} {sv : Nat → PS} {sc r len : Nat} {ch : Nat → Int32} (h : MW E ad ws p sv sc r len ch) {j : Nat} (hj : j < 3) : CD E YX6_setting 0 0 [.ref (ad 0), .int (nI j)] ws (some (.int (p.2.2.1 j))) ws := by
  obtain ⟨-, g, hs2, hs3⟩ := h.2.1.1
  have eg : g (nI j).toNatClampNeg = p.2.2.1 j := by rw [nI_clamp (by omega)]; exact hs3 j hj
  have nb : ¬ bS (nI j) := fun e => e.elim (nI_pos (by omega)) (fun e2 => e2 (nI_lt hj (by decide)))
  refine cdV vX6_setting (Nat.le_of_ble_eq_true rfl) (lv0 := [(0, .ref (ad 0)), (1, .int (nI j))]) rfl ?_
  refine ev_ss DX6_setting 1 0 (pc' := 1) (lv' := [(0, .ref _), (1, .int _)]) (st' := [.int _]) rfl ?_
  refine ev_cS DX6_setting 1 (m_X6_checkSetting nb) vX6_checkSetting rfl qX6_78 rfl (hd_of rfl rfl rfl rfl) ?_
  refine ev_ss DX6_setting 1 2 (pc' := 5) (lv' := [(0, .ref _), (1, .int _)]) (st' := [.ref _]) rfl ?_
  refine ev_get DX6_setting 3 GX6 rfl (k0 := 0) (Nat.le_of_ble_eq_true rfl) fX6_12 h.1 rfl ?_
  refine ev_get DX6_setting 4 GX1 rfl (k0 := 2) (Nat.le_of_ble_eq_true rfl) fX6_91 h.2.1.1.1 rfl ?_
  refine ev_ss DX6_setting 1 5 (pc' := 12) (lv' := [(0, .ref _), (1, .int _)]) (st' := [.int _, .ref _]) rfl ?_
  refine ev_iald DX6_setting 6 rfl hs2 (vp_in_nI hj (by decide)) ?_
  exact ev_iret DX6_setting 7 rfl rfl ⟨by rw [← eg], rfl⟩
set_option maxRecDepth 100000 in
set_option maxHeartbeats 4000000 in
theorem xc_X6_setting_X6_checkSetting {E : gE} {ad : Nat → Nat} {ws : va_W} {p : PS} {sv : Nat → PS} {sc r len : Nat} {ch : Nat → Int32} (h : MW E ad ws p sv sc r len ch) {x : Int32} (hx : C1 E YX6_checkSetting 1 6 [.int x] ws (fun _ _ => False) (fun X w => X = xI ∧ w = ws)) : C1 E YX6_setting 1 6 [.ref (ad 0), .int x] ws (fun _ _ => False) (fun X w => X = xI ∧ w = ws) := by
  refine c1V vX6_setting (Nat.le_of_ble_eq_true rfl) (lv0 := [(0, .ref (ad 0)), (1, .int x)]) rfl ?_
  refine ev_ss DX6_setting 1 0 (pc' := 1) (lv' := [(0, .ref _), (1, .int _)]) (st' := [.int _]) rfl ?_
  exact ev_xS DX6_setting 1 0 0 hx vX6_checkSetting rfl qX6_78 rfl (hd_of rfl rfl rfl rfl) rfl (by decide) (by decide) (fun X w hx => hx) (fun v w hf => hf.elim)
def cntV (p : PS) (sc : Nat) : Nat → Int32
  | 0 => p.2.1
  | 1 => p.1
  | 2 => nI p.2.2.2.1.2.1.length
  | 3 => nI p.2.2.2.2.2.1.length
  | 4 => p.2.2.2.1.2.2.2.1
  | 5 => p.2.2.2.2.2.2.2.1
  | 6 => p.2.2.2.1.2.2.2.2
  | 7 => p.2.2.2.2.2.2.2.2
  | 8 => sumN (fun t => p.2.2.2.1.1 t 10) 8
  | 9 => sumN (fun t => p.2.2.2.2.1 t 10) 8
  | 10 => sumN (fun t => p.2.2.2.1.1 t 13) 8 + sumN (fun t => p.2.2.2.2.1 t 13) 8
  | 11 => sumN (insP p.2.2.2.1.1) 8 + sumN (insP p.2.2.2.2.1) 8
  | _ => nI sc
set_option maxRecDepth 100000 in
set_option maxHeartbeats 4000000 in
theorem m_X6_count_0 {E : gE} {ad : Nat → Nat} {ws : va_W} {p : PS} {sv : Nat → PS} {sc r len : Nat} {ch : Nat → Int32} (h : MW E ad ws p sv sc r len ch) : CD E YX6_count 0 0 [.ref (ad 0), .int 0] ws (some (.int (cntV p sc 0))) ws := by
  obtain ⟨st, sz, r9, h1, h2, h3, h4, h5, h6⟩ := h.2.1.2.1
  obtain ⟨st2, sz2, r2, g1, g2, g3, g4, g5, g6⟩ := h.2.1.2.2
  have z1 := (RQ_sz h5).1
  have z2 := (RQ_sz g5).1
  refine cdV vX6_count (Nat.le_of_ble_eq_true rfl) (lv0 := [(0, .ref (ad 0)), (1, .int 0)]) rfl ?_
  refine ev_ss DX6_count 1 0 (pc' := 1) (lv' := [(0, .ref _), (1, .int 0)]) (st' := [.int 0]) rfl ?_
  refine ev_swin DX6_count 1 rfl (by decide) (by decide) (off := 67) (by decide) (tgt := 68) (by decide) ?_
  refine ev_ss DX6_count 1 2 (pc' := 69) (lv' := [(0, .ref _), (1, .int 0)]) (st' := [.ref _]) rfl ?_
  refine ev_get DX6_count 3 GX6 rfl (k0 := 0) (Nat.le_of_ble_eq_true rfl) fX6_12 h.1 rfl ?_
  refine ev_get DX6_count 4 GX1 rfl (k0 := 4) (Nat.le_of_ble_eq_true rfl) fX6_196 h.2.1.1.1 rfl ?_
  exact ev_iret DX6_count 5 rfl rfl ⟨rfl, rfl⟩
set_option maxRecDepth 100000 in
set_option maxHeartbeats 4000000 in
theorem m_X6_count_1 {E : gE} {ad : Nat → Nat} {ws : va_W} {p : PS} {sv : Nat → PS} {sc r len : Nat} {ch : Nat → Int32} (h : MW E ad ws p sv sc r len ch) : CD E YX6_count 0 0 [.ref (ad 0), .int 1] ws (some (.int (cntV p sc 1))) ws := by
  obtain ⟨st, sz, r9, h1, h2, h3, h4, h5, h6⟩ := h.2.1.2.1
  obtain ⟨st2, sz2, r2, g1, g2, g3, g4, g5, g6⟩ := h.2.1.2.2
  have z1 := (RQ_sz h5).1
  have z2 := (RQ_sz g5).1
  refine cdV vX6_count (Nat.le_of_ble_eq_true rfl) (lv0 := [(0, .ref (ad 0)), (1, .int 1)]) rfl ?_
  refine ev_ss DX6_count 1 0 (pc' := 1) (lv' := [(0, .ref _), (1, .int 1)]) (st' := [.int 1]) rfl ?_
  refine ev_swin DX6_count 1 rfl (by decide) (by decide) (off := 75) (by decide) (tgt := 76) (by decide) ?_
  refine ev_ss DX6_count 1 6 (pc' := 77) (lv' := [(0, .ref _), (1, .int 1)]) (st' := [.ref _]) rfl ?_
  refine ev_get DX6_count 7 GX6 rfl (k0 := 0) (Nat.le_of_ble_eq_true rfl) fX6_12 h.1 rfl ?_
  refine ev_get DX6_count 8 GX1 rfl (k0 := 3) (Nat.le_of_ble_eq_true rfl) fX6_199 h.2.1.1.1 rfl ?_
  exact ev_iret DX6_count 9 rfl rfl ⟨rfl, rfl⟩
set_option maxRecDepth 100000 in
set_option maxHeartbeats 4000000 in
theorem m_X6_count_2 {E : gE} {ad : Nat → Nat} {ws : va_W} {p : PS} {sv : Nat → PS} {sc r len : Nat} {ch : Nat → Int32} (h : MW E ad ws p sv sc r len ch) : CD E YX6_count 0 0 [.ref (ad 0), .int 2] ws (some (.int (cntV p sc 2))) ws := by
  obtain ⟨st, sz, r9, h1, h2, h3, h4, h5, h6⟩ := h.2.1.2.1
  obtain ⟨st2, sz2, r2, g1, g2, g3, g4, g5, g6⟩ := h.2.1.2.2
  have z1 := (RQ_sz h5).1
  have z2 := (RQ_sz g5).1
  refine cdV vX6_count (Nat.le_of_ble_eq_true rfl) (lv0 := [(0, .ref (ad 0)), (1, .int 2)]) rfl ?_
  refine ev_ss DX6_count 1 0 (pc' := 1) (lv' := [(0, .ref _), (1, .int 2)]) (st' := [.int 2]) rfl ?_
  refine ev_swin DX6_count 1 rfl (by decide) (by decide) (off := 83) (by decide) (tgt := 84) (by decide) ?_
  refine ev_ss DX6_count 1 10 (pc' := 85) (lv' := [(0, .ref _), (1, .int 2)]) (st' := [.ref _]) rfl ?_
  refine ev_get DX6_count 11 GX6 rfl (k0 := 0) (Nat.le_of_ble_eq_true rfl) fX6_12 h.1 rfl ?_
  refine ev_get DX6_count 12 GX1 rfl (k0 := 0) (Nat.le_of_ble_eq_true rfl) fX6_147 h.2.1.1.1 rfl ?_
  refine ev_get DX6_count 13 GX5 rfl (k0 := 1) (Nat.le_of_ble_eq_true rfl) fX6_151 h1 rfl ?_
  refine ev_get DX6_count 14 GX4 rfl (k0 := 2) (Nat.le_of_ble_eq_true rfl) fX6_155 h3 rfl ?_
  exact ev_iret DX6_count 15 rfl rfl ⟨congrArg (fun z => some (Value.int z)) z1, rfl⟩
set_option maxRecDepth 100000 in
set_option maxHeartbeats 4000000 in
theorem m_X6_count_3 {E : gE} {ad : Nat → Nat} {ws : va_W} {p : PS} {sv : Nat → PS} {sc r len : Nat} {ch : Nat → Int32} (h : MW E ad ws p sv sc r len ch) : CD E YX6_count 0 0 [.ref (ad 0), .int 3] ws (some (.int (cntV p sc 3))) ws := by
  obtain ⟨st, sz, r9, h1, h2, h3, h4, h5, h6⟩ := h.2.1.2.1
  obtain ⟨st2, sz2, r2, g1, g2, g3, g4, g5, g6⟩ := h.2.1.2.2
  have z1 := (RQ_sz h5).1
  have z2 := (RQ_sz g5).1
  refine cdV vX6_count (Nat.le_of_ble_eq_true rfl) (lv0 := [(0, .ref (ad 0)), (1, .int 3)]) rfl ?_
  refine ev_ss DX6_count 1 0 (pc' := 1) (lv' := [(0, .ref _), (1, .int 3)]) (st' := [.int 3]) rfl ?_
  refine ev_swin DX6_count 1 rfl (by decide) (by decide) (off := 97) (by decide) (tgt := 98) (by decide) ?_
  refine ev_ss DX6_count 1 16 (pc' := 99) (lv' := [(0, .ref _), (1, .int 3)]) (st' := [.ref _]) rfl ?_
  refine ev_get DX6_count 17 GX6 rfl (k0 := 0) (Nat.le_of_ble_eq_true rfl) fX6_12 h.1 rfl ?_
  refine ev_get DX6_count 18 GX1 rfl (k0 := 1) (Nat.le_of_ble_eq_true rfl) fX6_160 h.2.1.1.1 rfl ?_
  refine ev_get DX6_count 19 GX5 rfl (k0 := 1) (Nat.le_of_ble_eq_true rfl) fX6_151 g1 rfl ?_
  refine ev_get DX6_count 20 GX4 rfl (k0 := 2) (Nat.le_of_ble_eq_true rfl) fX6_155 g3 rfl ?_
  exact ev_iret DX6_count 21 rfl rfl ⟨congrArg (fun z => some (Value.int z)) z2, rfl⟩
set_option maxRecDepth 100000 in
set_option maxHeartbeats 4000000 in
theorem m_X6_count_4 {E : gE} {ad : Nat → Nat} {ws : va_W} {p : PS} {sv : Nat → PS} {sc r len : Nat} {ch : Nat → Int32} (h : MW E ad ws p sv sc r len ch) : CD E YX6_count 0 0 [.ref (ad 0), .int 4] ws (some (.int (cntV p sc 4))) ws := by
  obtain ⟨st, sz, r9, h1, h2, h3, h4, h5, h6⟩ := h.2.1.2.1
  obtain ⟨st2, sz2, r2, g1, g2, g3, g4, g5, g6⟩ := h.2.1.2.2
  have z1 := (RQ_sz h5).1
  have z2 := (RQ_sz g5).1
  refine cdV vX6_count (Nat.le_of_ble_eq_true rfl) (lv0 := [(0, .ref (ad 0)), (1, .int 4)]) rfl ?_
  refine ev_ss DX6_count 1 0 (pc' := 1) (lv' := [(0, .ref _), (1, .int 4)]) (st' := [.int 4]) rfl ?_
  refine ev_swin DX6_count 1 rfl (by decide) (by decide) (off := 111) (by decide) (tgt := 112) (by decide) ?_
  refine ev_ss DX6_count 1 22 (pc' := 113) (lv' := [(0, .ref _), (1, .int 4)]) (st' := [.ref _]) rfl ?_
  refine ev_get DX6_count 23 GX6 rfl (k0 := 0) (Nat.le_of_ble_eq_true rfl) fX6_12 h.1 rfl ?_
  refine ev_get DX6_count 24 GX1 rfl (k0 := 0) (Nat.le_of_ble_eq_true rfl) fX6_147 h.2.1.1.1 rfl ?_
  refine ev_get DX6_count 25 GX5 rfl (k0 := 3) (Nat.le_of_ble_eq_true rfl) fX6_202 h1 rfl ?_
  exact ev_iret DX6_count 26 rfl rfl ⟨rfl, rfl⟩
set_option maxRecDepth 100000 in
set_option maxHeartbeats 4000000 in
theorem m_X6_count_5 {E : gE} {ad : Nat → Nat} {ws : va_W} {p : PS} {sv : Nat → PS} {sc r len : Nat} {ch : Nat → Int32} (h : MW E ad ws p sv sc r len ch) : CD E YX6_count 0 0 [.ref (ad 0), .int 5] ws (some (.int (cntV p sc 5))) ws := by
  obtain ⟨st, sz, r9, h1, h2, h3, h4, h5, h6⟩ := h.2.1.2.1
  obtain ⟨st2, sz2, r2, g1, g2, g3, g4, g5, g6⟩ := h.2.1.2.2
  have z1 := (RQ_sz h5).1
  have z2 := (RQ_sz g5).1
  refine cdV vX6_count (Nat.le_of_ble_eq_true rfl) (lv0 := [(0, .ref (ad 0)), (1, .int 5)]) rfl ?_
  refine ev_ss DX6_count 1 0 (pc' := 1) (lv' := [(0, .ref _), (1, .int 5)]) (st' := [.int 5]) rfl ?_
  refine ev_swin DX6_count 1 rfl (by decide) (by decide) (off := 122) (by decide) (tgt := 123) (by decide) ?_
  refine ev_ss DX6_count 1 27 (pc' := 124) (lv' := [(0, .ref _), (1, .int 5)]) (st' := [.ref _]) rfl ?_
  refine ev_get DX6_count 28 GX6 rfl (k0 := 0) (Nat.le_of_ble_eq_true rfl) fX6_12 h.1 rfl ?_
  refine ev_get DX6_count 29 GX1 rfl (k0 := 1) (Nat.le_of_ble_eq_true rfl) fX6_160 h.2.1.1.1 rfl ?_
  refine ev_get DX6_count 30 GX5 rfl (k0 := 3) (Nat.le_of_ble_eq_true rfl) fX6_202 g1 rfl ?_
  exact ev_iret DX6_count 31 rfl rfl ⟨rfl, rfl⟩
set_option maxRecDepth 100000 in
set_option maxHeartbeats 4000000 in
theorem m_X6_count_6 {E : gE} {ad : Nat → Nat} {ws : va_W} {p : PS} {sv : Nat → PS} {sc r len : Nat} {ch : Nat → Int32} (h : MW E ad ws p sv sc r len ch) : CD E YX6_count 0 0 [.ref (ad 0), .int 6] ws (some (.int (cntV p sc 6))) ws := by
  obtain ⟨st, sz, r9, h1, h2, h3, h4, h5, h6⟩ := h.2.1.2.1
  obtain ⟨st2, sz2, r2, g1, g2, g3, g4, g5, g6⟩ := h.2.1.2.2
  have z1 := (RQ_sz h5).1
  have z2 := (RQ_sz g5).1
  refine cdV vX6_count (Nat.le_of_ble_eq_true rfl) (lv0 := [(0, .ref (ad 0)), (1, .int 6)]) rfl ?_
  refine ev_ss DX6_count 1 0 (pc' := 1) (lv' := [(0, .ref _), (1, .int 6)]) (st' := [.int 6]) rfl ?_
  refine ev_swin DX6_count 1 rfl (by decide) (by decide) (off := 133) (by decide) (tgt := 134) (by decide) ?_
  refine ev_ss DX6_count 1 32 (pc' := 135) (lv' := [(0, .ref _), (1, .int 6)]) (st' := [.ref _]) rfl ?_
  refine ev_get DX6_count 33 GX6 rfl (k0 := 0) (Nat.le_of_ble_eq_true rfl) fX6_12 h.1 rfl ?_
  refine ev_get DX6_count 34 GX1 rfl (k0 := 0) (Nat.le_of_ble_eq_true rfl) fX6_147 h.2.1.1.1 rfl ?_
  refine ev_get DX6_count 35 GX5 rfl (k0 := 4) (Nat.le_of_ble_eq_true rfl) fX6_205 h1 rfl ?_
  exact ev_iret DX6_count 36 rfl rfl ⟨rfl, rfl⟩
set_option maxRecDepth 100000 in
set_option maxHeartbeats 4000000 in
theorem m_X6_count_7 {E : gE} {ad : Nat → Nat} {ws : va_W} {p : PS} {sv : Nat → PS} {sc r len : Nat} {ch : Nat → Int32} (h : MW E ad ws p sv sc r len ch) : CD E YX6_count 0 0 [.ref (ad 0), .int 7] ws (some (.int (cntV p sc 7))) ws := by
  obtain ⟨st, sz, r9, h1, h2, h3, h4, h5, h6⟩ := h.2.1.2.1
  obtain ⟨st2, sz2, r2, g1, g2, g3, g4, g5, g6⟩ := h.2.1.2.2
  have z1 := (RQ_sz h5).1
  have z2 := (RQ_sz g5).1
  refine cdV vX6_count (Nat.le_of_ble_eq_true rfl) (lv0 := [(0, .ref (ad 0)), (1, .int 7)]) rfl ?_
  refine ev_ss DX6_count 1 0 (pc' := 1) (lv' := [(0, .ref _), (1, .int 7)]) (st' := [.int 7]) rfl ?_
  refine ev_swin DX6_count 1 rfl (by decide) (by decide) (off := 144) (by decide) (tgt := 145) (by decide) ?_
  refine ev_ss DX6_count 1 37 (pc' := 146) (lv' := [(0, .ref _), (1, .int 7)]) (st' := [.ref _]) rfl ?_
  refine ev_get DX6_count 38 GX6 rfl (k0 := 0) (Nat.le_of_ble_eq_true rfl) fX6_12 h.1 rfl ?_
  refine ev_get DX6_count 39 GX1 rfl (k0 := 1) (Nat.le_of_ble_eq_true rfl) fX6_160 h.2.1.1.1 rfl ?_
  refine ev_get DX6_count 40 GX5 rfl (k0 := 4) (Nat.le_of_ble_eq_true rfl) fX6_205 g1 rfl ?_
  exact ev_iret DX6_count 41 rfl rfl ⟨rfl, rfl⟩
set_option maxRecDepth 100000 in
set_option maxHeartbeats 4000000 in
theorem m_X6_count_8 {E : gE} {ad : Nat → Nat} {ws : va_W} {p : PS} {sv : Nat → PS} {sc r len : Nat} {ch : Nat → Int32} (h : MW E ad ws p sv sc r len ch) : CD E YX6_count 0 0 [.ref (ad 0), .int 8] ws (some (.int (cntV p sc 8))) ws := by
  obtain ⟨st, sz, r9, h1, h2, h3, h4, h5, h6⟩ := h.2.1.2.1
  obtain ⟨st2, sz2, r2, g1, g2, g3, g4, g5, g6⟩ := h.2.1.2.2
  have z1 := (RQ_sz h5).1
  have z2 := (RQ_sz g5).1
  refine cdV vX6_count (Nat.le_of_ble_eq_true rfl) (lv0 := [(0, .ref (ad 0)), (1, .int 8)]) rfl ?_
  refine ev_ss DX6_count 1 0 (pc' := 1) (lv' := [(0, .ref _), (1, .int 8)]) (st' := [.int 8]) rfl ?_
  refine ev_swin DX6_count 1 rfl (by decide) (by decide) (off := 155) (by decide) (tgt := 156) (by decide) ?_
  refine ev_ss DX6_count 1 42 (pc' := 157) (lv' := [(0, .ref _), (1, .int 8)]) (st' := [.ref _]) rfl ?_
  refine ev_get DX6_count 43 GX6 rfl (k0 := 0) (Nat.le_of_ble_eq_true rfl) fX6_12 h.1 rfl ?_
  refine ev_get DX6_count 44 GX1 rfl (k0 := 0) (Nat.le_of_ble_eq_true rfl) fX6_147 h.2.1.1.1 rfl ?_
  refine ev_cV DX6_count 45 (wbits h.2.1.2.1) vX5_bits rfl qX6_108 rfl h1 rfl (hd_of rfl rfl rfl rfl) ?_
  exact ev_iret DX6_count 46 rfl rfl ⟨rfl, rfl⟩
set_option maxRecDepth 100000 in
set_option maxHeartbeats 4000000 in
theorem m_X6_count_9 {E : gE} {ad : Nat → Nat} {ws : va_W} {p : PS} {sv : Nat → PS} {sc r len : Nat} {ch : Nat → Int32} (h : MW E ad ws p sv sc r len ch) : CD E YX6_count 0 0 [.ref (ad 0), .int 9] ws (some (.int (cntV p sc 9))) ws := by
  obtain ⟨st, sz, r9, h1, h2, h3, h4, h5, h6⟩ := h.2.1.2.1
  obtain ⟨st2, sz2, r2, g1, g2, g3, g4, g5, g6⟩ := h.2.1.2.2
  have z1 := (RQ_sz h5).1
  have z2 := (RQ_sz g5).1
  refine cdV vX6_count (Nat.le_of_ble_eq_true rfl) (lv0 := [(0, .ref (ad 0)), (1, .int 9)]) rfl ?_
  refine ev_ss DX6_count 1 0 (pc' := 1) (lv' := [(0, .ref _), (1, .int 9)]) (st' := [.int 9]) rfl ?_
  refine ev_swin DX6_count 1 rfl (by decide) (by decide) (off := 166) (by decide) (tgt := 167) (by decide) ?_
  refine ev_ss DX6_count 1 47 (pc' := 168) (lv' := [(0, .ref _), (1, .int 9)]) (st' := [.ref _]) rfl ?_
  refine ev_get DX6_count 48 GX6 rfl (k0 := 0) (Nat.le_of_ble_eq_true rfl) fX6_12 h.1 rfl ?_
  refine ev_get DX6_count 49 GX1 rfl (k0 := 1) (Nat.le_of_ble_eq_true rfl) fX6_160 h.2.1.1.1 rfl ?_
  refine ev_cV DX6_count 50 (wbits h.2.1.2.2) vX5_bits rfl qX6_108 rfl g1 rfl (hd_of rfl rfl rfl rfl) ?_
  exact ev_iret DX6_count 51 rfl rfl ⟨rfl, rfl⟩
set_option maxRecDepth 100000 in
set_option maxHeartbeats 4000000 in
theorem m_X6_count_10 {E : gE} {ad : Nat → Nat} {ws : va_W} {p : PS} {sv : Nat → PS} {sc r len : Nat} {ch : Nat → Int32} (h : MW E ad ws p sv sc r len ch) : CD E YX6_count 0 0 [.ref (ad 0), .int 10] ws (some (.int (cntV p sc 10))) ws := by
  obtain ⟨st, sz, r9, h1, h2, h3, h4, h5, h6⟩ := h.2.1.2.1
  obtain ⟨st2, sz2, r2, g1, g2, g3, g4, g5, g6⟩ := h.2.1.2.2
  have z1 := (RQ_sz h5).1
  have z2 := (RQ_sz g5).1
  refine cdV vX6_count (Nat.le_of_ble_eq_true rfl) (lv0 := [(0, .ref (ad 0)), (1, .int 10)]) rfl ?_
  refine ev_ss DX6_count 1 0 (pc' := 1) (lv' := [(0, .ref _), (1, .int 10)]) (st' := [.int 10]) rfl ?_
  refine ev_swin DX6_count 1 rfl (by decide) (by decide) (off := 177) (by decide) (tgt := 178) (by decide) ?_
  refine ev_ss DX6_count 1 52 (pc' := 179) (lv' := [(0, .ref _), (1, .int 10)]) (st' := [.ref _]) rfl ?_
  refine ev_get DX6_count 53 GX6 rfl (k0 := 0) (Nat.le_of_ble_eq_true rfl) fX6_12 h.1 rfl ?_
  refine ev_get DX6_count 54 GX1 rfl (k0 := 0) (Nat.le_of_ble_eq_true rfl) fX6_147 h.2.1.1.1 rfl ?_
  refine ev_cV DX6_count 55 (wshies h.2.1.2.1) vX5_shies rfl qX6_208 rfl h1 rfl (hd_of rfl rfl rfl rfl) ?_
  refine ev_ss DX6_count 1 56 (pc' := 189) (lv' := [(0, .ref _), (1, .int 10)]) (st' := [.ref _, .int _]) rfl ?_
  refine ev_get DX6_count 57 GX6 rfl (k0 := 0) (Nat.le_of_ble_eq_true rfl) fX6_12 h.1 rfl ?_
  refine ev_get DX6_count 58 GX1 rfl (k0 := 1) (Nat.le_of_ble_eq_true rfl) fX6_160 h.2.1.1.1 rfl ?_
  refine ev_cV DX6_count 59 (wshies h.2.1.2.2) vX5_shies rfl qX6_208 rfl g1 rfl (hd_of rfl rfl rfl rfl) ?_
  refine ev_ss DX6_count 1 60 (pc' := 199) (lv' := [(0, .ref _), (1, .int 10)]) (st' := [.int _]) rfl ?_
  exact ev_iret DX6_count 61 rfl rfl ⟨rfl, rfl⟩
set_option maxRecDepth 100000 in
set_option maxHeartbeats 4000000 in
theorem m_X6_count_11 {E : gE} {ad : Nat → Nat} {ws : va_W} {p : PS} {sv : Nat → PS} {sc r len : Nat} {ch : Nat → Int32} (h : MW E ad ws p sv sc r len ch) : CD E YX6_count 0 0 [.ref (ad 0), .int 11] ws (some (.int (cntV p sc 11))) ws := by
  obtain ⟨st, sz, r9, h1, h2, h3, h4, h5, h6⟩ := h.2.1.2.1
  obtain ⟨st2, sz2, r2, g1, g2, g3, g4, g5, g6⟩ := h.2.1.2.2
  have z1 := (RQ_sz h5).1
  have z2 := (RQ_sz g5).1
  refine cdV vX6_count (Nat.le_of_ble_eq_true rfl) (lv0 := [(0, .ref (ad 0)), (1, .int 11)]) rfl ?_
  refine ev_ss DX6_count 1 0 (pc' := 1) (lv' := [(0, .ref _), (1, .int 11)]) (st' := [.int 11]) rfl ?_
  refine ev_swin DX6_count 1 rfl (by decide) (by decide) (off := 199) (by decide) (tgt := 200) (by decide) ?_
  refine ev_ss DX6_count 1 62 (pc' := 201) (lv' := [(0, .ref _), (1, .int 11)]) (st' := [.ref _]) rfl ?_
  refine ev_get DX6_count 63 GX6 rfl (k0 := 0) (Nat.le_of_ble_eq_true rfl) fX6_12 h.1 rfl ?_
  refine ev_get DX6_count 64 GX1 rfl (k0 := 0) (Nat.le_of_ble_eq_true rfl) fX6_147 h.2.1.1.1 rfl ?_
  refine ev_cV DX6_count 65 (wins h.2.1.2.1) vX5_insulted rfl qX6_211 rfl h1 rfl (hd_of rfl rfl rfl rfl) ?_
  refine ev_ss DX6_count 1 66 (pc' := 211) (lv' := [(0, .ref _), (1, .int 11)]) (st' := [.ref _, .int _]) rfl ?_
  refine ev_get DX6_count 67 GX6 rfl (k0 := 0) (Nat.le_of_ble_eq_true rfl) fX6_12 h.1 rfl ?_
  refine ev_get DX6_count 68 GX1 rfl (k0 := 1) (Nat.le_of_ble_eq_true rfl) fX6_160 h.2.1.1.1 rfl ?_
  refine ev_cV DX6_count 69 (wins h.2.1.2.2) vX5_insulted rfl qX6_211 rfl g1 rfl (hd_of rfl rfl rfl rfl) ?_
  refine ev_ss DX6_count 1 70 (pc' := 221) (lv' := [(0, .ref _), (1, .int 11)]) (st' := [.int _]) rfl ?_
  exact ev_iret DX6_count 71 rfl rfl ⟨rfl, rfl⟩
set_option maxRecDepth 100000 in
set_option maxHeartbeats 4000000 in
theorem m_X6_count_12 {E : gE} {ad : Nat → Nat} {ws : va_W} {p : PS} {sv : Nat → PS} {sc r len : Nat} {ch : Nat → Int32} (h : MW E ad ws p sv sc r len ch) : CD E YX6_count 0 0 [.ref (ad 0), .int 12] ws (some (.int (cntV p sc 12))) ws := by
  obtain ⟨st, sz, r9, h1, h2, h3, h4, h5, h6⟩ := h.2.1.2.1
  obtain ⟨st2, sz2, r2, g1, g2, g3, g4, g5, g6⟩ := h.2.1.2.2
  have z1 := (RQ_sz h5).1
  have z2 := (RQ_sz g5).1
  refine cdV vX6_count (Nat.le_of_ble_eq_true rfl) (lv0 := [(0, .ref (ad 0)), (1, .int 12)]) rfl ?_
  refine ev_ss DX6_count 1 0 (pc' := 1) (lv' := [(0, .ref _), (1, .int 12)]) (st' := [.int 12]) rfl ?_
  refine ev_swin DX6_count 1 rfl (by decide) (by decide) (off := 221) (by decide) (tgt := 222) (by decide) ?_
  refine ev_ss DX6_count 1 72 (pc' := 223) (lv' := [(0, .ref _), (1, .int 12)]) (st' := [.ref _]) rfl ?_
  refine ev_get DX6_count 73 GX6 rfl (k0 := 5) (Nat.le_of_ble_eq_true rfl) fX6_169 h.1 rfl ?_
  exact ev_iret DX6_count 74 rfl rfl ⟨rfl, rfl⟩
theorem m_X6_count {E : gE} {ad : Nat → Nat} {ws : va_W} {p : PS} {sv : Nat → PS} {sc r len : Nat} {ch : Nat → Int32} (h : MW E ad ws p sv sc r len ch) {j : Nat} (hj : j < 13) : CD E YX6_count 0 0 [.ref (ad 0), .int (nI j)] ws (some (.int (cntV p sc j))) ws := by
  rcases (show j = 0 ∨ j = 1 ∨ j = 2 ∨ j = 3 ∨ j = 4 ∨ j = 5 ∨ j = 6 ∨ j = 7 ∨ j = 8 ∨ j = 9 ∨ j = 10 ∨ j = 11 ∨ j = 12 by omega) with rfl | rfl | rfl | rfl | rfl | rfl | rfl | rfl | rfl | rfl | rfl | rfl | rfl
  · exact m_X6_count_0 h
  · exact m_X6_count_1 h
  · exact m_X6_count_2 h
  · exact m_X6_count_3 h
  · exact m_X6_count_4 h
  · exact m_X6_count_5 h
  · exact m_X6_count_6 h
  · exact m_X6_count_7 h
  · exact m_X6_count_8 h
  · exact m_X6_count_9 h
  · exact m_X6_count_10 h
  · exact m_X6_count_11 h
  · exact m_X6_count_12 h
set_option maxRecDepth 100000 in
set_option maxHeartbeats 4000000 in
theorem m_X6_firstError {E : gE} {ad : Nat → Nat} {ws : va_W} {p : PS} {sv : Nat → PS} {sc r len : Nat} {ch : Nat → Int32} (h : MW E ad ws p sv sc r len ch) : CD E YX6_firstError 0 0 [.ref (ad 0)] ws (some (.int (erP ch len len 0))) ws := by
  refine cdV vX6_firstError (Nat.le_of_ble_eq_true rfl) (lv0 := [(0, .ref (ad 0))]) rfl ?_
  refine ev_ss DX6_firstError 1 0 (pc' := 1) (lv' := [(0, .ref _)]) (st' := [.ref _]) rfl ?_
  refine ev_get DX6_firstError 1 GX6 rfl (k0 := 4) (Nat.le_of_ble_eq_true rfl) fX6_33 h.1 rfl ?_
  refine ev_cV DX6_firstError 2 (m_X2_errorPlace h.2.2.2.2.2.1) vX2_errorPlace rfl qX6_135 rfl h.2.2.2.2.2.1.2.1 rfl (hd_of rfl rfl rfl rfl) ?_
  exact ev_iret DX6_firstError 3 rfl rfl ⟨rfl, rfl⟩
set_option maxRecDepth 100000 in
set_option maxHeartbeats 4000000 in
theorem m_X6_clearBuffer {E : gE} {ad : Nat → Nat} {ws : va_W} {p : PS} {sv : Nat → PS} {sc r len : Nat} {ch : Nat → Int32} (h : MW E ad ws p sv sc r len ch) : C0 E YX6_clearBuffer 0 0 [.ref (ad 0)] ws (fun v w => v = some (.int (nI len)) ∧ MW E ad w p sv sc r 0 ch ∧ FO ws w) := by
  obtain ⟨hl, t1, g, t2, t3⟩ := h.2.2.2.2.2.1
  refine c0V vX6_clearBuffer (Nat.le_of_ble_eq_true rfl) (lv0 := [(0, .ref (ad 0))]) rfl ?_
  refine ev_ss DX6_clearBuffer 1 0 (pc' := 1) (lv' := [(0, .ref _)]) (st' := [.ref _]) rfl ?_
  refine ev_get DX6_clearBuffer 1 GX6 rfl (k0 := 4) (Nat.le_of_ble_eq_true rfl) fX6_33 h.1 rfl ?_
  refine ev_get DX6_clearBuffer 2 GX2 rfl (k0 := 1) (Nat.le_of_ble_eq_true rfl) fX6_126 t1 rfl ?_
  refine ev_ss DX6_clearBuffer 2 3 (pc' := 9) (lv' := [(1, .int _), (0, .ref _)]) (st' := [.ref _]) rfl ?_
  refine ev_get DX6_clearBuffer 5 GX6 rfl (k0 := 4) (Nat.le_of_ble_eq_true rfl) fX6_33 h.1 rfl ?_
  refine ev_ss DX6_clearBuffer 1 6 (pc' := 13) (lv' := [(1, .int _), (0, .ref _)]) (st' := [.int 0, .ref _]) rfl ?_
  refine ev_put (fs' := [_, _]) DX6_clearBuffer 7 GX2 rfl (k0 := 1) (Nat.le_of_ble_eq_true rfl) fX6_126 rfl ⟨rfl, rfl⟩ t1 (Nat.le_of_ble_eq_true rfl) rfl rfl ?_
  refine ev_ss DX6_clearBuffer 1 8 (pc' := 17) (lv' := [(1, .int _), (0, .ref _)]) (st' := [.int _]) rfl ?_
  exact ev_iret DX6_clearBuffer 9 rfl rfl ⟨rfl, h.txt ⟨by decide, wset_get t1, g, wset_n t2 (by decide), fun j hj => absurd hj (Nat.not_lt_zero j)⟩ (fun j a b => List.getElem?_set_ne (Ne.symm a)), fun j hj => List.getElem?_set_ne (by omega)⟩
def bC (c : Int32) : Prop := c < 33 ∨ 126 < c
/-- only the number of saved states has changed -/
theorem MW.cnt {E : gE} {ad : Nat → Nat} {ws w : va_W} {p : PS} {sv : Nat → PS} {sc sc2 r len : Nat} {ch : Nat → Int32} (h : MW E ad ws p sv sc r len ch) (h1 : w[0]? = some (ad 0, obC (ad 1) (ad 27) (ad 53) (ad 54) (ad 56) (nI sc2))) (hf : ∀ j, j ≠ 0 → w[j]? = ws[j]?) : MW E ad w p sv sc2 r len ch := by
  obtain ⟨a, b, ⟨pt, c⟩, d, ⟨lb, sz, e⟩, f, g⟩ := h
  exact ⟨h1, b.of (fun j x y => hf j (by omega)), ⟨pt, c.of (fun j x y => hf j (by omega))⟩, (hf 53 (by decide)).trans d, ⟨lb, sz, e.of (hf _ (by decide)) (hf _ (by decide))⟩, f.of (hf _ (by decide)) (hf _ (by decide)), fun k hk => (g k hk).of (fun j x y => hf j (by unfold plS at x; omega))⟩
theorem chrI : ∀ c, c < 127 → vp_nar .char ((nI c).toUInt32 % 65536).toInt32 = nI c := by decide +kernel
set_option maxRecDepth 100000 in
set_option maxHeartbeats 4000000 in
theorem m_X6_append {E : gE} {ad : Nat → Nat} {ws : va_W} {p : PS} {sv : Nat → PS} {sc r len : Nat} {ch : Nat → Int32} (h : MW E ad ws p sv sc r len ch) {c : Nat} (hc : c < 127) (hc2 : 33 ≤ c) (hl : len < 60) : C0 E YX6_append 0 0 [.ref (ad 0), .int (nI c)] ws (fun v w => v = some (.int (nI (len + 1))) ∧ MW E ad w p sv sc r (len + 1) (upd ch len (nI c)) ∧ FO ws w) := by
  obtain ⟨hl0, t1, g, t2, t3⟩ := h.2.2.2.2.2.1
  refine c0V vX6_append (Nat.le_of_ble_eq_true rfl) (lv0 := [(0, .ref (ad 0)), (1, .int (nI c))]) rfl ?_
  refine ev_ss DX6_append 2 0 (pc' := 3) (lv' := [(0, .ref _), (1, .int _)]) (st' := [.int 33, .int _]) rfl ?_
  refine ev_iclt DX6_append 2 rfl (tgt := 12) (by decide) (fun h => absurd h (nI_nlt (b := 33) hc2 (by omega))) (fun _ => ?_)
  refine ev_ss DX6_append 2 3 (pc' := 9) (lv' := [(0, .ref _), (1, .int _)]) (st' := [.int 126, .int _]) rfl ?_
  refine ev_icle DX6_append 5 rfl (tgt := 22) (by decide) (fun _ => ?_) (fun h => h.elim (nI_le (b := 126) (by omega) (by decide)))
  refine ev_ss DX6_append 1 11 (pc' := 23) (lv' := [(0, .ref _), (1, .int _)]) (st' := [.ref _]) rfl ?_
  refine ev_get DX6_append 12 GX6 rfl (k0 := 4) (Nat.le_of_ble_eq_true rfl) fX6_33 h.1 rfl ?_
  refine ev_get DX6_append 13 GX2 rfl (k0 := 1) (Nat.le_of_ble_eq_true rfl) fX6_126 t1 rfl ?_
  refine ev_ss DX6_append 1 14 (pc' := 31) (lv' := [(0, .ref _), (1, .int _)]) (st' := [.int 60, .int _]) rfl ?_
  refine ev_iclt DX6_append 15 rfl (tgt := 44) (by decide) (fun _ => ?_) (fun h => h.elim (nI_lt (b := 60) hl (by decide)))
  refine ev_ss DX6_append 1 21 (pc' := 45) (lv' := [(0, .ref _), (1, .int _)]) (st' := [.ref _]) rfl ?_
  refine ev_get DX6_append 22 GX6 rfl (k0 := 4) (Nat.le_of_ble_eq_true rfl) fX6_33 h.1 rfl ?_
  refine ev_get DX6_append 23 GX2 rfl (k0 := 0) (Nat.le_of_ble_eq_true rfl) fX6_131 t1 rfl ?_
  refine ev_ss DX6_append 1 24 (pc' := 52) (lv' := [(0, .ref _), (1, .int _)]) (st' := [.ref _, .ref _]) rfl ?_
  refine ev_get DX6_append 25 GX6 rfl (k0 := 4) (Nat.le_of_ble_eq_true rfl) fX6_33 h.1 rfl ?_
  refine ev_get DX6_append 26 GX2 rfl (k0 := 1) (Nat.le_of_ble_eq_true rfl) fX6_126 t1 rfl ?_
  refine ev_ss DX6_append 2 27 (pc' := 60) (lv' := [(0, .ref _), (1, .int _)]) (st' := [.int _, .int _, .ref _]) rfl ?_
  refine ev_cast DX6_append 29 rfl t2 (vp_in_nI hl (by decide)) rfl ?_
  rw [nI_clamp (by omega), chrI c hc]
  refine ev_ss DX6_append 1 30 (pc' := 62) (lv' := [(0, .ref _), (1, .int _)]) (st' := [.ref _]) rfl ?_
  refine ev_get DX6_append 31 GX6 rfl (k0 := 4) (Nat.le_of_ble_eq_true rfl) fX6_33 (wset_o h.1 t2 rfl) rfl ?_
  refine ev_ss DX6_append 1 32 (pc' := 66) (lv' := [(0, .ref _), (1, .int _)]) (st' := [.ref _, .ref _]) rfl ?_
  refine ev_get DX6_append 33 GX2 rfl (k0 := 1) (Nat.le_of_ble_eq_true rfl) fX6_126 (wset_o t1 t2 rfl) rfl ?_
  refine ev_ss DX6_append 2 34 (pc' := 71) (lv' := [(0, .ref _), (1, .int _)]) (st' := [.int _, .ref _]) rfl ?_
  refine ev_put (fs' := [_, _]) DX6_append 36 GX2 rfl (k0 := 1) (Nat.le_of_ble_eq_true rfl) fX6_126 rfl ⟨rfl, rfl⟩ (wset_o t1 t2 rfl) (Nat.le_of_ble_eq_true rfl) rfl rfl ?_
  refine ev_ss DX6_append 1 37 (pc' := 75) (lv' := [(0, .ref _), (1, .int _)]) (st' := [.ref _]) rfl ?_
  refine ev_get DX6_append 38 GX6 rfl (k0 := 4) (Nat.le_of_ble_eq_true rfl) fX6_33 (wset_o (wset_o h.1 t2 rfl) (wset_o t1 t2 rfl) rfl) rfl ?_
  refine ev_get DX6_append 39 GX2 rfl (k0 := 1) (Nat.le_of_ble_eq_true rfl) fX6_126 (wset_get (wset_o t1 t2 rfl)) rfl ?_
  exact ev_iret DX6_append 40 rfl rfl ⟨by rw [← nI_1]; rfl, h.txt ⟨hl, by rw [← nI_1]; exact wset_get (wset_n t1 (by decide)), upd g len (nI c), wset_n (wset_get t2) (by decide), fun j hj => by unfold upd; split; rfl; exact t3 j (by omega)⟩ (fun j a b => by rw [List.getElem?_set_ne (Ne.symm a), List.getElem?_set_ne (Ne.symm b)]), fun j hj => by rw [List.getElem?_set_ne (by omega), List.getElem?_set_ne (by omega)]⟩
set_option maxRecDepth 100000 in
set_option maxHeartbeats 4000000 in
theorem x_X6_append_c {E : gE} {ad : Nat → Nat} {ws : va_W} {p : PS} {sv : Nat → PS} {sc r len : Nat} {ch : Nat → Int32} (h : MW E ad ws p sv sc r len ch) {x : Int32} (hb : bC x) : C1 E YX6_append 1 6 [.ref (ad 0), .int x] ws (fun _ _ => False) (fun X w => X = xA ∧ w = ws) := by
  unfold bC at hb
  refine c1V vX6_append (Nat.le_of_ble_eq_true rfl) (lv0 := [(0, .ref (ad 0)), (1, .int x)]) rfl ?_
  refine ev_ss DX6_append 2 0 (pc' := 3) (lv' := [(0, .ref _), (1, .int _)]) (st' := [.int 33, .int _]) rfl ?_
  refine ev_iclt DX6_append 2 rfl (tgt := 12) (by decide) (fun c_1 => ?_) (fun c_1 => ?_)
  · exact ev_throw DX6_append 6 XbA rfl rfl nX6_57 (List.mem_of_getElem? (i := 14) rfl) rfl rfl rfl rfl rfl (Nat.le_of_ble_eq_true rfl) (Nat.le_of_ble_eq_true rfl) (by decide) (by decide) ⟨rfl, rfl⟩
  · refine ev_ss DX6_append 2 3 (pc' := 9) (lv' := [(0, .ref _), (1, .int _)]) (st' := [.int 126, .int _]) rfl ?_
    refine ev_icle DX6_append 5 rfl (tgt := 22) (by decide) (fun c_2 => ?_) (fun c_2 => ?_)
    · exact absurd (hb.resolve_left c_1) (Int32.not_lt.mpr c_2)
    · exact ev_throw DX6_append 6 XbA rfl rfl nX6_57 (List.mem_of_getElem? (i := 14) rfl) rfl rfl rfl rfl rfl (Nat.le_of_ble_eq_true rfl) (Nat.le_of_ble_eq_true rfl) (by decide) (by decide) ⟨rfl, rfl⟩
set_option maxRecDepth 100000 in
set_option maxHeartbeats 4000000 in
theorem x_X6_append_l {E : gE} {ad : Nat → Nat} {ws : va_W} {p : PS} {sv : Nat → PS} {sc r len : Nat} {ch : Nat → Int32} (h : MW E ad ws p sv sc r len ch) {x : Int32} (hb : ¬ bC x) (hl : ¬ len < 60) : C1 E YX6_append 1 6 [.ref (ad 0), .int x] ws (fun _ _ => False) (fun X w => X = xS ∧ w = ws) := by
  obtain ⟨hl0, t1, g, t2, t3⟩ := h.2.2.2.2.2.1
  refine c1V vX6_append (Nat.le_of_ble_eq_true rfl) (lv0 := [(0, .ref (ad 0)), (1, .int x)]) rfl ?_
  refine ev_ss DX6_append 2 0 (pc' := 3) (lv' := [(0, .ref _), (1, .int _)]) (st' := [.int 33, .int _]) rfl ?_
  refine ev_iclt DX6_append 2 rfl (tgt := 12) (by decide) (fun h => absurd h (fun e => hb (Or.inl e))) (fun _ => ?_)
  refine ev_ss DX6_append 2 3 (pc' := 9) (lv' := [(0, .ref _), (1, .int _)]) (st' := [.int 126, .int _]) rfl ?_
  refine ev_icle DX6_append 5 rfl (tgt := 22) (by decide) (fun _ => ?_) (fun h => h.elim (Int32.not_lt.mp (fun e => hb (Or.inr e))))
  refine ev_ss DX6_append 1 11 (pc' := 23) (lv' := [(0, .ref _), (1, .int _)]) (st' := [.ref _]) rfl ?_
  refine ev_get DX6_append 12 GX6 rfl (k0 := 4) (Nat.le_of_ble_eq_true rfl) fX6_33 h.1 rfl ?_
  refine ev_get DX6_append 13 GX2 rfl (k0 := 1) (Nat.le_of_ble_eq_true rfl) fX6_126 t1 rfl ?_
  refine ev_ss DX6_append 1 14 (pc' := 31) (lv' := [(0, .ref _), (1, .int _)]) (st' := [.int 60, .int _]) rfl ?_
  refine ev_iclt DX6_append 15 rfl (tgt := 44) (by decide) (fun h => absurd h (nI_nlt (b := 60) (by omega) (by omega))) (fun _ => ?_)
  exact ev_throw DX6_append 16 XbS rfl rfl nX6_73 (List.mem_of_getElem? (i := 15) rfl) rfl rfl rfl rfl rfl (Nat.le_of_ble_eq_true rfl) (Nat.le_of_ble_eq_true rfl) (by decide) (by decide) ⟨rfl, rfl⟩