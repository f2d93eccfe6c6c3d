def pTone (p : PS) (a t : Nat) (f : TF) : PS := pSet p a (va_up (pW p a).1 t f, (pW p a).2)
def pSeed (p : PS) (sd bt : Int32) : PS := (sd, bt, p.2.2)
def pSett (p : PS) (j : Nat) (v : Int32) : PS := (p.1, p.2.1, upd p.2.2.1 j v, p.2.2.2)
theorem MW.tone {E : gE} {ad : Nat → Nat} {ws : va_W} {p : PS} {sv : Nat → PS} {sc r len : Nat} {ch : Nat → Int32} (h : MW E ad ws p sv sc r len ch) {a t : Nat} (ha : a < 2) (ht : t < 8) {f : TF} : MW E ad (ws.set (2 + 12 * a + 4 + t) (ad (2 + 12 * a + 4 + t), toneC f)) (pTone p a t f) sv sc r len ch :=
  h.now (h.2.1.set ha (h.2.1.1.of (List.getElem?_set_ne (by omega)) (List.getElem?_set_ne (by omega))) ((h.2.1.way ha).tone ht) (fun j b c => List.getElem?_set_ne (by omega))) (fun j b => List.getElem?_set_ne (by omega))
theorem FO.set {ws : va_W} {j : Nat} {x : Nat × va_E} (h : j < 214) : FO ws (ws.set j x) := fun k hk => List.getElem?_set_ne (by omega)
def bSt (j : Nat) (v : Int32) : Prop := v < gSv [16, -32, -32, 0] j ∨ gSv [96, 32, 32, 60] j < v
def bSe (j : Nat) (v : Int32) : Prop := v < gSv [1, 4, 1] j ∨ gSv [64, 40, 50] j < v
def bWh (x : Int32) : Prop := x < 0 ∨ ¬ x < 4
set_option maxRecDepth 100000 in
set_option maxHeartbeats 4000000 in
theorem m_X6_checkStreetNumber {E : gE} {ws : va_W} {j : Nat} {v : Int32} (hj : j < 4) (hg : ¬ bSt j v) : CD E YX6_checkStreetNumber 0 0 [.int (nI j), .int v] ws none ws := by
  have ej : (nI j).toNatClampNeg = j := nI_clamp (by omega)
  refine cdS vX6_checkStreetNumber (Nat.le_of_ble_eq_true rfl) (lv0 := [(0, .int (nI j)), (1, .int v)]) rfl ?_
  refine ev_ss DX6_checkStreetNumber 1 0 (pc' := 1) (lv' := [(0, .int _), (1, .int _)]) (st' := [.int _]) rfl ?_
  refine ev_iflt DX6_checkStreetNumber 1 rfl (tgt := 9) (by decide) (fun h => absurd h (nI_pos (by omega))) (fun _ => ?_)
  refine ev_ss DX6_checkStreetNumber 2 2 (pc' := 6) (lv' := [(0, .int _), (1, .int _)]) (st' := [.int 4, .int _]) rfl ?_
  refine ev_iclt DX6_checkStreetNumber 4 rfl (tgt := 20) (by decide) (fun _ => ?_) (fun h => h.elim (nI_lt (b := 4) hj (by decide)))
  refine ev_ss DX6_checkStreetNumber 1 10 (pc' := 21) (lv' := [(0, .int _), (1, .int _)]) (st' := [.int _]) rfl ?_
  refine ev_gets DX6_checkStreetNumber 11 (j := 2) rfl rfl fX6_311 ?_
  refine ev_ss DX6_checkStreetNumber 1 12 (pc' := 25) (lv' := [(0, .int _), (1, .int _)]) (st' := [.int _, .ref _, .int _]) rfl ?_
  refine ev_gsld DX6_checkStreetNumber 13 (j := 2) rfl rfl (vp_in_nI hj (by decide)) ?_
  refine ev_iclt DX6_checkStreetNumber 14 rfl (tgt := 38) (by decide) (fun h => absurd h (fun e => hg (Or.inl (by rw [ej] at e; exact e)))) (fun _ => ?_)
  refine ev_ss DX6_checkStreetNumber 1 15 (pc' := 30) (lv' := [(0, .int _), (1, .int _)]) (st' := [.int _]) rfl ?_
  refine ev_gets DX6_checkStreetNumber 16 (j := 3) rfl rfl fX6_314 ?_
  refine ev_ss DX6_checkStreetNumber 1 17 (pc' := 34) (lv' := [(0, .int _), (1, .int _)]) (st' := [.int _, .ref _, .int _]) rfl ?_
  refine ev_gsld DX6_checkStreetNumber 18 (j := 3) rfl rfl (vp_in_nI hj (by decide)) ?_
  refine ev_icle DX6_checkStreetNumber 19 rfl (tgt := 49) (by decide) (fun _ => ?_) (fun h => h.elim (Int32.not_lt.mp (fun e => hg (Or.inr (by rw [ej] at e; exact e)))))
  exact ev_vret DX6_checkStreetNumber 25 rfl rfl ⟨rfl, rfl⟩
set_option maxRecDepth 100000 in
set_option maxHeartbeats 4000000 in
theorem x_X6_checkStreetNumber_w {E : gE} {ws : va_W} {x v : Int32} (hb : bWh x) : C1 E YX6_checkStreetNumber 1 6 [.int x, .int v] ws (fun _ _ => False) (fun X w => X = xA ∧ w = ws) := by
  unfold bWh at hb
  refine c1S vX6_checkStreetNumber (Nat.le_of_ble_eq_true rfl) (lv0 := [(0, .int x), (1, .int v)]) rfl ?_
  refine ev_ss DX6_checkStreetNumber 1 0 (pc' := 1) (lv' := [(0, .int _), (1, .int _)]) (st' := [.int _]) rfl ?_
  refine ev_iflt DX6_checkStreetNumber 1 rfl (tgt := 9) (by decide) (fun c_1 => ?_) (fun c_1 => ?_)
  · exact ev_throwW DX6_checkStreetNumber 5 XbA rfl rfl nX6_57 (List.mem_of_getElem? (i := 6) rfl) rfl rfl rfl rfl rfl (Nat.le_of_ble_eq_true rfl) (Nat.le_of_ble_eq_true rfl) (by decide) (by decide) ⟨rfl, rfl⟩
  · refine ev_ss DX6_checkStreetNumber 2 2 (pc' := 6) (lv' := [(0, .int _), (1, .int _)]) (st' := [.int 4, .int _]) rfl ?_
    refine ev_iclt DX6_checkStreetNumber 4 rfl (tgt := 20) (by decide) (fun c_2 => ?_) (fun c_2 => ?_)
    · exact absurd c_2 (hb.resolve_left c_1)
    · exact ev_throwW DX6_checkStreetNumber 5 XbA rfl rfl nX6_57 (List.mem_of_getElem? (i := 6) rfl) rfl rfl rfl rfl rfl (Nat.le_of_ble_eq_true rfl) (Nat.le_of_ble_eq_true rfl) (by decide) (by decide) ⟨rfl, rfl⟩
set_option maxRecDepth 100000 in
set_option maxHeartbeats 4000000 in
theorem x_X6_checkStreetNumber_v {E : gE} {ws : va_W} {j : Nat} {v : Int32} (hj : j < 4) (hb : bSt j v) : C1 E YX6_checkStreetNumber 1 6 [.int (nI j), .int v] ws (fun _ _ => False) (fun X w => X = xA ∧ w = ws) := by
  have ej : (nI j).toNatClampNeg = j := nI_clamp (by omega)
  unfold bSt at hb
  refine c1S vX6_checkStreetNumber (Nat.le_of_ble_eq_true rfl) (lv0 := [(0, .int (nI j)), (1, .int v)]) rfl ?_
  refine ev_ss DX6_checkStreetNumber 1 0 (pc' := 1) (lv' := [(0, .int _), (1, .int _)]) (st' := [.int _]) rfl ?_
  refine ev_iflt DX6_checkStreetNumber 1 rfl (tgt := 9) (by decide) (fun h => absurd h (nI_pos (by omega))) (fun _ => ?_)
  refine ev_ss DX6_checkStreetNumber 2 2 (pc' := 6) (lv' := [(0, .int _), (1, .int _)]) (st' := [.int 4, .int _]) rfl ?_
  refine ev_iclt DX6_checkStreetNumber 4 rfl (tgt := 20) (by decide) (fun _ => ?_) (fun h => h.elim (nI_lt (b := 4) hj (by decide)))
  refine ev_ss DX6_checkStreetNumber 1 10 (pc' := 21) (lv' := [(0, .int _), (1, .int _)]) (st' := [.int _]) rfl ?_
  refine ev_gets DX6_checkStreetNumber 11 (j := 2) rfl rfl fX6_311 ?_
  refine ev_ss DX6_checkStreetNumber 1 12 (pc' := 25) (lv' := [(0, .int _), (1, .int _)]) (st' := [.int _, .ref _, .int _]) rfl ?_
  refine ev_gsld DX6_checkStreetNumber 13 (j := 2) rfl rfl (vp_in_nI hj (by decide)) ?_
  refine ev_iclt DX6_checkStreetNumber 14 rfl (tgt := 38) (by decide) (fun c_3 => ?_) (fun c_3 => ?_)
  · exact ev_throwW DX6_checkStreetNumber 20 XbA rfl rfl nX6_57 (List.mem_of_getElem? (i := 7) rfl) rfl rfl rfl rfl rfl (Nat.le_of_ble_eq_true rfl) (Nat.le_of_ble_eq_true rfl) (by decide) (by decide) ⟨rfl, rfl⟩
  · refine ev_ss DX6_checkStreetNumber 1 15 (pc' := 30) (lv' := [(0, .int _), (1, .int _)]) (st' := [.int _]) rfl ?_
    refine ev_gets DX6_checkStreetNumber 16 (j := 3) rfl rfl fX6_314 ?_
    refine ev_ss DX6_checkStreetNumber 1 17 (pc' := 34) (lv' := [(0, .int _), (1, .int _)]) (st' := [.int _, .ref _, .int _]) rfl ?_
    refine ev_gsld DX6_checkStreetNumber 18 (j := 3) rfl rfl (vp_in_nI hj (by decide)) ?_
    refine ev_icle DX6_checkStreetNumber 19 rfl (tgt := 49) (by decide) (fun c_4 => ?_) (fun c_4 => ?_)
    · exact absurd (hb.resolve_left (fun e => c_3 (by rw [ej]; exact e))) (fun e => absurd (Int32.not_lt.mpr c_4) (fun e2 => e2 (by rw [ej]; exact e)))
    · exact ev_throwW DX6_checkStreetNumber 20 XbA rfl rfl nX6_57 (List.mem_of_getElem? (i := 7) rfl) rfl rfl rfl rfl rfl (Nat.le_of_ble_eq_true rfl) (Nat.le_of_ble_eq_true rfl) (by decide) (by decide) ⟨rfl, rfl⟩
set_option maxRecDepth 100000 in
set_option maxHeartbeats 4000000 in
theorem m_X6_build {E : gE} {ad : Nat → Nat} {ws : va_W} {p : PS} {sv : Nat → PS} {sc r len : Nat} {ch : Nat → Int32} (h : MW E ad ws p sv sc r len ch) {j : Nat} {v : Int32} {a t : Nat} (ha : a < 2) (ht : t < 8) (hsc : sc ≤ 6) (hj : j < 4) (hg : ¬ bSt j v) : C0 E YX6_build 0 0 [.ref (ad 0), .int (nI a), .int (nI t), .int (nI j), .int v] ws (fun v9 w9 => v9 = some (.int ((pW p a).1 t j)) ∧ (∃ r2, MW E ad w9 (pTone p a t (upd ((pW p a).1 t) j v)) (svN p sv sc) (scN sc) r2 len ch) ∧ FO ws w9) := by
  obtain ⟨st, sz, r9, h1, h2, h3, h4, h5, h6⟩ := h.2.1.way ha
  refine c0V vX6_build (Nat.le_of_ble_eq_true rfl) (lv0 := [(0, .ref (ad 0)), (1, .int (nI a)), (2, .int (nI t)), (3, .int (nI j)), (4, .int v)]) rfl ?_
  refine ev_ss DX6_build 3 0 (pc' := 3) (lv' := [(0, .ref _), (1, .int _), (2, .int _), (3, .int _), (4, .int _)]) (st' := [.int _, .int _, .ref _]) rfl ?_
  refine ev_cV DX6_build 3 (m_X6_toneOf h ha ht) vX6_toneOf rfl qX6_37 rfl h.1 rfl (hd_of rfl rfl rfl rfl) ?_
  refine ev_ss DX6_build 3 4 (pc' := 11) (lv' := [(5, .ref _), (0, .ref _), (1, .int _), (2, .int _), (3, .int _), (4, .int _)]) (st' := [.int _, .int _]) rfl ?_
  refine ev_cS DX6_build 7 (m_X6_checkStreetNumber hj hg) vX6_checkStreetNumber rfl qX6_41 rfl (hd_of rfl rfl rfl rfl) ?_
  refine ev_ss DX6_build 1 8 (pc' := 15) (lv' := [(5, .ref _), (0, .ref _), (1, .int _), (2, .int _), (3, .int _), (4, .int _)]) (st' := [.ref _]) rfl ?_
  refine ev_rV DX6_build 9 (m_X6_save h hsc) vX6_save rfl qX6_45 rfl h.1 rfl (hd_of rfl rfl rfl rfl) (fun v w hvw => ?_)
  obtain ⟨rfl, ⟨r2, hM⟩, hO⟩ := hvw
  obtain ⟨st2, sz2, r8, m1, m2, m3, m4, m5, m6⟩ := hM.2.1.way ha
  refine ev_ss DX6_build 2 10 (pc' := 21) (lv' := [(5, .ref _), (0, .ref _), (1, .int _), (2, .int _), (3, .int _), (4, .int _)]) (st' := [.int _, .ref _]) rfl ?_
  refine ev_cV DX6_build 12 (m_X3_streetNumber (m6 t ht) (by omega)) vX3_streetNumber rfl qX6_48 rfl (m6 t ht) rfl (hd_of rfl rfl rfl rfl) ?_
  refine ev_ss DX6_build 4 13 (pc' := 31) (lv' := [(6, .int _), (5, .ref _), (0, .ref _), (1, .int _), (2, .int _), (3, .int _), (4, .int _)]) (st' := [.int _, .int _, .ref _]) rfl ?_
  refine ev_cV DX6_build 17 (m_X3_setStreetNumber (m6 t ht) hj) vX3_setStreetNumber rfl qX6_54 rfl (m6 t ht) rfl (hd_of rfl rfl rfl rfl) ?_
  refine ev_ss DX6_build 1 18 (pc' := 36) (lv' := [(6, .int _), (5, .ref _), (0, .ref _), (1, .int _), (2, .int _), (3, .int _), (4, .int _)]) (st' := [.int _]) rfl ?_
  exact ev_iret DX6_build 19 rfl rfl ⟨rfl, ⟨r2, hM.tone ha ht⟩, hO.tr (FO.set (by omega))⟩
set_option maxRecDepth 100000 in
set_option maxHeartbeats 4000000 in
theorem xc_X6_build_X6_toneOf {E : gE} {ad : Nat → Nat} {ws : va_W} {p : PS} {sv : Nat → PS} {sc r len : Nat} {ch : Nat → Int32} (h : MW E ad ws p sv sc r len ch) {wy t x v : Int32} (hx : C1 E YX6_toneOf 1 6 [.ref (ad 0), .int wy, .int t] ws (fun _ _ => False) (fun X w => X = xI ∧ w = ws)) : C1 E YX6_build 1 6 [.ref (ad 0), .int wy, .int t, .int x, .int v] ws (fun _ _ => False) (fun X w => X = xI ∧ w = ws) := by
  refine c1V vX6_build (Nat.le_of_ble_eq_true rfl) (lv0 := [(0, .ref (ad 0)), (1, .int wy), (2, .int t), (3, .int x), (4, .int v)]) rfl ?_
  refine ev_ss DX6_build 3 0 (pc' := 3) (lv' := [(0, .ref _), (1, .int _), (2, .int _), (3, .int _), (4, .int _)]) (st' := [.int _, .int _, .ref _]) rfl ?_
  exact ev_xV DX6_build 3 0 0 hx vX6_toneOf rfl qX6_37 rfl h.1 rfl (hd_of rfl rfl rfl rfl) rfl (by decide) (by decide) (fun X w hx => hx) (fun v w hf => hf.elim)
set_option maxRecDepth 100000 in
set_option maxHeartbeats 4000000 in
theorem xc_X6_build_X6_checkStreetNumber {E : gE} {ad : Nat → Nat} {ws : va_W} {p : PS} {sv : Nat → PS} {sc r len : Nat} {ch : Nat → Int32} (h : MW E ad ws p sv sc r len ch) {a t : Nat} {x v : Int32} (ha : a < 2) (ht : t < 8) (hx : C1 E YX6_checkStreetNumber 1 6 [.int x, .int v] ws (fun _ _ => False) (fun X w => X = xA ∧ w = ws)) : C1 E YX6_build 1 6 [.ref (ad 0), .int (nI a), .int (nI t), .int x, .int v] ws (fun _ _ => False) (fun X w => X = xA ∧ w = ws) := by
  refine c1V vX6_build (Nat.le_of_ble_eq_true rfl) (lv0 := [(0, .ref (ad 0)), (1, .int (nI a)), (2, .int (nI t)), (3, .int x), (4, .int v)]) rfl ?_
  refine ev_ss DX6_build 3 0 (pc' := 3) (lv' := [(0, .ref _), (1, .int _), (2, .int _), (3, .int _), (4, .int _)]) (st' := [.int _, .int _, .ref _]) rfl ?_
  refine ev_cV DX6_build 3 (m_X6_toneOf h ha ht) vX6_toneOf rfl qX6_37 rfl h.1 rfl (hd_of rfl rfl rfl rfl) ?_
  refine ev_ss DX6_build 3 4 (pc' := 11) (lv' := [(5, .ref _), (0, .ref _), (1, .int _), (2, .int _), (3, .int _), (4, .int _)]) (st' := [.int _, .int _]) rfl ?_
  exact ev_xS DX6_build 7 0 0 hx vX6_checkStreetNumber rfl qX6_41 rfl (hd_of rfl rfl rfl rfl) rfl (by decide) (by decide) (fun X w hx => hx) (fun v w hf => hf.elim)
def bCa (x : Int32) : Prop := x < 0 ∨ 4 < x
set_option maxRecDepth 100000 in
set_option maxHeartbeats 4000000 in
theorem m_X6_carry {E : gE} {ad : Nat → Nat} {ws : va_W} {p : PS} {sv : Nat → PS} {sc r len : Nat} {ch : Nat → Int32} (h : MW E ad ws p sv sc r len ch) {v : Int32} {a t : Nat} (ha : a < 2) (ht : t < 8) (hsc : sc ≤ 6) (hg : ¬ bCa v) : C0 E YX6_carry 0 0 [.ref (ad 0), .int (nI a), .int (nI t), .int v] ws (fun v9 w9 => v9 = some (.int ((pW p a).1 t 10)) ∧ (∃ r2, MW E ad w9 (pTone p a t (upd ((pW p a).1 t) 10 v)) (svN p sv sc) (scN sc) r2 len ch) ∧ FO ws w9) := by
  obtain ⟨st, sz, r9, h1, h2, h3, h4, h5, h6⟩ := h.2.1.way ha
  refine c0V vX6_carry (Nat.le_of_ble_eq_true rfl) (lv0 := [(0, .ref (ad 0)), (1, .int (nI a)), (2, .int (nI t)), (3, .int v)]) rfl ?_
  refine ev_ss DX6_carry 3 0 (pc' := 3) (lv' := [(0, .ref _), (1, .int _), (2, .int _), (3, .int _)]) (st' := [.int _, .int _, .ref _]) rfl ?_
  refine ev_cV DX6_carry 3 (m_X6_toneOf h ha ht) vX6_toneOf rfl qX6_37 rfl h.1 rfl (hd_of rfl rfl rfl rfl) ?_
  refine ev_ss DX6_carry 2 4 (pc' := 9) (lv' := [(4, .ref _), (0, .ref _), (1, .int _), (2, .int _), (3, .int _)]) (st' := [.int _]) rfl ?_
  refine ev_iflt DX6_carry 6 rfl (tgt := 17) (by decide) (fun h => absurd h (fun e => hg (Or.inl e))) (fun _ => ?_)
  refine ev_ss DX6_carry 2 7 (pc' := 14) (lv' := [(4, .ref _), (0, .ref _), (1, .int _), (2, .int _), (3, .int _)]) (st' := [.int 4, .int _]) rfl ?_
  refine ev_icle DX6_carry 9 rfl (tgt := 27) (by decide) (fun _ => ?_) (fun h => h.elim (Int32.not_lt.mp (fun e => hg (Or.inr e))))
  refine ev_ss DX6_carry 1 15 (pc' := 28) (lv' := [(4, .ref _), (0, .ref _), (1, .int _), (2, .int _), (3, .int _)]) (st' := [.ref _]) rfl ?_
  refine ev_rV DX6_carry 16 (m_X6_save h hsc) vX6_save rfl qX6_45 rfl h.1 rfl (hd_of rfl rfl rfl rfl) (fun v w hvw => ?_)
  obtain ⟨rfl, ⟨r2, hM⟩, hO⟩ := hvw
  obtain ⟨st2, sz2, r8, m1, m2, m3, m4, m5, m6⟩ := hM.2.1.way ha
  refine ev_ss DX6_carry 1 17 (pc' := 33) (lv' := [(4, .ref _), (0, .ref _), (1, .int _), (2, .int _), (3, .int _)]) (st' := [.ref _]) rfl ?_
  refine ev_get DX6_carry 18 GX3 rfl (k0 := 10) (Nat.le_of_ble_eq_true rfl) fX6_64 (m6 t ht) rfl ?_
  refine ev_ss DX6_carry 3 19 (pc' := 41) (lv' := [(5, .int _), (4, .ref _), (0, .ref _), (1, .int _), (2, .int _), (3, .int _)]) (st' := [.int _, .ref _]) rfl ?_
  refine ev_put (fs' := [_, _, _, _, _, _, _, _, _, _, _, _, _, _, _, _, _, _]) DX6_carry 22 GX3 rfl (k0 := 10) (Nat.le_of_ble_eq_true rfl) fX6_64 rfl ⟨rfl, rfl⟩ (m6 t ht) (Nat.le_of_ble_eq_true rfl) rfl rfl ?_
  refine ev_ss DX6_carry 1 23 (pc' := 46) (lv' := [(5, .int _), (4, .ref _), (0, .ref _), (1, .int _), (2, .int _), (3, .int _)]) (st' := [.int _]) rfl ?_
  exact ev_iret DX6_carry 24 rfl rfl ⟨rfl, ⟨r2, hM.tone ha ht (f := upd ((pW p a).1 t) 10 v)⟩, hO.tr (FO.set (by omega))⟩
set_option maxRecDepth 100000 in
set_option maxHeartbeats 4000000 in
theorem xc_X6_carry_X6_toneOf {E : gE} {ad : Nat → Nat} {ws : va_W} {p : PS} {sv : Nat → PS} {sc r len : Nat} {ch : Nat → Int32} (h : MW E ad ws p sv sc r len ch) {wy t v : Int32} (hx : C1 E YX6_toneOf 1 6 [.ref (ad 0), .int wy, .int t] ws (fun _ _ => False) (fun X w => X = xI ∧ w = ws)) : C1 E YX6_carry 1 6 [.ref (ad 0), .int wy, .int t, .int v] ws (fun _ _ => False) (fun X w => X = xI ∧ w = ws) := by
  refine c1V vX6_carry (Nat.le_of_ble_eq_true rfl) (lv0 := [(0, .ref (ad 0)), (1, .int wy), (2, .int t), (3, .int v)]) rfl ?_
  refine ev_ss DX6_carry 3 0 (pc' := 3) (lv' := [(0, .ref _), (1, .int _), (2, .int _), (3, .int _)]) (st' := [.int _, .int _, .ref _]) rfl ?_
  exact ev_xV DX6_carry 3 0 0 hx vX6_toneOf rfl qX6_37 rfl h.1 rfl (hd_of rfl rfl rfl rfl) rfl (by decide) (by decide) (fun X w hx => hx) (fun v w hf => hf.elim)
set_option maxRecDepth 100000 in
set_option maxHeartbeats 4000000 in
theorem x_X6_carry {E : gE} {ad : Nat → Nat} {ws : va_W} {p : PS} {sv : Nat → PS} {sc r len : Nat} {ch : Nat → Int32} (h : MW E ad ws p sv sc r len ch) {a t : Nat} {v : Int32} (ha : a < 2) (ht : t < 8) (hb : bCa v) : C1 E YX6_carry 1 6 [.ref (ad 0), .int (nI a), .int (nI t), .int v] ws (fun _ _ => False) (fun X w => X = xA ∧ w = ws) := by
  unfold bCa at hb
  refine c1V vX6_carry (Nat.le_of_ble_eq_true rfl) (lv0 := [(0, .ref (ad 0)), (1, .int (nI a)), (2, .int (nI t)), (3, .int v)]) rfl ?_
  refine ev_ss DX6_carry 3 0 (pc' := 3) (lv' := [(0, .ref _), (1, .int _), (2, .int _), (3, .int _)]) (st' := [.int _, .int _, .ref _]) rfl ?_
  refine ev_cV DX6_carry 3 (m_X6_toneOf h ha ht) vX6_toneOf rfl qX6_37 rfl h.1 rfl (hd_of rfl rfl rfl rfl) ?_
  refine ev_ss DX6_carry 2 4 (pc' := 9) (lv' := [(4, .ref _), (0, .ref _), (1, .int _), (2, .int _), (3, .int _)]) (st' := [.int _]) rfl ?_
  refine ev_iflt DX6_carry 6 rfl (tgt := 17) (by decide) (fun c_1 => ?_) (fun c_1 => ?_)
  · exact ev_throw DX6_carry 10 XbA rfl rfl nX6_57 (List.mem_of_getElem? (i := 8) rfl) rfl rfl rfl rfl rfl (Nat.le_of_ble_eq_true rfl) (Nat.le_of_ble_eq_true rfl) (by decide) (by decide) ⟨rfl, rfl⟩
  · refine ev_ss DX6_carry 2 7 (pc' := 14) (lv' := [(4, .ref _), (0, .ref _), (1, .int _), (2, .int _), (3, .int _)]) (st' := [.int 4, .int _]) rfl ?_
    refine ev_icle DX6_carry 9 rfl (tgt := 27) (by decide) (fun c_2 => ?_) (fun c_2 => ?_)
    · exact absurd (hb.resolve_left c_1) (Int32.not_lt.mpr c_2)
    · exact ev_throw DX6_carry 10 XbA rfl rfl nX6_57 (List.mem_of_getElem? (i := 8) rfl) rfl rfl rfl rfl rfl (Nat.le_of_ble_eq_true rfl) (Nat.le_of_ble_eq_true rfl) (by decide) (by decide) ⟨rfl, rfl⟩
def bIn (x : Int32) : Prop := x < -300 ∨ 300 < x
def bSm (x : Int32) : Prop := x < -1000 ∨ 1000 < x
set_option maxRecDepth 100000 in
set_option maxHeartbeats 4000000 in
theorem m_X6_insult {E : gE} {ad : Nat → Nat} {ws : va_W} {p : PS} {sv : Nat → PS} {sc r len : Nat} {ch : Nat → Int32} (h : MW E ad ws p sv sc r len ch) {v : Int32} {a t : Nat} (ha : a < 2) (ht : t < 8) (hsc : sc ≤ 6) (hg : ¬ bIn v) (hg2 : ¬ bSm ((pW p a).1 t 4 + v)) : C0 E YX6_insult 0 0 [.ref (ad 0), .int (nI a), .int (nI t), .int v] ws (fun v9 w9 => v9 = some (.int ((pW p a).1 t 4 + v)) ∧ (∃ r2, MW E ad w9 (pTone p a t (upd ((pW p a).1 t) 4 ((pW p a).1 t 4 + v))) (svN p sv sc) (scN sc) r2 len ch) ∧ FO ws w9) := by
  obtain ⟨st, sz, r9, h1, h2, h3, h4, h5, h6⟩ := h.2.1.way ha
  refine c0V vX6_insult (Nat.le_of_ble_eq_true rfl) (lv0 := [(0, .ref (ad 0)), (1, .int (nI a)), (2, .int (nI t)), (3, .int v)]) rfl ?_
  refine ev_ss DX6_insult 3 0 (pc' := 3) (lv' := [(0, .ref _), (1, .int _), (2, .int _), (3, .int _)]) (st' := [.int _, .int _, .ref _]) rfl ?_
  refine ev_cV DX6_insult 3 (m_X6_toneOf h ha ht) vX6_toneOf rfl qX6_37 rfl h.1 rfl (hd_of rfl rfl rfl rfl) ?_
  refine ev_ss DX6_insult 3 4 (pc' := 12) (lv' := [(4, .ref _), (0, .ref _), (1, .int _), (2, .int _), (3, .int _)]) (st' := [.int (-300), .int _]) rfl ?_
  refine ev_iclt DX6_insult 7 rfl (tgt := 22) (by decide) (fun h => absurd h (fun e => hg (Or.inl e))) (fun _ => ?_)
  refine ev_ss DX6_insult 2 8 (pc' := 19) (lv' := [(4, .ref _), (0, .ref _), (1, .int _), (2, .int _), (3, .int _)]) (st' := [.int 300, .int _]) rfl ?_
  refine ev_icle DX6_insult 10 rfl (tgt := 32) (by decide) (fun _ => ?_) (fun h => h.elim (Int32.not_lt.mp (fun e => hg (Or.inr e))))
  refine ev_ss DX6_insult 1 16 (pc' := 34) (lv' := [(4, .ref _), (0, .ref _), (1, .int _), (2, .int _), (3, .int _)]) (st' := [.ref _]) rfl ?_
  refine ev_get DX6_insult 17 GX3 rfl (k0 := 4) (Nat.le_of_ble_eq_true rfl) fX6_70 (h6 t ht) rfl ?_
  refine ev_ss DX6_insult 5 18 (pc' := 46) (lv' := [(5, .int _), (4, .ref _), (0, .ref _), (1, .int _), (2, .int _), (3, .int _)]) (st' := [.int (-1000), .int _]) rfl ?_
  refine ev_iclt DX6_insult 23 rfl (tgt := 57) (by decide) (fun h => absurd h (fun e => hg2 (Or.inl e))) (fun _ => ?_)
  refine ev_ss DX6_insult 2 24 (pc' := 54) (lv' := [(5, .int _), (4, .ref _), (0, .ref _), (1, .int _), (2, .int _), (3, .int _)]) (st' := [.int 1000, .int _]) rfl ?_
  refine ev_icle DX6_insult 26 rfl (tgt := 67) (by decide) (fun _ => ?_) (fun h => h.elim (Int32.not_lt.mp (fun e => hg2 (Or.inr e))))
  refine ev_ss DX6_insult 1 32 (pc' := 68) (lv' := [(5, .int _), (4, .ref _), (0, .ref _), (1, .int _), (2, .int _), (3, .int _)]) (st' := [.ref _]) rfl ?_
  refine ev_rV DX6_insult 33 (m_X6_save h hsc) vX6_save rfl qX6_45 rfl h.1 rfl (hd_of rfl rfl rfl rfl) (fun v w hvw => ?_)
  obtain ⟨rfl, ⟨r2, hM⟩, hO⟩ := hvw
  obtain ⟨st2, sz2, r8, m1, m2, m3, m4, m5, m6⟩ := hM.2.1.way ha
  refine ev_ss DX6_insult 2 34 (pc' := 75) (lv' := [(5, .int _), (4, .ref _), (0, .ref _), (1, .int _), (2, .int _), (3, .int _)]) (st' := [.int _, .ref _]) rfl ?_
  refine ev_put (fs' := [_, _, _, _, _, _, _, _, _, _, _, _, _, _, _, _, _, _]) DX6_insult 36 GX3 rfl (k0 := 4) (Nat.le_of_ble_eq_true rfl) fX6_70 rfl ⟨rfl, rfl⟩ (m6 t ht) (Nat.le_of_ble_eq_true rfl) rfl rfl ?_
  refine ev_ss DX6_insult 1 37 (pc' := 80) (lv' := [(5, .int _), (4, .ref _), (0, .ref _), (1, .int _), (2, .int _), (3, .int _)]) (st' := [.int _]) rfl ?_
  exact ev_iret DX6_insult 38 rfl rfl ⟨rfl, ⟨r2, hM.tone ha ht (f := upd ((pW p a).1 t) 4 ((pW p a).1 t 4 + v))⟩, hO.tr (FO.set (by omega))⟩
set_option maxRecDepth 100000 in
set_option maxHeartbeats 4000000 in
theorem xc_X6_insult_X6_toneOf {E : gE} {ad : Nat → Nat} {ws : va_W} {p : PS} {sv : Nat → PS} {sc r len : Nat} {ch : Nat → Int32} (h : MW E ad ws p sv sc r len ch) {wy t v : Int32} (hx : C1 E YX6_toneOf 1 6 [.ref (ad 0), .int wy, .int t] ws (fun _ _ => False) (fun X w => X = xI ∧ w = ws)) : C1 E YX6_insult 1 6 [.ref (ad 0), .int wy, .int t, .int v] ws (fun _ _ => False) (fun X w => X = xI ∧ w = ws) := by
  refine c1V vX6_insult (Nat.le_of_ble_eq_true rfl) (lv0 := [(0, .ref (ad 0)), (1, .int wy), (2, .int t), (3, .int v)]) rfl ?_
  refine ev_ss DX6_insult 3 0 (pc' := 3) (lv' := [(0, .ref _), (1, .int _), (2, .int _), (3, .int _)]) (st' := [.int _, .int _, .ref _]) rfl ?_
  exact ev_xV DX6_insult 3 0 0 hx vX6_toneOf rfl qX6_37 rfl h.1 rfl (hd_of rfl rfl rfl rfl) rfl (by decide) (by decide) (fun X w hx => hx) (fun v w hf => hf.elim)
set_option maxRecDepth 100000 in
set_option maxHeartbeats 4000000 in
theorem x_X6_insult_v {E : gE} {ad : Nat → Nat} {ws : va_W} {p : PS} {sv : Nat → PS} {sc r len : Nat} {ch : Nat → Int32} (h : MW E ad ws p sv sc r len ch) {a t : Nat} {v : Int32} (ha : a < 2) (ht : t < 8) (hb : bIn v) : C1 E YX6_insult 1 6 [.ref (ad 0), .int (nI a), .int (nI t), .int v] ws (fun _ _ => False) (fun X w => X = xA ∧ w = ws) := by
  unfold bIn at hb
  obtain ⟨st, sz, r9, h1, h2, h3, h4, h5, h6⟩ := h.2.1.way ha
  refine c1V vX6_insult (Nat.le_of_ble_eq_true rfl) (lv0 := [(0, .ref (ad 0)), (1, .int (nI a)), (2, .int (nI t)), (3, .int v)]) rfl ?_
  refine ev_ss DX6_insult 3 0 (pc' := 3) (lv' := [(0, .ref _), (1, .int _), (2, .int _), (3, .int _)]) (st' := [.int _, .int _, .ref _]) rfl ?_
  refine ev_cV DX6_insult 3 (m_X6_toneOf h ha ht) vX6_toneOf rfl qX6_37 rfl h.1 rfl (hd_of rfl rfl rfl rfl) ?_
  refine ev_ss DX6_insult 3 4 (pc' := 12) (lv' := [(4, .ref _), (0, .ref _), (1, .int _), (2, .int _), (3, .int _)]) (st' := [.int (-300), .int _]) rfl ?_
  refine ev_iclt DX6_insult 7 rfl (tgt := 22) (by decide) (fun c_1 => ?_) (fun c_1 => ?_)
  · exact ev_throw DX6_insult 11 XbA rfl rfl nX6_57 (List.mem_of_getElem? (i := 9) rfl) rfl rfl rfl rfl rfl (Nat.le_of_ble_eq_true rfl) (Nat.le_of_ble_eq_true rfl) (by decide) (by decide) ⟨rfl, rfl⟩
  · refine ev_ss DX6_insult 2 8 (pc' := 19) (lv' := [(4, .ref _), (0, .ref _), (1, .int _), (2, .int _), (3, .int _)]) (st' := [.int 300, .int _]) rfl ?_
    refine ev_icle DX6_insult 10 rfl (tgt := 32) (by decide) (fun c_2 => ?_) (fun c_2 => ?_)
    · exact absurd (hb.resolve_left c_1) (Int32.not_lt.mpr c_2)
    · exact ev_throw DX6_insult 11 XbA rfl rfl nX6_57 (List.mem_of_getElem? (i := 9) rfl) rfl rfl rfl rfl rfl (Nat.le_of_ble_eq_true rfl) (Nat.le_of_ble_eq_true rfl) (by decide) (by decide) ⟨rfl, rfl⟩
set_option maxRecDepth 100000 in
set_option maxHeartbeats 4000000 in
theorem x_X6_insult_s {E : gE} {ad : Nat → Nat} {ws : va_W} {p : PS} {sv : Nat → PS} {sc r len : Nat} {ch : Nat → Int32} (h : MW E ad ws p sv sc r len ch) {a t : Nat} {v : Int32} (ha : a < 2) (ht : t < 8) (hg : ¬ bIn v) (hb : bSm ((pW p a).1 t 4 + v)) : C1 E YX6_insult 1 6 [.ref (ad 0), .int (nI a), .int (nI t), .int v] ws (fun _ _ => False) (fun X w => X = xS ∧ w = ws) := by
  unfold bSm at hb
  obtain ⟨st, sz, r9, h1, h2, h3, h4, h5, h6⟩ := h.2.1.way ha
  refine c1V vX6_insult (Nat.le_of_ble_eq_true rfl) (lv0 := [(0, .ref (ad 0)), (1, .int (nI a)), (2, .int (nI t)), (3, .int v)]) rfl ?_
  refine ev_ss DX6_insult 3 0 (pc' := 3) (lv' := [(0, .ref _), (1, .int _), (2, .int _), (3, .int _)]) (st' := [.int _, .int _, .ref _]) rfl ?_
  refine ev_cV DX6_insult 3 (m_X6_toneOf h ha ht) vX6_toneOf rfl qX6_37 rfl h.1 rfl (hd_of rfl rfl rfl rfl) ?_
  refine ev_ss DX6_insult 3 4 (pc' := 12) (lv' := [(4, .ref _), (0, .ref _), (1, .int _), (2, .int _), (3, .int _)]) (st' := [.int (-300), .int _]) rfl ?_
  refine ev_iclt DX6_insult 7 rfl (tgt := 22) (by decide) (fun h => absurd h (fun e => hg (Or.inl e))) (fun _ => ?_)
  refine ev_ss DX6_insult 2 8 (pc' := 19) (lv' := [(4, .ref _), (0, .ref _), (1, .int _), (2, .int _), (3, .int _)]) (st' := [.int 300, .int _]) rfl ?_
  refine ev_icle DX6_insult 10 rfl (tgt := 32) (by decide) (fun _ => ?_) (fun h => h.elim (Int32.not_lt.mp (fun e => hg (Or.inr e))))
  refine ev_ss DX6_insult 1 16 (pc' := 34) (lv' := [(4, .ref _), (0, .ref _), (1, .int _), (2, .int _), (3, .int _)]) (st' := [.ref _]) rfl ?_
  refine ev_get DX6_insult 17 GX3 rfl (k0 := 4) (Nat.le_of_ble_eq_true rfl) fX6_70 (h6 t ht) rfl ?_
  refine ev_ss DX6_insult 5 18 (pc' := 46) (lv' := [(5, .int _), (4, .ref _), (0, .ref _), (1, .int _), (2, .int _), (3, .int _)]) (st' := [.int (-1000), .int _]) rfl ?_
  refine ev_iclt DX6_insult 23 rfl (tgt := 57) (by decide) (fun c_3 => ?_) (fun c_3 => ?_)
  · exact ev_throw DX6_insult 27 XbS rfl rfl nX6_73 (List.mem_of_getElem? (i := 10) rfl) rfl rfl rfl rfl rfl (Nat.le_of_ble_eq_true rfl) (Nat.le_of_ble_eq_true rfl) (by decide) (by decide) ⟨rfl, rfl⟩
  · refine ev_ss DX6_insult 2 24 (pc' := 54) (lv' := [(5, .int _), (4, .ref _), (0, .ref _), (1, .int _), (2, .int _), (3, .int _)]) (st' := [.int 1000, .int _]) rfl ?_
    refine ev_icle DX6_insult 26 rfl (tgt := 67) (by decide) (fun c_4 => ?_) (fun c_4 => ?_)
    · exact absurd (hb.resolve_left c_3) (Int32.not_lt.mpr c_4)
    · exact ev_throw DX6_insult 27 XbS rfl rfl nX6_73 (List.mem_of_getElem? (i := 10) rfl) rfl rfl rfl rfl rfl (Nat.le_of_ble_eq_true rfl) (Nat.le_of_ble_eq_true rfl) (by decide) (by decide) ⟨rfl, rfl⟩
theorem MW.sett {E : gE} {ad : Nat → Nat} {ws : va_W} {p : PS} {sv : Nat → PS} {sc r len : Nat} {ch : Nat → Int32} (h : MW E ad ws p sv sc r len ch) {j : Nat} {v : Int32} {g : Nat → Int32} (h2 : ws[1 + 25]? = some (ad (1 + 25), iaC E 3 g)) (h3 : ∀ k, k < 3 → g k = p.2.2.1 k) : MW E ad (ws.set (1 + 25) (ad (1 + 25), iaC E 3 (upd g j v))) (pSett p j v) sv sc r len ch :=
  h.now ⟨⟨wset_n h.2.1.1.1 (by decide), _, wset_get h2, fun k hk => by show upd g j v k = upd p.2.2.1 j v k; unfold upd; split; rfl; exact h3 k hk⟩, h.2.1.2.1.of (fun i b c => List.getElem?_set_ne (by omega)), h.2.1.2.2.of (fun i b c => List.getElem?_set_ne (by omega))⟩ (fun i b => List.getElem?_set_ne (by omega))
set_option maxRecDepth 100000 in
set_option maxHeartbeats 4000000 in
theorem m_X6_set {E : gE} {ad : Nat → Nat} {ws : va_W} {p : PS} {sv : Nat → PS} {sc r len : Nat} {ch : Nat → Int32} (h : MW E ad ws p sv sc r len ch) {j : Nat} {v : Int32} (hj : j < 3) (hsc : sc ≤ 6) (hg : ¬ bSe j v) : C0 E YX6_set 0 0 [.ref (ad 0), .int (nI j), .int v] ws (fun v9 w9 => v9 = some (.int (p.2.2.1 j)) ∧ (∃ r2, MW E ad w9 (pSett p j v) (svN p sv sc) (scN sc) r2 len ch) ∧ FO ws w9) := by
  have ej : (nI j).toNatClampNeg = j := nI_clamp (by omega)
  have nb : ¬ bS (nI j) := fun e => e.elim (nI_pos (by omega)) (fun e2 => e2 (nI_lt hj (by decide)))
  refine c0V vX6_set (Nat.le_of_ble_eq_true rfl) (lv0 := [(0, .ref (ad 0)), (1, .int (nI j)), (2, .int v)]) rfl ?_
  refine ev_ss DX6_set 1 0 (pc' := 1) (lv' := [(0, .ref _), (1, .int _), (2, .int _)]) (st' := [.int _]) rfl ?_
  refine ev_cS DX6_set 1 (m_X6_checkSetting nb) vX6_checkSetting rfl qX6_78 rfl (hd_of rfl rfl rfl rfl) ?_
  refine ev_ss DX6_set 1 2 (pc' := 5) (lv' := [(0, .ref _), (1, .int _), (2, .int _)]) (st' := [.int _]) rfl ?_
  refine ev_gets DX6_set 3 (j := 0) rfl rfl fX6_82 ?_
  refine ev_ss DX6_set 1 4 (pc' := 9) (lv' := [(0, .ref _), (1, .int _), (2, .int _)]) (st' := [.int _, .ref _, .int _]) rfl ?_
  refine ev_gsld DX6_set 5 (j := 0) rfl rfl (vp_in_nI hj (by decide)) ?_
  refine ev_iclt DX6_set 6 rfl (tgt := 22) (by decide) (fun h => absurd h (fun e => hg (Or.inl (by rw [ej] at e; exact e)))) (fun _ => ?_)
  refine ev_ss DX6_set 1 7 (pc' := 14) (lv' := [(0, .ref _), (1, .int _), (2, .int _)]) (st' := [.int _]) rfl ?_
  refine ev_gets DX6_set 8 (j := 1) rfl rfl fX6_86 ?_
  refine ev_ss DX6_set 1 9 (pc' := 18) (lv' := [(0, .ref _), (1, .int _), (2, .int _)]) (st' := [.int _, .ref _, .int _]) rfl ?_
  refine ev_gsld DX6_set 10 (j := 1) rfl rfl (vp_in_nI hj (by decide)) ?_
  refine ev_icle DX6_set 11 rfl (tgt := 32) (by decide) (fun _ => ?_) (fun h => h.elim (Int32.not_lt.mp (fun e => hg (Or.inr (by rw [ej] at e; exact e)))))
  refine ev_ss DX6_set 1 17 (pc' := 33) (lv' := [(0, .ref _), (1, .int _), (2, .int _)]) (st' := [.ref _]) rfl ?_
  refine ev_rV DX6_set 18 (m_X6_save h hsc) vX6_save rfl qX6_45 rfl h.1 rfl (hd_of rfl rfl rfl rfl) (fun v w hvw => ?_)
  obtain ⟨rfl, ⟨r2, hM⟩, hO⟩ := hvw
  obtain ⟨-, g, hs2, hs3⟩ := hM.2.1.1
  refine ev_ss DX6_set 1 19 (pc' := 37) (lv' := [(0, .ref _), (1, .int _), (2, .int _)]) (st' := [.ref _]) rfl ?_
  refine ev_get DX6_set 20 GX6 rfl (k0 := 0) (Nat.le_of_ble_eq_true rfl) fX6_12 hM.1 rfl ?_
  refine ev_get DX6_set 21 GX1 rfl (k0 := 2) (Nat.le_of_ble_eq_true rfl) fX6_91 hM.2.1.1.1 rfl ?_
  refine ev_ss DX6_set 1 22 (pc' := 44) (lv' := [(0, .ref _), (1, .int _), (2, .int _)]) (st' := [.int _, .ref _]) rfl ?_
  refine ev_iald DX6_set 23 rfl hs2 (vp_in_nI hj (by decide)) ?_
  refine ev_ss DX6_set 2 24 (pc' := 47) (lv' := [(3, .int _), (0, .ref _), (1, .int _), (2, .int _)]) (st' := [.ref _]) rfl ?_
  refine ev_get DX6_set 26 GX6 rfl (k0 := 0) (Nat.le_of_ble_eq_true rfl) fX6_12 hM.1 rfl ?_
  refine ev_get DX6_set 27 GX1 rfl (k0 := 2) (Nat.le_of_ble_eq_true rfl) fX6_91 hM.2.1.1.1 rfl ?_
  refine ev_ss DX6_set 2 28 (pc' := 55) (lv' := [(3, .int _), (0, .ref _), (1, .int _), (2, .int _)]) (st' := [.int _, .int _, .ref _]) rfl ?_
  refine ev_iast DX6_set 30 rfl hs2 (vp_in_nI hj (by decide)) rfl ?_
  refine ev_ss DX6_set 1 31 (pc' := 57) (lv' := [(3, .int _), (0, .ref _), (1, .int _), (2, .int _)]) (st' := [.int _]) rfl ?_
  exact ev_iret DX6_set 32 rfl rfl ⟨by rw [ej, hs3 j hj], ⟨r2, by rw [ej]; exact hM.sett hs2 hs3⟩, hO.tr (FO.set (by omega))⟩
set_option maxRecDepth 100000 in
set_option maxHeartbeats 4000000 in
theorem xc_X6_set_X6_checkSetting {E : gE} {ad : Nat → Nat} {ws : va_W} {p : PS} {sv : Nat → PS} {sc r len : Nat} {ch : Nat → Int32} (h : MW E ad ws p sv sc r len ch) {x v : Int32} (hx : C1 E YX6_checkSetting 1 6 [.int x] ws (fun _ _ => False) (fun X w => X = xI ∧ w = ws)) : C1 E YX6_set 1 6 [.ref (ad 0), .int x, .int v] ws (fun _ _ => False) (fun X w => X = xI ∧ w = ws) := by
  refine c1V vX6_set (Nat.le_of_ble_eq_true rfl) (lv0 := [(0, .ref (ad 0)), (1, .int x), (2, .int v)]) rfl ?_
  refine ev_ss DX6_set 1 0 (pc' := 1) (lv' := [(0, .ref _), (1, .int _), (2, .int _)]) (st' := [.int _]) rfl ?_
  exact ev_xS DX6_set 1 0 0 hx vX6_checkSetting rfl qX6_78 rfl (hd_of rfl rfl rfl rfl) rfl (by decide) (by decide) (fun X w hx => hx) (fun v w hf => hf.elim)
set_option maxRecDepth 100000 in
set_option maxHeartbeats 4000000 in
theorem x_X6_set {E : gE} {ad : Nat → Nat} {ws : va_W} {p : PS} {sv : Nat → PS} {sc r len : Nat} {ch : Nat → Int32} (h : MW E ad ws p sv sc r len ch) {j : Nat} {v : Int32} (hj : j < 3) (hb : bSe j v) : C1 E YX6_set 1 6 [.ref (ad 0), .int (nI j), .int v] ws (fun _ _ => False) (fun X w => X = xA ∧ w = ws) := by
  have ej : (nI j).toNatClampNeg = j := nI_clamp (by omega)
  have nb : ¬ bS (nI j) := fun e => e.elim (nI_pos (by omega)) (fun e2 => e2 (nI_lt hj (by decide)))
  unfold bSe at hb
  refine c1V vX6_set (Nat.le_of_ble_eq_true rfl) (lv0 := [(0, .ref (ad 0)), (1, .int (nI j)), (2, .int v)]) rfl ?_
  refine ev_ss DX6_set 1 0 (pc' := 1) (lv' := [(0, .ref _), (1, .int _), (2, .int _)]) (st' := [.int _]) rfl ?_
  refine ev_cS DX6_set 1 (m_X6_checkSetting nb) vX6_checkSetting rfl qX6_78 rfl (hd_of rfl rfl rfl rfl) ?_
  refine ev_ss DX6_set 1 2 (pc' := 5) (lv' := [(0, .ref _), (1, .int _), (2, .int _)]) (st' := [.int _]) rfl ?_
  refine ev_gets DX6_set 3 (j := 0) rfl rfl fX6_82 ?_
  refine ev_ss DX6_set 1 4 (pc' := 9) (lv' := [(0, .ref _), (1, .int _), (2, .int _)]) (st' := [.int _, .ref _, .int _]) rfl ?_
  refine ev_gsld DX6_set 5 (j := 0) rfl rfl (vp_in_nI hj (by decide)) ?_
  refine ev_iclt DX6_set 6 rfl (tgt := 22) (by decide) (fun c_1 => ?_) (fun c_1 => ?_)
  · exact ev_throw DX6_set 12 XbA rfl rfl nX6_57 (List.mem_of_getElem? (i := 12) rfl) rfl rfl rfl rfl rfl (Nat.le_of_ble_eq_true rfl) (Nat.le_of_ble_eq_true rfl) (by decide) (by decide) ⟨rfl, rfl⟩
  · refine ev_ss DX6_set 1 7 (pc' := 14) (lv' := [(0, .ref _), (1, .int _), (2, .int _)]) (st' := [.int _]) rfl ?_
    refine ev_gets DX6_set 8 (j := 1) rfl rfl fX6_86 ?_
    refine ev_ss DX6_set 1 9 (pc' := 18) (lv' := [(0, .ref _), (1, .int _), (2, .int _)]) (st' := [.int _, .ref _, .int _]) rfl ?_
    refine ev_gsld DX6_set 10 (j := 1) rfl rfl (vp_in_nI hj (by decide)) ?_
    refine ev_icle DX6_set 11 rfl (tgt := 32) (by decide) (fun c_2 => ?_) (fun c_2 => ?_)
    · exact absurd (hb.resolve_left (fun e => c_1 (by rw [ej]; exact e))) (fun e => absurd (Int32.not_lt.mpr c_2) (fun e2 => e2 (by rw [ej]; exact e)))
    · exact ev_throw DX6_set 12 XbA rfl rfl nX6_57 (List.mem_of_getElem? (i := 12) rfl) rfl rfl rfl rfl rfl (Nat.le_of_ble_eq_true rfl) (Nat.le_of_ble_eq_true rfl) (by decide) (by decide) ⟨rfl, rfl⟩
