theorem STA.ex {E : gE} {ad : Nat → Nat} {ws w : va_W} {a : Nat} {sd bt : Int32} {se : Nat → Int32} {σ : WS} (ha : a < 2) (h : ∃ pt, STA E ad ws 27 pt) (hS : SD E ad w 27 sd bt se) (hW : WY E ad w (28 + 12 * a) σ) (hO : ∀ j, 27 < j → j < 52 → (j < 28 + 12 * a ∨ 28 + 12 * a + 12 ≤ j) → w[j]? = ws[j]?) : ∃ pt, STA E ad w 27 pt := by
  obtain ⟨pt, h⟩ := h
  rcases (show a = 0 ∨ a = 1 by omega) with rfl | rfl
  · exact ⟨(sd, bt, se, σ, pt.2.2.2.2), hS, hW, h.2.2.of (fun j b c => hO j (by omega) (by omega) (by omega))⟩
  · exact ⟨(sd, bt, se, pt.2.2.2.1, σ), hS, h.2.1.of (fun j b c => hO j (by omega) (by omega) (by omega)), hW⟩
theorem MW.tsnd {E : gE} {ad : Nat → Nat} {ws w : va_W} {p : PS} {sv : Nat → PS} {sc r len a : Nat} {ch : Nat → Int32} {sd bt : Int32} {se : Nat → Int32} {σ : WS} (h : MW E ad ws p sv sc r len ch) (ha : a < 2) (hS : SD E ad w 27 sd bt se) (hW : WY E ad w (28 + 12 * a) σ) (hO : SO 27 (28 + 12 * a) ws w) : MW E ad w p sv sc r len ch := by
  obtain ⟨lb, sz, hL⟩ := h.2.2.2.2.1
  exact h.tri (STA.ex ha h.2.2.1 hS hW (fun j b c d => hO j (by omega) d)) ⟨lb, sz, hL.of (hO _ (by decide) (by omega)) (hO _ (by decide) (by omega))⟩ (fun j b c d => hO j (by omega) (by omega))
theorem MW.tlrn {E : gE} {ad : Nat → Nat} {ws w : va_W} {p : PS} {sv : Nat → PS} {sc r len a : Nat} {ch : Nat → Int32} {sd bt : Int32} {se : Nat → Int32} {σ : WS} (h : MW E ad ws p sv sc r len ch) (ha : a < 2) (hS : SD E ad w 27 sd bt se) (hW : WY E ad w (28 + 12 * a) σ) (hL : ∃ lb sz, LE E ad w 54 lb sz) (hO : SL 27 (28 + 12 * a) 54 ws w) : MW E ad w p sv sc r len ch :=
  h.tri (STA.ex ha h.2.2.1 hS hW (fun j b c d => hO j (by omega) d (by omega) (by omega))) hL (fun j b c d => hO j (by omega) (by omega) c d)
/-- nothing but the trial and the lesson -/
def TO (ws w : va_W) : Prop := ∀ j, (j < 27 ∨ 53 ≤ j) → j ≠ 54 → j ≠ 55 → w[j]? = ws[j]?
theorem m_trial {E : gE} {ad : Nat → Nat} {ws : va_W} {p : PS} {sv : Nat → PS} {sc r len a : Nat} {ch : Nat → Int32} (h : MW E ad ws p sv sc r len ch) (ha : a < 2) : C0 E YX1_copyWayFrom 0 0 [.ref (ad 27), .ref (ad 1), .int (nI a)] ws (fun v w => v = some (.ref (ad (28 + 12 * a))) ∧ MW E ad w p sv sc r len ch ∧ SD E ad w 27 p.1 p.2.1 p.2.2.1 ∧ WY E ad w (28 + 12 * a) (pW p a) ∧ FO ws w) := by
  obtain ⟨pt, hT⟩ := h.2.2.1
  have key : ∀ (v : Option Value) (w : va_W), v = some (.ref (ad (28 + 12 * a))) ∧ SD E ad w 27 p.1 p.2.1 p.2.2.1 ∧ WY E ad w (28 + 12 * a) (pW p a) ∧ (∀ j, j ≠ 27 → j ≠ 52 → (j < 28 + 12 * a ∨ 28 + 12 * a + 12 ≤ j) → w[j]? = ws[j]?) → v = some (.ref (ad (28 + 12 * a))) ∧ MW E ad w p sv sc r len ch ∧ SD E ad w 27 p.1 p.2.1 p.2.2.1 ∧ WY E ad w (28 + 12 * a) (pW p a) ∧ FO ws w := by
    intro v w hvw
    obtain ⟨e1, e2, e3, e4⟩ := hvw
    obtain ⟨lb, sz, hL⟩ := h.2.2.2.2.1
    exact ⟨e1, h.tri (STA.ex ha h.2.2.1 e2 e3 (fun j b c d => e4 j (by omega) (by omega) d)) ⟨lb, sz, hL.of (e4 _ (by decide) (by decide) (by omega)) (e4 _ (by decide) (by decide) (by omega))⟩ (fun j b c d => e4 j (by omega) (by omega) (by omega)), e2, e3, fun j hj => e4 j (by omega) (by omega) (by omega)⟩
  rcases (show a = 0 ∨ a = 1 by omega) with rfl | rfl
  · exact c0_mono (m_X1_copyWayFrom_0 (is := 27) (io := 1) (by unfold PP; omega) hT.1 h.2.1.1 hT.2.1 h.2.1.2.1) key
  · exact c0_mono (m_X1_copyWayFrom_1 (is := 27) (io := 1) (by unfold PP; omega) hT.1 h.2.1.1 hT.2.2 h.2.1.2.2) key
noncomputable def ifS (p : PS) (a n : Nat) : Nat → Int32
  | 0 => (btN (p.2.2.1 2) p.1 (pW p a) n).1
  | 1 => sumN (fun t => (btN (p.2.2.1 2) p.1 (pW p a) n).2.2.1 t 13) 8 - sumN (fun t => (pW p a).1 t 13) 8
  | _ => nI (btN (p.2.2.1 2) p.1 (pW p a) n).2.2.2.1.length
set_option maxRecDepth 100000 in
set_option maxHeartbeats 4000000 in
theorem m_X6_ifSent_0 {E : gE} {ad : Nat → Nat} {ws : va_W} {p : PS} {sv : Nat → PS} {sc r len : Nat} {ch : Nat → Int32} (h : MW E ad ws p sv sc r len ch) {a n : Nat} (ha : a < 2) (hn1 : 1 ≤ n) (hn2 : n ≤ 100) (hA : TA (pW p a)) : C0 E YX6_ifSent 0 0 [.ref (ad 0), .int (nI a), .int (nI n), .int 0] ws (fun v9 w9 => v9 = some (.int (ifS p a n 0)) ∧ MW E ad w9 p sv sc r len ch ∧ FO ws w9) := by
  refine c0V vX6_ifSent (Nat.le_of_ble_eq_true rfl) (lv0 := [(0, .ref (ad 0)), (1, .int (nI a)), (2, .int (nI n)), (3, .int 0)]) rfl ?_
  refine ev_ss DX6_ifSent 2 0 (pc' := 2) (lv' := [(0, .ref _), (1, .int _), (2, .int _), (3, .int 0)]) (st' := [.int _, .ref _]) rfl ?_
  refine ev_cV DX6_ifSent 2 (m_X6_wayOf h ha) vX6_wayOf rfl qX6_94 rfl h.1 rfl (hd_of rfl rfl rfl rfl) ?_
  refine ev_ss DX6_ifSent 2 3 (pc' := 7) (lv' := [(0, .ref _), (1, .int _), (2, .int _), (3, .int 0)]) (st' := [.int _]) rfl ?_
  refine ev_cS DX6_ifSent 5 (m_X6_checkBeats (bB_nI hn1 hn2)) vX6_checkBeats rfl qX6_98 rfl (hd_of rfl rfl rfl rfl) ?_
  refine ev_ss DX6_ifSent 1 6 (pc' := 11) (lv' := [(0, .ref _), (1, .int _), (2, .int _), (3, .int 0)]) (st' := [.int 0]) rfl ?_
  refine ev_iflt DX6_ifSent 7 rfl (tgt := 19) (by decide) (fun h => absurd h (by decide)) (fun _ => ?_)
  refine ev_ss DX6_ifSent 2 8 (pc' := 16) (lv' := [(0, .ref _), (1, .int _), (2, .int _), (3, .int 0)]) (st' := [.int 2, .int 0]) rfl ?_
  refine ev_icle DX6_ifSent 10 rfl (tgt := 29) (by decide) (fun _ => ?_) (fun h => h.elim (by decide))
  refine ev_ss DX6_ifSent 1 16 (pc' := 30) (lv' := [(0, .ref _), (1, .int _), (2, .int _), (3, .int 0)]) (st' := [.ref _]) rfl ?_
  refine ev_get DX6_ifSent 17 GX6 rfl (k0 := 1) (Nat.le_of_ble_eq_true rfl) fX6_16 h.1 rfl ?_
  refine ev_ss DX6_ifSent 1 18 (pc' := 34) (lv' := [(0, .ref _), (1, .int _), (2, .int _), (3, .int 0)]) (st' := [.ref _, .ref _]) rfl ?_
  refine ev_get DX6_ifSent 19 GX6 rfl (k0 := 0) (Nat.le_of_ble_eq_true rfl) fX6_12 h.1 rfl ?_
  refine ev_ss DX6_ifSent 1 20 (pc' := 38) (lv' := [(0, .ref _), (1, .int _), (2, .int _), (3, .int 0)]) (st' := [.int _, .ref _, .ref _]) rfl ?_
  obtain ⟨pt0, hT0⟩ := h.2.2.1
  refine ev_rV DX6_ifSent 21 (m_trial h ha) vX1_copyWayFrom rfl qX6_221 rfl hT0.1.1 rfl (hd_of rfl rfl rfl rfl) (fun v w hvw => ?_)
  obtain ⟨rfl, hM, hS, hV, hO⟩ := hvw
  obtain ⟨st2, sz2, r2, g1, g2, g3, g4, g5, g6⟩ := id hV
  refine ev_ss DX6_ifSent 2 22 (pc' := 45) (lv' := [(4, .ref _), (0, .ref _), (1, .int _), (2, .int _), (3, .int 0)]) (st' := [.ref _]) rfl ?_
  refine ev_cV DX6_ifSent 24 (wshies hV) vX5_shies rfl qX6_208 rfl g1 rfl (hd_of rfl rfl rfl rfl) ?_
  refine ev_ss DX6_ifSent 2 25 (pc' := 51) (lv' := [(5, .int _), (4, .ref _), (0, .ref _), (1, .int _), (2, .int _), (3, .int 0)]) (st' := [.ref _]) rfl ?_
  refine ev_get DX6_ifSent 27 GX6 rfl (k0 := 1) (Nat.le_of_ble_eq_true rfl) fX6_16 hM.1 rfl ?_
  refine ev_ss DX6_ifSent 2 28 (pc' := 57) (lv' := [(5, .int _), (4, .ref _), (0, .ref _), (1, .int _), (2, .int _), (3, .int 0)]) (st' := [.int _, .ref _, .ref _]) rfl ?_
  refine ev_rV DX6_ifSent 30 (m_X1_sendBeats (is := 27) (iw := 28 + 12 * a) (n := n) (by omega) (by unfold AP; omega) hS hV hA) vX1_sendBeats rfl qX6_113 rfl hS.1 rfl (hd_of rfl rfl rfl rfl) (fun v w2 hvw => ?_)
  obtain ⟨rfl, hS2, hV2, hO2⟩ := hvw
  have hM2 : MW E ad w2 p sv sc r len ch := hM.tsnd ha hS2 hV2 hO2
  have hF2 : FO ws w2 := hO.tr (fun j b => hO2 j (by omega) (by omega))
  obtain ⟨st3, sz3, r3, k1, k2, k3, k4, k5, k6⟩ := id hV2
  refine ev_ss DX6_ifSent 2 31 (pc' := 63) (lv' := [(6, .int _), (5, .int _), (4, .ref _), (0, .ref _), (1, .int _), (2, .int _), (3, .int 0)]) (st' := [.int 0]) rfl ?_
  refine ev_ifne DX6_ifSent 33 rfl (tgt := 69) (by decide) (fun h => h.elim (by decide)) (fun _ => ?_)
  refine ev_ss DX6_ifSent 1 34 (pc' := 68) (lv' := [(6, .int _), (5, .int _), (4, .ref _), (0, .ref _), (1, .int _), (2, .int _), (3, .int 0)]) (st' := [.int _]) rfl ?_
  exact ev_iret DX6_ifSent 35 rfl rfl ⟨rfl, hM2, hF2⟩
set_option maxRecDepth 100000 in
set_option maxHeartbeats 4000000 in
theorem m_X6_ifSent_1 {E : gE} {ad : Nat → Nat} {ws : va_W} {p : PS} {sv : Nat → PS} {sc r len : Nat} {ch : Nat → Int32} (h : MW E ad ws p sv sc r len ch) {a n : Nat} (ha : a < 2) (hn1 : 1 ≤ n) (hn2 : n ≤ 100) (hA : TA (pW p a)) : C0 E YX6_ifSent 0 0 [.ref (ad 0), .int (nI a), .int (nI n), .int 1] ws (fun v9 w9 => v9 = some (.int (ifS p a n 1)) ∧ MW E ad w9 p sv sc r len ch ∧ FO ws w9) := by
  refine c0V vX6_ifSent (Nat.le_of_ble_eq_true rfl) (lv0 := [(0, .ref (ad 0)), (1, .int (nI a)), (2, .int (nI n)), (3, .int 1)]) rfl ?_
  refine ev_ss DX6_ifSent 2 0 (pc' := 2) (lv' := [(0, .ref _), (1, .int _), (2, .int _), (3, .int 1)]) (st' := [.int _, .ref _]) rfl ?_
  refine ev_cV DX6_ifSent 2 (m_X6_wayOf h ha) vX6_wayOf rfl qX6_94 rfl h.1 rfl (hd_of rfl rfl rfl rfl) ?_
  refine ev_ss DX6_ifSent 2 3 (pc' := 7) (lv' := [(0, .ref _), (1, .int _), (2, .int _), (3, .int 1)]) (st' := [.int _]) rfl ?_
  refine ev_cS DX6_ifSent 5 (m_X6_checkBeats (bB_nI hn1 hn2)) vX6_checkBeats rfl qX6_98 rfl (hd_of rfl rfl rfl rfl) ?_
  refine ev_ss DX6_ifSent 1 6 (pc' := 11) (lv' := [(0, .ref _), (1, .int _), (2, .int _), (3, .int 1)]) (st' := [.int 1]) rfl ?_
  refine ev_iflt DX6_ifSent 7 rfl (tgt := 19) (by decide) (fun h => absurd h (by decide)) (fun _ => ?_)
  refine ev_ss DX6_ifSent 2 8 (pc' := 16) (lv' := [(0, .ref _), (1, .int _), (2, .int _), (3, .int 1)]) (st' := [.int 2, .int 1]) rfl ?_
  refine ev_icle DX6_ifSent 10 rfl (tgt := 29) (by decide) (fun _ => ?_) (fun h => h.elim (by decide))
  refine ev_ss DX6_ifSent 1 16 (pc' := 30) (lv' := [(0, .ref _), (1, .int _), (2, .int _), (3, .int 1)]) (st' := [.ref _]) rfl ?_
  refine ev_get DX6_ifSent 17 GX6 rfl (k0 := 1) (Nat.le_of_ble_eq_true rfl) fX6_16 h.1 rfl ?_
  refine ev_ss DX6_ifSent 1 18 (pc' := 34) (lv' := [(0, .ref _), (1, .int _), (2, .int _), (3, .int 1)]) (st' := [.ref _, .ref _]) rfl ?_
  refine ev_get DX6_ifSent 19 GX6 rfl (k0 := 0) (Nat.le_of_ble_eq_true rfl) fX6_12 h.1 rfl ?_
  refine ev_ss DX6_ifSent 1 20 (pc' := 38) (lv' := [(0, .ref _), (1, .int _), (2, .int _), (3, .int 1)]) (st' := [.int _, .ref _, .ref _]) rfl ?_
  obtain ⟨pt0, hT0⟩ := h.2.2.1
  refine ev_rV DX6_ifSent 21 (m_trial h ha) vX1_copyWayFrom rfl qX6_221 rfl hT0.1.1 rfl (hd_of rfl rfl rfl rfl) (fun v w hvw => ?_)
  obtain ⟨rfl, hM, hS, hV, hO⟩ := hvw
  obtain ⟨st2, sz2, r2, g1, g2, g3, g4, g5, g6⟩ := id hV
  refine ev_ss DX6_ifSent 2 22 (pc' := 45) (lv' := [(4, .ref _), (0, .ref _), (1, .int _), (2, .int _), (3, .int 1)]) (st' := [.ref _]) rfl ?_
  refine ev_cV DX6_ifSent 24 (wshies hV) vX5_shies rfl qX6_208 rfl g1 rfl (hd_of rfl rfl rfl rfl) ?_
  refine ev_ss DX6_ifSent 2 25 (pc' := 51) (lv' := [(5, .int _), (4, .ref _), (0, .ref _), (1, .int _), (2, .int _), (3, .int 1)]) (st' := [.ref _]) rfl ?_
  refine ev_get DX6_ifSent 27 GX6 rfl (k0 := 1) (Nat.le_of_ble_eq_true rfl) fX6_16 hM.1 rfl ?_
  refine ev_ss DX6_ifSent 2 28 (pc' := 57) (lv' := [(5, .int _), (4, .ref _), (0, .ref _), (1, .int _), (2, .int _), (3, .int 1)]) (st' := [.int _, .ref _, .ref _]) rfl ?_
  refine ev_rV DX6_ifSent 30 (m_X1_sendBeats (is := 27) (iw := 28 + 12 * a) (n := n) (by omega) (by unfold AP; omega) hS hV hA) vX1_sendBeats rfl qX6_113 rfl hS.1 rfl (hd_of rfl rfl rfl rfl) (fun v w2 hvw => ?_)
  obtain ⟨rfl, hS2, hV2, hO2⟩ := hvw
  have hM2 : MW E ad w2 p sv sc r len ch := hM.tsnd ha hS2 hV2 hO2
  have hF2 : FO ws w2 := hO.tr (fun j b => hO2 j (by omega) (by omega))
  obtain ⟨st3, sz3, r3, k1, k2, k3, k4, k5, k6⟩ := id hV2
  refine ev_ss DX6_ifSent 2 31 (pc' := 63) (lv' := [(6, .int _), (5, .int _), (4, .ref _), (0, .ref _), (1, .int _), (2, .int _), (3, .int 1)]) (st' := [.int 1]) rfl ?_
  refine ev_ifne DX6_ifSent 33 rfl (tgt := 69) (by decide) (fun _ => ?_) (fun h => absurd h (by decide))
  refine ev_ss DX6_ifSent 2 36 (pc' := 71) (lv' := [(6, .int _), (5, .int _), (4, .ref _), (0, .ref _), (1, .int _), (2, .int _), (3, .int 1)]) (st' := [.int 1, .int 1]) rfl ?_
  refine ev_icne DX6_ifSent 38 rfl (tgt := 85) (by decide) (fun h => h.elim (by decide)) (fun _ => ?_)
  refine ev_ss DX6_ifSent 1 39 (pc' := 76) (lv' := [(6, .int _), (5, .int _), (4, .ref _), (0, .ref _), (1, .int _), (2, .int _), (3, .int 1)]) (st' := [.ref _]) rfl ?_
  refine ev_cV DX6_ifSent 40 (wshies hV2) vX5_shies rfl qX6_208 rfl k1 rfl (hd_of rfl rfl rfl rfl) ?_
  refine ev_ss DX6_ifSent 2 41 (pc' := 82) (lv' := [(6, .int _), (5, .int _), (4, .ref _), (0, .ref _), (1, .int _), (2, .int _), (3, .int 1)]) (st' := [.int _]) rfl ?_
  refine ev_goto DX6_ifSent 43 rfl (tgt := 93) (by decide) ?_
  exact ev_iret DX6_ifSent 47 rfl rfl ⟨rfl, hM2, hF2⟩
set_option maxRecDepth 100000 in
set_option maxHeartbeats 4000000 in
theorem m_X6_ifSent_2 {E : gE} {ad : Nat → Nat} {ws : va_W} {p : PS} {sv : Nat → PS} {sc r len : Nat} {ch : Nat → Int32} (h : MW E ad ws p sv sc r len ch) {a n : Nat} (ha : a < 2) (hn1 : 1 ≤ n) (hn2 : n ≤ 100) (hA : TA (pW p a)) : C0 E YX6_ifSent 0 0 [.ref (ad 0), .int (nI a), .int (nI n), .int 2] ws (fun v9 w9 => v9 = some (.int (ifS p a n 2)) ∧ MW E ad w9 p sv sc r len ch ∧ FO ws w9) := by
  refine c0V vX6_ifSent (Nat.le_of_ble_eq_true rfl) (lv0 := [(0, .ref (ad 0)), (1, .int (nI a)), (2, .int (nI n)), (3, .int 2)]) rfl ?_
  refine ev_ss DX6_ifSent 2 0 (pc' := 2) (lv' := [(0, .ref _), (1, .int _), (2, .int _), (3, .int 2)]) (st' := [.int _, .ref _]) rfl ?_
  refine ev_cV DX6_ifSent 2 (m_X6_wayOf h ha) vX6_wayOf rfl qX6_94 rfl h.1 rfl (hd_of rfl rfl rfl rfl) ?_
  refine ev_ss DX6_ifSent 2 3 (pc' := 7) (lv' := [(0, .ref _), (1, .int _), (2, .int _), (3, .int 2)]) (st' := [.int _]) rfl ?_
  refine ev_cS DX6_ifSent 5 (m_X6_checkBeats (bB_nI hn1 hn2)) vX6_checkBeats rfl qX6_98 rfl (hd_of rfl rfl rfl rfl) ?_
  refine ev_ss DX6_ifSent 1 6 (pc' := 11) (lv' := [(0, .ref _), (1, .int _), (2, .int _), (3, .int 2)]) (st' := [.int 2]) rfl ?_
  refine ev_iflt DX6_ifSent 7 rfl (tgt := 19) (by decide) (fun h => absurd h (by decide)) (fun _ => ?_)
  refine ev_ss DX6_ifSent 2 8 (pc' := 16) (lv' := [(0, .ref _), (1, .int _), (2, .int _), (3, .int 2)]) (st' := [.int 2, .int 2]) rfl ?_
  refine ev_icle DX6_ifSent 10 rfl (tgt := 29) (by decide) (fun _ => ?_) (fun h => h.elim (by decide))
  refine ev_ss DX6_ifSent 1 16 (pc' := 30) (lv' := [(0, .ref _), (1, .int _), (2, .int _), (3, .int 2)]) (st' := [.ref _]) rfl ?_
  refine ev_get DX6_ifSent 17 GX6 rfl (k0 := 1) (Nat.le_of_ble_eq_true rfl) fX6_16 h.1 rfl ?_
  refine ev_ss DX6_ifSent 1 18 (pc' := 34) (lv' := [(0, .ref _), (1, .int _), (2, .int _), (3, .int 2)]) (st' := [.ref _, .ref _]) rfl ?_
  refine ev_get DX6_ifSent 19 GX6 rfl (k0 := 0) (Nat.le_of_ble_eq_true rfl) fX6_12 h.1 rfl ?_
  refine ev_ss DX6_ifSent 1 20 (pc' := 38) (lv' := [(0, .ref _), (1, .int _), (2, .int _), (3, .int 2)]) (st' := [.int _, .ref _, .ref _]) rfl ?_
  obtain ⟨pt0, hT0⟩ := h.2.2.1
  refine ev_rV DX6_ifSent 21 (m_trial h ha) vX1_copyWayFrom rfl qX6_221 rfl hT0.1.1 rfl (hd_of rfl rfl rfl rfl) (fun v w hvw => ?_)
  obtain ⟨rfl, hM, hS, hV, hO⟩ := hvw
  obtain ⟨st2, sz2, r2, g1, g2, g3, g4, g5, g6⟩ := id hV
  refine ev_ss DX6_ifSent 2 22 (pc' := 45) (lv' := [(4, .ref _), (0, .ref _), (1, .int _), (2, .int _), (3, .int 2)]) (st' := [.ref _]) rfl ?_
  refine ev_cV DX6_ifSent 24 (wshies hV) vX5_shies rfl qX6_208 rfl g1 rfl (hd_of rfl rfl rfl rfl) ?_
  refine ev_ss DX6_ifSent 2 25 (pc' := 51) (lv' := [(5, .int _), (4, .ref _), (0, .ref _), (1, .int _), (2, .int _), (3, .int 2)]) (st' := [.ref _]) rfl ?_
  refine ev_get DX6_ifSent 27 GX6 rfl (k0 := 1) (Nat.le_of_ble_eq_true rfl) fX6_16 hM.1 rfl ?_
  refine ev_ss DX6_ifSent 2 28 (pc' := 57) (lv' := [(5, .int _), (4, .ref _), (0, .ref _), (1, .int _), (2, .int _), (3, .int 2)]) (st' := [.int _, .ref _, .ref _]) rfl ?_
  refine ev_rV DX6_ifSent 30 (m_X1_sendBeats (is := 27) (iw := 28 + 12 * a) (n := n) (by omega) (by unfold AP; omega) hS hV hA) vX1_sendBeats rfl qX6_113 rfl hS.1 rfl (hd_of rfl rfl rfl rfl) (fun v w2 hvw => ?_)
  obtain ⟨rfl, hS2, hV2, hO2⟩ := hvw
  have hM2 : MW E ad w2 p sv sc r len ch := hM.tsnd ha hS2 hV2 hO2
  have hF2 : FO ws w2 := hO.tr (fun j b => hO2 j (by omega) (by omega))
  obtain ⟨st3, sz3, r3, k1, k2, k3, k4, k5, k6⟩ := id hV2
  refine ev_ss DX6_ifSent 2 31 (pc' := 63) (lv' := [(6, .int _), (5, .int _), (4, .ref _), (0, .ref _), (1, .int _), (2, .int _), (3, .int 2)]) (st' := [.int 2]) rfl ?_
  refine ev_ifne DX6_ifSent 33 rfl (tgt := 69) (by decide) (fun _ => ?_) (fun h => absurd h (by decide))
  refine ev_ss DX6_ifSent 2 36 (pc' := 71) (lv' := [(6, .int _), (5, .int _), (4, .ref _), (0, .ref _), (1, .int _), (2, .int _), (3, .int 2)]) (st' := [.int 1, .int 2]) rfl ?_
  refine ev_icne DX6_ifSent 38 rfl (tgt := 85) (by decide) (fun _ => ?_) (fun h => absurd h (by decide))
  refine ev_ss DX6_ifSent 1 44 (pc' := 87) (lv' := [(6, .int _), (5, .int _), (4, .ref _), (0, .ref _), (1, .int _), (2, .int _), (3, .int 2)]) (st' := [.ref _]) rfl ?_
  refine ev_get DX6_ifSent 45 GX5 rfl (k0 := 1) (Nat.le_of_ble_eq_true rfl) fX6_151 k1 rfl ?_
  refine ev_get DX6_ifSent 46 GX4 rfl (k0 := 2) (Nat.le_of_ble_eq_true rfl) fX6_155 k3 rfl ?_
  exact ev_iret DX6_ifSent 47 rfl rfl ⟨congrArg (fun z => some (Value.int z)) (RQ_sz k5).1, hM2, hF2⟩
theorem m_X6_ifSent {E : gE} {ad : Nat → Nat} {ws : va_W} {p : PS} {sv : Nat → PS} {sc r len : Nat} {ch : Nat → Int32} (h : MW E ad ws p sv sc r len ch) {a n j : Nat} (ha : a < 2) (hn1 : 1 ≤ n) (hn2 : n ≤ 100) (hA : TA (pW p a)) (hj : j < 3) : C0 E YX6_ifSent 0 0 [.ref (ad 0), .int (nI a), .int (nI n), .int (nI j)] ws (fun v9 w9 => v9 = some (.int (ifS p a n j)) ∧ MW E ad w9 p sv sc r len ch ∧ FO ws w9) := by
  rcases (show j = 0 ∨ j = 1 ∨ j = 2 by omega) with rfl | rfl | rfl
  · exact m_X6_ifSent_0 h ha hn1 hn2 hA
  · exact m_X6_ifSent_1 h ha hn1 hn2 hA
  · exact m_X6_ifSent_2 h ha hn1 hn2 hA
set_option maxRecDepth 100000 in
set_option maxHeartbeats 4000000 in
theorem xc_X6_ifSent_X6_wayOf {E : gE} {ad : Nat → Nat} {ws : va_W} {p : PS} {sv : Nat → PS} {sc r len : Nat} {ch : Nat → Int32} (h : MW E ad ws p sv sc r len ch) {wy b x : Int32} (hx : C1 E YX6_wayOf 1 6 [.ref (ad 0), .int wy] ws (fun _ _ => False) (fun X w => X = xI ∧ w = ws)) : C1 E YX6_ifSent 1 6 [.ref (ad 0), .int wy, .int b, .int x] ws (fun _ _ => False) (fun X w => X = xI ∧ w = ws) := by
  refine c1V vX6_ifSent (Nat.le_of_ble_eq_true rfl) (lv0 := [(0, .ref (ad 0)), (1, .int wy), (2, .int b), (3, .int x)]) rfl ?_
  refine ev_ss DX6_ifSent 2 0 (pc' := 2) (lv' := [(0, .ref _), (1, .int _), (2, .int _), (3, .int _)]) (st' := [.int _, .ref _]) rfl ?_
  exact ev_xV DX6_ifSent 2 0 0 hx vX6_wayOf rfl qX6_94 rfl h.1 rfl (hd_of rfl rfl rfl rfl) rfl (by decide) (by decide) (fun X w hx => hx) (fun v w hf => hf.elim)
set_option maxRecDepth 100000 in
set_option maxHeartbeats 4000000 in
theorem xc_X6_ifSent_X6_checkBeats {E : gE} {ad : Nat → Nat} {ws : va_W} {p : PS} {sv : Nat → PS} {sc r len : Nat} {ch : Nat → Int32} (h : MW E ad ws p sv sc r len ch) {a : Nat} {b x : Int32} (ha : a < 2) (hx : C1 E YX6_checkBeats 1 6 [.int b] ws (fun _ _ => False) (fun X w => X = xA ∧ w = ws)) : C1 E YX6_ifSent 1 6 [.ref (ad 0), .int (nI a), .int b, .int x] ws (fun _ _ => False) (fun X w => X = xA ∧ w = ws) := by
  refine c1V vX6_ifSent (Nat.le_of_ble_eq_true rfl) (lv0 := [(0, .ref (ad 0)), (1, .int (nI a)), (2, .int b), (3, .int x)]) rfl ?_
  refine ev_ss DX6_ifSent 2 0 (pc' := 2) (lv' := [(0, .ref _), (1, .int _), (2, .int _), (3, .int _)]) (st' := [.int _, .ref _]) rfl ?_
  refine ev_cV DX6_ifSent 2 (m_X6_wayOf h ha) vX6_wayOf rfl qX6_94 rfl h.1 rfl (hd_of rfl rfl rfl rfl) ?_
  refine ev_ss DX6_ifSent 2 3 (pc' := 7) (lv' := [(0, .ref _), (1, .int _), (2, .int _), (3, .int _)]) (st' := [.int _]) rfl ?_
  exact ev_xS DX6_ifSent 5 0 0 hx vX6_checkBeats rfl qX6_98 rfl (hd_of rfl rfl rfl rfl) rfl (by decide) (by decide) (fun X w hx => hx) (fun v w hf => hf.elim)
set_option maxRecDepth 100000 in
set_option maxHeartbeats 4000000 in
theorem x_X6_ifSent {E : gE} {ad : Nat → Nat} {ws : va_W} {p : PS} {sv : Nat → PS} {sc r len : Nat} {ch : Nat → Int32} (h : MW E ad ws p sv sc r len ch) {a : Nat} {b x : Int32} (ha : a < 2) (hg : ¬ bB b) (hb : x < 0 ∨ 2 < x) : C1 E YX6_ifSent 1 6 [.ref (ad 0), .int (nI a), .int b, .int x] ws (fun _ _ => False) (fun X w => X = xA ∧ w = ws) := by
  refine c1V vX6_ifSent (Nat.le_of_ble_eq_true rfl) (lv0 := [(0, .ref (ad 0)), (1, .int (nI a)), (2, .int b), (3, .int x)]) rfl ?_
  refine ev_ss DX6_ifSent 2 0 (pc' := 2) (lv' := [(0, .ref _), (1, .int _), (2, .int _), (3, .int _)]) (st' := [.int _, .ref _]) rfl ?_
  refine ev_cV DX6_ifSent 2 (m_X6_wayOf h ha) vX6_wayOf rfl qX6_94 rfl h.1 rfl (hd_of rfl rfl rfl rfl) ?_
  refine ev_ss DX6_ifSent 2 3 (pc' := 7) (lv' := [(0, .ref _), (1, .int _), (2, .int _), (3, .int _)]) (st' := [.int _]) rfl ?_
  refine ev_cS DX6_ifSent 5 (m_X6_checkBeats hg) vX6_checkBeats rfl qX6_98 rfl (hd_of rfl rfl rfl rfl) ?_
  refine ev_ss DX6_ifSent 1 6 (pc' := 11) (lv' := [(0, .ref _), (1, .int _), (2, .int _), (3, .int _)]) (st' := [.int _]) rfl ?_
  refine ev_iflt DX6_ifSent 7 rfl (tgt := 19) (by decide) (fun c_1 => ?_) (fun c_1 => ?_)
  · exact ev_throw DX6_ifSent 11 XbA rfl rfl nX6_57 (List.mem_of_getElem? (i := 6) rfl) rfl rfl rfl rfl rfl (Nat.le_of_ble_eq_true rfl) (Nat.le_of_ble_eq_true rfl) (by decide) (by decide) ⟨rfl, rfl⟩
  · refine ev_ss DX6_ifSent 2 8 (pc' := 16) (lv' := [(0, .ref _), (1, .int _), (2, .int _), (3, .int _)]) (st' := [.int 2, .int _]) rfl ?_
    refine ev_icle DX6_ifSent 10 rfl (tgt := 29) (by decide) (fun c_2 => ?_) (fun c_2 => ?_)
    · exact absurd (hb.resolve_left c_1) (Int32.not_lt.mpr c_2)
    · exact ev_throw DX6_ifSent 11 XbA rfl rfl nX6_57 (List.mem_of_getElem? (i := 6) rfl) rfl rfl rfl rfl rfl (Nat.le_of_ble_eq_true rfl) (Nat.le_of_ble_eq_true rfl) (by decide) (by decide) ⟨rfl, rfl⟩
noncomputable def ifL (p : PS) (a n : Nat) : Int32 := sumN (fun t => (tlW (p.2.2.1 0) (p.2.2.1 1) p.1 (pW p a) n).1 t 10) 8
set_option maxRecDepth 100000 in
set_option maxHeartbeats 4000000 in
theorem m_X6_ifLearned {E : gE} {ad : Nat → Nat} {ws : va_W} {p : PS} {sv : Nat → PS} {sc r len : Nat} {ch : Nat → Int32} (h : MW E ad ws p sv sc r len ch) {a n : Nat} (ha : a < 2) (hn1 : 1 ≤ n) (hn2 : n ≤ 100) (hN : LN p a) : C0 E YX6_ifLearned 0 0 [.ref (ad 0), .int (nI a), .int (nI n)] ws (fun v9 w9 => v9 = some (.int (ifL p a n)) ∧ MW E ad w9 p sv sc r len ch ∧ FO ws w9) := by
  refine c0V vX6_ifLearned (Nat.le_of_ble_eq_true rfl) (lv0 := [(0, .ref (ad 0)), (1, .int (nI a)), (2, .int (nI n))]) rfl ?_
  refine ev_ss DX6_ifLearned 2 0 (pc' := 2) (lv' := [(0, .ref _), (1, .int _), (2, .int _)]) (st' := [.int _, .ref _]) rfl ?_
  refine ev_cV DX6_ifLearned 2 (m_X6_wayOf h ha) vX6_wayOf rfl qX6_94 rfl h.1 rfl (hd_of rfl rfl rfl rfl) ?_
  refine ev_ss DX6_ifLearned 2 3 (pc' := 7) (lv' := [(0, .ref _), (1, .int _), (2, .int _)]) (st' := [.int _]) rfl ?_
  refine ev_cS DX6_ifLearned 5 (m_X6_checkBeats (bB_nI hn1 hn2)) vX6_checkBeats rfl qX6_98 rfl (hd_of rfl rfl rfl rfl) ?_
  refine ev_ss DX6_ifLearned 1 6 (pc' := 11) (lv' := [(0, .ref _), (1, .int _), (2, .int _)]) (st' := [.ref _]) rfl ?_
  refine ev_get DX6_ifLearned 7 GX6 rfl (k0 := 1) (Nat.le_of_ble_eq_true rfl) fX6_16 h.1 rfl ?_
  refine ev_ss DX6_ifLearned 1 8 (pc' := 15) (lv' := [(0, .ref _), (1, .int _), (2, .int _)]) (st' := [.ref _, .ref _]) rfl ?_
  refine ev_get DX6_ifLearned 9 GX6 rfl (k0 := 0) (Nat.le_of_ble_eq_true rfl) fX6_12 h.1 rfl ?_
  refine ev_ss DX6_ifLearned 1 10 (pc' := 19) (lv' := [(0, .ref _), (1, .int _), (2, .int _)]) (st' := [.int _, .ref _, .ref _]) rfl ?_
  obtain ⟨pt0, hT0⟩ := h.2.2.1
  refine ev_rV DX6_ifLearned 11 (m_trial h ha) vX1_copyWayFrom rfl qX6_221 rfl hT0.1.1 rfl (hd_of rfl rfl rfl rfl) (fun v w hvw => ?_)
  obtain ⟨rfl, hM, hS, hV, hO⟩ := hvw
  obtain ⟨st2, sz2, r2, g1, g2, g3, g4, g5, g6⟩ := id hV
  obtain ⟨lb, sz, hL⟩ := hM.2.2.2.2.1
  refine ev_ss DX6_ifLearned 2 12 (pc' := 24) (lv' := [(3, .ref _), (0, .ref _), (1, .int _), (2, .int _)]) (st' := [.ref _]) rfl ?_
  refine ev_get DX6_ifLearned 14 GX6 rfl (k0 := 1) (Nat.le_of_ble_eq_true rfl) fX6_16 hM.1 rfl ?_
  refine ev_ss DX6_ifLearned 3 15 (pc' := 30) (lv' := [(3, .ref _), (0, .ref _), (1, .int _), (2, .int _)]) (st' := [.ref _, .int _, .ref _, .ref _]) rfl ?_
  refine ev_get DX6_ifLearned 18 GX6 rfl (k0 := 3) (Nat.le_of_ble_eq_true rfl) fX6_26 hM.1 rfl ?_
  refine ev_rV DX6_ifLearned 19 (m_X1_takeLesson (is := 27) (iw := 28 + 12 * a) (il := 54) (by omega) (by unfold AL; omega) hS hV hL hN.1 hN.2.1 hN.2.2) vX1_takeLesson rfl qX6_104 rfl hS.1 rfl (hd_of rfl rfl rfl rfl) (fun v w2 hvw => ?_)
  obtain ⟨rfl, hS2, hV2, hL2, hO2⟩ := hvw
  have hM2 : MW E ad w2 p sv sc r len ch := hM.tlrn ha hS2 hV2 hL2 hO2
  have hF2 : FO ws w2 := hO.tr (fun j b => hO2 j (by omega) (by omega) (by omega) (by omega))
  obtain ⟨st3, sz3, r3, k1, k2, k3, k4, k5, k6⟩ := id hV2
  refine ev_ss DX6_ifLearned 1 20 (pc' := 37) (lv' := [(3, .ref _), (0, .ref _), (1, .int _), (2, .int _)]) (st' := [.ref _]) rfl ?_
  refine ev_cV DX6_ifLearned 21 (wbits hV2) vX5_bits rfl qX6_108 rfl k1 rfl (hd_of rfl rfl rfl rfl) ?_
  exact ev_iret DX6_ifLearned 22 rfl rfl ⟨rfl, hM2, hF2⟩
set_option maxRecDepth 100000 in
set_option maxHeartbeats 4000000 in
theorem xc_X6_ifLearned_X6_wayOf {E : gE} {ad : Nat → Nat} {ws : va_W} {p : PS} {sv : Nat → PS} {sc r len : Nat} {ch : Nat → Int32} (h : MW E ad ws p sv sc r len ch) {wy b : Int32} (hx : C1 E YX6_wayOf 1 6 [.ref (ad 0), .int wy] ws (fun _ _ => False) (fun X w => X = xI ∧ w = ws)) : C1 E YX6_ifLearned 1 6 [.ref (ad 0), .int wy, .int b] ws (fun _ _ => False) (fun X w => X = xI ∧ w = ws) := by
  refine c1V vX6_ifLearned (Nat.le_of_ble_eq_true rfl) (lv0 := [(0, .ref (ad 0)), (1, .int wy), (2, .int b)]) rfl ?_
  refine ev_ss DX6_ifLearned 2 0 (pc' := 2) (lv' := [(0, .ref _), (1, .int _), (2, .int _)]) (st' := [.int _, .ref _]) rfl ?_
  exact ev_xV DX6_ifLearned 2 0 0 hx vX6_wayOf rfl qX6_94 rfl h.1 rfl (hd_of rfl rfl rfl rfl) rfl (by decide) (by decide) (fun X w hx => hx) (fun v w hf => hf.elim)
set_option maxRecDepth 100000 in
set_option maxHeartbeats 4000000 in
theorem xc_X6_ifLearned_X6_checkBeats {E : gE} {ad : Nat → Nat} {ws : va_W} {p : PS} {sv : Nat → PS} {sc r len : Nat} {ch : Nat → Int32} (h : MW E ad ws p sv sc r len ch) {a : Nat} {b : Int32} (ha : a < 2) (hx : C1 E YX6_checkBeats 1 6 [.int b] ws (fun _ _ => False) (fun X w => X = xA ∧ w = ws)) : C1 E YX6_ifLearned 1 6 [.ref (ad 0), .int (nI a), .int b] ws (fun _ _ => False) (fun X w => X = xA ∧ w = ws) := by
  refine c1V vX6_ifLearned (Nat.le_of_ble_eq_true rfl) (lv0 := [(0, .ref (ad 0)), (1, .int (nI a)), (2, .int b)]) rfl ?_
  refine ev_ss DX6_ifLearned 2 0 (pc' := 2) (lv' := [(0, .ref _), (1, .int _), (2, .int _)]) (st' := [.int _, .ref _]) rfl ?_
  refine ev_cV DX6_ifLearned 2 (m_X6_wayOf h ha) vX6_wayOf rfl qX6_94 rfl h.1 rfl (hd_of rfl rfl rfl rfl) ?_
  refine ev_ss DX6_ifLearned 2 3 (pc' := 7) (lv' := [(0, .ref _), (1, .int _), (2, .int _)]) (st' := [.int _]) rfl ?_
  exact ev_xS DX6_ifLearned 5 0 0 hx vX6_checkBeats rfl qX6_98 rfl (hd_of rfl rfl rfl rfl) rfl (by decide) (by decide) (fun X w hx => hx) (fun v w hf => hf.elim)
noncomputable def bfW (m2 : Int32) : Nat → Nat → Int32 → WS → Int32
  | 0, _, _, _ => -1
  | m + 1, i, sd, σ => if nI σ.2.1.length = 0 then nI i else bfW m2 m (i + 1) (btN m2 sd σ 1).2.1 (btN m2 sd σ 1).2.2
theorem bfW_s {m2 : Int32} {m i : Nat} {sd : Int32} {σ : WS} : bfW m2 (m + 1) i sd σ = if nI σ.2.1.length = 0 then nI i else bfW m2 m (i + 1) (btN m2 sd σ 1).2.1 (btN m2 sd σ 1).2.2 := rfl
set_option maxRecDepth 100000 in
set_option maxHeartbeats 4000000 in
theorem bf_loop {E : gE} {ad : Nat → Nat} {Pr : Option Value → va_W → Prop} {ws : va_W} {p : PS} {sv : Nat → PS} {sc r len a : Nat} {ch : Nat → Int32} {se : Nat → Int32} (ha : a < 2) (hP : ∀ (z : Int32) (w : va_W), MW E ad w p sv sc r len ch → FO ws w → Pr (some (.int z)) w → Pr (some (.int z)) w) :
    ∀ (m i : Nat) (x bt sd : Int32) (σ : WS) (w : va_W), i + m = k301 → x = nI i → MW E ad w p sv sc r len ch → FO ws w → SD E ad w 27 sd bt se → WY E ad w (28 + 12 * a) σ → TA σ → (∀ w9, MW E ad w9 p sv sc r len ch → FO ws w9 → Pr (some (.int (bfW (se 2) m i sd σ))) w9) → Ev E YX6_beatsFor Pr nX 0 0 21 [(0, .ref (ad 0)), (1, .int (nI a)), (2, .ref (ad (28 + 12 * a))), (3, .int x)] [] w := by
  have e301 := k301e
  intro m
  induction m with
  | zero =>
    intro i x bt sd σ w hm hx hM hO hS hV hA hp
    obtain rfl : i = k301 := by omega
    subst hx
    refine ev_ss DX6_beatsFor 2 13 (pc' := 25) (lv' := [(0, .ref _), (1, .int _), (2, .ref _), (3, .int _)]) (st' := [.int 300, .int _]) rfl ?_
    refine ev_icgt DX6_beatsFor 15 rfl (tgt := 56) (by decide) (fun _ => ?_) (fun h => h.elim (by rw [k301e]; decide))
    refine ev_ss DX6_beatsFor 1 30 (pc' := 57) (lv' := [(0, .ref _), (1, .int _), (2, .ref _), (3, .int _)]) (st' := [.int (-1)]) rfl ?_
    exact ev_iret DX6_beatsFor 31 rfl rfl (hp _ hM hO)
  | succ m ih =>
    intro i x bt sd σ w hm hx hM hO hS hV hA hp
    subst hx
    rw [bfW_s] at hp
    obtain ⟨st2, sz2, r2, g1, g2, g3, g4, g5, g6⟩ := id hV
    have ez := (RQ_sz g5).1
    refine ev_ss DX6_beatsFor 2 13 (pc' := 25) (lv' := [(0, .ref _), (1, .int _), (2, .ref _), (3, .int _)]) (st' := [.int 300, .int _]) rfl ?_
    refine ev_icgt DX6_beatsFor 15 rfl (tgt := 56) (by decide) (fun h => absurd h (Int32.not_lt.mpr (nI_le (b := 300) (by omega) (by decide)))) (fun _ => ?_)
    refine ev_ss DX6_beatsFor 1 16 (pc' := 29) (lv' := [(0, .ref _), (1, .int _), (2, .ref _), (3, .int _)]) (st' := [.ref _]) rfl ?_
    refine ev_get DX6_beatsFor 17 GX5 rfl (k0 := 1) (Nat.le_of_ble_eq_true rfl) fX6_151 g1 rfl ?_
    refine ev_get DX6_beatsFor 18 GX4 rfl (k0 := 2) (Nat.le_of_ble_eq_true rfl) fX6_155 g3 rfl ?_
    refine ev_ifne DX6_beatsFor 19 rfl (tgt := 40) (by decide) (fun c_1 => ?_) (fun c_1 => ?_)
    · refine ev_ss DX6_beatsFor 1 22 (pc' := 41) (lv' := [(0, .ref _), (1, .int _), (2, .ref _), (3, .int _)]) (st' := [.ref _]) rfl ?_
      refine ev_get DX6_beatsFor 23 GX6 rfl (k0 := 1) (Nat.le_of_ble_eq_true rfl) fX6_16 hM.1 rfl ?_
      refine ev_ss DX6_beatsFor 2 24 (pc' := 46) (lv' := [(0, .ref _), (1, .int _), (2, .ref _), (3, .int _)]) (st' := [.int 1, .ref _, .ref _]) rfl ?_
      refine ev_rV DX6_beatsFor 26 (m_X1_sendBeats (is := 27) (iw := 28 + 12 * a) (n := 1) (by decide) (by unfold AP; omega) hS hV hA) vX1_sendBeats rfl qX6_113 rfl hS.1 rfl (hd_of rfl rfl rfl rfl) (fun v w2 hvw => ?_)
      obtain ⟨rfl, hS2, hV2, hO2⟩ := hvw
      refine ev_ss DX6_beatsFor 2 27 (pc' := 53) (lv' := [(3, .int _), (0, .ref _), (1, .int _), (2, .ref _)]) (st' := []) rfl ?_
      refine ev_goto DX6_beatsFor 29 rfl (tgt := 21) (by decide) ?_
      refine ev_lvp (lv2 := [(0, .ref _), (1, .int _), (2, .ref _), (3, .int _)]) [1, 2, 3, 0] rfl ?_
      exact ih (i + 1) _ _ _ _ w2 (by omega) (nI_1 i) (hM.tsnd ha hS2 hV2 hO2) (hO.tr (fun j b => hO2 j (by omega) (by omega))) hS2 hV2 (TA_btN hA 1) (fun w9 q1 q2 => by have hq := hp w9 q1 q2; rw [← ez, if_neg c_1] at hq; exact hq)
    · refine ev_ss DX6_beatsFor 1 20 (pc' := 39) (lv' := [(0, .ref _), (1, .int _), (2, .ref _), (3, .int _)]) (st' := [.int _]) rfl ?_
      exact ev_iret DX6_beatsFor 21 rfl rfl (by have hq := hp _ hM hO; rw [← ez, if_pos c_1] at hq; exact hq)
set_option maxRecDepth 100000 in
set_option maxHeartbeats 4000000 in
theorem m_X6_beatsFor {E : gE} {ad : Nat → Nat} {ws : va_W} {p : PS} {sv : Nat → PS} {sc r len : Nat} {ch : Nat → Int32} (h : MW E ad ws p sv sc r len ch) {a : Nat} (ha : a < 2) (hA : TA (pW p a)) : C0 E YX6_beatsFor 0 0 [.ref (ad 0), .int (nI a)] ws (fun v9 w9 => v9 = some (.int (bfW (p.2.2.1 2) k301 0 p.1 (pW p a))) ∧ MW E ad w9 p sv sc r len ch ∧ FO ws w9) := by
  refine c0V vX6_beatsFor (Nat.le_of_ble_eq_true rfl) (lv0 := [(0, .ref (ad 0)), (1, .int (nI a))]) rfl ?_
  refine ev_ss DX6_beatsFor 2 0 (pc' := 2) (lv' := [(0, .ref _), (1, .int _)]) (st' := [.int _, .ref _]) rfl ?_
  refine ev_cV DX6_beatsFor 2 (m_X6_wayOf h ha) vX6_wayOf rfl qX6_94 rfl h.1 rfl (hd_of rfl rfl rfl rfl) ?_
  refine ev_ss DX6_beatsFor 2 3 (pc' := 7) (lv' := [(0, .ref _), (1, .int _)]) (st' := [.ref _]) rfl ?_
  refine ev_get DX6_beatsFor 5 GX6 rfl (k0 := 1) (Nat.le_of_ble_eq_true rfl) fX6_16 h.1 rfl ?_
  refine ev_ss DX6_beatsFor 1 6 (pc' := 11) (lv' := [(0, .ref _), (1, .int _)]) (st' := [.ref _, .ref _]) rfl ?_
  refine ev_get DX6_beatsFor 7 GX6 rfl (k0 := 0) (Nat.le_of_ble_eq_true rfl) fX6_12 h.1 rfl ?_
  refine ev_ss DX6_beatsFor 1 8 (pc' := 15) (lv' := [(0, .ref _), (1, .int _)]) (st' := [.int _, .ref _, .ref _]) rfl ?_
  obtain ⟨pt0, hT0⟩ := h.2.2.1
  refine ev_rV DX6_beatsFor 9 (m_trial h ha) vX1_copyWayFrom rfl qX6_221 rfl hT0.1.1 rfl (hd_of rfl rfl rfl rfl) (fun v w hvw => ?_)
  obtain ⟨rfl, hM, hS, hV, hO⟩ := hvw
  obtain ⟨st2, sz2, r2, g1, g2, g3, g4, g5, g6⟩ := id hV
  refine ev_ss DX6_beatsFor 3 10 (pc' := 21) (lv' := [(3, .int 0), (2, .ref _), (0, .ref _), (1, .int _)]) (st' := []) rfl ?_
  refine ev_lvp (lv2 := [(0, .ref _), (1, .int _), (2, .ref _), (3, .int _)]) [2, 3, 1, 0] rfl ?_
  exact bf_loop ha (fun z w h1 h2 h3 => h3) k301 0 _ _ _ _ w (Nat.zero_add k301) nI_0.symm hM hO hS hV hA (fun w9 q1 q2 => ⟨rfl, q1, q2⟩)
noncomputable def k40 : Nat := Classical.choose (⟨40, rfl⟩ : ∃ n : Nat, n = 40)
theorem k40e : k40 = 40 := Classical.choose_spec (⟨40, rfl⟩ : ∃ n : Nat, n = 40)
noncomputable def blB (p : PS) (a n : Nat) : Int32 := bbN (p.2.2.1 1) (lrN (p.2.2.1 0) p.1 (pW p a) n).2.2 (lrN (p.2.2.1 0) p.1 (pW p a) n).2.1 k8
noncomputable def blN (p : PS) (a : Nat) : Nat → Int32 × Int32
  | 0 => (1, -1)
  | n + 1 => if blB p a (n + 1) ≤ (blN p a n).2 then blN p a n else (nI (n + 1), blB p a (n + 1))
theorem blN_0 {p : PS} {a : Nat} : blN p a 0 = (1, -1) := rfl
theorem blN_s {p : PS} {a n : Nat} : blN p a (n + 1) = if blB p a (n + 1) ≤ (blN p a n).2 then blN p a n else (nI (n + 1), blB p a (n + 1)) := rfl
set_option maxRecDepth 100000 in
set_option maxHeartbeats 4000000 in
theorem bl_loop {E : gE} {ad : Nat → Nat} {ws : va_W} {p : PS} {sv : Nat → PS} {sc r len a : Nat} {ch : Nat → Int32} (ha : a < 2) (hN : LN p a) :
    ∀ (m i : Nat) (x bt be mo : Int32) (w : va_W), i + m = k40 → x = nI (i + 1) → (be, mo) = blN p a i → MW E ad w p sv sc r len ch → FO ws w → SD E ad w 27 (lrN (p.2.2.1 0) p.1 (pW p a) i).1 bt p.2.2.1 → WY E ad w (28 + 12 * a) (lrN (p.2.2.1 0) p.1 (pW p a) i).2.1 → LE E ad w 54 (nI i) (lrN (p.2.2.1 0) p.1 (pW p a) i).2.2 → Ev E YX6_bestLesson (fun v9 w9 => v9 = some (.int (blN p a k40).1) ∧ MW E ad w9 p sv sc r len ch ∧ FO ws w9) nX 0 0 34 [(0, .ref (ad 0)), (1, .int (nI a)), (2, .ref (ad (28 + 12 * a))), (3, .int be), (4, .int mo), (5, .int x)] [] w := by
  have e40 := k40e
  intro m
  induction m with
  | zero =>
    intro i x bt be mo w hm hx hb hM hO hS hV hL
    obtain rfl : i = k40 := by omega
    subst hx
    refine ev_ss DX6_bestLesson 2 20 (pc' := 38) (lv' := [(0, .ref _), (1, .int _), (2, .ref _), (3, .int _), (4, .int _), (5, .int _)]) (st' := [.int 40, .int _]) rfl ?_
    refine ev_icgt DX6_bestLesson 22 rfl (tgt := 87) (by decide) (fun _ => ?_) (fun h => h.elim (by rw [k40e]; decide))
    refine ev_ss DX6_bestLesson 1 45 (pc' := 88) (lv' := [(0, .ref _), (1, .int _), (2, .ref _), (3, .int _), (4, .int _), (5, .int _)]) (st' := [.int _]) rfl ?_
    exact ev_iret DX6_bestLesson 46 rfl rfl ⟨by rw [← hb], hM, hO⟩
  | succ m ih =>
    intro i x bt be mo w hm hx hb hM hO hS hV hL
    subst hx
    refine ev_ss DX6_bestLesson 2 20 (pc' := 38) (lv' := [(0, .ref _), (1, .int _), (2, .ref _), (3, .int _), (4, .int _), (5, .int _)]) (st' := [.int 40, .int _]) rfl ?_
    refine ev_icgt DX6_bestLesson 22 rfl (tgt := 87) (by decide) (fun h => absurd h (Int32.not_lt.mpr (nI_le (b := 40) (by omega) (by decide)))) (fun _ => ?_)
    refine ev_ss DX6_bestLesson 1 23 (pc' := 42) (lv' := [(0, .ref _), (1, .int _), (2, .ref _), (3, .int _), (4, .int _), (5, .int _)]) (st' := [.ref _]) rfl ?_
    refine ev_get DX6_bestLesson 24 GX6 rfl (k0 := 1) (Nat.le_of_ble_eq_true rfl) fX6_16 hM.1 rfl ?_
    refine ev_ss DX6_bestLesson 2 25 (pc' := 47) (lv' := [(0, .ref _), (1, .int _), (2, .ref _), (3, .int _), (4, .int _), (5, .int _)]) (st' := [.ref _, .ref _, .ref _]) rfl ?_
    refine ev_get DX6_bestLesson 27 GX6 rfl (k0 := 3) (Nat.le_of_ble_eq_true rfl) fX6_26 hM.1 rfl ?_
    refine ev_rV DX6_bestLesson 28 (m_X1_learnBeat (is := 27) (iw := 28 + 12 * a) (il := 54) (nb := i) (by omega) rfl (by unfold AL; omega) hS hV hL (TN_lrN hN.1 i) hN.2.1 hN.2.2) vX1_learnBeat rfl qX6_228 rfl hS.1 rfl (hd_of rfl rfl rfl rfl) (fun v w2 hvw => ?_)
    obtain ⟨rfl, hS2, hV2, hL2, hO2⟩ := hvw
    rw [← lrN_s] at hS2 hV2 hL2
    have hM2 : MW E ad w2 p sv sc r len ch := hM.tlrn ha hS2 hV2 ⟨_, _, hL2⟩ hO2
    have hF2 : FO ws w2 := hO.tr (fun j b => hO2 j (by omega) (by omega) (by omega) (by omega))
    refine ev_ss DX6_bestLesson 1 29 (pc' := 54) (lv' := [(0, .ref _), (1, .int _), (2, .ref _), (3, .int _), (4, .int _), (5, .int _)]) (st' := [.ref _]) rfl ?_
    refine ev_get DX6_bestLesson 30 GX6 rfl (k0 := 1) (Nat.le_of_ble_eq_true rfl) fX6_16 hM2.1 rfl ?_
    refine ev_ss DX6_bestLesson 2 31 (pc' := 59) (lv' := [(0, .ref _), (1, .int _), (2, .ref _), (3, .int _), (4, .int _), (5, .int _)]) (st' := [.ref _, .ref _, .ref _]) rfl ?_
    refine ev_get DX6_bestLesson 33 GX6 rfl (k0 := 3) (Nat.le_of_ble_eq_true rfl) fX6_26 hM2.1 rfl ?_
    refine ev_cV DX6_bestLesson 34 (m_X1_bitsBehind hS2 hV2 hL2) vX1_bitsBehind rfl qX6_232 rfl hS2.1 rfl (hd_of rfl rfl rfl rfl) ?_
    refine ev_ss DX6_bestLesson 3 35 (pc' := 71) (lv' := [(6, .int _), (0, .ref _), (1, .int _), (2, .ref _), (3, .int _), (4, .int _), (5, .int _)]) (st' := [.int _, .int _]) rfl ?_
    refine ev_icle DX6_bestLesson 38 rfl (tgt := 81) (by decide) (fun c_1 => ?_) (fun c_1 => ?_)
    · refine ev_ss DX6_bestLesson 1 43 (pc' := 84) (lv' := [(5, .int _), (6, .int _), (0, .ref _), (1, .int _), (2, .ref _), (3, .int _), (4, .int _)]) (st' := []) rfl ?_
      refine ev_goto DX6_bestLesson 44 rfl (tgt := 34) (by decide) ?_
      refine ev_lvp (lv2 := [(0, .ref _), (1, .int _), (2, .ref _), (3, .int _), (4, .int _), (5, .int _)]) [2, 3, 4, 5, 6, 0] rfl ?_
      exact ih (i + 1) _ _ _ _ w2 (by omega) (nI_1 (i + 1)) (by rw [blN_s, ← hb]; exact (if_pos c_1).symm) hM2 hF2 hS2 hV2 hL2
    · refine ev_ss DX6_bestLesson 5 39 (pc' := 84) (lv' := [(5, .int _), (3, .int _), (4, .int _), (6, .int _), (0, .ref _), (1, .int _), (2, .ref _)]) (st' := []) rfl ?_
      refine ev_goto DX6_bestLesson 44 rfl (tgt := 34) (by decide) ?_
      refine ev_lvp (lv2 := [(0, .ref _), (1, .int _), (2, .ref _), (3, .int _), (4, .int _), (5, .int _)]) [4, 5, 6, 1, 2, 0] rfl ?_
      exact ih (i + 1) _ _ _ _ w2 (by omega) (nI_1 (i + 1)) (by rw [blN_s, ← hb]; exact (if_neg c_1).symm) hM2 hF2 hS2 hV2 hL2
set_option maxRecDepth 100000 in
set_option maxHeartbeats 4000000 in
theorem m_X6_bestLesson {E : gE} {ad : Nat → Nat} {ws : va_W} {p : PS} {sv : Nat → PS} {sc r len : Nat} {ch : Nat → Int32} (h : MW E ad ws p sv sc r len ch) {a : Nat} (ha : a < 2) (hN : LN p a) : C0 E YX6_bestLesson 0 0 [.ref (ad 0), .int (nI a)] ws (fun v9 w9 => v9 = some (.int (blN p a k40).1) ∧ MW E ad w9 p sv sc r len ch ∧ FO ws w9) := by
  refine c0V vX6_bestLesson (Nat.le_of_ble_eq_true rfl) (lv0 := [(0, .ref (ad 0)), (1, .int (nI a))]) rfl ?_
  refine ev_ss DX6_bestLesson 2 0 (pc' := 2) (lv' := [(0, .ref _), (1, .int _)]) (st' := [.int _, .ref _]) rfl ?_
  refine ev_cV DX6_bestLesson 2 (m_X6_wayOf h ha) vX6_wayOf rfl qX6_94 rfl h.1 rfl (hd_of rfl rfl rfl rfl) ?_
  refine ev_ss DX6_bestLesson 2 3 (pc' := 7) (lv' := [(0, .ref _), (1, .int _)]) (st' := [.ref _]) rfl ?_
  refine ev_get DX6_bestLesson 5 GX6 rfl (k0 := 1) (Nat.le_of_ble_eq_true rfl) fX6_16 h.1 rfl ?_
  refine ev_ss DX6_bestLesson 1 6 (pc' := 11) (lv' := [(0, .ref _), (1, .int _)]) (st' := [.ref _, .ref _]) rfl ?_
  refine ev_get DX6_bestLesson 7 GX6 rfl (k0 := 0) (Nat.le_of_ble_eq_true rfl) fX6_12 h.1 rfl ?_
  refine ev_ss DX6_bestLesson 1 8 (pc' := 15) (lv' := [(0, .ref _), (1, .int _)]) (st' := [.int _, .ref _, .ref _]) rfl ?_
  obtain ⟨pt0, hT0⟩ := h.2.2.1
  refine ev_rV DX6_bestLesson 9 (m_trial h ha) vX1_copyWayFrom rfl qX6_221 rfl hT0.1.1 rfl (hd_of rfl rfl rfl rfl) (fun v w hvw => ?_)
  obtain ⟨rfl, hM, hS, hV, hO⟩ := hvw
  obtain ⟨st2, sz2, r2, g1, g2, g3, g4, g5, g6⟩ := id hV
  obtain ⟨lb, sz, hL⟩ := hM.2.2.2.2.1
  refine ev_ss DX6_bestLesson 6 10 (pc' := 25) (lv' := [(4, .int (-1)), (3, .int 1), (2, .ref _), (0, .ref _), (1, .int _)]) (st' := [.ref _]) rfl ?_
  refine ev_get DX6_bestLesson 16 GX6 rfl (k0 := 3) (Nat.le_of_ble_eq_true rfl) fX6_26 hM.1 rfl ?_
  refine ev_rV DX6_bestLesson 17 (m_X0_begin hL) vX0_begin rfl qX6_225 rfl hL.1 rfl (hd_of rfl rfl rfl rfl) (fun v w2 hvw => ?_)
  obtain ⟨rfl, hL2, hO2⟩ := hvw
  have hS2 := hS.of (w := w2) (hO2 _ (by decide) (by decide)) (hO2 _ (by decide) (by decide))
  have hV2 := hV.of (w := w2) (fun j b c => hO2 j (by omega) (by omega))
  have hM2 : MW E ad w2 p sv sc r len ch := hM.tlrn ha hS2 hV2 ⟨_, _, hL2⟩ (fun j b c d e => hO2 j d e)
  refine ev_ss DX6_bestLesson 2 18 (pc' := 34) (lv' := [(5, .int 1), (4, .int (-1)), (3, .int 1), (2, .ref _), (0, .ref _), (1, .int _)]) (st' := []) rfl ?_
  refine ev_lvp (lv2 := [(0, .ref _), (1, .int _), (2, .ref _), (3, .int _), (4, .int _), (5, .int _)]) [4, 5, 3, 2, 1, 0] rfl ?_
  exact bl_loop ha hN k40 0 _ _ _ _ w2 (Nat.zero_add k40) rfl blN_0.symm hM2 (hO.tr (fun j b => hO2 j (by omega) (by omega))) (by rw [lrN_0]; exact hS2) (by rw [lrN_0]; exact hV2) (by rw [lrN_0, nI_0]; exact hL2)
set_option maxRecDepth 100000 in
set_option maxHeartbeats 4000000 in
theorem xc_X6_beatsFor_X6_wayOf {E : gE} {ad : Nat → Nat} {ws : va_W} {p : PS} {sv : Nat → PS} {sc r len : Nat} {ch : Nat → Int32} (h : MW E ad ws p sv sc r len ch) {wy : Int32} (hx : C1 E YX6_wayOf 1 6 [.ref (ad 0), .int wy] ws (fun _ _ => False) (fun X w => X = xI ∧ w = ws)) : C1 E YX6_beatsFor 1 6 [.ref (ad 0), .int wy] ws (fun _ _ => False) (fun X w => X = xI ∧ w = ws) := by
  refine c1V vX6_beatsFor (Nat.le_of_ble_eq_true rfl) (lv0 := [(0, .ref (ad 0)), (1, .int wy)]) rfl ?_
  refine ev_ss DX6_beatsFor 2 0 (pc' := 2) (lv' := [(0, .ref _), (1, .int _)]) (st' := [.int _, .ref _]) rfl ?_
  exact ev_xV DX6_beatsFor 2 0 0 hx vX6_wayOf rfl qX6_94 rfl h.1 rfl (hd_of rfl rfl rfl rfl) rfl (by decide) (by decide) (fun X w hx => hx) (fun v w hf => hf.elim)
set_option maxRecDepth 100000 in
set_option maxHeartbeats 4000000 in
theorem xc_X6_bestLesson_X6_wayOf {E : gE} {ad : Nat → Nat} {ws : va_W} {p : PS} {sv : Nat → PS} {sc r len : Nat} {ch : Nat → Int32} (h : MW E ad ws p sv sc r len ch) {wy : Int32} (hx : C1 E YX6_wayOf 1 6 [.ref (ad 0), .int wy] ws (fun _ _ => False) (fun X w => X = xI ∧ w = ws)) : C1 E YX6_bestLesson 1 6 [.ref (ad 0), .int wy] ws (fun _ _ => False) (fun X w => X = xI ∧ w = ws) := by
  refine c1V vX6_bestLesson (Nat.le_of_ble_eq_true rfl) (lv0 := [(0, .ref (ad 0)), (1, .int wy)]) rfl ?_
  refine ev_ss DX6_bestLesson 2 0 (pc' := 2) (lv' := [(0, .ref _), (1, .int _)]) (st' := [.int _, .ref _]) rfl ?_
  exact ev_xV DX6_bestLesson 2 0 0 hx vX6_wayOf rfl qX6_94 rfl h.1 rfl (hd_of rfl rfl rfl rfl) rfl (by decide) (by decide) (fun X w hx => hx) (fun v w hf => hf.elim)
noncomputable def huP (p : PS) (a t : Nat) : Int32 := if (pW p a).1 t 10 = 0 then -1 else luP (sndT p.1 (pW p a) t).2.1 ((sndT p.1 (pW p a) t).2.2.1 t) (sndT p.1 (pW p a) t).2.2.2.1
set_option maxRecDepth 100000 in
set_option maxHeartbeats 4000000 in
theorem hu_loop {E : gE} {ad : Nat → Nat} {ws : va_W} {p : PS} {sv : Nat → PS} {sc r len a t : Nat} {ch : Nat → Int32} (ha : a < 2) (ht : t < 8) (hA : TA (pW p a)) (hne : ¬ (pW p a).1 t 10 = 0) :
    ∀ (m i : Nat) (x : Int32) (w : va_W), i + m = t → x = nI i → MW E ad w p sv sc r len ch → FO ws w → SD E ad w 27 (sndT p.1 (pW p a) i).2.1 p.2.1 p.2.2.1 → WY E ad w (28 + 12 * a) (sndT p.1 (pW p a) i).2.2 → Ev E YX6_hurts (fun v9 w9 => v9 = some (.int (huP p a t)) ∧ MW E ad w9 p sv sc r len ch ∧ FO ws w9) nX 0 0 30 [(0, .ref (ad 0)), (1, .int (nI a)), (2, .int (nI t)), (3, .ref (ad (28 + 12 * a))), (4, .int x)] [] w := by
  intro m
  induction m with
  | zero =>
    intro i x w hm hx hM hO hS hV
    obtain rfl : i = t := by omega
    subst hx
    obtain ⟨st2, sz2, r2, g1, g2, g3, g4, g5, g6⟩ := id hV
    refine ev_ss DX6_hurts 2 17 (pc' := 33) (lv' := [(0, .ref _), (1, .int _), (2, .int _), (3, .ref _), (4, .int _)]) (st' := [.int _, .int _]) rfl ?_
    refine ev_icge DX6_hurts 19 rfl (tgt := 58) (by decide) (fun _ => ?_) (fun h => h.elim (nI_le (Nat.le_refl _) (by omega)))
    refine ev_ss DX6_hurts 1 31 (pc' := 59) (lv' := [(0, .ref _), (1, .int _), (2, .int _), (3, .ref _), (4, .int _)]) (st' := [.ref _]) rfl ?_
    refine ev_get DX6_hurts 32 GX6 rfl (k0 := 1) (Nat.le_of_ble_eq_true rfl) fX6_16 hM.1 rfl ?_
    refine ev_ss DX6_hurts 2 33 (pc' := 64) (lv' := [(0, .ref _), (1, .int _), (2, .int _), (3, .ref _), (4, .int _)]) (st' := [.ref _, .ref _, .ref _]) rfl ?_
    refine ev_get DX6_hurts 35 GX5 rfl (k0 := 0) (Nat.le_of_ble_eq_true rfl) fX6_117 g1 rfl ?_
    refine ev_ss DX6_hurts 1 36 (pc' := 68) (lv' := [(0, .ref _), (1, .int _), (2, .int _), (3, .ref _), (4, .int _)]) (st' := [.int _, .ref _, .ref _, .ref _]) rfl ?_
    refine ev_aald4 DX6_hurts 37 rfl g2 (vp_in_nI (by omega) (by decide)) (b := ad (28 + 12 * a + 4 + i)) (arT_at (by omega)) ?_
    refine ev_rV DX6_hurts 38 (m_X1_leastHurt (is := 27) (iw := 28 + 12 * a) ht (by unfold AP; omega) hS hV (TA_sndT hA i (by omega) i ht)) vX1_leastHurt rfl qX6_240 rfl hS.1 rfl (hd_of rfl rfl rfl rfl) (fun v w2 hvw => ?_)
    obtain ⟨rfl, hS2, hV2, hO2⟩ := hvw
    exact ev_iret DX6_hurts 39 rfl rfl ⟨congrArg (fun z => some (Value.int z)) (Eq.symm (if_neg hne)), hM.tsnd ha hS2 hV2 hO2, hO.tr (fun j b => hO2 j (by omega) (by omega))⟩
  | succ m ih =>
    intro i x w hm hx hM hO hS hV
    subst hx
    obtain ⟨st2, sz2, r2, g1, g2, g3, g4, g5, g6⟩ := id hV
    refine ev_ss DX6_hurts 2 17 (pc' := 33) (lv' := [(0, .ref _), (1, .int _), (2, .int _), (3, .ref _), (4, .int _)]) (st' := [.int _, .int _]) rfl ?_
    refine ev_icge DX6_hurts 19 rfl (tgt := 58) (by decide) (fun h => absurd h (nI_ge (b := t) (by omega) (by omega))) (fun _ => ?_)
    refine ev_ss DX6_hurts 1 20 (pc' := 37) (lv' := [(0, .ref _), (1, .int _), (2, .int _), (3, .ref _), (4, .int _)]) (st' := [.ref _]) rfl ?_
    refine ev_get DX6_hurts 21 GX6 rfl (k0 := 1) (Nat.le_of_ble_eq_true rfl) fX6_16 hM.1 rfl ?_
    refine ev_ss DX6_hurts 2 22 (pc' := 42) (lv' := [(0, .ref _), (1, .int _), (2, .int _), (3, .ref _), (4, .int _)]) (st' := [.ref _, .ref _, .ref _]) rfl ?_
    refine ev_get DX6_hurts 24 GX5 rfl (k0 := 0) (Nat.le_of_ble_eq_true rfl) fX6_117 g1 rfl ?_
    refine ev_ss DX6_hurts 1 25 (pc' := 47) (lv' := [(0, .ref _), (1, .int _), (2, .int _), (3, .ref _), (4, .int _)]) (st' := [.int _, .ref _, .ref _, .ref _]) rfl ?_
    refine ev_aald4 DX6_hurts 26 rfl g2 (vp_in_nI (by omega) (by decide)) (b := ad (28 + 12 * a + 4 + i)) (arT_at (by omega)) ?_
    refine ev_rV DX6_hurts 27 (m_X1_sendSign (is := 27) (iw := 28 + 12 * a) (t := i) hS hV (by omega) (by unfold AP; omega) (TA_sndT hA i (by omega) i (by omega))) vX1_sendSign rfl qX6_236 rfl hS.1 rfl (hd_of rfl rfl rfl rfl) (fun v w2 hvw => ?_)
    obtain ⟨rfl, hS2, hV2, hO2⟩ := hvw
    refine ev_ss DX6_hurts 2 28 (pc' := 55) (lv' := [(4, .int _), (0, .ref _), (1, .int _), (2, .int _), (3, .ref _)]) (st' := []) rfl ?_
    refine ev_goto DX6_hurts 30 rfl (tgt := 30) (by decide) ?_
    refine ev_lvp (lv2 := [(0, .ref _), (1, .int _), (2, .int _), (3, .ref _), (4, .int _)]) [1, 2, 3, 4, 0] rfl ?_
    exact ih (i + 1) _ w2 (by omega) (nI_1 i) (hM.tsnd ha hS2 hV2 hO2) (hO.tr (fun j b => hO2 j (by omega) (by omega))) hS2 hV2
set_option maxRecDepth 100000 in
set_option maxHeartbeats 4000000 in
theorem m_X6_hurts {E : gE} {ad : Nat → Nat} {ws : va_W} {p : PS} {sv : Nat → PS} {sc r len : Nat} {ch : Nat → Int32} (h : MW E ad ws p sv sc r len ch) {a t : Nat} (ha : a < 2) (ht : t < 8) (hA : TA (pW p a)) : C0 E YX6_hurts 0 0 [.ref (ad 0), .int (nI a), .int (nI t)] ws (fun v9 w9 => v9 = some (.int (huP p a t)) ∧ MW E ad w9 p sv sc r len ch ∧ FO ws w9) := by
  obtain ⟨st, sz, r9, h1, h2, h3, h4, h5, h6⟩ := h.2.1.way ha
  refine c0V vX6_hurts (Nat.le_of_ble_eq_true rfl) (lv0 := [(0, .ref (ad 0)), (1, .int (nI a)), (2, .int (nI t))]) rfl ?_
  refine ev_ss DX6_hurts 3 0 (pc' := 3) (lv' := [(0, .ref _), (1, .int _), (2, .int _)]) (st' := [.int _, .int _, .ref _]) rfl ?_
  refine ev_cV DX6_hurts 3 (m_X6_toneOf h ha ht) vX6_toneOf rfl qX6_37 rfl h.1 rfl (hd_of rfl rfl rfl rfl) ?_
  refine ev_get DX6_hurts 4 GX3 rfl (k0 := 10) (Nat.le_of_ble_eq_true rfl) fX6_64 (h6 t ht) rfl ?_
  refine ev_ifne DX6_hurts 5 rfl (tgt := 14) (by decide) (fun c_1 => ?_) (fun c_1 => ?_)
  · refine ev_ss DX6_hurts 1 8 (pc' := 15) (lv' := [(0, .ref _), (1, .int _), (2, .int _)]) (st' := [.ref _]) rfl ?_
    refine ev_get DX6_hurts 9 GX6 rfl (k0 := 1) (Nat.le_of_ble_eq_true rfl) fX6_16 h.1 rfl ?_
    refine ev_ss DX6_hurts 1 10 (pc' := 19) (lv' := [(0, .ref _), (1, .int _), (2, .int _)]) (st' := [.ref _, .ref _]) rfl ?_
    refine ev_get DX6_hurts 11 GX6 rfl (k0 := 0) (Nat.le_of_ble_eq_true rfl) fX6_12 h.1 rfl ?_
    refine ev_ss DX6_hurts 1 12 (pc' := 23) (lv' := [(0, .ref _), (1, .int _), (2, .int _)]) (st' := [.int _, .ref _, .ref _]) rfl ?_
    obtain ⟨pt0, hT0⟩ := h.2.2.1
    refine ev_rV DX6_hurts 13 (m_trial h ha) vX1_copyWayFrom rfl qX6_221 rfl hT0.1.1 rfl (hd_of rfl rfl rfl rfl) (fun v w hvw => ?_)
    obtain ⟨rfl, hM, hS, hV, hO⟩ := hvw
    obtain ⟨st2, sz2, r2, g1, g2, g3, g4, g5, g6⟩ := id hV
    refine ev_ss DX6_hurts 3 14 (pc' := 30) (lv' := [(4, .int 0), (3, .ref _), (0, .ref _), (1, .int _), (2, .int _)]) (st' := []) rfl ?_
    refine ev_lvp (lv2 := [(0, .ref _), (1, .int _), (2, .int _), (3, .ref _), (4, .int _)]) [2, 3, 4, 1, 0] rfl ?_
    exact hu_loop ha ht hA c_1 t 0 _ w (Nat.zero_add t) nI_0.symm hM hO hS hV
  · refine ev_ss DX6_hurts 1 6 (pc' := 13) (lv' := [(0, .ref _), (1, .int _), (2, .int _)]) (st' := [.int (-1)]) rfl ?_
    exact ev_iret DX6_hurts 7 rfl rfl ⟨congrArg (fun z => some (Value.int z)) (Eq.symm (if_pos c_1)), h, FO.rf⟩
set_option maxRecDepth 100000 in
set_option maxHeartbeats 4000000 in
theorem xc_X6_hurts_X6_toneOf {E : gE} {ad : Nat → Nat} {ws : va_W} {p : PS} {sv : Nat → PS} {sc r len : Nat} {ch : Nat → Int32} (h : MW E ad ws p sv sc r len ch) {wy t : Int32} (hx : C1 E YX6_toneOf 1 6 [.ref (ad 0), .int wy, .int t] ws (fun _ _ => False) (fun X w => X = xI ∧ w = ws)) : C1 E YX6_hurts 1 6 [.ref (ad 0), .int wy, .int t] ws (fun _ _ => False) (fun X w => X = xI ∧ w = ws) := by
  refine c1V vX6_hurts (Nat.le_of_ble_eq_true rfl) (lv0 := [(0, .ref (ad 0)), (1, .int wy), (2, .int t)]) rfl ?_
  refine ev_ss DX6_hurts 3 0 (pc' := 3) (lv' := [(0, .ref _), (1, .int _), (2, .int _)]) (st' := [.int _, .int _, .ref _]) rfl ?_
  exact ev_xV DX6_hurts 3 0 0 hx vX6_toneOf rfl qX6_37 rfl h.1 rfl (hd_of rfl rfl rfl rfl) rfl (by decide) (by decide) (fun X w hx => hx) (fun v w hf => hf.elim)
theorem pb_len (ch : Nat → Int32) (b0 b1 : List Int32) : ∀ n, ∃ c0 c1, c0 ≤ 4 * n ∧ c1 ≤ 4 * n ∧ bfT ch 0 n = nI c0 ∧ bfT ch 1 n = nI c1 ∧ (pbP ch b0 b1 n).1.length = b0.length + c0 ∧ (pbP ch b0 b1 n).2.length = b1.length + c1
  | 0 => ⟨0, 0, Nat.le_refl _, Nat.le_refl _, rfl, rfl, rfl, rfl⟩
  | n + 1 => by
    obtain ⟨c0, c1, h1, h2, h3, h4, h5, h6⟩ := pb_len ch b0 b1 n
    rw [bfT_s, bfT_s, pbP_s, h3, h4]
    by_cases e3 : tzP ch (n + 1) = 3
    · simp only [if_pos e3]
      rcases wnP_01 ch (n + 1) (by rw [e3]; decide) (by rw [e3]; decide) with e | e
      · simp only [if_pos e, show ¬ wnP ch (n + 1) = 1 from by rw [e]; decide, if_false]
        exact ⟨c0 + 4, c1, by omega, by omega, nI_add c0 4, Int32.add_zero _, by simp [dg4, h5]; omega, h6⟩
      · simp only [if_pos e, show ¬ wnP ch (n + 1) = 0 from by rw [e]; decide, if_false]
        exact ⟨c0, c1 + 4, by omega, by omega, Int32.add_zero _, nI_add c1 4, h5, by simp [dg4, h6]; omega⟩
    · simp only [if_neg e3]
      exact ⟨c0, c1, by omega, by omega, Int32.add_zero _, Int32.add_zero _, h5, h6⟩
theorem pb_mono (ch : Nat → Int32) (b0 b1 : List Int32) (n : Nat) : (pbP ch b0 b1 n).1.length ≤ (pbP ch b0 b1 (n + 1)).1.length ∧ (pbP ch b0 b1 n).2.length ≤ (pbP ch b0 b1 (n + 1)).2.length := by
  rw [pbP_s]
  split
  · split
    · exact ⟨by simp, Nat.le_refl _⟩
    · exact ⟨Nat.le_refl _, by simp⟩
  · exact ⟨Nat.le_refl _, Nat.le_refl _⟩
theorem pb_le (ch : Nat → Int32) (b0 b1 : List Int32) : ∀ (m i : Nat), (pbP ch b0 b1 i).1.length ≤ (pbP ch b0 b1 (i + m)).1.length ∧ (pbP ch b0 b1 i).2.length ≤ (pbP ch b0 b1 (i + m)).2.length
  | 0, i => ⟨Nat.le_refl _, Nat.le_refl _⟩
  | m + 1, i => ⟨Nat.le_trans (pb_le ch b0 b1 m i).1 (pb_mono ch b0 b1 (i + m)).1, Nat.le_trans (pb_le ch b0 b1 m i).2 (pb_mono ch b0 b1 (i + m)).2⟩
/-- too many bits would wait -/
def bSy (p : PS) (len : Nat) (ch : Nat → Int32) : Prop := 256 < nI p.2.2.2.1.2.1.length + bfT ch 0 len ∨ 256 < nI p.2.2.2.2.2.1.length + bfT ch 1 len
def pSay (p : PS) (len : Nat) (ch : Nat → Int32) : PS := (p.1, p.2.1, p.2.2.1, (p.2.2.2.1.1, (pbP ch p.2.2.2.1.2.1 p.2.2.2.2.2.1 len).1, p.2.2.2.1.2.2), (p.2.2.2.2.1, (pbP ch p.2.2.2.1.2.1 p.2.2.2.2.2.1 len).2, p.2.2.2.2.2.2))
theorem pb_cap {ch : Nat → Int32} {b0 b1 : List Int32} {n : Nat} (hn : n ≤ 60) (h0 : b0.length ≤ 256) (h1 : b1.length ≤ 256) (h2 : ¬ 256 < nI b0.length + bfT ch 0 n) (h3 : ¬ 256 < nI b1.length + bfT ch 1 n) : ∀ i, i ≤ n → (pbP ch b0 b1 i).1.length ≤ 256 ∧ (pbP ch b0 b1 i).2.length ≤ 256 := by
  intro i hi
  obtain ⟨c0, c1, q1, q2, q3, q4, q5, q6⟩ := pb_len ch b0 b1 n
  obtain ⟨m, rfl⟩ := Nat.le.dest hi
  have hl := pb_le ch b0 b1 m i
  rw [q3, nI_add] at h2
  rw [q4, nI_add] at h3
  have e0 : ¬ 256 < b0.length + c0 := fun e => h2 ((nI_ltI (a := 256) (by decide) (by omega)).mpr e)
  have e1 : ¬ 256 < b1.length + c1 := fun e => h3 ((nI_ltI (a := 256) (by decide) (by omega)).mpr e)
  omega
set_option maxRecDepth 100000 in
set_option maxHeartbeats 4000000 in
theorem m_X6_say {E : gE} {ad : Nat → Nat} {ws : va_W} {p : PS} {sv : Nat → PS} {sc r len : Nat} {ch : Nat → Int32} (h : MW E ad ws p sv sc r len ch) (hsc : sc ≤ 6) (hc : tzP ch len = 3) (hb : ¬ bSy p len ch) : C0 E YX6_say 0 0 [.ref (ad 0)] ws (fun v9 w9 => v9 = some (.int (bfT ch 0 len + bfT ch 1 len)) ∧ (∃ r2, MW E ad w9 (pSay p len ch) (svN p sv sc) (scN sc) r2 0 ch) ∧ FO ws w9) := by
  obtain ⟨st, sz, r9, h1, h2, h3, h4, h5, h6⟩ := h.2.1.2.1
  obtain ⟨st2, sz2, r2, g1, g2, g3, g4, g5, g6⟩ := h.2.1.2.2
  have z1 := RQ_sz h5
  have z2 := RQ_sz g5
  have hcap := pb_cap (ch := ch) h.2.2.2.2.2.1.1 z1.2 z2.2 (fun e => hb (Or.inl e)) (fun e => hb (Or.inr e))
  refine c0V vX6_say (Nat.le_of_ble_eq_true rfl) (lv0 := [(0, .ref (ad 0))]) rfl ?_
  refine ev_ss DX6_say 1 0 (pc' := 1) (lv' := [(0, .ref _)]) (st' := [.ref _]) rfl ?_
  refine ev_get DX6_say 1 GX6 rfl (k0 := 4) (Nat.le_of_ble_eq_true rfl) fX6_33 h.1 rfl ?_
  refine ev_cV DX6_say 2 (m_X2_isComplete h.2.2.2.2.2.1) vX2_isComplete rfl qX6_138 rfl h.2.2.2.2.2.1.2.1 rfl (hd_of rfl rfl rfl rfl) ?_
  refine ev_ifne DX6_say 3 rfl (tgt := 20) (by decide) (fun _ => ?_) (fun h => absurd h (by rw [if_pos hc]; decide))
  refine ev_ss DX6_say 1 9 (pc' := 21) (lv' := [(0, .ref _)]) (st' := [.ref _]) rfl ?_
  refine ev_get DX6_say 10 GX6 rfl (k0 := 4) (Nat.le_of_ble_eq_true rfl) fX6_33 h.1 rfl ?_
  refine ev_ss DX6_say 1 11 (pc' := 25) (lv' := [(0, .ref _)]) (st' := [.int 0, .ref _]) rfl ?_
  refine ev_cV DX6_say 12 (m_X2_bitsFor h.2.2.2.2.2.1) vX2_bitsFor rfl qX6_144 rfl h.2.2.2.2.2.1.2.1 rfl (hd_of rfl rfl rfl rfl) ?_
  refine ev_ss DX6_say 2 13 (pc' := 30) (lv' := [(1, .int _), (0, .ref _)]) (st' := [.ref _]) rfl ?_
  refine ev_get DX6_say 15 GX6 rfl (k0 := 4) (Nat.le_of_ble_eq_true rfl) fX6_33 h.1 rfl ?_
  refine ev_ss DX6_say 1 16 (pc' := 34) (lv' := [(1, .int _), (0, .ref _)]) (st' := [.int 1, .ref _]) rfl ?_
  refine ev_cV DX6_say 17 (m_X2_bitsFor h.2.2.2.2.2.1) vX2_bitsFor rfl qX6_144 rfl h.2.2.2.2.2.1.2.1 rfl (hd_of rfl rfl rfl rfl) ?_
  refine ev_ss DX6_say 2 18 (pc' := 39) (lv' := [(2, .int _), (1, .int _), (0, .ref _)]) (st' := [.ref _]) rfl ?_
  refine ev_get DX6_say 20 GX6 rfl (k0 := 0) (Nat.le_of_ble_eq_true rfl) fX6_12 h.1 rfl ?_
  refine ev_get DX6_say 21 GX1 rfl (k0 := 0) (Nat.le_of_ble_eq_true rfl) fX6_147 h.2.1.1.1 rfl ?_
  refine ev_get DX6_say 22 GX5 rfl (k0 := 1) (Nat.le_of_ble_eq_true rfl) fX6_151 h1 rfl ?_
  refine ev_get DX6_say 23 GX4 rfl (k0 := 2) (Nat.le_of_ble_eq_true rfl) fX6_155 h3 rfl ?_
  refine ev_ss DX6_say 3 24 (pc' := 56) (lv' := [(2, .int _), (1, .int _), (0, .ref _)]) (st' := [.int 256, .int _]) rfl ?_
  refine ev_icgt DX6_say 27 rfl (tgt := 80) (by decide) (fun h => absurd h (fun e => hb (Or.inl (by rw [← z1.1]; exact e)))) (fun _ => ?_)
  refine ev_ss DX6_say 1 28 (pc' := 60) (lv' := [(2, .int _), (1, .int _), (0, .ref _)]) (st' := [.ref _]) rfl ?_
  refine ev_get DX6_say 29 GX6 rfl (k0 := 0) (Nat.le_of_ble_eq_true rfl) fX6_12 h.1 rfl ?_
  refine ev_get DX6_say 30 GX1 rfl (k0 := 1) (Nat.le_of_ble_eq_true rfl) fX6_160 h.2.1.1.1 rfl ?_
  refine ev_get DX6_say 31 GX5 rfl (k0 := 1) (Nat.le_of_ble_eq_true rfl) fX6_151 g1 rfl ?_
  refine ev_get DX6_say 32 GX4 rfl (k0 := 2) (Nat.le_of_ble_eq_true rfl) fX6_155 g3 rfl ?_
  refine ev_ss DX6_say 3 33 (pc' := 77) (lv' := [(2, .int _), (1, .int _), (0, .ref _)]) (st' := [.int 256, .int _]) rfl ?_
  refine ev_icle DX6_say 36 rfl (tgt := 90) (by decide) (fun _ => ?_) (fun h => h.elim (Int32.not_lt.mp (fun e => hb (Or.inr (by rw [← z2.1]; exact e)))))
  refine ev_ss DX6_say 1 42 (pc' := 91) (lv' := [(2, .int _), (1, .int _), (0, .ref _)]) (st' := [.ref _]) rfl ?_
  refine ev_rV DX6_say 43 (m_X6_save h hsc) vX6_save rfl qX6_45 rfl h.1 rfl (hd_of rfl rfl rfl rfl) (fun v w hvw => ?_)
  obtain ⟨rfl, ⟨r3, hM⟩, hO⟩ := hvw
  refine ev_ss DX6_say 1 44 (pc' := 95) (lv' := [(2, .int _), (1, .int _), (0, .ref _)]) (st' := [.ref _]) rfl ?_
  refine ev_get DX6_say 45 GX6 rfl (k0 := 4) (Nat.le_of_ble_eq_true rfl) fX6_33 hM.1 rfl ?_
  refine ev_ss DX6_say 1 46 (pc' := 99) (lv' := [(2, .int _), (1, .int _), (0, .ref _)]) (st' := [.ref _, .ref _]) rfl ?_
  refine ev_get DX6_say 47 GX6 rfl (k0 := 0) (Nat.le_of_ble_eq_true rfl) fX6_12 hM.1 rfl ?_
  refine ev_rV DX6_say 48 (m_X2_putBits (it := 56) (is := 1) (by omega) hM.2.2.2.2.2.1 hM.2.1.1 hM.2.1.2.1 hM.2.1.2.2 hcap) vX2_putBits rfl qX6_165 rfl hM.2.2.2.2.2.1.2.1 rfl (hd_of rfl rfl rfl rfl) (fun v w2 hvw => ?_)
  obtain ⟨rfl, hA2, hB2, hO2⟩ := hvw
  have hM2 : MW E ad w2 (pSay p len ch) (svN p sv sc) (scN sc) r3 len ch := hM.now ⟨hM.2.1.1.of (hO2 _ (by decide)) (hO2 _ (by decide)), hA2, hB2⟩ (fun j b => hO2 j (by omega))
  obtain ⟨hl9, t1, g9, t2, t3⟩ := hM2.2.2.2.2.2.1
  refine ev_ss DX6_say 1 49 (pc' := 106) (lv' := [(2, .int _), (1, .int _), (0, .ref _)]) (st' := [.ref _]) rfl ?_
  refine ev_get DX6_say 50 GX6 rfl (k0 := 4) (Nat.le_of_ble_eq_true rfl) fX6_33 hM2.1 rfl ?_
  refine ev_ss DX6_say 1 51 (pc' := 110) (lv' := [(2, .int _), (1, .int _), (0, .ref _)]) (st' := [.int 0, .ref _]) rfl ?_
  refine ev_put (fs' := [_, _]) DX6_say 52 GX2 rfl (k0 := 1) (Nat.le_of_ble_eq_true rfl) fX6_126 rfl ⟨rfl, rfl⟩ t1 (Nat.le_of_ble_eq_true rfl) rfl rfl ?_
  refine ev_ss DX6_say 3 53 (pc' := 116) (lv' := [(2, .int _), (1, .int _), (0, .ref _)]) (st' := [.int _]) rfl ?_
  exact ev_iret DX6_say 56 rfl rfl ⟨rfl, ⟨r3, hM2.txt ⟨by decide, wset_get t1, g9, wset_n t2 (by decide), fun j hj => absurd hj (Nat.not_lt_zero j)⟩ (fun j a b => List.getElem?_set_ne (Ne.symm a))⟩, hO.tr (fun j b => by rw [List.getElem?_set_ne (by omega)]; exact hO2 j (by omega))⟩
set_option maxRecDepth 100000 in
set_option maxHeartbeats 4000000 in
theorem x_X6_say_c {E : gE} {ad : Nat → Nat} {ws : va_W} {p : PS} {sv : Nat → PS} {sc r len : Nat} {ch : Nat → Int32} (h : MW E ad ws p sv sc r len ch) (hc : ¬ tzP ch len = 3) : C1 E YX6_say 1 6 [.ref (ad 0)] ws (fun _ _ => False) (fun X w => X = xA ∧ w = ws) := by
  refine c1V vX6_say (Nat.le_of_ble_eq_true rfl) (lv0 := [(0, .ref (ad 0))]) rfl ?_
  refine ev_ss DX6_say 1 0 (pc' := 1) (lv' := [(0, .ref _)]) (st' := [.ref _]) rfl ?_
  refine ev_get DX6_say 1 GX6 rfl (k0 := 4) (Nat.le_of_ble_eq_true rfl) fX6_33 h.1 rfl ?_
  refine ev_cV DX6_say 2 (m_X2_isComplete h.2.2.2.2.2.1) vX2_isComplete rfl qX6_138 rfl h.2.2.2.2.2.1.2.1 rfl (hd_of rfl rfl rfl rfl) ?_
  refine ev_ifne DX6_say 3 rfl (tgt := 20) (by decide) (fun h => h.elim (if_neg hc)) (fun _ => ?_)
  exact ev_throw DX6_say 4 XbA rfl rfl nX6_57 (List.mem_of_getElem? (i := 17) rfl) rfl rfl rfl rfl rfl (Nat.le_of_ble_eq_true rfl) (Nat.le_of_ble_eq_true rfl) (by decide) (by decide) ⟨rfl, rfl⟩
set_option maxRecDepth 100000 in
set_option maxHeartbeats 4000000 in
theorem x_X6_say_b {E : gE} {ad : Nat → Nat} {ws : va_W} {p : PS} {sv : Nat → PS} {sc r len : Nat} {ch : Nat → Int32} (h : MW E ad ws p sv sc r len ch) (hc : tzP ch len = 3) (hb : bSy p len ch) : C1 E YX6_say 1 6 [.ref (ad 0)] ws (fun _ _ => False) (fun X w => X = xS ∧ w = ws) := by
  obtain ⟨st, sz, r9, h1, h2, h3, h4, h5, h6⟩ := h.2.1.2.1
  obtain ⟨st2, sz2, r2, g1, g2, g3, g4, g5, g6⟩ := h.2.1.2.2
  have z1 := RQ_sz h5
  have z2 := RQ_sz g5
  unfold bSy at hb
  rw [← z1.1, ← z2.1] at hb
  refine c1V vX6_say (Nat.le_of_ble_eq_true rfl) (lv0 := [(0, .ref (ad 0))]) rfl ?_
  refine ev_ss DX6_say 1 0 (pc' := 1) (lv' := [(0, .ref _)]) (st' := [.ref _]) rfl ?_
  refine ev_get DX6_say 1 GX6 rfl (k0 := 4) (Nat.le_of_ble_eq_true rfl) fX6_33 h.1 rfl ?_
  refine ev_cV DX6_say 2 (m_X2_isComplete h.2.2.2.2.2.1) vX2_isComplete rfl qX6_138 rfl h.2.2.2.2.2.1.2.1 rfl (hd_of rfl rfl rfl rfl) ?_
  refine ev_ifne DX6_say 3 rfl (tgt := 20) (by decide) (fun _ => ?_) (fun h => absurd h (by rw [if_pos hc]; decide))
  refine ev_ss DX6_say 1 9 (pc' := 21) (lv' := [(0, .ref _)]) (st' := [.ref _]) rfl ?_
  refine ev_get DX6_say 10 GX6 rfl (k0 := 4) (Nat.le_of_ble_eq_true rfl) fX6_33 h.1 rfl ?_
  refine ev_ss DX6_say 1 11 (pc' := 25) (lv' := [(0, .ref _)]) (st' := [.int 0, .ref _]) rfl ?_
  refine ev_cV DX6_say 12 (m_X2_bitsFor h.2.2.2.2.2.1) vX2_bitsFor rfl qX6_144 rfl h.2.2.2.2.2.1.2.1 rfl (hd_of rfl rfl rfl rfl) ?_
  refine ev_ss DX6_say 2 13 (pc' := 30) (lv' := [(1, .int _), (0, .ref _)]) (st' := [.ref _]) rfl ?_
  refine ev_get DX6_say 15 GX6 rfl (k0 := 4) (Nat.le_of_ble_eq_true rfl) fX6_33 h.1 rfl ?_
  refine ev_ss DX6_say 1 16 (pc' := 34) (lv' := [(1, .int _), (0, .ref _)]) (st' := [.int 1, .ref _]) rfl ?_
  refine ev_cV DX6_say 17 (m_X2_bitsFor h.2.2.2.2.2.1) vX2_bitsFor rfl qX6_144 rfl h.2.2.2.2.2.1.2.1 rfl (hd_of rfl rfl rfl rfl) ?_
  refine ev_ss DX6_say 2 18 (pc' := 39) (lv' := [(2, .int _), (1, .int _), (0, .ref _)]) (st' := [.ref _]) rfl ?_
  refine ev_get DX6_say 20 GX6 rfl (k0 := 0) (Nat.le_of_ble_eq_true rfl) fX6_12 h.1 rfl ?_
  refine ev_get DX6_say 21 GX1 rfl (k0 := 0) (Nat.le_of_ble_eq_true rfl) fX6_147 h.2.1.1.1 rfl ?_
  refine ev_get DX6_say 22 GX5 rfl (k0 := 1) (Nat.le_of_ble_eq_true rfl) fX6_151 h1 rfl ?_
  refine ev_get DX6_say 23 GX4 rfl (k0 := 2) (Nat.le_of_ble_eq_true rfl) fX6_155 h3 rfl ?_
  refine ev_ss DX6_say 3 24 (pc' := 56) (lv' := [(2, .int _), (1, .int _), (0, .ref _)]) (st' := [.int 256, .int _]) rfl ?_
  refine ev_icgt DX6_say 27 rfl (tgt := 80) (by decide) (fun c_2 => ?_) (fun c_2 => ?_)
  · exact ev_throw DX6_say 37 XbS rfl rfl nX6_73 (List.mem_of_getElem? (i := 18) rfl) rfl rfl rfl rfl rfl (Nat.le_of_ble_eq_true rfl) (Nat.le_of_ble_eq_true rfl) (by decide) (by decide) ⟨rfl, rfl⟩
  · refine ev_ss DX6_say 1 28 (pc' := 60) (lv' := [(2, .int _), (1, .int _), (0, .ref _)]) (st' := [.ref _]) rfl ?_
    refine ev_get DX6_say 29 GX6 rfl (k0 := 0) (Nat.le_of_ble_eq_true rfl) fX6_12 h.1 rfl ?_
    refine ev_get DX6_say 30 GX1 rfl (k0 := 1) (Nat.le_of_ble_eq_true rfl) fX6_160 h.2.1.1.1 rfl ?_
    refine ev_get DX6_say 31 GX5 rfl (k0 := 1) (Nat.le_of_ble_eq_true rfl) fX6_151 g1 rfl ?_
    refine ev_get DX6_say 32 GX4 rfl (k0 := 2) (Nat.le_of_ble_eq_true rfl) fX6_155 g3 rfl ?_
    refine ev_ss DX6_say 3 33 (pc' := 77) (lv' := [(2, .int _), (1, .int _), (0, .ref _)]) (st' := [.int 256, .int _]) rfl ?_
    refine ev_icle DX6_say 36 rfl (tgt := 90) (by decide) (fun c_3 => ?_) (fun c_3 => ?_)
    · exact absurd (hb.resolve_left c_2) (Int32.not_lt.mpr c_3)
    · exact ev_throw DX6_say 37 XbS rfl rfl nX6_73 (List.mem_of_getElem? (i := 18) rfl) rfl rfl rfl rfl rfl (Nat.le_of_ble_eq_true rfl) (Nat.le_of_ble_eq_true rfl) (by decide) (by decide) ⟨rfl, rfl⟩
