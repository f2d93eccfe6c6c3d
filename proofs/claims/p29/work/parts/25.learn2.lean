noncomputable def pLearn (p : PS) (a n : Nat) : PS := ((lrN (p.2.2.1 0) p.1 (pW p a) n).1, p.2.1 + nI n, (pSet p a (tlW (p.2.2.1 0) (p.2.2.1 1) p.1 (pW p a) n)).2.2)
noncomputable def pSend (p : PS) (a n : Nat) : PS := ((btN (p.2.2.1 2) p.1 (pW p a) n).2.1, p.2.1 + nI n, (pSet p a (btN (p.2.2.1 2) p.1 (pW p a) n).2.2).2.2)
theorem pW_set {p : PS} {a : Nat} {σ : WS} : pW (pSet p a σ) a = σ := by
  unfold pW pSet
  by_cases e : a = 0
  · rw [if_pos e, if_pos e]
  · rw [if_neg e, if_neg e]
theorem pSet_set {p : PS} {a : Nat} {σ τ : WS} : pSet (pSet p a σ) a τ = pSet p a τ := by
  unfold pSet
  by_cases e : a = 0
  · rw [if_pos e, if_pos e]; simp [e]
  · rw [if_neg e, if_neg e]; simp [e]
theorem pSet_id {p : PS} {a : Nat} : pSet p a (pW p a) = p := by
  unfold pSet pW
  by_cases e : a = 0
  · rw [if_pos e, if_pos e]
  · rw [if_neg e, if_neg e]
/-- what a lesson needs: the gains of noise, the patience -/
def LN (p : PS) (a : Nat) : Prop := (∀ t, t < 8 → TN ((pW p a).1 t)) ∧ ¬ p.2.2.1 0 ≤ 0 ∧ ¬ (128 : Int32) * p.2.2.1 0 = 0
theorem nbB {b : Int32} (h : ¬ bB b) : ∃ n, 1 ≤ n ∧ n ≤ 100 ∧ b = nI n := by
  have h1 : ¬ b < 1 := fun e => h (Or.inl e)
  have h2 : ¬ 100 < b := fun e => h (Or.inr e)
  have h0 : ¬ b < 0 := fun e => h1 (Int32.lt_trans e (by decide))
  obtain ⟨n, hn, e⟩ := nI_of2 (M := 100) (n := 100) rfl h0 (Int32.not_lt.mp h2)
  refine ⟨n, ?_, hn, e⟩
  cases n with
  | zero => exact absurd (by rw [e]; decide) h1
  | succ m => omega
theorem bB_nI {n : Nat} (h1 : 1 ≤ n) (h2 : n ≤ 100) : ¬ bB (nI n) := fun e => e.elim (nI_nlt (b := 1) h1 (by omega)) (nI_nlt (a := 100) h2 (by decide))
theorem STA.setL {E : gE} {ad : Nat → Nat} {ws w : va_W} {p : PS} {sd bt : Int32} {σ : WS} {a : Nat} (ha : a < 2) (h : STA E ad ws 1 p) (hS : SD E ad w 1 sd bt p.2.2.1) (hW : WY E ad w (2 + 12 * a) σ) (hO : ∀ j, j ≠ 1 → (j < 2 + 12 * a ∨ 2 + 12 * a + 12 ≤ j) → j < 27 → w[j]? = ws[j]?) : STA E ad w 1 (sd, bt, (pSet p a σ).2.2) := by
  rcases (show a = 0 ∨ a = 1 by omega) with rfl | rfl
  · exact ⟨hS, hW, h.2.2.of (fun j b c => hO j (by omega) (by omega) (by omega))⟩
  · exact ⟨hS, h.2.1.of (fun j b c => hO j (by omega) (by omega) (by omega)), hW⟩
set_option maxRecDepth 100000 in
set_option maxHeartbeats 4000000 in
theorem m_X6_learn {E : gE} {ad : Nat → Nat} {ws : va_W} {p : PS} {sv : Nat → PS} {sc r len : Nat} {ch : Nat → Int32} (h : MW E ad ws p sv sc r len ch) {a n : Nat} (ha : a < 2) (hn1 : 1 ≤ n) (hn2 : n ≤ 100) (hsc : sc ≤ 6) (hl : ¬ 5000 < p.2.1 + nI n) (hN : LN p a) : C0 E YX6_learn 0 0 [.ref (ad 0), .int (nI a), .int (nI n)] ws (fun v9 w9 => v9 = some (.int (sumN (fun t => (pW (pLearn p a n) a).1 t 10) 8)) ∧ (∃ r2, MW E ad w9 (pLearn p a n) (svN p sv sc) (scN sc) r2 len ch) ∧ FO ws w9) := by
  refine c0V vX6_learn (Nat.le_of_ble_eq_true rfl) (lv0 := [(0, .ref (ad 0)), (1, .int (nI a)), (2, .int (nI n))]) rfl ?_
  refine ev_ss DX6_learn 2 0 (pc' := 2) (lv' := [(0, .ref _), (1, .int _), (2, .int _)]) (st' := [.int _, .ref _]) rfl ?_
  refine ev_cV DX6_learn 2 (m_X6_wayOf h ha) vX6_wayOf rfl qX6_94 rfl h.1 rfl (hd_of rfl rfl rfl rfl) ?_
  refine ev_ss DX6_learn 2 3 (pc' := 7) (lv' := [(3, .ref _), (0, .ref _), (1, .int _), (2, .int _)]) (st' := [.int _]) rfl ?_
  refine ev_cS DX6_learn 5 (m_X6_checkBeats (bB_nI hn1 hn2)) vX6_checkBeats rfl qX6_98 rfl (hd_of rfl rfl rfl rfl) ?_
  refine ev_ss DX6_learn 2 6 (pc' := 12) (lv' := [(3, .ref _), (0, .ref _), (1, .int _), (2, .int _)]) (st' := [.int _, .ref _]) rfl ?_
  refine ev_cV DX6_learn 8 (m_X6_checkBeatsLeft h hl) vX6_checkBeatsLeft rfl qX6_101 rfl h.1 rfl (hd_of rfl rfl rfl rfl) ?_
  refine ev_ss DX6_learn 1 9 (pc' := 16) (lv' := [(3, .ref _), (0, .ref _), (1, .int _), (2, .int _)]) (st' := [.ref _]) rfl ?_
  refine ev_rV DX6_learn 10 (m_X6_save h hsc) vX6_save rfl qX6_45 rfl h.1 rfl (hd_of rfl rfl rfl rfl) (fun v w hvw => ?_)
  obtain ⟨rfl, ⟨r2, hM⟩, hO⟩ := hvw
  obtain ⟨lb, sz, hL⟩ := hM.2.2.2.2.1
  refine ev_ss DX6_learn 1 11 (pc' := 20) (lv' := [(3, .ref _), (0, .ref _), (1, .int _), (2, .int _)]) (st' := [.ref _]) rfl ?_
  refine ev_get DX6_learn 12 GX6 rfl (k0 := 0) (Nat.le_of_ble_eq_true rfl) fX6_12 hM.1 rfl ?_
  refine ev_ss DX6_learn 3 13 (pc' := 26) (lv' := [(3, .ref _), (0, .ref _), (1, .int _), (2, .int _)]) (st' := [.ref _, .int _, .ref _, .ref _]) rfl ?_
  refine ev_get DX6_learn 16 GX6 rfl (k0 := 3) (Nat.le_of_ble_eq_true rfl) fX6_26 hM.1 rfl ?_
  refine ev_rV DX6_learn 17 (m_X1_takeLesson (is := 1) (iw := 2 + 12 * a) (il := 54) (by omega) (by unfold AL; omega) hM.2.1.1 (hM.2.1.way ha) hL hN.1 hN.2.1 hN.2.2) vX1_takeLesson rfl qX6_104 rfl hM.2.1.1.1 rfl (hd_of rfl rfl rfl rfl) (fun v w2 hvw => ?_)
  obtain ⟨rfl, hS2, hW2, hL2, hO2⟩ := hvw
  have hM2 : MW E ad w2 (pLearn p a n) (svN p sv sc) (scN sc) r2 len ch := hM.nowL (STA.setL ha hM.2.1 hS2 hW2 (fun j b c d => hO2 j b c (by omega) (by omega))) hL2 (fun j b c d => hO2 j (by omega) (by omega) c d)
  have hWy := hM2.2.1.way ha
  have hWx : ∃ v9, w2[2 + 12 * a]? = some (ad (2 + 12 * a), .inr (5, v9)) := by obtain ⟨_, _, _, e, _⟩ := hWy; exact ⟨_, e⟩
  obtain ⟨v9, hWx⟩ := hWx
  refine ev_ss DX6_learn 1 18 (pc' := 33) (lv' := [(3, .ref _), (0, .ref _), (1, .int _), (2, .int _)]) (st' := [.ref _]) rfl ?_
  refine ev_cV DX6_learn 19 (wbits hWy) vX5_bits rfl qX6_108 rfl hWx rfl (hd_of rfl rfl rfl rfl) ?_
  exact ev_iret DX6_learn 20 rfl rfl ⟨rfl, ⟨r2, hM2⟩, hO.tr (fun j hj => hO2 j (by omega) (by omega) (by omega) (by omega))⟩
set_option maxRecDepth 100000 in
set_option maxHeartbeats 4000000 in
theorem m_X6_send {E : gE} {ad : Nat → Nat} {ws : va_W} {p : PS} {sv : Nat → PS} {sc r len : Nat} {ch : Nat → Int32} (h : MW E ad ws p sv sc r len ch) {a n : Nat} (ha : a < 2) (hn1 : 1 ≤ n) (hn2 : n ≤ 100) (hsc : sc ≤ 6) (hl : ¬ 5000 < p.2.1 + nI n) (hA : TA (pW p a)) : C0 E YX6_send 0 0 [.ref (ad 0), .int (nI a), .int (nI n)] ws (fun v9 w9 => v9 = some (.int (btN (p.2.2.1 2) p.1 (pW p a) n).1) ∧ (∃ r2, MW E ad w9 (pSend p a n) (svN p sv sc) (scN sc) r2 len ch) ∧ FO ws w9) := by
  refine c0V vX6_send (Nat.le_of_ble_eq_true rfl) (lv0 := [(0, .ref (ad 0)), (1, .int (nI a)), (2, .int (nI n))]) rfl ?_
  refine ev_ss DX6_send 2 0 (pc' := 2) (lv' := [(0, .ref _), (1, .int _), (2, .int _)]) (st' := [.int _, .ref _]) rfl ?_
  refine ev_cV DX6_send 2 (m_X6_wayOf h ha) vX6_wayOf rfl qX6_94 rfl h.1 rfl (hd_of rfl rfl rfl rfl) ?_
  refine ev_ss DX6_send 2 3 (pc' := 7) (lv' := [(3, .ref _), (0, .ref _), (1, .int _), (2, .int _)]) (st' := [.int _]) rfl ?_
  refine ev_cS DX6_send 5 (m_X6_checkBeats (bB_nI hn1 hn2)) vX6_checkBeats rfl qX6_98 rfl (hd_of rfl rfl rfl rfl) ?_
  refine ev_ss DX6_send 2 6 (pc' := 12) (lv' := [(3, .ref _), (0, .ref _), (1, .int _), (2, .int _)]) (st' := [.int _, .ref _]) rfl ?_
  refine ev_cV DX6_send 8 (m_X6_checkBeatsLeft h hl) vX6_checkBeatsLeft rfl qX6_101 rfl h.1 rfl (hd_of rfl rfl rfl rfl) ?_
  refine ev_ss DX6_send 1 9 (pc' := 16) (lv' := [(3, .ref _), (0, .ref _), (1, .int _), (2, .int _)]) (st' := [.ref _]) rfl ?_
  refine ev_rV DX6_send 10 (m_X6_save h hsc) vX6_save rfl qX6_45 rfl h.1 rfl (hd_of rfl rfl rfl rfl) (fun v w hvw => ?_)
  obtain ⟨rfl, ⟨r2, hM⟩, hO⟩ := hvw
  refine ev_ss DX6_send 1 11 (pc' := 20) (lv' := [(3, .ref _), (0, .ref _), (1, .int _), (2, .int _)]) (st' := [.ref _]) rfl ?_
  refine ev_get DX6_send 12 GX6 rfl (k0 := 0) (Nat.le_of_ble_eq_true rfl) fX6_12 hM.1 rfl ?_
  refine ev_ss DX6_send 2 13 (pc' := 25) (lv' := [(3, .ref _), (0, .ref _), (1, .int _), (2, .int _)]) (st' := [.int _, .ref _, .ref _]) rfl ?_
  refine ev_rV DX6_send 15 (m_X1_sendBeats (is := 1) (iw := 2 + 12 * a) (n := n) (by omega) (by unfold AP; omega) hM.2.1.1 (hM.2.1.way ha) hA) vX1_sendBeats rfl qX6_113 rfl hM.2.1.1.1 rfl (hd_of rfl rfl rfl rfl) (fun v w2 hvw => ?_)
  obtain ⟨rfl, hS2, hW2, hO2⟩ := hvw
  have hM2 : MW E ad w2 (pSend p a n) (svN p sv sc) (scN sc) r2 len ch := hM.now (STA.setL ha hM.2.1 hS2 hW2 (fun j b c d => hO2 j b c)) (fun j b => hO2 j (by omega) (by omega))
  exact ev_iret DX6_send 16 rfl rfl ⟨rfl, ⟨r2, hM2⟩, hO.tr (fun j hj => hO2 j (by omega) (by omega))⟩
set_option maxRecDepth 100000 in
set_option maxHeartbeats 4000000 in
theorem xc_X6_learn_X6_wayOf {E : gE} {ad : Nat → Nat} {ws : va_W} {p : PS} {sv : Nat → PS} {sc r len : Nat} {ch : Nat → Int32} (h : MW E ad ws p sv sc r len ch) {wy b : Int32} (hx : C1 E YX6_wayOf 1 6 [.ref (ad 0), .int wy] ws (fun _ _ => False) (fun X w => X = xI ∧ w = ws)) : C1 E YX6_learn 1 6 [.ref (ad 0), .int wy, .int b] ws (fun _ _ => False) (fun X w => X = xI ∧ w = ws) := by
  refine c1V vX6_learn (Nat.le_of_ble_eq_true rfl) (lv0 := [(0, .ref (ad 0)), (1, .int wy), (2, .int b)]) rfl ?_
  refine ev_ss DX6_learn 2 0 (pc' := 2) (lv' := [(0, .ref _), (1, .int _), (2, .int _)]) (st' := [.int _, .ref _]) rfl ?_
  exact ev_xV DX6_learn 2 0 0 hx vX6_wayOf rfl qX6_94 rfl h.1 rfl (hd_of rfl rfl rfl rfl) rfl (by decide) (by decide) (fun X w hx => hx) (fun v w hf => hf.elim)
set_option maxRecDepth 100000 in
set_option maxHeartbeats 4000000 in
theorem xc_X6_learn_X6_checkBeats {E : gE} {ad : Nat → Nat} {ws : va_W} {p : PS} {sv : Nat → PS} {sc r len : Nat} {ch : Nat → Int32} (h : MW E ad ws p sv sc r len ch) {a : Nat} {b : Int32} (ha : a < 2) (hx : C1 E YX6_checkBeats 1 6 [.int b] ws (fun _ _ => False) (fun X w => X = xA ∧ w = ws)) : C1 E YX6_learn 1 6 [.ref (ad 0), .int (nI a), .int b] ws (fun _ _ => False) (fun X w => X = xA ∧ w = ws) := by
  refine c1V vX6_learn (Nat.le_of_ble_eq_true rfl) (lv0 := [(0, .ref (ad 0)), (1, .int (nI a)), (2, .int b)]) rfl ?_
  refine ev_ss DX6_learn 2 0 (pc' := 2) (lv' := [(0, .ref _), (1, .int _), (2, .int _)]) (st' := [.int _, .ref _]) rfl ?_
  refine ev_cV DX6_learn 2 (m_X6_wayOf h ha) vX6_wayOf rfl qX6_94 rfl h.1 rfl (hd_of rfl rfl rfl rfl) ?_
  refine ev_ss DX6_learn 2 3 (pc' := 7) (lv' := [(3, .ref _), (0, .ref _), (1, .int _), (2, .int _)]) (st' := [.int _]) rfl ?_
  exact ev_xS DX6_learn 5 0 0 hx vX6_checkBeats rfl qX6_98 rfl (hd_of rfl rfl rfl rfl) rfl (by decide) (by decide) (fun X w hx => hx) (fun v w hf => hf.elim)
set_option maxRecDepth 100000 in
set_option maxHeartbeats 4000000 in
theorem xc_X6_learn_X6_checkBeatsLeft {E : gE} {ad : Nat → Nat} {ws : va_W} {p : PS} {sv : Nat → PS} {sc r len : Nat} {ch : Nat → Int32} (h : MW E ad ws p sv sc r len ch) {a : Nat} {b : Int32} (ha : a < 2) (hb : ¬ bB b) (hx : C1 E YX6_checkBeatsLeft 1 6 [.ref (ad 0), .int b] ws (fun _ _ => False) (fun X w => X = xS ∧ w = ws)) : C1 E YX6_learn 1 6 [.ref (ad 0), .int (nI a), .int b] ws (fun _ _ => False) (fun X w => X = xS ∧ w = ws) := by
  refine c1V vX6_learn (Nat.le_of_ble_eq_true rfl) (lv0 := [(0, .ref (ad 0)), (1, .int (nI a)), (2, .int b)]) rfl ?_
  refine ev_ss DX6_learn 2 0 (pc' := 2) (lv' := [(0, .ref _), (1, .int _), (2, .int _)]) (st' := [.int _, .ref _]) rfl ?_
  refine ev_cV DX6_learn 2 (m_X6_wayOf h ha) vX6_wayOf rfl qX6_94 rfl h.1 rfl (hd_of rfl rfl rfl rfl) ?_
  refine ev_ss DX6_learn 2 3 (pc' := 7) (lv' := [(3, .ref _), (0, .ref _), (1, .int _), (2, .int _)]) (st' := [.int _]) rfl ?_
  refine ev_cS DX6_learn 5 (m_X6_checkBeats hb) vX6_checkBeats rfl qX6_98 rfl (hd_of rfl rfl rfl rfl) ?_
  refine ev_ss DX6_learn 2 6 (pc' := 12) (lv' := [(3, .ref _), (0, .ref _), (1, .int _), (2, .int _)]) (st' := [.int _, .ref _]) rfl ?_
  exact ev_xV DX6_learn 8 0 0 hx vX6_checkBeatsLeft rfl qX6_101 rfl h.1 rfl (hd_of rfl rfl rfl rfl) rfl (by decide) (by decide) (fun X w hx => hx) (fun v w hf => hf.elim)
set_option maxRecDepth 100000 in
set_option maxHeartbeats 4000000 in
theorem xc_X6_send_X6_wayOf {E : gE} {ad : Nat → Nat} {ws : va_W} {p : PS} {sv : Nat → PS} {sc r len : Nat} {ch : Nat → Int32} (h : MW E ad ws p sv sc r len ch) {wy b : Int32} (hx : C1 E YX6_wayOf 1 6 [.ref (ad 0), .int wy] ws (fun _ _ => False) (fun X w => X = xI ∧ w = ws)) : C1 E YX6_send 1 6 [.ref (ad 0), .int wy, .int b] ws (fun _ _ => False) (fun X w => X = xI ∧ w = ws) := by
  refine c1V vX6_send (Nat.le_of_ble_eq_true rfl) (lv0 := [(0, .ref (ad 0)), (1, .int wy), (2, .int b)]) rfl ?_
  refine ev_ss DX6_send 2 0 (pc' := 2) (lv' := [(0, .ref _), (1, .int _), (2, .int _)]) (st' := [.int _, .ref _]) rfl ?_
  exact ev_xV DX6_send 2 0 0 hx vX6_wayOf rfl qX6_94 rfl h.1 rfl (hd_of rfl rfl rfl rfl) rfl (by decide) (by decide) (fun X w hx => hx) (fun v w hf => hf.elim)
set_option maxRecDepth 100000 in
set_option maxHeartbeats 4000000 in
theorem xc_X6_send_X6_checkBeats {E : gE} {ad : Nat → Nat} {ws : va_W} {p : PS} {sv : Nat → PS} {sc r len : Nat} {ch : Nat → Int32} (h : MW E ad ws p sv sc r len ch) {a : Nat} {b : Int32} (ha : a < 2) (hx : C1 E YX6_checkBeats 1 6 [.int b] ws (fun _ _ => False) (fun X w => X = xA ∧ w = ws)) : C1 E YX6_send 1 6 [.ref (ad 0), .int (nI a), .int b] ws (fun _ _ => False) (fun X w => X = xA ∧ w = ws) := by
  refine c1V vX6_send (Nat.le_of_ble_eq_true rfl) (lv0 := [(0, .ref (ad 0)), (1, .int (nI a)), (2, .int b)]) rfl ?_
  refine ev_ss DX6_send 2 0 (pc' := 2) (lv' := [(0, .ref _), (1, .int _), (2, .int _)]) (st' := [.int _, .ref _]) rfl ?_
  refine ev_cV DX6_send 2 (m_X6_wayOf h ha) vX6_wayOf rfl qX6_94 rfl h.1 rfl (hd_of rfl rfl rfl rfl) ?_
  refine ev_ss DX6_send 2 3 (pc' := 7) (lv' := [(3, .ref _), (0, .ref _), (1, .int _), (2, .int _)]) (st' := [.int _]) rfl ?_
  exact ev_xS DX6_send 5 0 0 hx vX6_checkBeats rfl qX6_98 rfl (hd_of rfl rfl rfl rfl) rfl (by decide) (by decide) (fun X w hx => hx) (fun v w hf => hf.elim)
set_option maxRecDepth 100000 in
set_option maxHeartbeats 4000000 in
theorem xc_X6_send_X6_checkBeatsLeft {E : gE} {ad : Nat → Nat} {ws : va_W} {p : PS} {sv : Nat → PS} {sc r len : Nat} {ch : Nat → Int32} (h : MW E ad ws p sv sc r len ch) {a : Nat} {b : Int32} (ha : a < 2) (hb : ¬ bB b) (hx : C1 E YX6_checkBeatsLeft 1 6 [.ref (ad 0), .int b] ws (fun _ _ => False) (fun X w => X = xS ∧ w = ws)) : C1 E YX6_send 1 6 [.ref (ad 0), .int (nI a), .int b] ws (fun _ _ => False) (fun X w => X = xS ∧ w = ws) := by
  refine c1V vX6_send (Nat.le_of_ble_eq_true rfl) (lv0 := [(0, .ref (ad 0)), (1, .int (nI a)), (2, .int b)]) rfl ?_
  refine ev_ss DX6_send 2 0 (pc' := 2) (lv' := [(0, .ref _), (1, .int _), (2, .int _)]) (st' := [.int _, .ref _]) rfl ?_
  refine ev_cV DX6_send 2 (m_X6_wayOf h ha) vX6_wayOf rfl qX6_94 rfl h.1 rfl (hd_of rfl rfl rfl rfl) ?_
  refine ev_ss DX6_send 2 3 (pc' := 7) (lv' := [(3, .ref _), (0, .ref _), (1, .int _), (2, .int _)]) (st' := [.int _]) rfl ?_
  refine ev_cS DX6_send 5 (m_X6_checkBeats hb) vX6_checkBeats rfl qX6_98 rfl (hd_of rfl rfl rfl rfl) ?_
  refine ev_ss DX6_send 2 6 (pc' := 12) (lv' := [(3, .ref _), (0, .ref _), (1, .int _), (2, .int _)]) (st' := [.int _, .ref _]) rfl ?_
  exact ev_xV DX6_send 8 0 0 hx vX6_checkBeatsLeft rfl qX6_101 rfl h.1 rfl (hd_of rfl rfl rfl rfl) rfl (by decide) (by decide) (fun X w hx => hx) (fun v w hf => hf.elim)
def fgT (σ : WS) : Nat → WS
  | 0 => σ
  | i + 1 => (va_up (fgT σ i).1 i (loseP ((fgT σ i).1 i)), (fgT σ i).2)
theorem fgT_0 {σ : WS} : fgT σ 0 = σ := rfl
noncomputable def pForg (p : PS) (a : Nat) : PS := pSet p a (fgT (pW p a) k8)
set_option maxRecDepth 100000 in
set_option maxHeartbeats 4000000 in
theorem forg_loop {E : gE} {ad : Nat → Nat} {ws : va_W} {p : PS} {sv2 : Nat → PS} {sc2 r2 len : Nat} {ch : Nat → Int32} {a : Nat} (ha : a < 2) :
    ∀ (m i : Nat) (x : Int32) (w : va_W), i + m = k8 → x = nI i → MW E ad w (pSet p a (fgT (pW p a) i)) sv2 sc2 r2 len ch → FO ws w → Ev E YX6_forget (fun v9 w9 => v9 = some (.int (sumN (fun t => (pW p a).1 t 10) 8)) ∧ (∃ r2, MW E ad w9 (pForg p a) sv2 sc2 r2 len ch) ∧ FO ws w9) nX 0 0 18 [(0, .ref (ad 0)), (1, .int (nI a)), (2, .ref (ad (2 + 12 * a))), (3, .int (sumN (fun t => (pW p a).1 t 10) 8)), (4, .int x)] [] w := by
  have e8 := k8e
  intro m
  induction m with
  | zero =>
    intro i x w hm hx hM hO
    obtain rfl : i = k8 := by omega
    subst hx
    refine ev_ss DX6_forget 2 11 (pc' := 22) (lv' := [(0, .ref _), (1, .int _), (2, .ref _), (3, .int _), (4, .int _)]) (st' := [.int 8, .int _]) rfl ?_
    refine ev_icge DX6_forget 13 rfl (tgt := 41) (by decide) (fun _ => ?_) (fun h => h.elim (by rw [k8e]; decide))
    refine ev_ss DX6_forget 1 21 (pc' := 42) (lv' := [(0, .ref _), (1, .int _), (2, .ref _), (3, .int _), (4, .int _)]) (st' := [.int _]) rfl ?_
    exact ev_iret DX6_forget 22 rfl rfl ⟨rfl, ⟨r2, hM⟩, hO⟩
  | succ m ih =>
    intro i x w hm hx hM hO
    subst hx
    have hW := hM.2.1.way ha
    rw [pW_set] at hW
    obtain ⟨st, sz, r9, h1, h2, h3, h4, h5, h6⟩ := hW
    refine ev_ss DX6_forget 2 11 (pc' := 22) (lv' := [(0, .ref _), (1, .int _), (2, .ref _), (3, .int _), (4, .int _)]) (st' := [.int 8, .int _]) rfl ?_
    refine ev_icge DX6_forget 13 rfl (tgt := 41) (by decide) (fun h => absurd h (nI_ge (b := 8) (by omega) (by decide))) (fun _ => ?_)
    refine ev_ss DX6_forget 1 14 (pc' := 26) (lv' := [(0, .ref _), (1, .int _), (2, .ref _), (3, .int _), (4, .int _)]) (st' := [.ref _]) rfl ?_
    refine ev_get DX6_forget 15 GX5 rfl (k0 := 0) (Nat.le_of_ble_eq_true rfl) fX6_117 h1 rfl ?_
    refine ev_ss DX6_forget 1 16 (pc' := 31) (lv' := [(0, .ref _), (1, .int _), (2, .ref _), (3, .int _), (4, .int _)]) (st' := [.int _, .ref _]) rfl ?_
    refine ev_aald4 DX6_forget 17 rfl h2 (vp_in_nI (by omega) (by decide)) (b := ad (2 + 12 * a + 4 + i)) (arT_at (by omega)) ?_
    refine ev_cV DX6_forget 18 (m_X3_loseAccent (h6 i (by omega))) vX3_loseAccent rfl qX6_121 rfl (h6 i (by omega)) rfl (hd_of rfl rfl rfl rfl) ?_
    refine ev_ss DX6_forget 1 19 (pc' := 38) (lv' := [(4, .int _), (0, .ref _), (1, .int _), (2, .ref _), (3, .int _)]) (st' := []) rfl ?_
    refine ev_goto DX6_forget 20 rfl (tgt := 18) (by decide) ?_
    refine ev_lvp (lv2 := [(0, .ref _), (1, .int _), (2, .ref _), (3, .int _), (4, .int _)]) [1, 2, 3, 4, 0] rfl ?_
    have hM2 := hM.tone ha (t := i) (by omega) (f := loseP ((fgT (pW p a) i).1 i))
    unfold pTone at hM2
    rw [pSet_set, pW_set] at hM2
    exact ih (i + 1) _ _ (by omega) (nI_1 i) hM2 (hO.tr (FO.set (by omega)))
set_option maxRecDepth 100000 in
set_option maxHeartbeats 4000000 in
theorem m_X6_forget {E : gE} {ad : Nat → Nat} {ws : va_W} {p : PS} {sv : Nat → PS} {sc r len : Nat} {ch : Nat → Int32} (h : MW E ad ws p sv sc r len ch) {a : Nat} (ha : a < 2) (hsc : sc ≤ 6) : C0 E YX6_forget 0 0 [.ref (ad 0), .int (nI a)] ws (fun v9 w9 => v9 = some (.int (sumN (fun t => (pW p a).1 t 10) 8)) ∧ (∃ r2, MW E ad w9 (pForg p a) (svN p sv sc) (scN sc) r2 len ch) ∧ FO ws w9) := by
  refine c0V vX6_forget (Nat.le_of_ble_eq_true rfl) (lv0 := [(0, .ref (ad 0)), (1, .int (nI a))]) rfl ?_
  refine ev_ss DX6_forget 2 0 (pc' := 2) (lv' := [(0, .ref _), (1, .int _)]) (st' := [.int _, .ref _]) rfl ?_
  refine ev_cV DX6_forget 2 (m_X6_wayOf h ha) vX6_wayOf rfl qX6_94 rfl h.1 rfl (hd_of rfl rfl rfl rfl) ?_
  refine ev_ss DX6_forget 2 3 (pc' := 7) (lv' := [(2, .ref _), (0, .ref _), (1, .int _)]) (st' := [.ref _]) rfl ?_
  refine ev_rV DX6_forget 5 (m_X6_save h hsc) vX6_save rfl qX6_45 rfl h.1 rfl (hd_of rfl rfl rfl rfl) (fun v w hvw => ?_)
  obtain ⟨rfl, ⟨r2, hM⟩, hO⟩ := hvw
  have hWx : ∃ v9, w[2 + 12 * a]? = some (ad (2 + 12 * a), .inr (5, v9)) := by obtain ⟨_, _, _, e, _⟩ := hM.2.1.way ha; exact ⟨_, e⟩
  obtain ⟨v9, hWx⟩ := hWx
  refine ev_ss DX6_forget 1 6 (pc' := 11) (lv' := [(2, .ref _), (0, .ref _), (1, .int _)]) (st' := [.ref _]) rfl ?_
  refine ev_cV DX6_forget 7 (wbits (hM.2.1.way ha)) vX5_bits rfl qX6_108 rfl hWx rfl (hd_of rfl rfl rfl rfl) ?_
  refine ev_ss DX6_forget 3 8 (pc' := 18) (lv' := [(4, .int 0), (3, .int _), (2, .ref _), (0, .ref _), (1, .int _)]) (st' := []) rfl ?_
  refine ev_lvp (lv2 := [(0, .ref _), (1, .int _), (2, .ref _), (3, .int _), (4, .int _)]) [3, 4, 2, 1, 0] rfl ?_
  exact forg_loop ha k8 0 _ w (Nat.zero_add k8) nI_0.symm (by rw [fgT_0, pSet_id]; exact hM) hO
set_option maxRecDepth 100000 in
set_option maxHeartbeats 4000000 in
theorem xc_X6_forget_X6_wayOf {E : gE} {ad : Nat → Nat} {ws : va_W} {p : PS} {sv : Nat → PS} {sc r len : Nat} {ch : Nat → Int32} (h : MW E ad ws p sv sc r len ch) {wy : Int32} (hx : C1 E YX6_wayOf 1 6 [.ref (ad 0), .int wy] ws (fun _ _ => False) (fun X w => X = xI ∧ w = ws)) : C1 E YX6_forget 1 6 [.ref (ad 0), .int wy] ws (fun _ _ => False) (fun X w => X = xI ∧ w = ws) := by
  refine c1V vX6_forget (Nat.le_of_ble_eq_true rfl) (lv0 := [(0, .ref (ad 0)), (1, .int wy)]) rfl ?_
  refine ev_ss DX6_forget 2 0 (pc' := 2) (lv' := [(0, .ref _), (1, .int _)]) (st' := [.int _, .ref _]) rfl ?_
  exact ev_xV DX6_forget 2 0 0 hx vX6_wayOf rfl qX6_94 rfl h.1 rfl (hd_of rfl rfl rfl rfl) rfl (by decide) (by decide) (fun X w hx => hx) (fun v w hf => hf.elim)
