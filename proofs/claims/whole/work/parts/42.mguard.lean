theorem nI_gt {x : Int32} {n : Nat} (hn : n + 1 < 2 ^ 31) (h : ¬ x < nI (n + 1)) : nI n < x := by
  have h1 := Int32.le_iff_toInt_le.mp (Int32.not_lt.mp h)
  rw [nI_toInt hn] at h1
  exact Int32.lt_iff_toInt_lt.mpr (by rw [nI_toInt (by omega)]; omega)
theorem in_b {x lo hi : Int32} (h : x < lo ∨ hi < x) : inP x lo hi = 0 := by
  unfold inP
  by_cases h1 : x < lo
  · rw [if_pos h1]
  · rw [if_neg h1, if_pos (h.resolve_left h1)]
theorem in_g {x lo hi : Int32} (h : ¬ (x < lo ∨ hi < x)) : ¬ inP x lo hi = 0 := by
  unfold inP
  rw [if_neg (fun e => h (Or.inl e)), if_neg (fun e => h (Or.inr e))]
  decide
theorem inW_b {w : Int32} (h : bW w) : inP w 0 1 = 0 := in_b (h.imp id (fun e => nI_gt (n := 1) (by decide) e))
theorem inT_b {w : Int32} (h : bT w) : inP w 0 7 = 0 := in_b (h.imp id (fun e => nI_gt (n := 7) (by decide) e))
theorem inS_b {w : Int32} (h : bS w) : inP w 0 2 = 0 := in_b (h.imp id (fun e => nI_gt (n := 2) (by decide) e))
theorem inH_b {w : Int32} (h : bWh w) : inP w 0 3 = 0 := in_b (h.imp id (fun e => nI_gt (n := 3) (by decide) e))
theorem in_nI : ∀ h, h < 13 → ∀ a, a < h + 1 → ¬ inP (nI a) 0 (nI h) = 0 := by decide +kernel
theorem inW_g {a : Nat} (ha : a < 2) : ¬ inP (nI a) 0 1 = 0 := in_nI 1 (by decide) a ha
theorem inT_g {a : Nat} (ha : a < 8) : ¬ inP (nI a) 0 7 = 0 := in_nI 7 (by decide) a ha
theorem ZM.t0 {E : gE} {ad : Nat → Nat} {ws : va_W} {p : PS} {sv : Nat → PS} {sc len : Nat} {ch : Nat → Int32} {tw tw0 ea iw : Int32} {hh : Int64} (hM : ZM E ad ws p sv sc len ch tw0 hh) (h : ws[214]? = some (ad 214, moC ad (nI sc) (nI len) tw0 ea iw hh)) : ZM E ad (ws.set 214 (ad 214, moC ad (nI sc) (nI len) tw ea iw hh)) p sv sc len ch tw hh := hM.ob (wset_get h) (fun j a b => List.getElem?_set_ne (by omega))
theorem ZM.zz {E : gE} {ad : Nat → Nat} {ws : va_W} {p q : PS} {sv : Nat → PS} {sc len : Nat} {ch : Nat → Int32} {tw : Int32} {hh : Int64} {z2 : Nat → Int32} (hM : ZM E ad ws p sv sc len ch tw hh) (hG : ZG z2 q) (hL : ∀ l, LG l p → LG l q) : ZM E ad (ws.set 215 (ad 215, iaC E 811 z2)) q sv sc len ch tw hh := by
  obtain ⟨ea, iw, z, rw, as, l, hs, ha, er, bf, ⟨a0, a1, a2, a3, a4⟩, ⟨a5, a6, a7, a8⟩, ⟨hg, hl⟩, hsv, hlen, hc⟩ := hM
  exact ⟨ea, iw, z2, rw, as, l, hs, ha, er, bf, ⟨(List.getElem?_set_ne (by decide)).trans a0, wset_get a1, (List.getElem?_set_ne (by decide)).trans a2, (List.getElem?_set_ne (by decide)).trans a3, (List.getElem?_set_ne (by decide)).trans a4⟩, ⟨(List.getElem?_set_ne (by decide)).trans a5, (List.getElem?_set_ne (by decide)).trans a6, (List.getElem?_set_ne (by decide)).trans a7, (List.getElem?_set_ne (by decide)).trans a8⟩, ⟨hG, hL l hl⟩, hsv, hlen, hc⟩
theorem LG.tone {l : Nat → Int64} {p : PS} {a t : Nat} {f : TF} (ha : a < 2) (h : LG l p) : LG l (pTone p a t f) := fun b hb => by rw [pT_rest ha hb]; exact h b hb
theorem LG.sett {l : Nat → Int64} {p : PS} {j : Nat} {v : Int32} (h : LG l p) : LG l (pSett p j v) := h
theorem zlA {z : Nat → Int32} {p : PS} {i j : Nat} (hG : ZG z p) (hi : i < 16) (hj : j < 11) : z (112 + 11 * i + j) = (pW p (i / 8)).1 (i % 8) (7 + j) := by
  rw [← hG.2.1 (i / 8) (i % 8) j (by omega) (by omega) hj]
  exact congrArg z (by unfold acA; omega)
theorem zlS {z : Nat → Int32} {p : PS} {i j : Nat} (hG : ZG z p) (hi : i < 16) (hj : j < 7) : z (7 * i + j) = (pW p (i / 8)).1 (i % 8) j := by
  rw [← hG.1 (i / 8) (i % 8) j (by omega) (by omega) hj]
  exact congrArg z (by unfold stA; omega)
theorem sum16 {f : Nat → Int32} : sumN f 16 = sumN f 8 + sumN (fun k => f (8 + k)) 8 := by
  simp only [sumN, Int32.zero_add, Int32.add_assoc, Nat.reduceAdd]
set_option maxRecDepth 100000 in
set_option maxHeartbeats 4000000 in
theorem m_X7_mayBuild_0 {E : gE} {ws : va_W} {v : Int32} : CD E YX7_mayBuild 0 0 [.int 0, .int v] ws (some (.int (inP v (gSv [16, -32, -32, 0] 0) (gSv [96, 32, 32, 60] 0)))) ws := by
  refine cdS vX7_mayBuild (Nat.le_of_ble_eq_true rfl) (lv0 := [(0, .int 0), (1, .int v)]) rfl ?_
  refine ev_ss DX7_mayBuild 1 0 (pc' := 1) (lv' := [(0, .int 0), (1, .int _)]) (st' := [.int 0]) rfl ?_
  refine ev_ifne DX7_mayBuild 1 rfl (tgt := 13) (by decide) (fun h => h.elim (by decide)) (fun _ => ?_)
  refine ev_ss DX7_mayBuild 3 2 (pc' := 9) (lv' := [(0, .int 0), (1, .int _)]) (st' := [.int 96, .int 16, .int _]) rfl ?_
  refine ev_cS DX7_mayBuild 5 m_X7_in vX7_in rfl qX7_39 rfl (hd_of rfl rfl rfl rfl) ?_
  exact ev_zret DX7_mayBuild 6 rfl rfl inP_b ⟨rfl, rfl⟩
set_option maxRecDepth 100000 in
set_option maxHeartbeats 4000000 in
theorem m_X7_mayBuild_1 {E : gE} {ws : va_W} {v : Int32} : CD E YX7_mayBuild 0 0 [.int 1, .int v] ws (some (.int (inP v (gSv [16, -32, -32, 0] 1) (gSv [96, 32, 32, 60] 1)))) ws := by
  refine cdS vX7_mayBuild (Nat.le_of_ble_eq_true rfl) (lv0 := [(0, .int 1), (1, .int v)]) rfl ?_
  refine ev_ss DX7_mayBuild 1 0 (pc' := 1) (lv' := [(0, .int 1), (1, .int _)]) (st' := [.int 1]) rfl ?_
  refine ev_ifne DX7_mayBuild 1 rfl (tgt := 13) (by decide) (fun _ => ?_) (fun h => absurd h (by decide))
  refine ev_ss DX7_mayBuild 2 7 (pc' := 15) (lv' := [(0, .int 1), (1, .int _)]) (st' := [.int 3, .int 1]) rfl ?_
  refine ev_icne DX7_mayBuild 9 rfl (tgt := 28) (by decide) (fun _ => ?_) (fun h => absurd h (by decide))
  refine ev_ss DX7_mayBuild 3 15 (pc' := 33) (lv' := [(0, .int 1), (1, .int _)]) (st' := [.int 32, .int (-32), .int _]) rfl ?_
  refine ev_cS DX7_mayBuild 18 m_X7_in vX7_in rfl qX7_39 rfl (hd_of rfl rfl rfl rfl) ?_
  exact ev_zret DX7_mayBuild 19 rfl rfl inP_b ⟨rfl, rfl⟩
set_option maxRecDepth 100000 in
set_option maxHeartbeats 4000000 in
theorem m_X7_mayBuild_2 {E : gE} {ws : va_W} {v : Int32} : CD E YX7_mayBuild 0 0 [.int 2, .int v] ws (some (.int (inP v (gSv [16, -32, -32, 0] 2) (gSv [96, 32, 32, 60] 2)))) ws := by
  refine cdS vX7_mayBuild (Nat.le_of_ble_eq_true rfl) (lv0 := [(0, .int 2), (1, .int v)]) rfl ?_
  refine ev_ss DX7_mayBuild 1 0 (pc' := 1) (lv' := [(0, .int 2), (1, .int _)]) (st' := [.int 2]) rfl ?_
  refine ev_ifne DX7_mayBuild 1 rfl (tgt := 13) (by decide) (fun _ => ?_) (fun h => absurd h (by decide))
  refine ev_ss DX7_mayBuild 2 7 (pc' := 15) (lv' := [(0, .int 2), (1, .int _)]) (st' := [.int 3, .int 2]) rfl ?_
  refine ev_icne DX7_mayBuild 9 rfl (tgt := 28) (by decide) (fun _ => ?_) (fun h => absurd h (by decide))
  refine ev_ss DX7_mayBuild 3 15 (pc' := 33) (lv' := [(0, .int 2), (1, .int _)]) (st' := [.int 32, .int (-32), .int _]) rfl ?_
  refine ev_cS DX7_mayBuild 18 m_X7_in vX7_in rfl qX7_39 rfl (hd_of rfl rfl rfl rfl) ?_
  exact ev_zret DX7_mayBuild 19 rfl rfl inP_b ⟨rfl, rfl⟩
set_option maxRecDepth 100000 in
set_option maxHeartbeats 4000000 in
theorem m_X7_mayBuild_3 {E : gE} {ws : va_W} {v : Int32} : CD E YX7_mayBuild 0 0 [.int 3, .int v] ws (some (.int (inP v (gSv [16, -32, -32, 0] 3) (gSv [96, 32, 32, 60] 3)))) ws := by
  refine cdS vX7_mayBuild (Nat.le_of_ble_eq_true rfl) (lv0 := [(0, .int 3), (1, .int v)]) rfl ?_
  refine ev_ss DX7_mayBuild 1 0 (pc' := 1) (lv' := [(0, .int 3), (1, .int _)]) (st' := [.int 3]) rfl ?_
  refine ev_ifne DX7_mayBuild 1 rfl (tgt := 13) (by decide) (fun _ => ?_) (fun h => absurd h (by decide))
  refine ev_ss DX7_mayBuild 2 7 (pc' := 15) (lv' := [(0, .int 3), (1, .int _)]) (st' := [.int 3, .int 3]) rfl ?_
  refine ev_icne DX7_mayBuild 9 rfl (tgt := 28) (by decide) (fun h => h.elim (by decide)) (fun _ => ?_)
  refine ev_ss DX7_mayBuild 3 10 (pc' := 22) (lv' := [(0, .int 3), (1, .int _)]) (st' := [.int 60, .int 0, .int _]) rfl ?_
  refine ev_cS DX7_mayBuild 13 m_X7_in vX7_in rfl qX7_39 rfl (hd_of rfl rfl rfl rfl) ?_
  refine ev_goto DX7_mayBuild 14 rfl (tgt := 36) (by decide) ?_
  exact ev_zret DX7_mayBuild 19 rfl rfl inP_b ⟨rfl, rfl⟩
set_option maxRecDepth 100000 in
set_option maxHeartbeats 4000000 in
theorem m_X7_mayBuild {E : gE} {ws : va_W} {v : Int32} {j : Nat} (hj : j < 4) : CD E YX7_mayBuild 0 0 [.int (nI j), .int v] ws (some (.int (inP v (gSv [16, -32, -32, 0] j) (gSv [96, 32, 32, 60] j)))) ws := by
  rcases (show j = 0 ∨ j = 1 ∨ j = 2 ∨ j = 3 by omega) with rfl | rfl | rfl | rfl
  · exact m_X7_mayBuild_0
  · exact m_X7_mayBuild_1
  · exact m_X7_mayBuild_2
  · exact m_X7_mayBuild_3
set_option maxRecDepth 100000 in
set_option maxHeartbeats 4000000 in
theorem m_X7_maySet_0 {E : gE} {ws : va_W} {v : Int32} : CD E YX7_maySet 0 0 [.int 0, .int v] ws (some (.int (inP v (gSv [1, 4, 1] 0) (gSv [64, 40, 50] 0)))) ws := by
  refine cdS vX7_maySet (Nat.le_of_ble_eq_true rfl) (lv0 := [(0, .int 0), (1, .int v)]) rfl ?_
  refine ev_ss DX7_maySet 1 0 (pc' := 1) (lv' := [(0, .int 0), (1, .int _)]) (st' := [.int 0]) rfl ?_
  refine ev_ifne DX7_maySet 1 rfl (tgt := 14) (by decide) (fun h => h.elim (by decide)) (fun _ => ?_)
  refine ev_ss DX7_maySet 3 2 (pc' := 8) (lv' := [(0, .int 0), (1, .int _)]) (st' := [.int 64, .int 1, .int _]) rfl ?_
  refine ev_cS DX7_maySet 5 m_X7_in vX7_in rfl qX7_39 rfl (hd_of rfl rfl rfl rfl) ?_
  refine ev_goto DX7_maySet 6 rfl (tgt := 36) (by decide) ?_
  exact ev_zret DX7_maySet 19 rfl rfl inP_b ⟨rfl, rfl⟩
set_option maxRecDepth 100000 in
set_option maxHeartbeats 4000000 in
theorem m_X7_maySet_1 {E : gE} {ws : va_W} {v : Int32} : CD E YX7_maySet 0 0 [.int 1, .int v] ws (some (.int (inP v (gSv [1, 4, 1] 1) (gSv [64, 40, 50] 1)))) ws := by
  refine cdS vX7_maySet (Nat.le_of_ble_eq_true rfl) (lv0 := [(0, .int 1), (1, .int v)]) rfl ?_
  refine ev_ss DX7_maySet 1 0 (pc' := 1) (lv' := [(0, .int 1), (1, .int _)]) (st' := [.int 1]) rfl ?_
  refine ev_ifne DX7_maySet 1 rfl (tgt := 14) (by decide) (fun _ => ?_) (fun h => absurd h (by decide))
  refine ev_ss DX7_maySet 2 7 (pc' := 16) (lv' := [(0, .int 1), (1, .int _)]) (st' := [.int 1, .int 1]) rfl ?_
  refine ev_icne DX7_maySet 9 rfl (tgt := 29) (by decide) (fun h => h.elim (by decide)) (fun _ => ?_)
  refine ev_ss DX7_maySet 3 10 (pc' := 23) (lv' := [(0, .int 1), (1, .int _)]) (st' := [.int 40, .int 4, .int _]) rfl ?_
  refine ev_cS DX7_maySet 13 m_X7_in vX7_in rfl qX7_39 rfl (hd_of rfl rfl rfl rfl) ?_
  refine ev_goto DX7_maySet 14 rfl (tgt := 36) (by decide) ?_
  exact ev_zret DX7_maySet 19 rfl rfl inP_b ⟨rfl, rfl⟩
set_option maxRecDepth 100000 in
set_option maxHeartbeats 4000000 in
theorem m_X7_maySet_2 {E : gE} {ws : va_W} {v : Int32} : CD E YX7_maySet 0 0 [.int 2, .int v] ws (some (.int (inP v (gSv [1, 4, 1] 2) (gSv [64, 40, 50] 2)))) ws := by
  refine cdS vX7_maySet (Nat.le_of_ble_eq_true rfl) (lv0 := [(0, .int 2), (1, .int v)]) rfl ?_
  refine ev_ss DX7_maySet 1 0 (pc' := 1) (lv' := [(0, .int 2), (1, .int _)]) (st' := [.int 2]) rfl ?_
  refine ev_ifne DX7_maySet 1 rfl (tgt := 14) (by decide) (fun _ => ?_) (fun h => absurd h (by decide))
  refine ev_ss DX7_maySet 2 7 (pc' := 16) (lv' := [(0, .int 2), (1, .int _)]) (st' := [.int 1, .int 2]) rfl ?_
  refine ev_icne DX7_maySet 9 rfl (tgt := 29) (by decide) (fun _ => ?_) (fun h => absurd h (by decide))
  refine ev_ss DX7_maySet 3 15 (pc' := 33) (lv' := [(0, .int 2), (1, .int _)]) (st' := [.int 50, .int 1, .int _]) rfl ?_
  refine ev_cS DX7_maySet 18 m_X7_in vX7_in rfl qX7_39 rfl (hd_of rfl rfl rfl rfl) ?_
  exact ev_zret DX7_maySet 19 rfl rfl inP_b ⟨rfl, rfl⟩
set_option maxRecDepth 100000 in
set_option maxHeartbeats 4000000 in
theorem m_X7_maySet {E : gE} {ws : va_W} {v : Int32} {j : Nat} (hj : j < 3) : CD E YX7_maySet 0 0 [.int (nI j), .int v] ws (some (.int (inP v (gSv [1, 4, 1] j) (gSv [64, 40, 50] j)))) ws := by
  rcases (show j = 0 ∨ j = 1 ∨ j = 2 by omega) with rfl | rfl | rfl
  · exact m_X7_maySet_0
  · exact m_X7_maySet_1
  · exact m_X7_maySet_2
set_option maxRecDepth 100000 in
set_option maxHeartbeats 4000000 in
theorem m_X7_mayBeat_1 {E : gE} {ad : Nat → Nat} {ws : va_W} {sm bm ea iw : Int32} {hh : Int64} {z : Nat → Int32} (h : ws[214]? = some (ad 214, moC ad sm bm 0 ea iw hh)) (hz : ws[215]? = some (ad 215, iaC E 811 z)) {w b : Int32} (h1 : inP w 0 1 = 0) : CD E YX7_mayBeat 0 0 [.ref (ad 214), .int w, .int b] ws (some (.int 0)) (ws.set 214 (ad 214, moC ad sm bm 1 ea iw hh)) := by
  refine cdV vX7_mayBeat (Nat.le_of_ble_eq_true rfl) (lv0 := [(0, .ref (ad 214)), (1, .int w), (2, .int b)]) rfl ?_
  refine ev_ss DX7_mayBeat 1 0 (pc' := 1) (lv' := [(0, .ref _), (1, .int _), (2, .int _)]) (st' := [.int _]) rfl ?_
  refine ev_cS DX7_mayBeat 1 m_X7_isWay vX7_isWay rfl qX7_46 rfl (hd_of rfl rfl rfl rfl) ?_
  refine ev_ifne DX7_mayBeat 2 rfl (tgt := 15) (by decide) (fun h => h.elim h1) (fun _ => ?_)
  refine ev_ss DX7_mayBeat 2 3 (pc' := 9) (lv' := [(0, .ref _), (1, .int _), (2, .int _)]) (st' := [.int 1, .ref _]) rfl ?_
  refine ev_put (fs' := [_, _, _, _, _, _, _, _, _, _, _, _, _, _]) DX7_mayBeat 5 GX7 rfl (k0 := 9) (Nat.le_of_ble_eq_true rfl) fX7_35 rfl ⟨rfl, rfl⟩ h (Nat.le_of_ble_eq_true rfl) rfl rfl ?_
  refine ev_goto DX7_mayBeat 6 rfl (tgt := 54) (by decide) ?_
  refine ev_ss DX7_mayBeat 1 27 (pc' := 55) (lv' := [(0, .ref _), (1, .int _), (2, .int _)]) (st' := [.ref _]) rfl ?_
  refine ev_get DX7_mayBeat 28 GX7 rfl (k0 := 9) (Nat.le_of_ble_eq_true rfl) fX7_35 (wset_get h) rfl ?_
  refine ev_ifne DX7_mayBeat 29 rfl (tgt := 65) (by decide) (fun _ => ?_) (fun h => absurd h (by decide))
  refine ev_ss DX7_mayBeat 1 32 (pc' := 66) (lv' := [(0, .ref _), (1, .int _), (2, .int _)]) (st' := [.int 0]) rfl ?_
  exact ev_zret DX7_mayBeat 33 rfl rfl rfl ⟨rfl, rfl⟩
set_option maxRecDepth 100000 in
set_option maxHeartbeats 4000000 in
theorem m_X7_mayBeat_2 {E : gE} {ad : Nat → Nat} {ws : va_W} {sm bm ea iw : Int32} {hh : Int64} {z : Nat → Int32} (h : ws[214]? = some (ad 214, moC ad sm bm 0 ea iw hh)) (hz : ws[215]? = some (ad 215, iaC E 811 z)) {w b : Int32} (h1 : ¬ inP w 0 1 = 0) (h2 : inP b 1 100 = 0) : CD E YX7_mayBeat 0 0 [.ref (ad 214), .int w, .int b] ws (some (.int 0)) (ws.set 214 (ad 214, moC ad sm bm 2 ea iw hh)) := by
  refine cdV vX7_mayBeat (Nat.le_of_ble_eq_true rfl) (lv0 := [(0, .ref (ad 214)), (1, .int w), (2, .int b)]) rfl ?_
  refine ev_ss DX7_mayBeat 1 0 (pc' := 1) (lv' := [(0, .ref _), (1, .int _), (2, .int _)]) (st' := [.int _]) rfl ?_
  refine ev_cS DX7_mayBeat 1 m_X7_isWay vX7_isWay rfl qX7_46 rfl (hd_of rfl rfl rfl rfl) ?_
  refine ev_ifne DX7_mayBeat 2 rfl (tgt := 15) (by decide) (fun _ => ?_) (fun h => absurd h h1)
  refine ev_ss DX7_mayBeat 3 7 (pc' := 19) (lv' := [(0, .ref _), (1, .int _), (2, .int _)]) (st' := [.int 100, .int 1, .int _]) rfl ?_
  refine ev_cS DX7_mayBeat 10 m_X7_in vX7_in rfl qX7_39 rfl (hd_of rfl rfl rfl rfl) ?_
  refine ev_ifne DX7_mayBeat 11 rfl (tgt := 33) (by decide) (fun h => h.elim h2) (fun _ => ?_)
  refine ev_ss DX7_mayBeat 2 12 (pc' := 27) (lv' := [(0, .ref _), (1, .int _), (2, .int _)]) (st' := [.int 2, .ref _]) rfl ?_
  refine ev_put (fs' := [_, _, _, _, _, _, _, _, _, _, _, _, _, _]) DX7_mayBeat 14 GX7 rfl (k0 := 9) (Nat.le_of_ble_eq_true rfl) fX7_35 rfl ⟨rfl, rfl⟩ h (Nat.le_of_ble_eq_true rfl) rfl rfl ?_
  refine ev_goto DX7_mayBeat 15 rfl (tgt := 54) (by decide) ?_
  refine ev_ss DX7_mayBeat 1 27 (pc' := 55) (lv' := [(0, .ref _), (1, .int _), (2, .int _)]) (st' := [.ref _]) rfl ?_
  refine ev_get DX7_mayBeat 28 GX7 rfl (k0 := 9) (Nat.le_of_ble_eq_true rfl) fX7_35 (wset_get h) rfl ?_
  refine ev_ifne DX7_mayBeat 29 rfl (tgt := 65) (by decide) (fun _ => ?_) (fun h => absurd h (by decide))
  refine ev_ss DX7_mayBeat 1 32 (pc' := 66) (lv' := [(0, .ref _), (1, .int _), (2, .int _)]) (st' := [.int 0]) rfl ?_
  exact ev_zret DX7_mayBeat 33 rfl rfl rfl ⟨rfl, rfl⟩
set_option maxRecDepth 100000 in
set_option maxHeartbeats 4000000 in
theorem m_X7_mayBeat_3 {E : gE} {ad : Nat → Nat} {ws : va_W} {sm bm ea iw : Int32} {hh : Int64} {z : Nat → Int32} (h : ws[214]? = some (ad 214, moC ad sm bm 0 ea iw hh)) (hz : ws[215]? = some (ad 215, iaC E 811 z)) {w b : Int32} (h1 : ¬ inP w 0 1 = 0) (h2 : ¬ inP b 1 100 = 0) (h3 : 5000 < z 806 + b) : CD E YX7_mayBeat 0 0 [.ref (ad 214), .int w, .int b] ws (some (.int 0)) (ws.set 214 (ad 214, moC ad sm bm 3 ea iw hh)) := by
  refine cdV vX7_mayBeat (Nat.le_of_ble_eq_true rfl) (lv0 := [(0, .ref (ad 214)), (1, .int w), (2, .int b)]) rfl ?_
  refine ev_ss DX7_mayBeat 1 0 (pc' := 1) (lv' := [(0, .ref _), (1, .int _), (2, .int _)]) (st' := [.int _]) rfl ?_
  refine ev_cS DX7_mayBeat 1 m_X7_isWay vX7_isWay rfl qX7_46 rfl (hd_of rfl rfl rfl rfl) ?_
  refine ev_ifne DX7_mayBeat 2 rfl (tgt := 15) (by decide) (fun _ => ?_) (fun h => absurd h h1)
  refine ev_ss DX7_mayBeat 3 7 (pc' := 19) (lv' := [(0, .ref _), (1, .int _), (2, .int _)]) (st' := [.int 100, .int 1, .int _]) rfl ?_
  refine ev_cS DX7_mayBeat 10 m_X7_in vX7_in rfl qX7_39 rfl (hd_of rfl rfl rfl rfl) ?_
  refine ev_ifne DX7_mayBeat 11 rfl (tgt := 33) (by decide) (fun _ => ?_) (fun h => absurd h h2)
  refine ev_ss DX7_mayBeat 1 16 (pc' := 34) (lv' := [(0, .ref _), (1, .int _), (2, .int _)]) (st' := [.ref _]) rfl ?_
  refine ev_get DX7_mayBeat 17 GX7 rfl (k0 := 0) (Nat.le_of_ble_eq_true rfl) fX7_7 h rfl ?_
  refine ev_ss DX7_mayBeat 1 18 (pc' := 40) (lv' := [(0, .ref _), (1, .int _), (2, .int _)]) (st' := [.int 806, .ref _]) rfl ?_
  refine ev_ialdv DX7_mayBeat 19 (k0 := 806) rfl hz rfl (by omega) (by decide) (rfl) ?_
  refine ev_ss DX7_mayBeat 3 20 (pc' := 46) (lv' := [(0, .ref _), (1, .int _), (2, .int _)]) (st' := [.int 5000, .int _]) rfl ?_
  refine ev_icle DX7_mayBeat 23 rfl (tgt := 54) (by decide) (fun h => absurd h (Int32.not_le.mpr h3)) (fun _ => ?_)
  refine ev_ss DX7_mayBeat 2 24 (pc' := 51) (lv' := [(0, .ref _), (1, .int _), (2, .int _)]) (st' := [.int 3, .ref _]) rfl ?_
  refine ev_put (fs' := [_, _, _, _, _, _, _, _, _, _, _, _, _, _]) DX7_mayBeat 26 GX7 rfl (k0 := 9) (Nat.le_of_ble_eq_true rfl) fX7_35 rfl ⟨rfl, rfl⟩ h (Nat.le_of_ble_eq_true rfl) rfl rfl ?_
  refine ev_ss DX7_mayBeat 1 27 (pc' := 55) (lv' := [(0, .ref _), (1, .int _), (2, .int _)]) (st' := [.ref _]) rfl ?_
  refine ev_get DX7_mayBeat 28 GX7 rfl (k0 := 9) (Nat.le_of_ble_eq_true rfl) fX7_35 (wset_get h) rfl ?_
  refine ev_ifne DX7_mayBeat 29 rfl (tgt := 65) (by decide) (fun _ => ?_) (fun h => absurd h (by decide))
  refine ev_ss DX7_mayBeat 1 32 (pc' := 66) (lv' := [(0, .ref _), (1, .int _), (2, .int _)]) (st' := [.int 0]) rfl ?_
  exact ev_zret DX7_mayBeat 33 rfl rfl rfl ⟨rfl, rfl⟩
set_option maxRecDepth 100000 in
set_option maxHeartbeats 4000000 in
theorem m_X7_mayBeat_ok {E : gE} {ad : Nat → Nat} {ws : va_W} {sm bm ea iw : Int32} {hh : Int64} {z : Nat → Int32} (h : ws[214]? = some (ad 214, moC ad sm bm 0 ea iw hh)) (hz : ws[215]? = some (ad 215, iaC E 811 z)) {w b : Int32} (h1 : ¬ inP w 0 1 = 0) (h2 : ¬ inP b 1 100 = 0) (h3 : ¬ 5000 < z 806 + b) : CD E YX7_mayBeat 0 0 [.ref (ad 214), .int w, .int b] ws (some (.int 1)) ws := by
  refine cdV vX7_mayBeat (Nat.le_of_ble_eq_true rfl) (lv0 := [(0, .ref (ad 214)), (1, .int w), (2, .int b)]) rfl ?_
  refine ev_ss DX7_mayBeat 1 0 (pc' := 1) (lv' := [(0, .ref _), (1, .int _), (2, .int _)]) (st' := [.int _]) rfl ?_
  refine ev_cS DX7_mayBeat 1 m_X7_isWay vX7_isWay rfl qX7_46 rfl (hd_of rfl rfl rfl rfl) ?_
  refine ev_ifne DX7_mayBeat 2 rfl (tgt := 15) (by decide) (fun _ => ?_) (fun h => absurd h h1)
  refine ev_ss DX7_mayBeat 3 7 (pc' := 19) (lv' := [(0, .ref _), (1, .int _), (2, .int _)]) (st' := [.int 100, .int 1, .int _]) rfl ?_
  refine ev_cS DX7_mayBeat 10 m_X7_in vX7_in rfl qX7_39 rfl (hd_of rfl rfl rfl rfl) ?_
  refine ev_ifne DX7_mayBeat 11 rfl (tgt := 33) (by decide) (fun _ => ?_) (fun h => absurd h h2)
  refine ev_ss DX7_mayBeat 1 16 (pc' := 34) (lv' := [(0, .ref _), (1, .int _), (2, .int _)]) (st' := [.ref _]) rfl ?_
  refine ev_get DX7_mayBeat 17 GX7 rfl (k0 := 0) (Nat.le_of_ble_eq_true rfl) fX7_7 h rfl ?_
  refine ev_ss DX7_mayBeat 1 18 (pc' := 40) (lv' := [(0, .ref _), (1, .int _), (2, .int _)]) (st' := [.int 806, .ref _]) rfl ?_
  refine ev_ialdv DX7_mayBeat 19 (k0 := 806) rfl hz rfl (by omega) (by decide) (rfl) ?_
  refine ev_ss DX7_mayBeat 3 20 (pc' := 46) (lv' := [(0, .ref _), (1, .int _), (2, .int _)]) (st' := [.int 5000, .int _]) rfl ?_
  refine ev_icle DX7_mayBeat 23 rfl (tgt := 54) (by decide) (fun _ => ?_) (fun h => h.elim (Int32.not_lt.mp h3))
  refine ev_ss DX7_mayBeat 1 27 (pc' := 55) (lv' := [(0, .ref _), (1, .int _), (2, .int _)]) (st' := [.ref _]) rfl ?_
  refine ev_get DX7_mayBeat 28 GX7 rfl (k0 := 9) (Nat.le_of_ble_eq_true rfl) fX7_35 h rfl ?_
  refine ev_ifne DX7_mayBeat 29 rfl (tgt := 65) (by decide) (fun h => h.elim rfl) (fun _ => ?_)
  refine ev_ss DX7_mayBeat 1 30 (pc' := 62) (lv' := [(0, .ref _), (1, .int _), (2, .int _)]) (st' := [.int 1]) rfl ?_
  refine ev_goto DX7_mayBeat 31 rfl (tgt := 66) (by decide) ?_
  exact ev_zret DX7_mayBeat 33 rfl rfl rfl ⟨rfl, rfl⟩
set_option maxRecDepth 100000 in
set_option maxHeartbeats 4000000 in
theorem m_X7_build_1w {E : gE} {ad : Nat → Nat} {ws : va_W} {p : PS} {sv : Nat → PS} {sc len : Nat} {ch : Nat → Int32} {tw : Int32} {hh : Int64} (hM : ZM E ad ws p sv sc len ch tw hh) {t v w x : Int32} (h1 : inP w 0 1 = 0) : C0 E YX7_build 0 0 [.ref (ad 214), .int w, .int t, .int x, .int v] ws (fun v9 w9 => v9 = some (.int 0) ∧ ZM E ad w9 p sv sc len ch 1 hh ∧ MO ws w9) := by
  obtain ⟨ea, iw, z, rw, as, l, hs, hq, er, bf, ⟨h, hz, hr, has, hl⟩, ⟨hhs, hha, hbf, he⟩, ⟨hG, hLG⟩, hsv, hlen, hch⟩ := id hM
  refine c0V vX7_build (Nat.le_of_ble_eq_true rfl) (lv0 := [(0, .ref (ad 214)), (1, .int w), (2, .int t), (3, .int x), (4, .int v)]) rfl ?_
  refine ev_ss DX7_build 2 0 (pc' := 2) (lv' := [(0, .ref _), (1, .int _), (2, .int _), (3, .int _), (4, .int _)]) (st' := [.int 0, .ref _]) rfl ?_
  refine ev_put (fs' := [_, _, _, _, _, _, _, _, _, _, _, _, _, _]) DX7_build 2 GX7 rfl (k0 := 9) (Nat.le_of_ble_eq_true rfl) fX7_35 rfl ⟨rfl, rfl⟩ h (Nat.le_of_ble_eq_true rfl) rfl rfl ?_
  refine ev_ss DX7_build 1 3 (pc' := 6) (lv' := [(0, .ref _), (1, .int _), (2, .int _), (3, .int _), (4, .int _)]) (st' := [.int _]) rfl ?_
  refine ev_cS DX7_build 4 m_X7_isWay vX7_isWay rfl qX7_46 rfl (hd_of rfl rfl rfl rfl) ?_
  refine ev_ifeq DX7_build 5 rfl (tgt := 19) (by decide) (fun _ => ?_) (fun h => h.elim h1)
  refine ev_ss DX7_build 2 9 (pc' := 21) (lv' := [(0, .ref _), (1, .int _), (2, .int _), (3, .int _), (4, .int _)]) (st' := [.int 1, .ref _]) rfl ?_
  refine ev_cV DX7_build 11 (cd_hs (m_X7_fails (wset_get h) (wset_o hz h rfl)) wset_set) vX7_fails rfl qX7_53 rfl (wset_get h) rfl (hd_of rfl rfl rfl rfl) ?_
  exact ev_iret DX7_build 12 rfl rfl ⟨rfl, hM.t0 h, MO.set (by decide) (by decide)⟩
set_option maxRecDepth 100000 in
set_option maxHeartbeats 4000000 in
theorem m_X7_build_1t {E : gE} {ad : Nat → Nat} {ws : va_W} {p : PS} {sv : Nat → PS} {sc len : Nat} {ch : Nat → Int32} {tw : Int32} {hh : Int64} (hM : ZM E ad ws p sv sc len ch tw hh) {t v w x : Int32} (h1 : ¬ inP w 0 1 = 0) (h2 : inP t 0 7 = 0) : C0 E YX7_build 0 0 [.ref (ad 214), .int w, .int t, .int x, .int v] ws (fun v9 w9 => v9 = some (.int 0) ∧ ZM E ad w9 p sv sc len ch 1 hh ∧ MO ws w9) := by
  obtain ⟨ea, iw, z, rw, as, l, hs, hq, er, bf, ⟨h, hz, hr, has, hl⟩, ⟨hhs, hha, hbf, he⟩, ⟨hG, hLG⟩, hsv, hlen, hch⟩ := id hM
  refine c0V vX7_build (Nat.le_of_ble_eq_true rfl) (lv0 := [(0, .ref (ad 214)), (1, .int w), (2, .int t), (3, .int x), (4, .int v)]) rfl ?_
  refine ev_ss DX7_build 2 0 (pc' := 2) (lv' := [(0, .ref _), (1, .int _), (2, .int _), (3, .int _), (4, .int _)]) (st' := [.int 0, .ref _]) rfl ?_
  refine ev_put (fs' := [_, _, _, _, _, _, _, _, _, _, _, _, _, _]) DX7_build 2 GX7 rfl (k0 := 9) (Nat.le_of_ble_eq_true rfl) fX7_35 rfl ⟨rfl, rfl⟩ h (Nat.le_of_ble_eq_true rfl) rfl rfl ?_
  refine ev_ss DX7_build 1 3 (pc' := 6) (lv' := [(0, .ref _), (1, .int _), (2, .int _), (3, .int _), (4, .int _)]) (st' := [.int _]) rfl ?_
  refine ev_cS DX7_build 4 m_X7_isWay vX7_isWay rfl qX7_46 rfl (hd_of rfl rfl rfl rfl) ?_
  refine ev_ifeq DX7_build 5 rfl (tgt := 19) (by decide) (fun h => absurd h h1) (fun _ => ?_)
  refine ev_ss DX7_build 1 6 (pc' := 13) (lv' := [(0, .ref _), (1, .int _), (2, .int _), (3, .int _), (4, .int _)]) (st' := [.int _]) rfl ?_
  refine ev_cS DX7_build 7 m_X7_isTone vX7_isTone rfl qX7_50 rfl (hd_of rfl rfl rfl rfl) ?_
  refine ev_ifne DX7_build 8 rfl (tgt := 25) (by decide) (fun h => h.elim h2) (fun _ => ?_)
  refine ev_ss DX7_build 2 9 (pc' := 21) (lv' := [(0, .ref _), (1, .int _), (2, .int _), (3, .int _), (4, .int _)]) (st' := [.int 1, .ref _]) rfl ?_
  refine ev_cV DX7_build 11 (cd_hs (m_X7_fails (wset_get h) (wset_o hz h rfl)) wset_set) vX7_fails rfl qX7_53 rfl (wset_get h) rfl (hd_of rfl rfl rfl rfl) ?_
  exact ev_iret DX7_build 12 rfl rfl ⟨rfl, hM.t0 h, MO.set (by decide) (by decide)⟩
set_option maxRecDepth 100000 in
set_option maxHeartbeats 4000000 in
theorem m_X7_carry_1w {E : gE} {ad : Nat → Nat} {ws : va_W} {p : PS} {sv : Nat → PS} {sc len : Nat} {ch : Nat → Int32} {tw : Int32} {hh : Int64} (hM : ZM E ad ws p sv sc len ch tw hh) {t w x : Int32} (h1 : inP w 0 1 = 0) : C0 E YX7_carry 0 0 [.ref (ad 214), .int w, .int t, .int x] ws (fun v9 w9 => v9 = some (.int 0) ∧ ZM E ad w9 p sv sc len ch 1 hh ∧ MO ws w9) := by
  obtain ⟨ea, iw, z, rw, as, l, hs, hq, er, bf, ⟨h, hz, hr, has, hl⟩, ⟨hhs, hha, hbf, he⟩, ⟨hG, hLG⟩, hsv, hlen, hch⟩ := id hM
  refine c0V vX7_carry (Nat.le_of_ble_eq_true rfl) (lv0 := [(0, .ref (ad 214)), (1, .int w), (2, .int t), (3, .int x)]) rfl ?_
  refine ev_ss DX7_carry 2 0 (pc' := 2) (lv' := [(0, .ref _), (1, .int _), (2, .int _), (3, .int _)]) (st' := [.int 0, .ref _]) rfl ?_
  refine ev_put (fs' := [_, _, _, _, _, _, _, _, _, _, _, _, _, _]) DX7_carry 2 GX7 rfl (k0 := 9) (Nat.le_of_ble_eq_true rfl) fX7_35 rfl ⟨rfl, rfl⟩ h (Nat.le_of_ble_eq_true rfl) rfl rfl ?_
  refine ev_ss DX7_carry 1 3 (pc' := 6) (lv' := [(0, .ref _), (1, .int _), (2, .int _), (3, .int _)]) (st' := [.int _]) rfl ?_
  refine ev_cS DX7_carry 4 m_X7_isWay vX7_isWay rfl qX7_46 rfl (hd_of rfl rfl rfl rfl) ?_
  refine ev_ifeq DX7_carry 5 rfl (tgt := 19) (by decide) (fun _ => ?_) (fun h => h.elim h1)
  refine ev_ss DX7_carry 2 9 (pc' := 21) (lv' := [(0, .ref _), (1, .int _), (2, .int _), (3, .int _)]) (st' := [.int 1, .ref _]) rfl ?_
  refine ev_cV DX7_carry 11 (cd_hs (m_X7_fails (wset_get h) (wset_o hz h rfl)) wset_set) vX7_fails rfl qX7_53 rfl (wset_get h) rfl (hd_of rfl rfl rfl rfl) ?_
  exact ev_iret DX7_carry 12 rfl rfl ⟨rfl, hM.t0 h, MO.set (by decide) (by decide)⟩
set_option maxRecDepth 100000 in
set_option maxHeartbeats 4000000 in
theorem m_X7_carry_1t {E : gE} {ad : Nat → Nat} {ws : va_W} {p : PS} {sv : Nat → PS} {sc len : Nat} {ch : Nat → Int32} {tw : Int32} {hh : Int64} (hM : ZM E ad ws p sv sc len ch tw hh) {t w x : Int32} (h1 : ¬ inP w 0 1 = 0) (h2 : inP t 0 7 = 0) : C0 E YX7_carry 0 0 [.ref (ad 214), .int w, .int t, .int x] ws (fun v9 w9 => v9 = some (.int 0) ∧ ZM E ad w9 p sv sc len ch 1 hh ∧ MO ws w9) := by
  obtain ⟨ea, iw, z, rw, as, l, hs, hq, er, bf, ⟨h, hz, hr, has, hl⟩, ⟨hhs, hha, hbf, he⟩, ⟨hG, hLG⟩, hsv, hlen, hch⟩ := id hM
  refine c0V vX7_carry (Nat.le_of_ble_eq_true rfl) (lv0 := [(0, .ref (ad 214)), (1, .int w), (2, .int t), (3, .int x)]) rfl ?_
  refine ev_ss DX7_carry 2 0 (pc' := 2) (lv' := [(0, .ref _), (1, .int _), (2, .int _), (3, .int _)]) (st' := [.int 0, .ref _]) rfl ?_
  refine ev_put (fs' := [_, _, _, _, _, _, _, _, _, _, _, _, _, _]) DX7_carry 2 GX7 rfl (k0 := 9) (Nat.le_of_ble_eq_true rfl) fX7_35 rfl ⟨rfl, rfl⟩ h (Nat.le_of_ble_eq_true rfl) rfl rfl ?_
  refine ev_ss DX7_carry 1 3 (pc' := 6) (lv' := [(0, .ref _), (1, .int _), (2, .int _), (3, .int _)]) (st' := [.int _]) rfl ?_
  refine ev_cS DX7_carry 4 m_X7_isWay vX7_isWay rfl qX7_46 rfl (hd_of rfl rfl rfl rfl) ?_
  refine ev_ifeq DX7_carry 5 rfl (tgt := 19) (by decide) (fun h => absurd h h1) (fun _ => ?_)
  refine ev_ss DX7_carry 1 6 (pc' := 13) (lv' := [(0, .ref _), (1, .int _), (2, .int _), (3, .int _)]) (st' := [.int _]) rfl ?_
  refine ev_cS DX7_carry 7 m_X7_isTone vX7_isTone rfl qX7_50 rfl (hd_of rfl rfl rfl rfl) ?_
  refine ev_ifne DX7_carry 8 rfl (tgt := 25) (by decide) (fun h => h.elim h2) (fun _ => ?_)
  refine ev_ss DX7_carry 2 9 (pc' := 21) (lv' := [(0, .ref _), (1, .int _), (2, .int _), (3, .int _)]) (st' := [.int 1, .ref _]) rfl ?_
  refine ev_cV DX7_carry 11 (cd_hs (m_X7_fails (wset_get h) (wset_o hz h rfl)) wset_set) vX7_fails rfl qX7_53 rfl (wset_get h) rfl (hd_of rfl rfl rfl rfl) ?_
  exact ev_iret DX7_carry 12 rfl rfl ⟨rfl, hM.t0 h, MO.set (by decide) (by decide)⟩
set_option maxRecDepth 100000 in
set_option maxHeartbeats 4000000 in
theorem m_X7_insult_1w {E : gE} {ad : Nat → Nat} {ws : va_W} {p : PS} {sv : Nat → PS} {sc len : Nat} {ch : Nat → Int32} {tw : Int32} {hh : Int64} (hM : ZM E ad ws p sv sc len ch tw hh) {t w x : Int32} (h1 : inP w 0 1 = 0) : C0 E YX7_insult 0 0 [.ref (ad 214), .int w, .int t, .int x] ws (fun v9 w9 => v9 = some (.int 0) ∧ ZM E ad w9 p sv sc len ch 1 hh ∧ MO ws w9) := by
  obtain ⟨ea, iw, z, rw, as, l, hs, hq, er, bf, ⟨h, hz, hr, has, hl⟩, ⟨hhs, hha, hbf, he⟩, ⟨hG, hLG⟩, hsv, hlen, hch⟩ := id hM
  refine c0V vX7_insult (Nat.le_of_ble_eq_true rfl) (lv0 := [(0, .ref (ad 214)), (1, .int w), (2, .int t), (3, .int x)]) rfl ?_
  refine ev_ss DX7_insult 2 0 (pc' := 2) (lv' := [(0, .ref _), (1, .int _), (2, .int _), (3, .int _)]) (st' := [.int 0, .ref _]) rfl ?_
  refine ev_put (fs' := [_, _, _, _, _, _, _, _, _, _, _, _, _, _]) DX7_insult 2 GX7 rfl (k0 := 9) (Nat.le_of_ble_eq_true rfl) fX7_35 rfl ⟨rfl, rfl⟩ h (Nat.le_of_ble_eq_true rfl) rfl rfl ?_
  refine ev_ss DX7_insult 1 3 (pc' := 6) (lv' := [(0, .ref _), (1, .int _), (2, .int _), (3, .int _)]) (st' := [.int _]) rfl ?_
  refine ev_cS DX7_insult 4 m_X7_isWay vX7_isWay rfl qX7_46 rfl (hd_of rfl rfl rfl rfl) ?_
  refine ev_ifeq DX7_insult 5 rfl (tgt := 19) (by decide) (fun _ => ?_) (fun h => h.elim h1)
  refine ev_ss DX7_insult 2 9 (pc' := 21) (lv' := [(0, .ref _), (1, .int _), (2, .int _), (3, .int _)]) (st' := [.int 1, .ref _]) rfl ?_
  refine ev_cV DX7_insult 11 (cd_hs (m_X7_fails (wset_get h) (wset_o hz h rfl)) wset_set) vX7_fails rfl qX7_53 rfl (wset_get h) rfl (hd_of rfl rfl rfl rfl) ?_
  exact ev_iret DX7_insult 12 rfl rfl ⟨rfl, hM.t0 h, MO.set (by decide) (by decide)⟩
set_option maxRecDepth 100000 in
set_option maxHeartbeats 4000000 in
theorem m_X7_insult_1t {E : gE} {ad : Nat → Nat} {ws : va_W} {p : PS} {sv : Nat → PS} {sc len : Nat} {ch : Nat → Int32} {tw : Int32} {hh : Int64} (hM : ZM E ad ws p sv sc len ch tw hh) {t w x : Int32} (h1 : ¬ inP w 0 1 = 0) (h2 : inP t 0 7 = 0) : C0 E YX7_insult 0 0 [.ref (ad 214), .int w, .int t, .int x] ws (fun v9 w9 => v9 = some (.int 0) ∧ ZM E ad w9 p sv sc len ch 1 hh ∧ MO ws w9) := by
  obtain ⟨ea, iw, z, rw, as, l, hs, hq, er, bf, ⟨h, hz, hr, has, hl⟩, ⟨hhs, hha, hbf, he⟩, ⟨hG, hLG⟩, hsv, hlen, hch⟩ := id hM
  refine c0V vX7_insult (Nat.le_of_ble_eq_true rfl) (lv0 := [(0, .ref (ad 214)), (1, .int w), (2, .int t), (3, .int x)]) rfl ?_
  refine ev_ss DX7_insult 2 0 (pc' := 2) (lv' := [(0, .ref _), (1, .int _), (2, .int _), (3, .int _)]) (st' := [.int 0, .ref _]) rfl ?_
  refine ev_put (fs' := [_, _, _, _, _, _, _, _, _, _, _, _, _, _]) DX7_insult 2 GX7 rfl (k0 := 9) (Nat.le_of_ble_eq_true rfl) fX7_35 rfl ⟨rfl, rfl⟩ h (Nat.le_of_ble_eq_true rfl) rfl rfl ?_
  refine ev_ss DX7_insult 1 3 (pc' := 6) (lv' := [(0, .ref _), (1, .int _), (2, .int _), (3, .int _)]) (st' := [.int _]) rfl ?_
  refine ev_cS DX7_insult 4 m_X7_isWay vX7_isWay rfl qX7_46 rfl (hd_of rfl rfl rfl rfl) ?_
  refine ev_ifeq DX7_insult 5 rfl (tgt := 19) (by decide) (fun h => absurd h h1) (fun _ => ?_)
  refine ev_ss DX7_insult 1 6 (pc' := 13) (lv' := [(0, .ref _), (1, .int _), (2, .int _), (3, .int _)]) (st' := [.int _]) rfl ?_
  refine ev_cS DX7_insult 7 m_X7_isTone vX7_isTone rfl qX7_50 rfl (hd_of rfl rfl rfl rfl) ?_
  refine ev_ifne DX7_insult 8 rfl (tgt := 25) (by decide) (fun h => h.elim h2) (fun _ => ?_)
  refine ev_ss DX7_insult 2 9 (pc' := 21) (lv' := [(0, .ref _), (1, .int _), (2, .int _), (3, .int _)]) (st' := [.int 1, .ref _]) rfl ?_
  refine ev_cV DX7_insult 11 (cd_hs (m_X7_fails (wset_get h) (wset_o hz h rfl)) wset_set) vX7_fails rfl qX7_53 rfl (wset_get h) rfl (hd_of rfl rfl rfl rfl) ?_
  exact ev_iret DX7_insult 12 rfl rfl ⟨rfl, hM.t0 h, MO.set (by decide) (by decide)⟩
set_option maxRecDepth 100000 in
set_option maxHeartbeats 4000000 in
theorem m_X7_street_1w {E : gE} {ad : Nat → Nat} {ws : va_W} {p : PS} {sv : Nat → PS} {sc len : Nat} {ch : Nat → Int32} {tw : Int32} {hh : Int64} (hM : ZM E ad ws p sv sc len ch tw hh) {t w x : Int32} (h1 : inP w 0 1 = 0) : C0 E YX7_street 0 0 [.ref (ad 214), .int w, .int t, .int x] ws (fun v9 w9 => v9 = some (.int 0) ∧ ZM E ad w9 p sv sc len ch 1 hh ∧ MO ws w9) := by
  obtain ⟨ea, iw, z, rw, as, l, hs, hq, er, bf, ⟨h, hz, hr, has, hl⟩, ⟨hhs, hha, hbf, he⟩, ⟨hG, hLG⟩, hsv, hlen, hch⟩ := id hM
  refine c0V vX7_street (Nat.le_of_ble_eq_true rfl) (lv0 := [(0, .ref (ad 214)), (1, .int w), (2, .int t), (3, .int x)]) rfl ?_
  refine ev_ss DX7_street 2 0 (pc' := 2) (lv' := [(0, .ref _), (1, .int _), (2, .int _), (3, .int _)]) (st' := [.int 0, .ref _]) rfl ?_
  refine ev_put (fs' := [_, _, _, _, _, _, _, _, _, _, _, _, _, _]) DX7_street 2 GX7 rfl (k0 := 9) (Nat.le_of_ble_eq_true rfl) fX7_35 rfl ⟨rfl, rfl⟩ h (Nat.le_of_ble_eq_true rfl) rfl rfl ?_
  refine ev_ss DX7_street 1 3 (pc' := 6) (lv' := [(0, .ref _), (1, .int _), (2, .int _), (3, .int _)]) (st' := [.int _]) rfl ?_
  refine ev_cS DX7_street 4 m_X7_isWay vX7_isWay rfl qX7_46 rfl (hd_of rfl rfl rfl rfl) ?_
  refine ev_ifeq DX7_street 5 rfl (tgt := 19) (by decide) (fun _ => ?_) (fun h => h.elim h1)
  refine ev_ss DX7_street 2 9 (pc' := 21) (lv' := [(0, .ref _), (1, .int _), (2, .int _), (3, .int _)]) (st' := [.int 1, .ref _]) rfl ?_
  refine ev_cV DX7_street 11 (cd_hs (m_X7_fails (wset_get h) (wset_o hz h rfl)) wset_set) vX7_fails rfl qX7_53 rfl (wset_get h) rfl (hd_of rfl rfl rfl rfl) ?_
  exact ev_iret DX7_street 12 rfl rfl ⟨rfl, hM.t0 h, MO.set (by decide) (by decide)⟩
set_option maxRecDepth 100000 in
set_option maxHeartbeats 4000000 in
theorem m_X7_street_1t {E : gE} {ad : Nat → Nat} {ws : va_W} {p : PS} {sv : Nat → PS} {sc len : Nat} {ch : Nat → Int32} {tw : Int32} {hh : Int64} (hM : ZM E ad ws p sv sc len ch tw hh) {t w x : Int32} (h1 : ¬ inP w 0 1 = 0) (h2 : inP t 0 7 = 0) : C0 E YX7_street 0 0 [.ref (ad 214), .int w, .int t, .int x] ws (fun v9 w9 => v9 = some (.int 0) ∧ ZM E ad w9 p sv sc len ch 1 hh ∧ MO ws w9) := by
  obtain ⟨ea, iw, z, rw, as, l, hs, hq, er, bf, ⟨h, hz, hr, has, hl⟩, ⟨hhs, hha, hbf, he⟩, ⟨hG, hLG⟩, hsv, hlen, hch⟩ := id hM
  refine c0V vX7_street (Nat.le_of_ble_eq_true rfl) (lv0 := [(0, .ref (ad 214)), (1, .int w), (2, .int t), (3, .int x)]) rfl ?_
  refine ev_ss DX7_street 2 0 (pc' := 2) (lv' := [(0, .ref _), (1, .int _), (2, .int _), (3, .int _)]) (st' := [.int 0, .ref _]) rfl ?_
  refine ev_put (fs' := [_, _, _, _, _, _, _, _, _, _, _, _, _, _]) DX7_street 2 GX7 rfl (k0 := 9) (Nat.le_of_ble_eq_true rfl) fX7_35 rfl ⟨rfl, rfl⟩ h (Nat.le_of_ble_eq_true rfl) rfl rfl ?_
  refine ev_ss DX7_street 1 3 (pc' := 6) (lv' := [(0, .ref _), (1, .int _), (2, .int _), (3, .int _)]) (st' := [.int _]) rfl ?_
  refine ev_cS DX7_street 4 m_X7_isWay vX7_isWay rfl qX7_46 rfl (hd_of rfl rfl rfl rfl) ?_
  refine ev_ifeq DX7_street 5 rfl (tgt := 19) (by decide) (fun h => absurd h h1) (fun _ => ?_)
  refine ev_ss DX7_street 1 6 (pc' := 13) (lv' := [(0, .ref _), (1, .int _), (2, .int _), (3, .int _)]) (st' := [.int _]) rfl ?_
  refine ev_cS DX7_street 7 m_X7_isTone vX7_isTone rfl qX7_50 rfl (hd_of rfl rfl rfl rfl) ?_
  refine ev_ifne DX7_street 8 rfl (tgt := 25) (by decide) (fun h => h.elim h2) (fun _ => ?_)
  refine ev_ss DX7_street 2 9 (pc' := 21) (lv' := [(0, .ref _), (1, .int _), (2, .int _), (3, .int _)]) (st' := [.int 1, .ref _]) rfl ?_
  refine ev_cV DX7_street 11 (cd_hs (m_X7_fails (wset_get h) (wset_o hz h rfl)) wset_set) vX7_fails rfl qX7_53 rfl (wset_get h) rfl (hd_of rfl rfl rfl rfl) ?_
  exact ev_iret DX7_street 12 rfl rfl ⟨rfl, hM.t0 h, MO.set (by decide) (by decide)⟩
set_option maxRecDepth 100000 in
set_option maxHeartbeats 4000000 in
theorem m_X7_accent_1w {E : gE} {ad : Nat → Nat} {ws : va_W} {p : PS} {sv : Nat → PS} {sc len : Nat} {ch : Nat → Int32} {tw : Int32} {hh : Int64} (hM : ZM E ad ws p sv sc len ch tw hh) {t w x : Int32} (h1 : inP w 0 1 = 0) : C0 E YX7_accent 0 0 [.ref (ad 214), .int w, .int t, .int x] ws (fun v9 w9 => v9 = some (.int 0) ∧ ZM E ad w9 p sv sc len ch 1 hh ∧ MO ws w9) := by
  obtain ⟨ea, iw, z, rw, as, l, hs, hq, er, bf, ⟨h, hz, hr, has, hl⟩, ⟨hhs, hha, hbf, he⟩, ⟨hG, hLG⟩, hsv, hlen, hch⟩ := id hM
  refine c0V vX7_accent (Nat.le_of_ble_eq_true rfl) (lv0 := [(0, .ref (ad 214)), (1, .int w), (2, .int t), (3, .int x)]) rfl ?_
  refine ev_ss DX7_accent 2 0 (pc' := 2) (lv' := [(0, .ref _), (1, .int _), (2, .int _), (3, .int _)]) (st' := [.int 0, .ref _]) rfl ?_
  refine ev_put (fs' := [_, _, _, _, _, _, _, _, _, _, _, _, _, _]) DX7_accent 2 GX7 rfl (k0 := 9) (Nat.le_of_ble_eq_true rfl) fX7_35 rfl ⟨rfl, rfl⟩ h (Nat.le_of_ble_eq_true rfl) rfl rfl ?_
  refine ev_ss DX7_accent 1 3 (pc' := 6) (lv' := [(0, .ref _), (1, .int _), (2, .int _), (3, .int _)]) (st' := [.int _]) rfl ?_
  refine ev_cS DX7_accent 4 m_X7_isWay vX7_isWay rfl qX7_46 rfl (hd_of rfl rfl rfl rfl) ?_
  refine ev_ifeq DX7_accent 5 rfl (tgt := 19) (by decide) (fun _ => ?_) (fun h => h.elim h1)
  refine ev_ss DX7_accent 2 9 (pc' := 21) (lv' := [(0, .ref _), (1, .int _), (2, .int _), (3, .int _)]) (st' := [.int 1, .ref _]) rfl ?_
  refine ev_cV DX7_accent 11 (cd_hs (m_X7_fails (wset_get h) (wset_o hz h rfl)) wset_set) vX7_fails rfl qX7_53 rfl (wset_get h) rfl (hd_of rfl rfl rfl rfl) ?_
  exact ev_iret DX7_accent 12 rfl rfl ⟨rfl, hM.t0 h, MO.set (by decide) (by decide)⟩
set_option maxRecDepth 100000 in
set_option maxHeartbeats 4000000 in
theorem m_X7_accent_1t {E : gE} {ad : Nat → Nat} {ws : va_W} {p : PS} {sv : Nat → PS} {sc len : Nat} {ch : Nat → Int32} {tw : Int32} {hh : Int64} (hM : ZM E ad ws p sv sc len ch tw hh) {t w x : Int32} (h1 : ¬ inP w 0 1 = 0) (h2 : inP t 0 7 = 0) : C0 E YX7_accent 0 0 [.ref (ad 214), .int w, .int t, .int x] ws (fun v9 w9 => v9 = some (.int 0) ∧ ZM E ad w9 p sv sc len ch 1 hh ∧ MO ws w9) := by
  obtain ⟨ea, iw, z, rw, as, l, hs, hq, er, bf, ⟨h, hz, hr, has, hl⟩, ⟨hhs, hha, hbf, he⟩, ⟨hG, hLG⟩, hsv, hlen, hch⟩ := id hM
  refine c0V vX7_accent (Nat.le_of_ble_eq_true rfl) (lv0 := [(0, .ref (ad 214)), (1, .int w), (2, .int t), (3, .int x)]) rfl ?_
  refine ev_ss DX7_accent 2 0 (pc' := 2) (lv' := [(0, .ref _), (1, .int _), (2, .int _), (3, .int _)]) (st' := [.int 0, .ref _]) rfl ?_
  refine ev_put (fs' := [_, _, _, _, _, _, _, _, _, _, _, _, _, _]) DX7_accent 2 GX7 rfl (k0 := 9) (Nat.le_of_ble_eq_true rfl) fX7_35 rfl ⟨rfl, rfl⟩ h (Nat.le_of_ble_eq_true rfl) rfl rfl ?_
  refine ev_ss DX7_accent 1 3 (pc' := 6) (lv' := [(0, .ref _), (1, .int _), (2, .int _), (3, .int _)]) (st' := [.int _]) rfl ?_
  refine ev_cS DX7_accent 4 m_X7_isWay vX7_isWay rfl qX7_46 rfl (hd_of rfl rfl rfl rfl) ?_
  refine ev_ifeq DX7_accent 5 rfl (tgt := 19) (by decide) (fun h => absurd h h1) (fun _ => ?_)
  refine ev_ss DX7_accent 1 6 (pc' := 13) (lv' := [(0, .ref _), (1, .int _), (2, .int _), (3, .int _)]) (st' := [.int _]) rfl ?_
  refine ev_cS DX7_accent 7 m_X7_isTone vX7_isTone rfl qX7_50 rfl (hd_of rfl rfl rfl rfl) ?_
  refine ev_ifne DX7_accent 8 rfl (tgt := 25) (by decide) (fun h => h.elim h2) (fun _ => ?_)
  refine ev_ss DX7_accent 2 9 (pc' := 21) (lv' := [(0, .ref _), (1, .int _), (2, .int _), (3, .int _)]) (st' := [.int 1, .ref _]) rfl ?_
  refine ev_cV DX7_accent 11 (cd_hs (m_X7_fails (wset_get h) (wset_o hz h rfl)) wset_set) vX7_fails rfl qX7_53 rfl (wset_get h) rfl (hd_of rfl rfl rfl rfl) ?_
  exact ev_iret DX7_accent 12 rfl rfl ⟨rfl, hM.t0 h, MO.set (by decide) (by decide)⟩
set_option maxRecDepth 100000 in
set_option maxHeartbeats 4000000 in
theorem m_X7_build_2w {E : gE} {ad : Nat → Nat} {ws : va_W} {p : PS} {sv : Nat → PS} {sc len : Nat} {ch : Nat → Int32} {tw : Int32} {hh : Int64} (hM : ZM E ad ws p sv sc len ch tw hh) {t v w x : Int32} (h1 : ¬ inP w 0 1 = 0) (h2 : ¬ inP t 0 7 = 0) (h3 : inP x 0 3 = 0) : C0 E YX7_build 0 0 [.ref (ad 214), .int w, .int t, .int x, .int v] ws (fun v9 w9 => v9 = some (.int 0) ∧ ZM E ad w9 p sv sc len ch 2 hh ∧ MO ws w9) := by
  obtain ⟨ea, iw, z, rw, as, l, hs, hq, er, bf, ⟨h, hz, hr, has, hl⟩, ⟨hhs, hha, hbf, he⟩, ⟨hG, hLG⟩, hsv, hlen, hch⟩ := id hM
  refine c0V vX7_build (Nat.le_of_ble_eq_true rfl) (lv0 := [(0, .ref (ad 214)), (1, .int w), (2, .int t), (3, .int x), (4, .int v)]) rfl ?_
  refine ev_ss DX7_build 2 0 (pc' := 2) (lv' := [(0, .ref _), (1, .int _), (2, .int _), (3, .int _), (4, .int _)]) (st' := [.int 0, .ref _]) rfl ?_
  refine ev_put (fs' := [_, _, _, _, _, _, _, _, _, _, _, _, _, _]) DX7_build 2 GX7 rfl (k0 := 9) (Nat.le_of_ble_eq_true rfl) fX7_35 rfl ⟨rfl, rfl⟩ h (Nat.le_of_ble_eq_true rfl) rfl rfl ?_
  refine ev_ss DX7_build 1 3 (pc' := 6) (lv' := [(0, .ref _), (1, .int _), (2, .int _), (3, .int _), (4, .int _)]) (st' := [.int _]) rfl ?_
  refine ev_cS DX7_build 4 m_X7_isWay vX7_isWay rfl qX7_46 rfl (hd_of rfl rfl rfl rfl) ?_
  refine ev_ifeq DX7_build 5 rfl (tgt := 19) (by decide) (fun h => absurd h h1) (fun _ => ?_)
  refine ev_ss DX7_build 1 6 (pc' := 13) (lv' := [(0, .ref _), (1, .int _), (2, .int _), (3, .int _), (4, .int _)]) (st' := [.int _]) rfl ?_
  refine ev_cS DX7_build 7 m_X7_isTone vX7_isTone rfl qX7_50 rfl (hd_of rfl rfl rfl rfl) ?_
  refine ev_ifne DX7_build 8 rfl (tgt := 25) (by decide) (fun _ => ?_) (fun h => absurd h h2)
  refine ev_ss DX7_build 3 13 (pc' := 28) (lv' := [(0, .ref _), (1, .int _), (2, .int _), (3, .int _), (4, .int _)]) (st' := [.int 3, .int 0, .int _]) rfl ?_
  refine ev_cS DX7_build 16 m_X7_in vX7_in rfl qX7_39 rfl (hd_of rfl rfl rfl rfl) ?_
  refine ev_ifeq DX7_build 17 rfl (tgt := 43) (by decide) (fun _ => ?_) (fun h => h.elim h3)
  refine ev_ss DX7_build 2 22 (pc' := 45) (lv' := [(0, .ref _), (1, .int _), (2, .int _), (3, .int _), (4, .int _)]) (st' := [.int 2, .ref _]) rfl ?_
  refine ev_cV DX7_build 24 (cd_hs (m_X7_fails (wset_get h) (wset_o hz h rfl)) wset_set) vX7_fails rfl qX7_53 rfl (wset_get h) rfl (hd_of rfl rfl rfl rfl) ?_
  exact ev_iret DX7_build 25 rfl rfl ⟨rfl, hM.t0 h, MO.set (by decide) (by decide)⟩
set_option maxRecDepth 100000 in
set_option maxHeartbeats 4000000 in
theorem m_X7_build_2v {E : gE} {ad : Nat → Nat} {ws : va_W} {p : PS} {sv : Nat → PS} {sc len : Nat} {ch : Nat → Int32} {tw : Int32} {hh : Int64} (hM : ZM E ad ws p sv sc len ch tw hh) {t v w : Int32} {j : Nat} (hj : j < 4) (h1 : ¬ inP w 0 1 = 0) (h2 : ¬ inP t 0 7 = 0) (h4 : inP v (gSv [16, -32, -32, 0] j) (gSv [96, 32, 32, 60] j) = 0) : C0 E YX7_build 0 0 [.ref (ad 214), .int w, .int t, .int (nI j), .int v] ws (fun v9 w9 => v9 = some (.int 0) ∧ ZM E ad w9 p sv sc len ch 2 hh ∧ MO ws w9) := by
  obtain ⟨ea, iw, z, rw, as, l, hs, hq, er, bf, ⟨h, hz, hr, has, hl⟩, ⟨hhs, hha, hbf, he⟩, ⟨hG, hLG⟩, hsv, hlen, hch⟩ := id hM
  refine c0V vX7_build (Nat.le_of_ble_eq_true rfl) (lv0 := [(0, .ref (ad 214)), (1, .int w), (2, .int t), (3, .int (nI j)), (4, .int v)]) rfl ?_
  refine ev_ss DX7_build 2 0 (pc' := 2) (lv' := [(0, .ref _), (1, .int _), (2, .int _), (3, .int _), (4, .int _)]) (st' := [.int 0, .ref _]) rfl ?_
  refine ev_put (fs' := [_, _, _, _, _, _, _, _, _, _, _, _, _, _]) DX7_build 2 GX7 rfl (k0 := 9) (Nat.le_of_ble_eq_true rfl) fX7_35 rfl ⟨rfl, rfl⟩ h (Nat.le_of_ble_eq_true rfl) rfl rfl ?_
  refine ev_ss DX7_build 1 3 (pc' := 6) (lv' := [(0, .ref _), (1, .int _), (2, .int _), (3, .int _), (4, .int _)]) (st' := [.int _]) rfl ?_
  refine ev_cS DX7_build 4 m_X7_isWay vX7_isWay rfl qX7_46 rfl (hd_of rfl rfl rfl rfl) ?_
  refine ev_ifeq DX7_build 5 rfl (tgt := 19) (by decide) (fun h => absurd h h1) (fun _ => ?_)
  refine ev_ss DX7_build 1 6 (pc' := 13) (lv' := [(0, .ref _), (1, .int _), (2, .int _), (3, .int _), (4, .int _)]) (st' := [.int _]) rfl ?_
  refine ev_cS DX7_build 7 m_X7_isTone vX7_isTone rfl qX7_50 rfl (hd_of rfl rfl rfl rfl) ?_
  refine ev_ifne DX7_build 8 rfl (tgt := 25) (by decide) (fun _ => ?_) (fun h => absurd h h2)
  refine ev_ss DX7_build 3 13 (pc' := 28) (lv' := [(0, .ref _), (1, .int _), (2, .int _), (3, .int _), (4, .int _)]) (st' := [.int 3, .int 0, .int _]) rfl ?_
  refine ev_cS DX7_build 16 m_X7_in vX7_in rfl qX7_39 rfl (hd_of rfl rfl rfl rfl) ?_
  refine ev_ifeq DX7_build 17 rfl (tgt := 43) (by decide) (fun h => absurd h (in_nI 3 (by decide) j hj)) (fun _ => ?_)
  refine ev_ss DX7_build 2 18 (pc' := 37) (lv' := [(0, .ref _), (1, .int _), (2, .int _), (3, .int _), (4, .int _)]) (st' := [.int _, .int _]) rfl ?_
  refine ev_cS DX7_build 20 (m_X7_mayBuild hj) vX7_mayBuild rfl qX7_57 rfl (hd_of rfl rfl rfl rfl) ?_
  refine ev_ifne DX7_build 21 rfl (tgt := 49) (by decide) (fun h => h.elim h4) (fun _ => ?_)
  refine ev_ss DX7_build 2 22 (pc' := 45) (lv' := [(0, .ref _), (1, .int _), (2, .int _), (3, .int _), (4, .int _)]) (st' := [.int 2, .ref _]) rfl ?_
  refine ev_cV DX7_build 24 (cd_hs (m_X7_fails (wset_get h) (wset_o hz h rfl)) wset_set) vX7_fails rfl qX7_53 rfl (wset_get h) rfl (hd_of rfl rfl rfl rfl) ?_
  exact ev_iret DX7_build 25 rfl rfl ⟨rfl, hM.t0 h, MO.set (by decide) (by decide)⟩
set_option maxRecDepth 100000 in
set_option maxHeartbeats 4000000 in
theorem m_X7_carry_2 {E : gE} {ad : Nat → Nat} {ws : va_W} {p : PS} {sv : Nat → PS} {sc len : Nat} {ch : Nat → Int32} {tw : Int32} {hh : Int64} (hM : ZM E ad ws p sv sc len ch tw hh) {t w x : Int32} (h1 : ¬ inP w 0 1 = 0) (h2 : ¬ inP t 0 7 = 0) (h3 : inP x 0 4 = 0) : C0 E YX7_carry 0 0 [.ref (ad 214), .int w, .int t, .int x] ws (fun v9 w9 => v9 = some (.int 0) ∧ ZM E ad w9 p sv sc len ch 2 hh ∧ MO ws w9) := by
  obtain ⟨ea, iw, z, rw, as, l, hs, hq, er, bf, ⟨h, hz, hr, has, hl⟩, ⟨hhs, hha, hbf, he⟩, ⟨hG, hLG⟩, hsv, hlen, hch⟩ := id hM
  refine c0V vX7_carry (Nat.le_of_ble_eq_true rfl) (lv0 := [(0, .ref (ad 214)), (1, .int w), (2, .int t), (3, .int x)]) rfl ?_
  refine ev_ss DX7_carry 2 0 (pc' := 2) (lv' := [(0, .ref _), (1, .int _), (2, .int _), (3, .int _)]) (st' := [.int 0, .ref _]) rfl ?_
  refine ev_put (fs' := [_, _, _, _, _, _, _, _, _, _, _, _, _, _]) DX7_carry 2 GX7 rfl (k0 := 9) (Nat.le_of_ble_eq_true rfl) fX7_35 rfl ⟨rfl, rfl⟩ h (Nat.le_of_ble_eq_true rfl) rfl rfl ?_
  refine ev_ss DX7_carry 1 3 (pc' := 6) (lv' := [(0, .ref _), (1, .int _), (2, .int _), (3, .int _)]) (st' := [.int _]) rfl ?_
  refine ev_cS DX7_carry 4 m_X7_isWay vX7_isWay rfl qX7_46 rfl (hd_of rfl rfl rfl rfl) ?_
  refine ev_ifeq DX7_carry 5 rfl (tgt := 19) (by decide) (fun h => absurd h h1) (fun _ => ?_)
  refine ev_ss DX7_carry 1 6 (pc' := 13) (lv' := [(0, .ref _), (1, .int _), (2, .int _), (3, .int _)]) (st' := [.int _]) rfl ?_
  refine ev_cS DX7_carry 7 m_X7_isTone vX7_isTone rfl qX7_50 rfl (hd_of rfl rfl rfl rfl) ?_
  refine ev_ifne DX7_carry 8 rfl (tgt := 25) (by decide) (fun _ => ?_) (fun h => absurd h h2)
  refine ev_ss DX7_carry 3 13 (pc' := 28) (lv' := [(0, .ref _), (1, .int _), (2, .int _), (3, .int _)]) (st' := [.int 4, .int 0, .int _]) rfl ?_
  refine ev_cS DX7_carry 16 m_X7_in vX7_in rfl qX7_39 rfl (hd_of rfl rfl rfl rfl) ?_
  refine ev_ifne DX7_carry 17 rfl (tgt := 40) (by decide) (fun h => h.elim h3) (fun _ => ?_)
  refine ev_ss DX7_carry 2 18 (pc' := 36) (lv' := [(0, .ref _), (1, .int _), (2, .int _), (3, .int _)]) (st' := [.int 2, .ref _]) rfl ?_
  refine ev_cV DX7_carry 20 (cd_hs (m_X7_fails (wset_get h) (wset_o hz h rfl)) wset_set) vX7_fails rfl qX7_53 rfl (wset_get h) rfl (hd_of rfl rfl rfl rfl) ?_
  exact ev_iret DX7_carry 21 rfl rfl ⟨rfl, hM.t0 h, MO.set (by decide) (by decide)⟩
set_option maxRecDepth 100000 in
set_option maxHeartbeats 4000000 in
theorem m_X7_insult_2 {E : gE} {ad : Nat → Nat} {ws : va_W} {p : PS} {sv : Nat → PS} {sc len : Nat} {ch : Nat → Int32} {tw : Int32} {hh : Int64} (hM : ZM E ad ws p sv sc len ch tw hh) {t w x : Int32} (h1 : ¬ inP w 0 1 = 0) (h2 : ¬ inP t 0 7 = 0) (h3 : inP x (-300) 300 = 0) : C0 E YX7_insult 0 0 [.ref (ad 214), .int w, .int t, .int x] ws (fun v9 w9 => v9 = some (.int 0) ∧ ZM E ad w9 p sv sc len ch 2 hh ∧ MO ws w9) := by
  obtain ⟨ea, iw, z, rw, as, l, hs, hq, er, bf, ⟨h, hz, hr, has, hl⟩, ⟨hhs, hha, hbf, he⟩, ⟨hG, hLG⟩, hsv, hlen, hch⟩ := id hM
  refine c0V vX7_insult (Nat.le_of_ble_eq_true rfl) (lv0 := [(0, .ref (ad 214)), (1, .int w), (2, .int t), (3, .int x)]) rfl ?_
  refine ev_ss DX7_insult 2 0 (pc' := 2) (lv' := [(0, .ref _), (1, .int _), (2, .int _), (3, .int _)]) (st' := [.int 0, .ref _]) rfl ?_
  refine ev_put (fs' := [_, _, _, _, _, _, _, _, _, _, _, _, _, _]) DX7_insult 2 GX7 rfl (k0 := 9) (Nat.le_of_ble_eq_true rfl) fX7_35 rfl ⟨rfl, rfl⟩ h (Nat.le_of_ble_eq_true rfl) rfl rfl ?_
  refine ev_ss DX7_insult 1 3 (pc' := 6) (lv' := [(0, .ref _), (1, .int _), (2, .int _), (3, .int _)]) (st' := [.int _]) rfl ?_
  refine ev_cS DX7_insult 4 m_X7_isWay vX7_isWay rfl qX7_46 rfl (hd_of rfl rfl rfl rfl) ?_
  refine ev_ifeq DX7_insult 5 rfl (tgt := 19) (by decide) (fun h => absurd h h1) (fun _ => ?_)
  refine ev_ss DX7_insult 1 6 (pc' := 13) (lv' := [(0, .ref _), (1, .int _), (2, .int _), (3, .int _)]) (st' := [.int _]) rfl ?_
  refine ev_cS DX7_insult 7 m_X7_isTone vX7_isTone rfl qX7_50 rfl (hd_of rfl rfl rfl rfl) ?_
  refine ev_ifne DX7_insult 8 rfl (tgt := 25) (by decide) (fun _ => ?_) (fun h => absurd h h2)
  refine ev_ss DX7_insult 3 13 (pc' := 32) (lv' := [(0, .ref _), (1, .int _), (2, .int _), (3, .int _)]) (st' := [.int 300, .int (-300), .int _]) rfl ?_
  refine ev_cS DX7_insult 16 m_X7_in vX7_in rfl qX7_39 rfl (hd_of rfl rfl rfl rfl) ?_
  refine ev_ifne DX7_insult 17 rfl (tgt := 44) (by decide) (fun h => h.elim h3) (fun _ => ?_)
  refine ev_ss DX7_insult 2 18 (pc' := 40) (lv' := [(0, .ref _), (1, .int _), (2, .int _), (3, .int _)]) (st' := [.int 2, .ref _]) rfl ?_
  refine ev_cV DX7_insult 20 (cd_hs (m_X7_fails (wset_get h) (wset_o hz h rfl)) wset_set) vX7_fails rfl qX7_53 rfl (wset_get h) rfl (hd_of rfl rfl rfl rfl) ?_
  exact ev_iret DX7_insult 21 rfl rfl ⟨rfl, hM.t0 h, MO.set (by decide) (by decide)⟩
set_option maxRecDepth 100000 in
set_option maxHeartbeats 4000000 in
theorem m_X7_insult_3 {E : gE} {ad : Nat → Nat} {ws : va_W} {p : PS} {sv : Nat → PS} {sc len : Nat} {ch : Nat → Int32} {tw : Int32} {hh : Int64} (hM : ZM E ad ws p sv sc len ch tw hh) {x : Int32} {a t : Nat} (ha : a < 2) (ht : t < 8) (h3 : ¬ inP x (-300) 300 = 0) (h4 : inP ((pW p a).1 t 4 + x) (-1000) 1000 = 0) : C0 E YX7_insult 0 0 [.ref (ad 214), .int (nI a), .int (nI t), .int x] ws (fun v9 w9 => v9 = some (.int 0) ∧ ZM E ad w9 p sv sc len ch 3 hh ∧ MO ws w9) := by
  obtain ⟨ea, iw, z, rw, as, l, hs, hq, er, bf, ⟨h, hz, hr, has, hl⟩, ⟨hhs, hha, hbf, he⟩, ⟨hG, hLG⟩, hsv, hlen, hch⟩ := id hM
  have hs1 : stA a t + 7 ≤ 112 := by unfold stA; omega
  have hc1 : acA a t + 11 ≤ 288 := by unfold acA; omega
  refine c0V vX7_insult (Nat.le_of_ble_eq_true rfl) (lv0 := [(0, .ref (ad 214)), (1, .int (nI a)), (2, .int (nI t)), (3, .int x)]) rfl ?_
  refine ev_ss DX7_insult 2 0 (pc' := 2) (lv' := [(0, .ref _), (1, .int _), (2, .int _), (3, .int _)]) (st' := [.int 0, .ref _]) rfl ?_
  refine ev_put (fs' := [_, _, _, _, _, _, _, _, _, _, _, _, _, _]) DX7_insult 2 GX7 rfl (k0 := 9) (Nat.le_of_ble_eq_true rfl) fX7_35 rfl ⟨rfl, rfl⟩ h (Nat.le_of_ble_eq_true rfl) rfl rfl ?_
  refine ev_ss DX7_insult 1 3 (pc' := 6) (lv' := [(0, .ref _), (1, .int _), (2, .int _), (3, .int _)]) (st' := [.int _]) rfl ?_
  refine ev_cS DX7_insult 4 m_X7_isWay vX7_isWay rfl qX7_46 rfl (hd_of rfl rfl rfl rfl) ?_
  refine ev_ifeq DX7_insult 5 rfl (tgt := 19) (by decide) (fun h => absurd h (inW_g ha)) (fun _ => ?_)
  refine ev_ss DX7_insult 1 6 (pc' := 13) (lv' := [(0, .ref _), (1, .int _), (2, .int _), (3, .int _)]) (st' := [.int _]) rfl ?_
  refine ev_cS DX7_insult 7 m_X7_isTone vX7_isTone rfl qX7_50 rfl (hd_of rfl rfl rfl rfl) ?_
  refine ev_ifne DX7_insult 8 rfl (tgt := 25) (by decide) (fun _ => ?_) (fun h => absurd h (inT_g ht))
  refine ev_ss DX7_insult 3 13 (pc' := 32) (lv' := [(0, .ref _), (1, .int _), (2, .int _), (3, .int _)]) (st' := [.int 300, .int (-300), .int _]) rfl ?_
  refine ev_cS DX7_insult 16 m_X7_in vX7_in rfl qX7_39 rfl (hd_of rfl rfl rfl rfl) ?_
  refine ev_ifne DX7_insult 17 rfl (tgt := 44) (by decide) (fun _ => ?_) (fun h => absurd h h3)
  refine ev_ss DX7_insult 3 22 (pc' := 47) (lv' := [(0, .ref _), (1, .int _), (2, .int _), (3, .int _)]) (st' := [.int _, .int _, .ref _]) rfl ?_
  refine ev_cV DX7_insult 25 (m_X7_streetAt (wset_get h)) vX7_streetAt rfl qX7_64 rfl (wset_get h) rfl (hd_of rfl rfl rfl rfl) ?_
  refine ev_ss DX7_insult 4 26 (pc' := 55) (lv' := [(4, .int _), (0, .ref _), (1, .int _), (2, .int _), (3, .int _)]) (st' := [.ref _]) rfl ?_
  refine ev_get DX7_insult 30 GX7 rfl (k0 := 0) (Nat.le_of_ble_eq_true rfl) fX7_7 (wset_get h) rfl ?_
  refine ev_ss DX7_insult 1 31 (pc' := 60) (lv' := [(4, .int _), (0, .ref _), (1, .int _), (2, .int _), (3, .int _)]) (st' := [.int _, .ref _]) rfl ?_
  refine ev_ialdv DX7_insult 32 (k0 := (stA a t + 4)) rfl (wset_o hz h rfl) (nx_add (a := stA a t) (b := 4) rfl rfl) (by omega) (by decide) ((hG.1 a t 4 ha ht (by decide))) ?_
  refine ev_ss DX7_insult 4 33 (pc' := 69) (lv' := [(4, .int _), (0, .ref _), (1, .int _), (2, .int _), (3, .int _)]) (st' := [.int 1000, .int (-1000), .int _]) rfl ?_
  refine ev_cS DX7_insult 37 m_X7_in vX7_in rfl qX7_39 rfl (hd_of rfl rfl rfl rfl) ?_
  refine ev_ifne DX7_insult 38 rfl (tgt := 81) (by decide) (fun h => h.elim h4) (fun _ => ?_)
  refine ev_ss DX7_insult 2 39 (pc' := 77) (lv' := [(4, .int _), (0, .ref _), (1, .int _), (2, .int _), (3, .int _)]) (st' := [.int 3, .ref _]) rfl ?_
  refine ev_cV DX7_insult 41 (cd_hs (m_X7_fails (wset_get h) (wset_o hz h rfl)) wset_set) vX7_fails rfl qX7_53 rfl (wset_get h) rfl (hd_of rfl rfl rfl rfl) ?_
  exact ev_iret DX7_insult 42 rfl rfl ⟨rfl, hM.t0 h, MO.set (by decide) (by decide)⟩
set_option maxRecDepth 100000 in
set_option maxHeartbeats 4000000 in
theorem m_X7_street_2 {E : gE} {ad : Nat → Nat} {ws : va_W} {p : PS} {sv : Nat → PS} {sc len : Nat} {ch : Nat → Int32} {tw : Int32} {hh : Int64} (hM : ZM E ad ws p sv sc len ch tw hh) {t w x : Int32} (h1 : ¬ inP w 0 1 = 0) (h2 : ¬ inP t 0 7 = 0) (h3 : inP x 0 6 = 0) : C0 E YX7_street 0 0 [.ref (ad 214), .int w, .int t, .int x] ws (fun v9 w9 => v9 = some (.int 0) ∧ ZM E ad w9 p sv sc len ch 2 hh ∧ MO ws w9) := by
  obtain ⟨ea, iw, z, rw, as, l, hs, hq, er, bf, ⟨h, hz, hr, has, hl⟩, ⟨hhs, hha, hbf, he⟩, ⟨hG, hLG⟩, hsv, hlen, hch⟩ := id hM
  refine c0V vX7_street (Nat.le_of_ble_eq_true rfl) (lv0 := [(0, .ref (ad 214)), (1, .int w), (2, .int t), (3, .int x)]) rfl ?_
  refine ev_ss DX7_street 2 0 (pc' := 2) (lv' := [(0, .ref _), (1, .int _), (2, .int _), (3, .int _)]) (st' := [.int 0, .ref _]) rfl ?_
  refine ev_put (fs' := [_, _, _, _, _, _, _, _, _, _, _, _, _, _]) DX7_street 2 GX7 rfl (k0 := 9) (Nat.le_of_ble_eq_true rfl) fX7_35 rfl ⟨rfl, rfl⟩ h (Nat.le_of_ble_eq_true rfl) rfl rfl ?_
  refine ev_ss DX7_street 1 3 (pc' := 6) (lv' := [(0, .ref _), (1, .int _), (2, .int _), (3, .int _)]) (st' := [.int _]) rfl ?_
  refine ev_cS DX7_street 4 m_X7_isWay vX7_isWay rfl qX7_46 rfl (hd_of rfl rfl rfl rfl) ?_
  refine ev_ifeq DX7_street 5 rfl (tgt := 19) (by decide) (fun h => absurd h h1) (fun _ => ?_)
  refine ev_ss DX7_street 1 6 (pc' := 13) (lv' := [(0, .ref _), (1, .int _), (2, .int _), (3, .int _)]) (st' := [.int _]) rfl ?_
  refine ev_cS DX7_street 7 m_X7_isTone vX7_isTone rfl qX7_50 rfl (hd_of rfl rfl rfl rfl) ?_
  refine ev_ifne DX7_street 8 rfl (tgt := 25) (by decide) (fun _ => ?_) (fun h => absurd h h2)
  refine ev_ss DX7_street 3 13 (pc' := 29) (lv' := [(0, .ref _), (1, .int _), (2, .int _), (3, .int _)]) (st' := [.int 6, .int 0, .int _]) rfl ?_
  refine ev_cS DX7_street 16 m_X7_in vX7_in rfl qX7_39 rfl (hd_of rfl rfl rfl rfl) ?_
  refine ev_ifeq DX7_street 17 rfl (tgt := 51) (by decide) (fun _ => ?_) (fun h => h.elim h3)
  refine ev_ss DX7_street 2 28 (pc' := 53) (lv' := [(0, .ref _), (1, .int _), (2, .int _), (3, .int _)]) (st' := [.int 2, .ref _]) rfl ?_
  refine ev_cV DX7_street 30 (cd_hs (m_X7_fails (wset_get h) (wset_o hz h rfl)) wset_set) vX7_fails rfl qX7_53 rfl (wset_get h) rfl (hd_of rfl rfl rfl rfl) ?_
  exact ev_iret DX7_street 31 rfl rfl ⟨rfl, hM.t0 h, MO.set (by decide) (by decide)⟩
set_option maxRecDepth 100000 in
set_option maxHeartbeats 4000000 in
theorem m_X7_accent_2 {E : gE} {ad : Nat → Nat} {ws : va_W} {p : PS} {sv : Nat → PS} {sc len : Nat} {ch : Nat → Int32} {tw : Int32} {hh : Int64} (hM : ZM E ad ws p sv sc len ch tw hh) {t w x : Int32} (h1 : ¬ inP w 0 1 = 0) (h2 : ¬ inP t 0 7 = 0) (h3 : inP x 0 10 = 0) : C0 E YX7_accent 0 0 [.ref (ad 214), .int w, .int t, .int x] ws (fun v9 w9 => v9 = some (.int 0) ∧ ZM E ad w9 p sv sc len ch 2 hh ∧ MO ws w9) := by
  obtain ⟨ea, iw, z, rw, as, l, hs, hq, er, bf, ⟨h, hz, hr, has, hl⟩, ⟨hhs, hha, hbf, he⟩, ⟨hG, hLG⟩, hsv, hlen, hch⟩ := id hM
  refine c0V vX7_accent (Nat.le_of_ble_eq_true rfl) (lv0 := [(0, .ref (ad 214)), (1, .int w), (2, .int t), (3, .int x)]) rfl ?_
  refine ev_ss DX7_accent 2 0 (pc' := 2) (lv' := [(0, .ref _), (1, .int _), (2, .int _), (3, .int _)]) (st' := [.int 0, .ref _]) rfl ?_
  refine ev_put (fs' := [_, _, _, _, _, _, _, _, _, _, _, _, _, _]) DX7_accent 2 GX7 rfl (k0 := 9) (Nat.le_of_ble_eq_true rfl) fX7_35 rfl ⟨rfl, rfl⟩ h (Nat.le_of_ble_eq_true rfl) rfl rfl ?_
  refine ev_ss DX7_accent 1 3 (pc' := 6) (lv' := [(0, .ref _), (1, .int _), (2, .int _), (3, .int _)]) (st' := [.int _]) rfl ?_
  refine ev_cS DX7_accent 4 m_X7_isWay vX7_isWay rfl qX7_46 rfl (hd_of rfl rfl rfl rfl) ?_
  refine ev_ifeq DX7_accent 5 rfl (tgt := 19) (by decide) (fun h => absurd h h1) (fun _ => ?_)
  refine ev_ss DX7_accent 1 6 (pc' := 13) (lv' := [(0, .ref _), (1, .int _), (2, .int _), (3, .int _)]) (st' := [.int _]) rfl ?_
  refine ev_cS DX7_accent 7 m_X7_isTone vX7_isTone rfl qX7_50 rfl (hd_of rfl rfl rfl rfl) ?_
  refine ev_ifne DX7_accent 8 rfl (tgt := 25) (by decide) (fun _ => ?_) (fun h => absurd h h2)
  refine ev_ss DX7_accent 3 13 (pc' := 29) (lv' := [(0, .ref _), (1, .int _), (2, .int _), (3, .int _)]) (st' := [.int 10, .int 0, .int _]) rfl ?_
  refine ev_cS DX7_accent 16 m_X7_in vX7_in rfl qX7_39 rfl (hd_of rfl rfl rfl rfl) ?_
  refine ev_ifeq DX7_accent 17 rfl (tgt := 51) (by decide) (fun _ => ?_) (fun h => h.elim h3)
  refine ev_ss DX7_accent 2 28 (pc' := 53) (lv' := [(0, .ref _), (1, .int _), (2, .int _), (3, .int _)]) (st' := [.int 2, .ref _]) rfl ?_
  refine ev_cV DX7_accent 30 (cd_hs (m_X7_fails (wset_get h) (wset_o hz h rfl)) wset_set) vX7_fails rfl qX7_53 rfl (wset_get h) rfl (hd_of rfl rfl rfl rfl) ?_
  exact ev_iret DX7_accent 31 rfl rfl ⟨rfl, hM.t0 h, MO.set (by decide) (by decide)⟩
set_option maxRecDepth 100000 in
set_option maxHeartbeats 4000000 in
theorem m_X7_set_1 {E : gE} {ad : Nat → Nat} {ws : va_W} {p : PS} {sv : Nat → PS} {sc len : Nat} {ch : Nat → Int32} {tw : Int32} {hh : Int64} (hM : ZM E ad ws p sv sc len ch tw hh) {v x : Int32} (h1 : inP x 0 2 = 0) : C0 E YX7_set 0 0 [.ref (ad 214), .int x, .int v] ws (fun v9 w9 => v9 = some (.int 0) ∧ ZM E ad w9 p sv sc len ch 1 hh ∧ MO ws w9) := by
  obtain ⟨ea, iw, z, rw, as, l, hs, hq, er, bf, ⟨h, hz, hr, has, hl⟩, ⟨hhs, hha, hbf, he⟩, ⟨hG, hLG⟩, hsv, hlen, hch⟩ := id hM
  refine c0V vX7_set (Nat.le_of_ble_eq_true rfl) (lv0 := [(0, .ref (ad 214)), (1, .int x), (2, .int v)]) rfl ?_
  refine ev_ss DX7_set 2 0 (pc' := 2) (lv' := [(0, .ref _), (1, .int _), (2, .int _)]) (st' := [.int 0, .ref _]) rfl ?_
  refine ev_put (fs' := [_, _, _, _, _, _, _, _, _, _, _, _, _, _]) DX7_set 2 GX7 rfl (k0 := 9) (Nat.le_of_ble_eq_true rfl) fX7_35 rfl ⟨rfl, rfl⟩ h (Nat.le_of_ble_eq_true rfl) rfl rfl ?_
  refine ev_ss DX7_set 3 3 (pc' := 8) (lv' := [(0, .ref _), (1, .int _), (2, .int _)]) (st' := [.int 2, .int 0, .int _]) rfl ?_
  refine ev_cS DX7_set 6 m_X7_in vX7_in rfl qX7_39 rfl (hd_of rfl rfl rfl rfl) ?_
  refine ev_ifne DX7_set 7 rfl (tgt := 20) (by decide) (fun h => h.elim h1) (fun _ => ?_)
  refine ev_ss DX7_set 2 8 (pc' := 16) (lv' := [(0, .ref _), (1, .int _), (2, .int _)]) (st' := [.int 1, .ref _]) rfl ?_
  refine ev_cV DX7_set 10 (cd_hs (m_X7_fails (wset_get h) (wset_o hz h rfl)) wset_set) vX7_fails rfl qX7_53 rfl (wset_get h) rfl (hd_of rfl rfl rfl rfl) ?_
  exact ev_iret DX7_set 11 rfl rfl ⟨rfl, hM.t0 h, MO.set (by decide) (by decide)⟩
set_option maxRecDepth 100000 in
set_option maxHeartbeats 4000000 in
theorem m_X7_set_2 {E : gE} {ad : Nat → Nat} {ws : va_W} {p : PS} {sv : Nat → PS} {sc len : Nat} {ch : Nat → Int32} {tw : Int32} {hh : Int64} (hM : ZM E ad ws p sv sc len ch tw hh) {v : Int32} {j : Nat} (hj : j < 3) (h2 : inP v (gSv [1, 4, 1] j) (gSv [64, 40, 50] j) = 0) : C0 E YX7_set 0 0 [.ref (ad 214), .int (nI j), .int v] ws (fun v9 w9 => v9 = some (.int 0) ∧ ZM E ad w9 p sv sc len ch 2 hh ∧ MO ws w9) := by
  obtain ⟨ea, iw, z, rw, as, l, hs, hq, er, bf, ⟨h, hz, hr, has, hl⟩, ⟨hhs, hha, hbf, he⟩, ⟨hG, hLG⟩, hsv, hlen, hch⟩ := id hM
  refine c0V vX7_set (Nat.le_of_ble_eq_true rfl) (lv0 := [(0, .ref (ad 214)), (1, .int (nI j)), (2, .int v)]) rfl ?_
  refine ev_ss DX7_set 2 0 (pc' := 2) (lv' := [(0, .ref _), (1, .int _), (2, .int _)]) (st' := [.int 0, .ref _]) rfl ?_
  refine ev_put (fs' := [_, _, _, _, _, _, _, _, _, _, _, _, _, _]) DX7_set 2 GX7 rfl (k0 := 9) (Nat.le_of_ble_eq_true rfl) fX7_35 rfl ⟨rfl, rfl⟩ h (Nat.le_of_ble_eq_true rfl) rfl rfl ?_
  refine ev_ss DX7_set 3 3 (pc' := 8) (lv' := [(0, .ref _), (1, .int _), (2, .int _)]) (st' := [.int 2, .int 0, .int _]) rfl ?_
  refine ev_cS DX7_set 6 m_X7_in vX7_in rfl qX7_39 rfl (hd_of rfl rfl rfl rfl) ?_
  refine ev_ifne DX7_set 7 rfl (tgt := 20) (by decide) (fun _ => ?_) (fun h => absurd h (in_nI 2 (by decide) j hj))
  refine ev_ss DX7_set 2 12 (pc' := 22) (lv' := [(0, .ref _), (1, .int _), (2, .int _)]) (st' := [.int _, .int _]) rfl ?_
  refine ev_cS DX7_set 14 (m_X7_maySet hj) vX7_maySet rfl qX7_71 rfl (hd_of rfl rfl rfl rfl) ?_
  refine ev_ifne DX7_set 15 rfl (tgt := 34) (by decide) (fun h => h.elim h2) (fun _ => ?_)
  refine ev_ss DX7_set 2 16 (pc' := 30) (lv' := [(0, .ref _), (1, .int _), (2, .int _)]) (st' := [.int 2, .ref _]) rfl ?_
  refine ev_cV DX7_set 18 (cd_hs (m_X7_fails (wset_get h) (wset_o hz h rfl)) wset_set) vX7_fails rfl qX7_53 rfl (wset_get h) rfl (hd_of rfl rfl rfl rfl) ?_
  exact ev_iret DX7_set 19 rfl rfl ⟨rfl, hM.t0 h, MO.set (by decide) (by decide)⟩
set_option maxRecDepth 100000 in
set_option maxHeartbeats 4000000 in
theorem m_X7_learn_1 {E : gE} {ad : Nat → Nat} {ws : va_W} {p : PS} {sv : Nat → PS} {sc len : Nat} {ch : Nat → Int32} {tw : Int32} {hh : Int64} (hM : ZM E ad ws p sv sc len ch tw hh) {b w : Int32} (h1 : inP w 0 1 = 0) : C0 E YX7_learn 0 0 [.ref (ad 214), .int w, .int b] ws (fun v9 w9 => v9 = some (.int 0) ∧ ZM E ad w9 p sv sc len ch 1 hh ∧ MO ws w9) := by
  obtain ⟨ea, iw, z, rw, as, l, hs, hq, er, bf, ⟨h, hz, hr, has, hl⟩, ⟨hhs, hha, hbf, he⟩, ⟨hG, hLG⟩, hsv, hlen, hch⟩ := id hM
  refine c0V vX7_learn (Nat.le_of_ble_eq_true rfl) (lv0 := [(0, .ref (ad 214)), (1, .int w), (2, .int b)]) rfl ?_
  refine ev_ss DX7_learn 2 0 (pc' := 2) (lv' := [(0, .ref _), (1, .int _), (2, .int _)]) (st' := [.int 0, .ref _]) rfl ?_
  refine ev_put (fs' := [_, _, _, _, _, _, _, _, _, _, _, _, _, _]) DX7_learn 2 GX7 rfl (k0 := 9) (Nat.le_of_ble_eq_true rfl) fX7_35 rfl ⟨rfl, rfl⟩ h (Nat.le_of_ble_eq_true rfl) rfl rfl ?_
  refine ev_ss DX7_learn 3 3 (pc' := 8) (lv' := [(0, .ref _), (1, .int _), (2, .int _)]) (st' := [.int _, .int _, .ref _]) rfl ?_
  refine ev_cV DX7_learn 6 (cd_hs (m_X7_mayBeat_1 (wset_get h) (wset_o hz h rfl) h1) wset_set) vX7_mayBeat rfl qX7_111 rfl (wset_get h) rfl (hd_of rfl rfl rfl rfl) ?_
  refine ev_ifne DX7_learn 7 rfl (tgt := 16) (by decide) (fun h => h.elim rfl) (fun _ => ?_)
  refine ev_ss DX7_learn 1 8 (pc' := 15) (lv' := [(0, .ref _), (1, .int _), (2, .int _)]) (st' := [.int 0]) rfl ?_
  exact ev_iret DX7_learn 9 rfl rfl ⟨rfl, hM.t0 h, MO.set (by decide) (by decide)⟩
set_option maxRecDepth 100000 in
set_option maxHeartbeats 4000000 in
theorem m_X7_learn_2 {E : gE} {ad : Nat → Nat} {ws : va_W} {p : PS} {sv : Nat → PS} {sc len : Nat} {ch : Nat → Int32} {tw : Int32} {hh : Int64} (hM : ZM E ad ws p sv sc len ch tw hh) {b w : Int32} (h1 : ¬ inP w 0 1 = 0) (h2 : inP b 1 100 = 0) : C0 E YX7_learn 0 0 [.ref (ad 214), .int w, .int b] ws (fun v9 w9 => v9 = some (.int 0) ∧ ZM E ad w9 p sv sc len ch 2 hh ∧ MO ws w9) := by
  obtain ⟨ea, iw, z, rw, as, l, hs, hq, er, bf, ⟨h, hz, hr, has, hl⟩, ⟨hhs, hha, hbf, he⟩, ⟨hG, hLG⟩, hsv, hlen, hch⟩ := id hM
  refine c0V vX7_learn (Nat.le_of_ble_eq_true rfl) (lv0 := [(0, .ref (ad 214)), (1, .int w), (2, .int b)]) rfl ?_
  refine ev_ss DX7_learn 2 0 (pc' := 2) (lv' := [(0, .ref _), (1, .int _), (2, .int _)]) (st' := [.int 0, .ref _]) rfl ?_
  refine ev_put (fs' := [_, _, _, _, _, _, _, _, _, _, _, _, _, _]) DX7_learn 2 GX7 rfl (k0 := 9) (Nat.le_of_ble_eq_true rfl) fX7_35 rfl ⟨rfl, rfl⟩ h (Nat.le_of_ble_eq_true rfl) rfl rfl ?_
  refine ev_ss DX7_learn 3 3 (pc' := 8) (lv' := [(0, .ref _), (1, .int _), (2, .int _)]) (st' := [.int _, .int _, .ref _]) rfl ?_
  refine ev_cV DX7_learn 6 (cd_hs (m_X7_mayBeat_2 (wset_get h) (wset_o hz h rfl) h1 h2) wset_set) vX7_mayBeat rfl qX7_111 rfl (wset_get h) rfl (hd_of rfl rfl rfl rfl) ?_
  refine ev_ifne DX7_learn 7 rfl (tgt := 16) (by decide) (fun h => h.elim rfl) (fun _ => ?_)
  refine ev_ss DX7_learn 1 8 (pc' := 15) (lv' := [(0, .ref _), (1, .int _), (2, .int _)]) (st' := [.int 0]) rfl ?_
  exact ev_iret DX7_learn 9 rfl rfl ⟨rfl, hM.t0 h, MO.set (by decide) (by decide)⟩
set_option maxRecDepth 100000 in
set_option maxHeartbeats 4000000 in
theorem m_X7_learn_3 {E : gE} {ad : Nat → Nat} {ws : va_W} {p : PS} {sv : Nat → PS} {sc len : Nat} {ch : Nat → Int32} {tw : Int32} {hh : Int64} (hM : ZM E ad ws p sv sc len ch tw hh) {b w : Int32} (h1 : ¬ inP w 0 1 = 0) (h2 : ¬ inP b 1 100 = 0) (h3 : 5000 < p.2.1 + b) : C0 E YX7_learn 0 0 [.ref (ad 214), .int w, .int b] ws (fun v9 w9 => v9 = some (.int 0) ∧ ZM E ad w9 p sv sc len ch 3 hh ∧ MO ws w9) := by
  obtain ⟨ea, iw, z, rw, as, l, hs, hq, er, bf, ⟨h, hz, hr, has, hl⟩, ⟨hhs, hha, hbf, he⟩, ⟨hG, hLG⟩, hsv, hlen, hch⟩ := id hM
  refine c0V vX7_learn (Nat.le_of_ble_eq_true rfl) (lv0 := [(0, .ref (ad 214)), (1, .int w), (2, .int b)]) rfl ?_
  refine ev_ss DX7_learn 2 0 (pc' := 2) (lv' := [(0, .ref _), (1, .int _), (2, .int _)]) (st' := [.int 0, .ref _]) rfl ?_
  refine ev_put (fs' := [_, _, _, _, _, _, _, _, _, _, _, _, _, _]) DX7_learn 2 GX7 rfl (k0 := 9) (Nat.le_of_ble_eq_true rfl) fX7_35 rfl ⟨rfl, rfl⟩ h (Nat.le_of_ble_eq_true rfl) rfl rfl ?_
  refine ev_ss DX7_learn 3 3 (pc' := 8) (lv' := [(0, .ref _), (1, .int _), (2, .int _)]) (st' := [.int _, .int _, .ref _]) rfl ?_
  refine ev_cV DX7_learn 6 (cd_hs (m_X7_mayBeat_3 (wset_get h) (wset_o hz h rfl) h1 h2 (by rw [hG.2.2.2.2.1]; exact h3)) wset_set) vX7_mayBeat rfl qX7_111 rfl (wset_get h) rfl (hd_of rfl rfl rfl rfl) ?_
  refine ev_ifne DX7_learn 7 rfl (tgt := 16) (by decide) (fun h => h.elim rfl) (fun _ => ?_)
  refine ev_ss DX7_learn 1 8 (pc' := 15) (lv' := [(0, .ref _), (1, .int _), (2, .int _)]) (st' := [.int 0]) rfl ?_
  exact ev_iret DX7_learn 9 rfl rfl ⟨rfl, hM.t0 h, MO.set (by decide) (by decide)⟩
set_option maxRecDepth 100000 in
set_option maxHeartbeats 4000000 in
theorem m_X7_send_1 {E : gE} {ad : Nat → Nat} {ws : va_W} {p : PS} {sv : Nat → PS} {sc len : Nat} {ch : Nat → Int32} {tw : Int32} {hh : Int64} (hM : ZM E ad ws p sv sc len ch tw hh) {b w : Int32} (h1 : inP w 0 1 = 0) : C0 E YX7_send 0 0 [.ref (ad 214), .int w, .int b] ws (fun v9 w9 => v9 = some (.int 0) ∧ ZM E ad w9 p sv sc len ch 1 hh ∧ MO ws w9) := by
  obtain ⟨ea, iw, z, rw, as, l, hs, hq, er, bf, ⟨h, hz, hr, has, hl⟩, ⟨hhs, hha, hbf, he⟩, ⟨hG, hLG⟩, hsv, hlen, hch⟩ := id hM
  refine c0V vX7_send (Nat.le_of_ble_eq_true rfl) (lv0 := [(0, .ref (ad 214)), (1, .int w), (2, .int b)]) rfl ?_
  refine ev_ss DX7_send 2 0 (pc' := 2) (lv' := [(0, .ref _), (1, .int _), (2, .int _)]) (st' := [.int 0, .ref _]) rfl ?_
  refine ev_put (fs' := [_, _, _, _, _, _, _, _, _, _, _, _, _, _]) DX7_send 2 GX7 rfl (k0 := 9) (Nat.le_of_ble_eq_true rfl) fX7_35 rfl ⟨rfl, rfl⟩ h (Nat.le_of_ble_eq_true rfl) rfl rfl ?_
  refine ev_ss DX7_send 3 3 (pc' := 8) (lv' := [(0, .ref _), (1, .int _), (2, .int _)]) (st' := [.int _, .int _, .ref _]) rfl ?_
  refine ev_cV DX7_send 6 (cd_hs (m_X7_mayBeat_1 (wset_get h) (wset_o hz h rfl) h1) wset_set) vX7_mayBeat rfl qX7_111 rfl (wset_get h) rfl (hd_of rfl rfl rfl rfl) ?_
  refine ev_ifne DX7_send 7 rfl (tgt := 16) (by decide) (fun h => h.elim rfl) (fun _ => ?_)
  refine ev_ss DX7_send 1 8 (pc' := 15) (lv' := [(0, .ref _), (1, .int _), (2, .int _)]) (st' := [.int 0]) rfl ?_
  exact ev_iret DX7_send 9 rfl rfl ⟨rfl, hM.t0 h, MO.set (by decide) (by decide)⟩
set_option maxRecDepth 100000 in
set_option maxHeartbeats 4000000 in
theorem m_X7_send_2 {E : gE} {ad : Nat → Nat} {ws : va_W} {p : PS} {sv : Nat → PS} {sc len : Nat} {ch : Nat → Int32} {tw : Int32} {hh : Int64} (hM : ZM E ad ws p sv sc len ch tw hh) {b w : Int32} (h1 : ¬ inP w 0 1 = 0) (h2 : inP b 1 100 = 0) : C0 E YX7_send 0 0 [.ref (ad 214), .int w, .int b] ws (fun v9 w9 => v9 = some (.int 0) ∧ ZM E ad w9 p sv sc len ch 2 hh ∧ MO ws w9) := by
  obtain ⟨ea, iw, z, rw, as, l, hs, hq, er, bf, ⟨h, hz, hr, has, hl⟩, ⟨hhs, hha, hbf, he⟩, ⟨hG, hLG⟩, hsv, hlen, hch⟩ := id hM
  refine c0V vX7_send (Nat.le_of_ble_eq_true rfl) (lv0 := [(0, .ref (ad 214)), (1, .int w), (2, .int b)]) rfl ?_
  refine ev_ss DX7_send 2 0 (pc' := 2) (lv' := [(0, .ref _), (1, .int _), (2, .int _)]) (st' := [.int 0, .ref _]) rfl ?_
  refine ev_put (fs' := [_, _, _, _, _, _, _, _, _, _, _, _, _, _]) DX7_send 2 GX7 rfl (k0 := 9) (Nat.le_of_ble_eq_true rfl) fX7_35 rfl ⟨rfl, rfl⟩ h (Nat.le_of_ble_eq_true rfl) rfl rfl ?_
  refine ev_ss DX7_send 3 3 (pc' := 8) (lv' := [(0, .ref _), (1, .int _), (2, .int _)]) (st' := [.int _, .int _, .ref _]) rfl ?_
  refine ev_cV DX7_send 6 (cd_hs (m_X7_mayBeat_2 (wset_get h) (wset_o hz h rfl) h1 h2) wset_set) vX7_mayBeat rfl qX7_111 rfl (wset_get h) rfl (hd_of rfl rfl rfl rfl) ?_
  refine ev_ifne DX7_send 7 rfl (tgt := 16) (by decide) (fun h => h.elim rfl) (fun _ => ?_)
  refine ev_ss DX7_send 1 8 (pc' := 15) (lv' := [(0, .ref _), (1, .int _), (2, .int _)]) (st' := [.int 0]) rfl ?_
  exact ev_iret DX7_send 9 rfl rfl ⟨rfl, hM.t0 h, MO.set (by decide) (by decide)⟩
set_option maxRecDepth 100000 in
set_option maxHeartbeats 4000000 in
theorem m_X7_send_3 {E : gE} {ad : Nat → Nat} {ws : va_W} {p : PS} {sv : Nat → PS} {sc len : Nat} {ch : Nat → Int32} {tw : Int32} {hh : Int64} (hM : ZM E ad ws p sv sc len ch tw hh) {b w : Int32} (h1 : ¬ inP w 0 1 = 0) (h2 : ¬ inP b 1 100 = 0) (h3 : 5000 < p.2.1 + b) : C0 E YX7_send 0 0 [.ref (ad 214), .int w, .int b] ws (fun v9 w9 => v9 = some (.int 0) ∧ ZM E ad w9 p sv sc len ch 3 hh ∧ MO ws w9) := by
  obtain ⟨ea, iw, z, rw, as, l, hs, hq, er, bf, ⟨h, hz, hr, has, hl⟩, ⟨hhs, hha, hbf, he⟩, ⟨hG, hLG⟩, hsv, hlen, hch⟩ := id hM
  refine c0V vX7_send (Nat.le_of_ble_eq_true rfl) (lv0 := [(0, .ref (ad 214)), (1, .int w), (2, .int b)]) rfl ?_
  refine ev_ss DX7_send 2 0 (pc' := 2) (lv' := [(0, .ref _), (1, .int _), (2, .int _)]) (st' := [.int 0, .ref _]) rfl ?_
  refine ev_put (fs' := [_, _, _, _, _, _, _, _, _, _, _, _, _, _]) DX7_send 2 GX7 rfl (k0 := 9) (Nat.le_of_ble_eq_true rfl) fX7_35 rfl ⟨rfl, rfl⟩ h (Nat.le_of_ble_eq_true rfl) rfl rfl ?_
  refine ev_ss DX7_send 3 3 (pc' := 8) (lv' := [(0, .ref _), (1, .int _), (2, .int _)]) (st' := [.int _, .int _, .ref _]) rfl ?_
  refine ev_cV DX7_send 6 (cd_hs (m_X7_mayBeat_3 (wset_get h) (wset_o hz h rfl) h1 h2 (by rw [hG.2.2.2.2.1]; exact h3)) wset_set) vX7_mayBeat rfl qX7_111 rfl (wset_get h) rfl (hd_of rfl rfl rfl rfl) ?_
  refine ev_ifne DX7_send 7 rfl (tgt := 16) (by decide) (fun h => h.elim rfl) (fun _ => ?_)
  refine ev_ss DX7_send 1 8 (pc' := 15) (lv' := [(0, .ref _), (1, .int _), (2, .int _)]) (st' := [.int 0]) rfl ?_
  exact ev_iret DX7_send 9 rfl rfl ⟨rfl, hM.t0 h, MO.set (by decide) (by decide)⟩
set_option maxRecDepth 100000 in
set_option maxHeartbeats 4000000 in
theorem m_X7_forget_1 {E : gE} {ad : Nat → Nat} {ws : va_W} {p : PS} {sv : Nat → PS} {sc len : Nat} {ch : Nat → Int32} {tw : Int32} {hh : Int64} (hM : ZM E ad ws p sv sc len ch tw hh) {w : Int32} (h1 : inP w 0 1 = 0) : C0 E YX7_forget 0 0 [.ref (ad 214), .int w] ws (fun v9 w9 => v9 = some (.int 0) ∧ ZM E ad w9 p sv sc len ch 1 hh ∧ MO ws w9) := by
  obtain ⟨ea, iw, z, rw, as, l, hs, hq, er, bf, ⟨h, hz, hr, has, hl⟩, ⟨hhs, hha, hbf, he⟩, ⟨hG, hLG⟩, hsv, hlen, hch⟩ := id hM
  refine c0V vX7_forget (Nat.le_of_ble_eq_true rfl) (lv0 := [(0, .ref (ad 214)), (1, .int w)]) rfl ?_
  refine ev_ss DX7_forget 2 0 (pc' := 2) (lv' := [(0, .ref _), (1, .int _)]) (st' := [.int 0, .ref _]) rfl ?_
  refine ev_put (fs' := [_, _, _, _, _, _, _, _, _, _, _, _, _, _]) DX7_forget 2 GX7 rfl (k0 := 9) (Nat.le_of_ble_eq_true rfl) fX7_35 rfl ⟨rfl, rfl⟩ h (Nat.le_of_ble_eq_true rfl) rfl rfl ?_
  refine ev_ss DX7_forget 1 3 (pc' := 6) (lv' := [(0, .ref _), (1, .int _)]) (st' := [.int _]) rfl ?_
  refine ev_cS DX7_forget 4 m_X7_isWay vX7_isWay rfl qX7_46 rfl (hd_of rfl rfl rfl rfl) ?_
  refine ev_ifne DX7_forget 5 rfl (tgt := 18) (by decide) (fun h => h.elim h1) (fun _ => ?_)
  refine ev_ss DX7_forget 2 6 (pc' := 14) (lv' := [(0, .ref _), (1, .int _)]) (st' := [.int 1, .ref _]) rfl ?_
  refine ev_cV DX7_forget 8 (cd_hs (m_X7_fails (wset_get h) (wset_o hz h rfl)) wset_set) vX7_fails rfl qX7_53 rfl (wset_get h) rfl (hd_of rfl rfl rfl rfl) ?_
  exact ev_iret DX7_forget 9 rfl rfl ⟨rfl, hM.t0 h, MO.set (by decide) (by decide)⟩
set_option maxRecDepth 100000 in
set_option maxHeartbeats 4000000 in
theorem m_X7_append_1 {E : gE} {ad : Nat → Nat} {ws : va_W} {p : PS} {sv : Nat → PS} {sc len : Nat} {ch : Nat → Int32} {tw : Int32} {hh : Int64} (hM : ZM E ad ws p sv sc len ch tw hh) {x : Int32} (h1 : inP x 33 126 = 0) : C0 E YX7_append 0 0 [.ref (ad 214), .int x] ws (fun v9 w9 => v9 = some (.int 0) ∧ ZM E ad w9 p sv sc len ch 1 hh ∧ MO ws w9) := by
  obtain ⟨ea, iw, z, rw, as, l, hs, hq, er, bf, ⟨h, hz, hr, has, hl⟩, ⟨hhs, hha, hbf, he⟩, ⟨hG, hLG⟩, hsv, hlen, hch⟩ := id hM
  refine c0V vX7_append (Nat.le_of_ble_eq_true rfl) (lv0 := [(0, .ref (ad 214)), (1, .int x)]) rfl ?_
  refine ev_ss DX7_append 2 0 (pc' := 2) (lv' := [(0, .ref _), (1, .int _)]) (st' := [.int 0, .ref _]) rfl ?_
  refine ev_put (fs' := [_, _, _, _, _, _, _, _, _, _, _, _, _, _]) DX7_append 2 GX7 rfl (k0 := 9) (Nat.le_of_ble_eq_true rfl) fX7_35 rfl ⟨rfl, rfl⟩ h (Nat.le_of_ble_eq_true rfl) rfl rfl ?_
  refine ev_ss DX7_append 3 3 (pc' := 10) (lv' := [(0, .ref _), (1, .int _)]) (st' := [.int 126, .int 33, .int _]) rfl ?_
  refine ev_cS DX7_append 6 m_X7_in vX7_in rfl qX7_39 rfl (hd_of rfl rfl rfl rfl) ?_
  refine ev_ifne DX7_append 7 rfl (tgt := 22) (by decide) (fun h => h.elim h1) (fun _ => ?_)
  refine ev_ss DX7_append 2 8 (pc' := 18) (lv' := [(0, .ref _), (1, .int _)]) (st' := [.int 1, .ref _]) rfl ?_
  refine ev_cV DX7_append 10 (cd_hs (m_X7_fails (wset_get h) (wset_o hz h rfl)) wset_set) vX7_fails rfl qX7_53 rfl (wset_get h) rfl (hd_of rfl rfl rfl rfl) ?_
  exact ev_iret DX7_append 11 rfl rfl ⟨rfl, hM.t0 h, MO.set (by decide) (by decide)⟩
set_option maxRecDepth 100000 in
set_option maxHeartbeats 4000000 in
theorem m_X7_append_2 {E : gE} {ad : Nat → Nat} {ws : va_W} {p : PS} {sv : Nat → PS} {sc len : Nat} {ch : Nat → Int32} {tw : Int32} {hh : Int64} (hM : ZM E ad ws p sv sc len ch tw hh) {x : Int32} (h1 : ¬ inP x 33 126 = 0) (h2 : len = 60) : C0 E YX7_append 0 0 [.ref (ad 214), .int x] ws (fun v9 w9 => v9 = some (.int 0) ∧ ZM E ad w9 p sv sc len ch 2 hh ∧ MO ws w9) := by
  obtain ⟨ea, iw, z, rw, as, l, hs, hq, er, bf, ⟨h, hz, hr, has, hl⟩, ⟨hhs, hha, hbf, he⟩, ⟨hG, hLG⟩, hsv, hlen, hch⟩ := id hM
  refine c0V vX7_append (Nat.le_of_ble_eq_true rfl) (lv0 := [(0, .ref (ad 214)), (1, .int x)]) rfl ?_
  refine ev_ss DX7_append 2 0 (pc' := 2) (lv' := [(0, .ref _), (1, .int _)]) (st' := [.int 0, .ref _]) rfl ?_
  refine ev_put (fs' := [_, _, _, _, _, _, _, _, _, _, _, _, _, _]) DX7_append 2 GX7 rfl (k0 := 9) (Nat.le_of_ble_eq_true rfl) fX7_35 rfl ⟨rfl, rfl⟩ h (Nat.le_of_ble_eq_true rfl) rfl rfl ?_
  refine ev_ss DX7_append 3 3 (pc' := 10) (lv' := [(0, .ref _), (1, .int _)]) (st' := [.int 126, .int 33, .int _]) rfl ?_
  refine ev_cS DX7_append 6 m_X7_in vX7_in rfl qX7_39 rfl (hd_of rfl rfl rfl rfl) ?_
  refine ev_ifne DX7_append 7 rfl (tgt := 22) (by decide) (fun _ => ?_) (fun h => absurd h h1)
  refine ev_ss DX7_append 1 12 (pc' := 23) (lv' := [(0, .ref _), (1, .int _)]) (st' := [.ref _]) rfl ?_
  refine ev_get DX7_append 13 GX7 rfl (k0 := 8) (Nat.le_of_ble_eq_true rfl) fX7_140 (wset_get h) rfl ?_
  refine ev_ss DX7_append 1 14 (pc' := 28) (lv' := [(0, .ref _), (1, .int _)]) (st' := [.int 60, .int _]) rfl ?_
  refine ev_icne DX7_append 15 rfl (tgt := 37) (by decide) (fun h => h.elim (by rw [h2]; rfl)) (fun _ => ?_)
  refine ev_ss DX7_append 2 16 (pc' := 33) (lv' := [(0, .ref _), (1, .int _)]) (st' := [.int 2, .ref _]) rfl ?_
  refine ev_cV DX7_append 18 (cd_hs (m_X7_fails (wset_get h) (wset_o hz h rfl)) wset_set) vX7_fails rfl qX7_53 rfl (wset_get h) rfl (hd_of rfl rfl rfl rfl) ?_
  exact ev_iret DX7_append 19 rfl rfl ⟨rfl, hM.t0 h, MO.set (by decide) (by decide)⟩
set_option maxRecDepth 100000 in
set_option maxHeartbeats 4000000 in
theorem m_X7_undo_1 {E : gE} {ad : Nat → Nat} {ws : va_W} {p : PS} {sv : Nat → PS} {sc len : Nat} {ch : Nat → Int32} {tw : Int32} {hh : Int64} (hM : ZM E ad ws p sv sc len ch tw hh) (h1 : sc = 0) : C0 E YX7_undo 0 0 [.ref (ad 214)] ws (fun v9 w9 => v9 = some (.int 0) ∧ ZM E ad w9 p sv sc len ch 1 hh ∧ MO ws w9) := by
  obtain ⟨ea, iw, z, rw, as, l, hs, hq, er, bf, ⟨h, hz, hr, has, hl⟩, ⟨hhs, hha, hbf, he⟩, ⟨hG, hLG⟩, hsv, hlen, hch⟩ := id hM
  refine c0V vX7_undo (Nat.le_of_ble_eq_true rfl) (lv0 := [(0, .ref (ad 214))]) rfl ?_
  refine ev_ss DX7_undo 2 0 (pc' := 2) (lv' := [(0, .ref _)]) (st' := [.int 0, .ref _]) rfl ?_
  refine ev_put (fs' := [_, _, _, _, _, _, _, _, _, _, _, _, _, _]) DX7_undo 2 GX7 rfl (k0 := 9) (Nat.le_of_ble_eq_true rfl) fX7_35 rfl ⟨rfl, rfl⟩ h (Nat.le_of_ble_eq_true rfl) rfl rfl ?_
  refine ev_ss DX7_undo 1 3 (pc' := 6) (lv' := [(0, .ref _)]) (st' := [.ref _]) rfl ?_
  refine ev_get DX7_undo 4 GX7 rfl (k0 := 6) (Nat.le_of_ble_eq_true rfl) fX7_43 (wset_get h) rfl ?_
  refine ev_ifne DX7_undo 5 rfl (tgt := 18) (by decide) (fun h => h.elim (by rw [h1]; rfl)) (fun _ => ?_)
  refine ev_ss DX7_undo 2 6 (pc' := 14) (lv' := [(0, .ref _)]) (st' := [.int 1, .ref _]) rfl ?_
  refine ev_cV DX7_undo 8 (cd_hs (m_X7_fails (wset_get h) (wset_o hz h rfl)) wset_set) vX7_fails rfl qX7_53 rfl (wset_get h) rfl (hd_of rfl rfl rfl rfl) ?_
  exact ev_iret DX7_undo 9 rfl rfl ⟨rfl, hM.t0 h, MO.set (by decide) (by decide)⟩
set_option maxRecDepth 100000 in
set_option maxHeartbeats 4000000 in
theorem m_X7_waits_1w {E : gE} {ad : Nat → Nat} {ws : va_W} {p : PS} {sv : Nat → PS} {sc len : Nat} {ch : Nat → Int32} {tw : Int32} {hh : Int64} (hM : ZM E ad ws p sv sc len ch tw hh) {w x : Int32} (h1 : inP w 0 1 = 0) : C0 E YX7_waits 0 0 [.ref (ad 214), .int w, .int x] ws (fun v9 w9 => v9 = some (.int 0) ∧ ZM E ad w9 p sv sc len ch 1 hh ∧ MO ws w9) := by
  obtain ⟨ea, iw, z, rw, as, l, hs, hq, er, bf, ⟨h, hz, hr, has, hl⟩, ⟨hhs, hha, hbf, he⟩, ⟨hG, hLG⟩, hsv, hlen, hch⟩ := id hM
  refine c0V vX7_waits (Nat.le_of_ble_eq_true rfl) (lv0 := [(0, .ref (ad 214)), (1, .int w), (2, .int x)]) rfl ?_
  refine ev_ss DX7_waits 2 0 (pc' := 2) (lv' := [(0, .ref _), (1, .int _), (2, .int _)]) (st' := [.int 0, .ref _]) rfl ?_
  refine ev_put (fs' := [_, _, _, _, _, _, _, _, _, _, _, _, _, _]) DX7_waits 2 GX7 rfl (k0 := 9) (Nat.le_of_ble_eq_true rfl) fX7_35 rfl ⟨rfl, rfl⟩ h (Nat.le_of_ble_eq_true rfl) rfl rfl ?_
  refine ev_ss DX7_waits 1 3 (pc' := 6) (lv' := [(0, .ref _), (1, .int _), (2, .int _)]) (st' := [.int _]) rfl ?_
  refine ev_cS DX7_waits 4 m_X7_isWay vX7_isWay rfl qX7_46 rfl (hd_of rfl rfl rfl rfl) ?_
  refine ev_ifeq DX7_waits 5 rfl (tgt := 32) (by decide) (fun _ => ?_) (fun h => h.elim h1)
  refine ev_ss DX7_waits 2 18 (pc' := 34) (lv' := [(0, .ref _), (1, .int _), (2, .int _)]) (st' := [.int 1, .ref _]) rfl ?_
  refine ev_cV DX7_waits 20 (cd_hs (m_X7_fails (wset_get h) (wset_o hz h rfl)) wset_set) vX7_fails rfl qX7_53 rfl (wset_get h) rfl (hd_of rfl rfl rfl rfl) ?_
  exact ev_iret DX7_waits 21 rfl rfl ⟨rfl, hM.t0 h, MO.set (by decide) (by decide)⟩
set_option maxRecDepth 100000 in
set_option maxHeartbeats 4000000 in
theorem m_X7_waits_1p {E : gE} {ad : Nat → Nat} {ws : va_W} {p : PS} {sv : Nat → PS} {sc len : Nat} {ch : Nat → Int32} {tw : Int32} {hh : Int64} (hM : ZM E ad ws p sv sc len ch tw hh) {x : Int32} {a : Nat} (ha : a < 2) (h2 : inP x 0 (nI (pW p a).2.1.length - 1) = 0) : C0 E YX7_waits 0 0 [.ref (ad 214), .int (nI a), .int x] ws (fun v9 w9 => v9 = some (.int 0) ∧ ZM E ad w9 p sv sc len ch 1 hh ∧ MO ws w9) := by
  obtain ⟨ea, iw, z, rw, as, l, hs, hq, er, bf, ⟨h, hz, hr, has, hl⟩, ⟨hhs, hha, hbf, he⟩, ⟨hG, hLG⟩, hsv, hlen, hch⟩ := id hM
  refine c0V vX7_waits (Nat.le_of_ble_eq_true rfl) (lv0 := [(0, .ref (ad 214)), (1, .int (nI a)), (2, .int x)]) rfl ?_
  refine ev_ss DX7_waits 2 0 (pc' := 2) (lv' := [(0, .ref _), (1, .int _), (2, .int _)]) (st' := [.int 0, .ref _]) rfl ?_
  refine ev_put (fs' := [_, _, _, _, _, _, _, _, _, _, _, _, _, _]) DX7_waits 2 GX7 rfl (k0 := 9) (Nat.le_of_ble_eq_true rfl) fX7_35 rfl ⟨rfl, rfl⟩ h (Nat.le_of_ble_eq_true rfl) rfl rfl ?_
  refine ev_ss DX7_waits 1 3 (pc' := 6) (lv' := [(0, .ref _), (1, .int _), (2, .int _)]) (st' := [.int _]) rfl ?_
  refine ev_cS DX7_waits 4 m_X7_isWay vX7_isWay rfl qX7_46 rfl (hd_of rfl rfl rfl rfl) ?_
  refine ev_ifeq DX7_waits 5 rfl (tgt := 32) (by decide) (fun h => absurd h (inW_g ha)) (fun _ => ?_)
  refine ev_ss DX7_waits 3 6 (pc' := 15) (lv' := [(0, .ref _), (1, .int _), (2, .int _)]) (st' := [.ref _, .int 0, .int _]) rfl ?_
  refine ev_get DX7_waits 9 GX7 rfl (k0 := 0) (Nat.le_of_ble_eq_true rfl) fX7_7 (wset_get h) rfl ?_
  refine ev_ss DX7_waits 3 10 (pc' := 23) (lv' := [(0, .ref _), (1, .int _), (2, .int _)]) (st' := [.int _, .ref _, .int 0, .int _]) rfl ?_
  refine ev_ialdv DX7_waits 13 (k0 := (800 + a)) rfl (wset_o hz h rfl) (nx_add (a := 800) (b := a) rfl rfl) (by omega) (by decide) ((hG.2.2.2.1 a ha).2.1) ?_
  refine ev_ss DX7_waits 2 14 (pc' := 26) (lv' := [(0, .ref _), (1, .int _), (2, .int _)]) (st' := [.int _, .int 0, .int _]) rfl ?_
  refine ev_cS DX7_waits 16 m_X7_in vX7_in rfl qX7_39 rfl (hd_of rfl rfl rfl rfl) ?_
  refine ev_ifne DX7_waits 17 rfl (tgt := 38) (by decide) (fun h => h.elim h2) (fun _ => ?_)
  refine ev_ss DX7_waits 2 18 (pc' := 34) (lv' := [(0, .ref _), (1, .int _), (2, .int _)]) (st' := [.int 1, .ref _]) rfl ?_
  refine ev_cV DX7_waits 20 (cd_hs (m_X7_fails (wset_get h) (wset_o hz h rfl)) wset_set) vX7_fails rfl qX7_53 rfl (wset_get h) rfl (hd_of rfl rfl rfl rfl) ?_
  exact ev_iret DX7_waits 21 rfl rfl ⟨rfl, hM.t0 h, MO.set (by decide) (by decide)⟩
set_option maxRecDepth 100000 in
set_option maxHeartbeats 4000000 in
theorem m_X7_had_1 {E : gE} {ad : Nat → Nat} {ws : va_W} {p : PS} {sv : Nat → PS} {sc len : Nat} {ch : Nat → Int32} {tw : Int32} {hh : Int64} (hM : ZM E ad ws p sv sc len ch tw hh) {w : Int32} (h1 : inP w 0 1 = 0) : C0 E YX7_had 0 0 [.ref (ad 214), .int w] ws (fun v9 w9 => (∃ x9, v9 = some (.long x9)) ∧ ZM E ad w9 p sv sc len ch 1 hh ∧ MO ws w9) := by
  obtain ⟨ea, iw, z, rw, as, l, hs, hq, er, bf, ⟨h, hz, hr, has, hl⟩, ⟨hhs, hha, hbf, he⟩, ⟨hG, hLG⟩, hsv, hlen, hch⟩ := id hM
  refine c0V vX7_had (Nat.le_of_ble_eq_true rfl) (lv0 := [(0, .ref (ad 214)), (1, .int w)]) rfl ?_
  refine ev_ss DX7_had 2 0 (pc' := 2) (lv' := [(0, .ref _), (1, .int _)]) (st' := [.int 0, .ref _]) rfl ?_
  refine ev_put (fs' := [_, _, _, _, _, _, _, _, _, _, _, _, _, _]) DX7_had 2 GX7 rfl (k0 := 9) (Nat.le_of_ble_eq_true rfl) fX7_35 rfl ⟨rfl, rfl⟩ h (Nat.le_of_ble_eq_true rfl) rfl rfl ?_
  refine ev_ss DX7_had 1 3 (pc' := 6) (lv' := [(0, .ref _), (1, .int _)]) (st' := [.int _]) rfl ?_
  refine ev_cS DX7_had 4 m_X7_isWay vX7_isWay rfl qX7_46 rfl (hd_of rfl rfl rfl rfl) ?_
  refine ev_ifeq DX7_had 5 rfl (tgt := 21) (by decide) (fun _ => ?_) (fun h => h.elim h1)
  refine ev_ss DX7_had 2 11 (pc' := 23) (lv' := [(0, .ref _), (1, .int _)]) (st' := [.int 1, .ref _]) rfl ?_
  refine ev_cV DX7_had 13 (cd_hs (m_X7_fails (wset_get h) (wset_o hz h rfl)) wset_set) vX7_fails rfl qX7_53 rfl (wset_get h) rfl (hd_of rfl rfl rfl rfl) ?_
  refine ev_ss DX7_had 1 14 (pc' := 27) (lv' := [(0, .ref _), (1, .int _)]) (st' := [.long _]) rfl ?_
  exact ev_lret DX7_had 15 rfl rfl ⟨⟨_, rfl⟩, hM.t0 h, MO.set (by decide) (by decide)⟩
set_option maxRecDepth 100000 in
set_option maxHeartbeats 4000000 in
theorem m_X7_count_1 {E : gE} {ad : Nat → Nat} {ws : va_W} {p : PS} {sv : Nat → PS} {sc len : Nat} {ch : Nat → Int32} {tw : Int32} {hh : Int64} (hM : ZM E ad ws p sv sc len ch tw hh) {x : Int32} (h1 : inP x 0 12 = 0) : C0 E YX7_count 0 0 [.ref (ad 214), .int x] ws (fun v9 w9 => v9 = some (.int 0) ∧ ZM E ad w9 p sv sc len ch 1 hh ∧ MO ws w9) := by
  obtain ⟨ea, iw, z, rw, as, l, hs, hq, er, bf, ⟨h, hz, hr, has, hl⟩, ⟨hhs, hha, hbf, he⟩, ⟨hG, hLG⟩, hsv, hlen, hch⟩ := id hM
  refine c0V vX7_count (Nat.le_of_ble_eq_true rfl) (lv0 := [(0, .ref (ad 214)), (1, .int x)]) rfl ?_
  refine ev_ss DX7_count 2 0 (pc' := 2) (lv' := [(0, .ref _), (1, .int _)]) (st' := [.int 0, .ref _]) rfl ?_
  refine ev_put (fs' := [_, _, _, _, _, _, _, _, _, _, _, _, _, _]) DX7_count 2 GX7 rfl (k0 := 9) (Nat.le_of_ble_eq_true rfl) fX7_35 rfl ⟨rfl, rfl⟩ h (Nat.le_of_ble_eq_true rfl) rfl rfl ?_
  refine ev_ss DX7_count 3 3 (pc' := 9) (lv' := [(0, .ref _), (1, .int _)]) (st' := [.int 12, .int 0, .int _]) rfl ?_
  refine ev_cS DX7_count 6 m_X7_in vX7_in rfl qX7_39 rfl (hd_of rfl rfl rfl rfl) ?_
  refine ev_ifeq DX7_count 7 rfl (tgt := 23) (by decide) (fun _ => ?_) (fun h => h.elim h1)
  refine ev_ss DX7_count 2 12 (pc' := 25) (lv' := [(0, .ref _), (1, .int _)]) (st' := [.int 1, .ref _]) rfl ?_
  refine ev_cV DX7_count 14 (cd_hs (m_X7_fails (wset_get h) (wset_o hz h rfl)) wset_set) vX7_fails rfl qX7_53 rfl (wset_get h) rfl (hd_of rfl rfl rfl rfl) ?_
  exact ev_iret DX7_count 15 rfl rfl ⟨rfl, hM.t0 h, MO.set (by decide) (by decide)⟩
set_option maxRecDepth 100000 in
set_option maxHeartbeats 4000000 in
theorem m_X7_setting_1 {E : gE} {ad : Nat → Nat} {ws : va_W} {p : PS} {sv : Nat → PS} {sc len : Nat} {ch : Nat → Int32} {tw : Int32} {hh : Int64} (hM : ZM E ad ws p sv sc len ch tw hh) {x : Int32} (h1 : inP x 0 2 = 0) : C0 E YX7_setting 0 0 [.ref (ad 214), .int x] ws (fun v9 w9 => v9 = some (.int 0) ∧ ZM E ad w9 p sv sc len ch 1 hh ∧ MO ws w9) := by
  obtain ⟨ea, iw, z, rw, as, l, hs, hq, er, bf, ⟨h, hz, hr, has, hl⟩, ⟨hhs, hha, hbf, he⟩, ⟨hG, hLG⟩, hsv, hlen, hch⟩ := id hM
  refine c0V vX7_setting (Nat.le_of_ble_eq_true rfl) (lv0 := [(0, .ref (ad 214)), (1, .int x)]) rfl ?_
  refine ev_ss DX7_setting 2 0 (pc' := 2) (lv' := [(0, .ref _), (1, .int _)]) (st' := [.int 0, .ref _]) rfl ?_
  refine ev_put (fs' := [_, _, _, _, _, _, _, _, _, _, _, _, _, _]) DX7_setting 2 GX7 rfl (k0 := 9) (Nat.le_of_ble_eq_true rfl) fX7_35 rfl ⟨rfl, rfl⟩ h (Nat.le_of_ble_eq_true rfl) rfl rfl ?_
  refine ev_ss DX7_setting 3 3 (pc' := 8) (lv' := [(0, .ref _), (1, .int _)]) (st' := [.int 2, .int 0, .int _]) rfl ?_
  refine ev_cS DX7_setting 6 m_X7_in vX7_in rfl qX7_39 rfl (hd_of rfl rfl rfl rfl) ?_
  refine ev_ifeq DX7_setting 7 rfl (tgt := 27) (by decide) (fun _ => ?_) (fun h => h.elim h1)
  refine ev_ss DX7_setting 2 15 (pc' := 29) (lv' := [(0, .ref _), (1, .int _)]) (st' := [.int 1, .ref _]) rfl ?_
  refine ev_cV DX7_setting 17 (cd_hs (m_X7_fails (wset_get h) (wset_o hz h rfl)) wset_set) vX7_fails rfl qX7_53 rfl (wset_get h) rfl (hd_of rfl rfl rfl rfl) ?_
  exact ev_iret DX7_setting 18 rfl rfl ⟨rfl, hM.t0 h, MO.set (by decide) (by decide)⟩
set_option maxRecDepth 100000 in
set_option maxHeartbeats 4000000 in
theorem m_X7_sure_1w {E : gE} {ad : Nat → Nat} {ws : va_W} {p : PS} {sv : Nat → PS} {sc len : Nat} {ch : Nat → Int32} {tw : Int32} {hh : Int64} (hM : ZM E ad ws p sv sc len ch tw hh) {t w : Int32} (h1 : inP w 0 1 = 0) : C0 E YX7_sure 0 0 [.ref (ad 214), .int w, .int t] ws (fun v9 w9 => v9 = some (.int 0) ∧ ZM E ad w9 p sv sc len ch 1 hh ∧ MO ws w9) := by
  obtain ⟨ea, iw, z, rw, as, l, hs, hq, er, bf, ⟨h, hz, hr, has, hl⟩, ⟨hhs, hha, hbf, he⟩, ⟨hG, hLG⟩, hsv, hlen, hch⟩ := id hM
  refine c0V vX7_sure (Nat.le_of_ble_eq_true rfl) (lv0 := [(0, .ref (ad 214)), (1, .int w), (2, .int t)]) rfl ?_
  refine ev_ss DX7_sure 2 0 (pc' := 2) (lv' := [(0, .ref _), (1, .int _), (2, .int _)]) (st' := [.int 0, .ref _]) rfl ?_
  refine ev_put (fs' := [_, _, _, _, _, _, _, _, _, _, _, _, _, _]) DX7_sure 2 GX7 rfl (k0 := 9) (Nat.le_of_ble_eq_true rfl) fX7_35 rfl ⟨rfl, rfl⟩ h (Nat.le_of_ble_eq_true rfl) rfl rfl ?_
  refine ev_ss DX7_sure 1 3 (pc' := 6) (lv' := [(0, .ref _), (1, .int _), (2, .int _)]) (st' := [.int _]) rfl ?_
  refine ev_cS DX7_sure 4 m_X7_isWay vX7_isWay rfl qX7_46 rfl (hd_of rfl rfl rfl rfl) ?_
  refine ev_ifeq DX7_sure 5 rfl (tgt := 28) (by decide) (fun _ => ?_) (fun h => h.elim h1)
  refine ev_ss DX7_sure 2 14 (pc' := 30) (lv' := [(0, .ref _), (1, .int _), (2, .int _)]) (st' := [.int 1, .ref _]) rfl ?_
  refine ev_cV DX7_sure 16 (cd_hs (m_X7_fails (wset_get h) (wset_o hz h rfl)) wset_set) vX7_fails rfl qX7_53 rfl (wset_get h) rfl (hd_of rfl rfl rfl rfl) ?_
  exact ev_iret DX7_sure 17 rfl rfl ⟨rfl, hM.t0 h, MO.set (by decide) (by decide)⟩
set_option maxRecDepth 100000 in
set_option maxHeartbeats 4000000 in
theorem m_X7_sure_1t {E : gE} {ad : Nat → Nat} {ws : va_W} {p : PS} {sv : Nat → PS} {sc len : Nat} {ch : Nat → Int32} {tw : Int32} {hh : Int64} (hM : ZM E ad ws p sv sc len ch tw hh) {t w : Int32} (h1 : ¬ inP w 0 1 = 0) (h2 : inP t 0 7 = 0) : C0 E YX7_sure 0 0 [.ref (ad 214), .int w, .int t] ws (fun v9 w9 => v9 = some (.int 0) ∧ ZM E ad w9 p sv sc len ch 1 hh ∧ MO ws w9) := by
  obtain ⟨ea, iw, z, rw, as, l, hs, hq, er, bf, ⟨h, hz, hr, has, hl⟩, ⟨hhs, hha, hbf, he⟩, ⟨hG, hLG⟩, hsv, hlen, hch⟩ := id hM
  refine c0V vX7_sure (Nat.le_of_ble_eq_true rfl) (lv0 := [(0, .ref (ad 214)), (1, .int w), (2, .int t)]) rfl ?_
  refine ev_ss DX7_sure 2 0 (pc' := 2) (lv' := [(0, .ref _), (1, .int _), (2, .int _)]) (st' := [.int 0, .ref _]) rfl ?_
  refine ev_put (fs' := [_, _, _, _, _, _, _, _, _, _, _, _, _, _]) DX7_sure 2 GX7 rfl (k0 := 9) (Nat.le_of_ble_eq_true rfl) fX7_35 rfl ⟨rfl, rfl⟩ h (Nat.le_of_ble_eq_true rfl) rfl rfl ?_
  refine ev_ss DX7_sure 1 3 (pc' := 6) (lv' := [(0, .ref _), (1, .int _), (2, .int _)]) (st' := [.int _]) rfl ?_
  refine ev_cS DX7_sure 4 m_X7_isWay vX7_isWay rfl qX7_46 rfl (hd_of rfl rfl rfl rfl) ?_
  refine ev_ifeq DX7_sure 5 rfl (tgt := 28) (by decide) (fun h => absurd h h1) (fun _ => ?_)
  refine ev_ss DX7_sure 1 6 (pc' := 13) (lv' := [(0, .ref _), (1, .int _), (2, .int _)]) (st' := [.int _]) rfl ?_
  refine ev_cS DX7_sure 7 m_X7_isTone vX7_isTone rfl qX7_50 rfl (hd_of rfl rfl rfl rfl) ?_
  refine ev_ifeq DX7_sure 8 rfl (tgt := 28) (by decide) (fun _ => ?_) (fun h => h.elim h2)
  refine ev_ss DX7_sure 2 14 (pc' := 30) (lv' := [(0, .ref _), (1, .int _), (2, .int _)]) (st' := [.int 1, .ref _]) rfl ?_
  refine ev_cV DX7_sure 16 (cd_hs (m_X7_fails (wset_get h) (wset_o hz h rfl)) wset_set) vX7_fails rfl qX7_53 rfl (wset_get h) rfl (hd_of rfl rfl rfl rfl) ?_
  exact ev_iret DX7_sure 17 rfl rfl ⟨rfl, hM.t0 h, MO.set (by decide) (by decide)⟩
set_option maxRecDepth 100000 in
set_option maxHeartbeats 4000000 in
theorem m_X7_hurts_1w {E : gE} {ad : Nat → Nat} {ws : va_W} {p : PS} {sv : Nat → PS} {sc len : Nat} {ch : Nat → Int32} {tw : Int32} {hh : Int64} (hM : ZM E ad ws p sv sc len ch tw hh) {t w : Int32} (h1 : inP w 0 1 = 0) : C0 E YX7_hurts 0 0 [.ref (ad 214), .int w, .int t] ws (fun v9 w9 => v9 = some (.int 0) ∧ ZM E ad w9 p sv sc len ch 1 hh ∧ MO ws w9) := by
  obtain ⟨ea, iw, z, rw, as, l, hs, hq, er, bf, ⟨h, hz, hr, has, hl⟩, ⟨hhs, hha, hbf, he⟩, ⟨hG, hLG⟩, hsv, hlen, hch⟩ := id hM
  refine c0V vX7_hurts (Nat.le_of_ble_eq_true rfl) (lv0 := [(0, .ref (ad 214)), (1, .int w), (2, .int t)]) rfl ?_
  refine ev_ss DX7_hurts 2 0 (pc' := 2) (lv' := [(0, .ref _), (1, .int _), (2, .int _)]) (st' := [.int 0, .ref _]) rfl ?_
  refine ev_put (fs' := [_, _, _, _, _, _, _, _, _, _, _, _, _, _]) DX7_hurts 2 GX7 rfl (k0 := 9) (Nat.le_of_ble_eq_true rfl) fX7_35 rfl ⟨rfl, rfl⟩ h (Nat.le_of_ble_eq_true rfl) rfl rfl ?_
  refine ev_ss DX7_hurts 1 3 (pc' := 6) (lv' := [(0, .ref _), (1, .int _), (2, .int _)]) (st' := [.int _]) rfl ?_
  refine ev_cS DX7_hurts 4 m_X7_isWay vX7_isWay rfl qX7_46 rfl (hd_of rfl rfl rfl rfl) ?_
  refine ev_ifeq DX7_hurts 5 rfl (tgt := 28) (by decide) (fun _ => ?_) (fun h => h.elim h1)
  refine ev_ss DX7_hurts 2 14 (pc' := 30) (lv' := [(0, .ref _), (1, .int _), (2, .int _)]) (st' := [.int 1, .ref _]) rfl ?_
  refine ev_cV DX7_hurts 16 (cd_hs (m_X7_fails (wset_get h) (wset_o hz h rfl)) wset_set) vX7_fails rfl qX7_53 rfl (wset_get h) rfl (hd_of rfl rfl rfl rfl) ?_
  exact ev_iret DX7_hurts 17 rfl rfl ⟨rfl, hM.t0 h, MO.set (by decide) (by decide)⟩
set_option maxRecDepth 100000 in
set_option maxHeartbeats 4000000 in
theorem m_X7_hurts_1t {E : gE} {ad : Nat → Nat} {ws : va_W} {p : PS} {sv : Nat → PS} {sc len : Nat} {ch : Nat → Int32} {tw : Int32} {hh : Int64} (hM : ZM E ad ws p sv sc len ch tw hh) {t w : Int32} (h1 : ¬ inP w 0 1 = 0) (h2 : inP t 0 7 = 0) : C0 E YX7_hurts 0 0 [.ref (ad 214), .int w, .int t] ws (fun v9 w9 => v9 = some (.int 0) ∧ ZM E ad w9 p sv sc len ch 1 hh ∧ MO ws w9) := by
  obtain ⟨ea, iw, z, rw, as, l, hs, hq, er, bf, ⟨h, hz, hr, has, hl⟩, ⟨hhs, hha, hbf, he⟩, ⟨hG, hLG⟩, hsv, hlen, hch⟩ := id hM
  refine c0V vX7_hurts (Nat.le_of_ble_eq_true rfl) (lv0 := [(0, .ref (ad 214)), (1, .int w), (2, .int t)]) rfl ?_
  refine ev_ss DX7_hurts 2 0 (pc' := 2) (lv' := [(0, .ref _), (1, .int _), (2, .int _)]) (st' := [.int 0, .ref _]) rfl ?_
  refine ev_put (fs' := [_, _, _, _, _, _, _, _, _, _, _, _, _, _]) DX7_hurts 2 GX7 rfl (k0 := 9) (Nat.le_of_ble_eq_true rfl) fX7_35 rfl ⟨rfl, rfl⟩ h (Nat.le_of_ble_eq_true rfl) rfl rfl ?_
  refine ev_ss DX7_hurts 1 3 (pc' := 6) (lv' := [(0, .ref _), (1, .int _), (2, .int _)]) (st' := [.int _]) rfl ?_
  refine ev_cS DX7_hurts 4 m_X7_isWay vX7_isWay rfl qX7_46 rfl (hd_of rfl rfl rfl rfl) ?_
  refine ev_ifeq DX7_hurts 5 rfl (tgt := 28) (by decide) (fun h => absurd h h1) (fun _ => ?_)
  refine ev_ss DX7_hurts 1 6 (pc' := 13) (lv' := [(0, .ref _), (1, .int _), (2, .int _)]) (st' := [.int _]) rfl ?_
  refine ev_cS DX7_hurts 7 m_X7_isTone vX7_isTone rfl qX7_50 rfl (hd_of rfl rfl rfl rfl) ?_
  refine ev_ifeq DX7_hurts 8 rfl (tgt := 28) (by decide) (fun _ => ?_) (fun h => h.elim h2)
  refine ev_ss DX7_hurts 2 14 (pc' := 30) (lv' := [(0, .ref _), (1, .int _), (2, .int _)]) (st' := [.int 1, .ref _]) rfl ?_
  refine ev_cV DX7_hurts 16 (cd_hs (m_X7_fails (wset_get h) (wset_o hz h rfl)) wset_set) vX7_fails rfl qX7_53 rfl (wset_get h) rfl (hd_of rfl rfl rfl rfl) ?_
  exact ev_iret DX7_hurts 17 rfl rfl ⟨rfl, hM.t0 h, MO.set (by decide) (by decide)⟩
set_option maxRecDepth 100000 in
set_option maxHeartbeats 4000000 in
theorem m_X7_ifSent_1 {E : gE} {ad : Nat → Nat} {ws : va_W} {p : PS} {sv : Nat → PS} {sc len : Nat} {ch : Nat → Int32} {tw : Int32} {hh : Int64} (hM : ZM E ad ws p sv sc len ch tw hh) {b w x : Int32} (h1 : inP w 0 1 = 0) : C0 E YX7_ifSent 0 0 [.ref (ad 214), .int w, .int b, .int x] ws (fun v9 w9 => v9 = some (.int 0) ∧ ZM E ad w9 p sv sc len ch 1 hh ∧ MO ws w9) := by
  obtain ⟨ea, iw, z, rw, as, l, hs, hq, er, bf, ⟨h, hz, hr, has, hl⟩, ⟨hhs, hha, hbf, he⟩, ⟨hG, hLG⟩, hsv, hlen, hch⟩ := id hM
  refine c0V vX7_ifSent (Nat.le_of_ble_eq_true rfl) (lv0 := [(0, .ref (ad 214)), (1, .int w), (2, .int b), (3, .int x)]) rfl ?_
  refine ev_ss DX7_ifSent 2 0 (pc' := 2) (lv' := [(0, .ref _), (1, .int _), (2, .int _), (3, .int _)]) (st' := [.int 0, .ref _]) rfl ?_
  refine ev_put (fs' := [_, _, _, _, _, _, _, _, _, _, _, _, _, _]) DX7_ifSent 2 GX7 rfl (k0 := 9) (Nat.le_of_ble_eq_true rfl) fX7_35 rfl ⟨rfl, rfl⟩ h (Nat.le_of_ble_eq_true rfl) rfl rfl ?_
  refine ev_ss DX7_ifSent 1 3 (pc' := 6) (lv' := [(0, .ref _), (1, .int _), (2, .int _), (3, .int _)]) (st' := [.int _]) rfl ?_
  refine ev_cS DX7_ifSent 4 m_X7_isWay vX7_isWay rfl qX7_46 rfl (hd_of rfl rfl rfl rfl) ?_
  refine ev_ifne DX7_ifSent 5 rfl (tgt := 18) (by decide) (fun h => h.elim h1) (fun _ => ?_)
  refine ev_ss DX7_ifSent 2 6 (pc' := 14) (lv' := [(0, .ref _), (1, .int _), (2, .int _), (3, .int _)]) (st' := [.int 1, .ref _]) rfl ?_
  refine ev_cV DX7_ifSent 8 (cd_hs (m_X7_fails (wset_get h) (wset_o hz h rfl)) wset_set) vX7_fails rfl qX7_53 rfl (wset_get h) rfl (hd_of rfl rfl rfl rfl) ?_
  exact ev_iret DX7_ifSent 9 rfl rfl ⟨rfl, hM.t0 h, MO.set (by decide) (by decide)⟩
set_option maxRecDepth 100000 in
set_option maxHeartbeats 4000000 in
theorem m_X7_ifSent_2b {E : gE} {ad : Nat → Nat} {ws : va_W} {p : PS} {sv : Nat → PS} {sc len : Nat} {ch : Nat → Int32} {tw : Int32} {hh : Int64} (hM : ZM E ad ws p sv sc len ch tw hh) {b w x : Int32} (h1 : ¬ inP w 0 1 = 0) (h2 : inP b 1 100 = 0) : C0 E YX7_ifSent 0 0 [.ref (ad 214), .int w, .int b, .int x] ws (fun v9 w9 => v9 = some (.int 0) ∧ ZM E ad w9 p sv sc len ch 2 hh ∧ MO ws w9) := by
  obtain ⟨ea, iw, z, rw, as, l, hs, hq, er, bf, ⟨h, hz, hr, has, hl⟩, ⟨hhs, hha, hbf, he⟩, ⟨hG, hLG⟩, hsv, hlen, hch⟩ := id hM
  refine c0V vX7_ifSent (Nat.le_of_ble_eq_true rfl) (lv0 := [(0, .ref (ad 214)), (1, .int w), (2, .int b), (3, .int x)]) rfl ?_
  refine ev_ss DX7_ifSent 2 0 (pc' := 2) (lv' := [(0, .ref _), (1, .int _), (2, .int _), (3, .int _)]) (st' := [.int 0, .ref _]) rfl ?_
  refine ev_put (fs' := [_, _, _, _, _, _, _, _, _, _, _, _, _, _]) DX7_ifSent 2 GX7 rfl (k0 := 9) (Nat.le_of_ble_eq_true rfl) fX7_35 rfl ⟨rfl, rfl⟩ h (Nat.le_of_ble_eq_true rfl) rfl rfl ?_
  refine ev_ss DX7_ifSent 1 3 (pc' := 6) (lv' := [(0, .ref _), (1, .int _), (2, .int _), (3, .int _)]) (st' := [.int _]) rfl ?_
  refine ev_cS DX7_ifSent 4 m_X7_isWay vX7_isWay rfl qX7_46 rfl (hd_of rfl rfl rfl rfl) ?_
  refine ev_ifne DX7_ifSent 5 rfl (tgt := 18) (by decide) (fun _ => ?_) (fun h => absurd h h1)
  refine ev_ss DX7_ifSent 3 10 (pc' := 22) (lv' := [(0, .ref _), (1, .int _), (2, .int _), (3, .int _)]) (st' := [.int 100, .int 1, .int _]) rfl ?_
  refine ev_cS DX7_ifSent 13 m_X7_in vX7_in rfl qX7_39 rfl (hd_of rfl rfl rfl rfl) ?_
  refine ev_ifeq DX7_ifSent 14 rfl (tgt := 47) (by decide) (fun _ => ?_) (fun h => h.elim h2)
  refine ev_ss DX7_ifSent 2 26 (pc' := 49) (lv' := [(0, .ref _), (1, .int _), (2, .int _), (3, .int _)]) (st' := [.int 2, .ref _]) rfl ?_
  refine ev_cV DX7_ifSent 28 (cd_hs (m_X7_fails (wset_get h) (wset_o hz h rfl)) wset_set) vX7_fails rfl qX7_53 rfl (wset_get h) rfl (hd_of rfl rfl rfl rfl) ?_
  exact ev_iret DX7_ifSent 29 rfl rfl ⟨rfl, hM.t0 h, MO.set (by decide) (by decide)⟩
set_option maxRecDepth 100000 in
set_option maxHeartbeats 4000000 in
theorem m_X7_ifSent_2x {E : gE} {ad : Nat → Nat} {ws : va_W} {p : PS} {sv : Nat → PS} {sc len : Nat} {ch : Nat → Int32} {tw : Int32} {hh : Int64} (hM : ZM E ad ws p sv sc len ch tw hh) {b w x : Int32} (h1 : ¬ inP w 0 1 = 0) (h2 : ¬ inP b 1 100 = 0) (h3 : inP x 0 2 = 0) : C0 E YX7_ifSent 0 0 [.ref (ad 214), .int w, .int b, .int x] ws (fun v9 w9 => v9 = some (.int 0) ∧ ZM E ad w9 p sv sc len ch 2 hh ∧ MO ws w9) := by
  obtain ⟨ea, iw, z, rw, as, l, hs, hq, er, bf, ⟨h, hz, hr, has, hl⟩, ⟨hhs, hha, hbf, he⟩, ⟨hG, hLG⟩, hsv, hlen, hch⟩ := id hM
  refine c0V vX7_ifSent (Nat.le_of_ble_eq_true rfl) (lv0 := [(0, .ref (ad 214)), (1, .int w), (2, .int b), (3, .int x)]) rfl ?_
  refine ev_ss DX7_ifSent 2 0 (pc' := 2) (lv' := [(0, .ref _), (1, .int _), (2, .int _), (3, .int _)]) (st' := [.int 0, .ref _]) rfl ?_
  refine ev_put (fs' := [_, _, _, _, _, _, _, _, _, _, _, _, _, _]) DX7_ifSent 2 GX7 rfl (k0 := 9) (Nat.le_of_ble_eq_true rfl) fX7_35 rfl ⟨rfl, rfl⟩ h (Nat.le_of_ble_eq_true rfl) rfl rfl ?_
  refine ev_ss DX7_ifSent 1 3 (pc' := 6) (lv' := [(0, .ref _), (1, .int _), (2, .int _), (3, .int _)]) (st' := [.int _]) rfl ?_
  refine ev_cS DX7_ifSent 4 m_X7_isWay vX7_isWay rfl qX7_46 rfl (hd_of rfl rfl rfl rfl) ?_
  refine ev_ifne DX7_ifSent 5 rfl (tgt := 18) (by decide) (fun _ => ?_) (fun h => absurd h h1)
  refine ev_ss DX7_ifSent 3 10 (pc' := 22) (lv' := [(0, .ref _), (1, .int _), (2, .int _), (3, .int _)]) (st' := [.int 100, .int 1, .int _]) rfl ?_
  refine ev_cS DX7_ifSent 13 m_X7_in vX7_in rfl qX7_39 rfl (hd_of rfl rfl rfl rfl) ?_
  refine ev_ifeq DX7_ifSent 14 rfl (tgt := 47) (by decide) (fun h => absurd h h2) (fun _ => ?_)
  refine ev_ss DX7_ifSent 3 15 (pc' := 31) (lv' := [(0, .ref _), (1, .int _), (2, .int _), (3, .int _)]) (st' := [.int 2, .int 0, .int _]) rfl ?_
  refine ev_cS DX7_ifSent 18 m_X7_in vX7_in rfl qX7_39 rfl (hd_of rfl rfl rfl rfl) ?_
  refine ev_ifeq DX7_ifSent 19 rfl (tgt := 47) (by decide) (fun _ => ?_) (fun h => h.elim h3)
  refine ev_ss DX7_ifSent 2 26 (pc' := 49) (lv' := [(0, .ref _), (1, .int _), (2, .int _), (3, .int _)]) (st' := [.int 2, .ref _]) rfl ?_
  refine ev_cV DX7_ifSent 28 (cd_hs (m_X7_fails (wset_get h) (wset_o hz h rfl)) wset_set) vX7_fails rfl qX7_53 rfl (wset_get h) rfl (hd_of rfl rfl rfl rfl) ?_
  exact ev_iret DX7_ifSent 29 rfl rfl ⟨rfl, hM.t0 h, MO.set (by decide) (by decide)⟩
set_option maxRecDepth 100000 in
set_option maxHeartbeats 4000000 in
theorem m_X7_ifLearned_1 {E : gE} {ad : Nat → Nat} {ws : va_W} {p : PS} {sv : Nat → PS} {sc len : Nat} {ch : Nat → Int32} {tw : Int32} {hh : Int64} (hM : ZM E ad ws p sv sc len ch tw hh) {b w : Int32} (h1 : inP w 0 1 = 0) : C0 E YX7_ifLearned 0 0 [.ref (ad 214), .int w, .int b] ws (fun v9 w9 => v9 = some (.int 0) ∧ ZM E ad w9 p sv sc len ch 1 hh ∧ MO ws w9) := by
  obtain ⟨ea, iw, z, rw, as, l, hs, hq, er, bf, ⟨h, hz, hr, has, hl⟩, ⟨hhs, hha, hbf, he⟩, ⟨hG, hLG⟩, hsv, hlen, hch⟩ := id hM
  refine c0V vX7_ifLearned (Nat.le_of_ble_eq_true rfl) (lv0 := [(0, .ref (ad 214)), (1, .int w), (2, .int b)]) rfl ?_
  refine ev_ss DX7_ifLearned 2 0 (pc' := 2) (lv' := [(0, .ref _), (1, .int _), (2, .int _)]) (st' := [.int 0, .ref _]) rfl ?_
  refine ev_put (fs' := [_, _, _, _, _, _, _, _, _, _, _, _, _, _]) DX7_ifLearned 2 GX7 rfl (k0 := 9) (Nat.le_of_ble_eq_true rfl) fX7_35 rfl ⟨rfl, rfl⟩ h (Nat.le_of_ble_eq_true rfl) rfl rfl ?_
  refine ev_ss DX7_ifLearned 1 3 (pc' := 6) (lv' := [(0, .ref _), (1, .int _), (2, .int _)]) (st' := [.int _]) rfl ?_
  refine ev_cS DX7_ifLearned 4 m_X7_isWay vX7_isWay rfl qX7_46 rfl (hd_of rfl rfl rfl rfl) ?_
  refine ev_ifne DX7_ifLearned 5 rfl (tgt := 18) (by decide) (fun h => h.elim h1) (fun _ => ?_)
  refine ev_ss DX7_ifLearned 2 6 (pc' := 14) (lv' := [(0, .ref _), (1, .int _), (2, .int _)]) (st' := [.int 1, .ref _]) rfl ?_
  refine ev_cV DX7_ifLearned 8 (cd_hs (m_X7_fails (wset_get h) (wset_o hz h rfl)) wset_set) vX7_fails rfl qX7_53 rfl (wset_get h) rfl (hd_of rfl rfl rfl rfl) ?_
  exact ev_iret DX7_ifLearned 9 rfl rfl ⟨rfl, hM.t0 h, MO.set (by decide) (by decide)⟩
set_option maxRecDepth 100000 in
set_option maxHeartbeats 4000000 in
theorem m_X7_ifLearned_2 {E : gE} {ad : Nat → Nat} {ws : va_W} {p : PS} {sv : Nat → PS} {sc len : Nat} {ch : Nat → Int32} {tw : Int32} {hh : Int64} (hM : ZM E ad ws p sv sc len ch tw hh) {b w : Int32} (h1 : ¬ inP w 0 1 = 0) (h2 : inP b 1 100 = 0) : C0 E YX7_ifLearned 0 0 [.ref (ad 214), .int w, .int b] ws (fun v9 w9 => v9 = some (.int 0) ∧ ZM E ad w9 p sv sc len ch 2 hh ∧ MO ws w9) := by
  obtain ⟨ea, iw, z, rw, as, l, hs, hq, er, bf, ⟨h, hz, hr, has, hl⟩, ⟨hhs, hha, hbf, he⟩, ⟨hG, hLG⟩, hsv, hlen, hch⟩ := id hM
  refine c0V vX7_ifLearned (Nat.le_of_ble_eq_true rfl) (lv0 := [(0, .ref (ad 214)), (1, .int w), (2, .int b)]) rfl ?_
  refine ev_ss DX7_ifLearned 2 0 (pc' := 2) (lv' := [(0, .ref _), (1, .int _), (2, .int _)]) (st' := [.int 0, .ref _]) rfl ?_
  refine ev_put (fs' := [_, _, _, _, _, _, _, _, _, _, _, _, _, _]) DX7_ifLearned 2 GX7 rfl (k0 := 9) (Nat.le_of_ble_eq_true rfl) fX7_35 rfl ⟨rfl, rfl⟩ h (Nat.le_of_ble_eq_true rfl) rfl rfl ?_
  refine ev_ss DX7_ifLearned 1 3 (pc' := 6) (lv' := [(0, .ref _), (1, .int _), (2, .int _)]) (st' := [.int _]) rfl ?_
  refine ev_cS DX7_ifLearned 4 m_X7_isWay vX7_isWay rfl qX7_46 rfl (hd_of rfl rfl rfl rfl) ?_
  refine ev_ifne DX7_ifLearned 5 rfl (tgt := 18) (by decide) (fun _ => ?_) (fun h => absurd h h1)
  refine ev_ss DX7_ifLearned 3 10 (pc' := 22) (lv' := [(0, .ref _), (1, .int _), (2, .int _)]) (st' := [.int 100, .int 1, .int _]) rfl ?_
  refine ev_cS DX7_ifLearned 13 m_X7_in vX7_in rfl qX7_39 rfl (hd_of rfl rfl rfl rfl) ?_
  refine ev_ifeq DX7_ifLearned 14 rfl (tgt := 37) (by decide) (fun _ => ?_) (fun h => h.elim h2)
  refine ev_ss DX7_ifLearned 2 20 (pc' := 39) (lv' := [(0, .ref _), (1, .int _), (2, .int _)]) (st' := [.int 2, .ref _]) rfl ?_
  refine ev_cV DX7_ifLearned 22 (cd_hs (m_X7_fails (wset_get h) (wset_o hz h rfl)) wset_set) vX7_fails rfl qX7_53 rfl (wset_get h) rfl (hd_of rfl rfl rfl rfl) ?_
  exact ev_iret DX7_ifLearned 23 rfl rfl ⟨rfl, hM.t0 h, MO.set (by decide) (by decide)⟩
set_option maxRecDepth 100000 in
set_option maxHeartbeats 4000000 in
theorem m_X7_beatsFor_1 {E : gE} {ad : Nat → Nat} {ws : va_W} {p : PS} {sv : Nat → PS} {sc len : Nat} {ch : Nat → Int32} {tw : Int32} {hh : Int64} (hM : ZM E ad ws p sv sc len ch tw hh) {w : Int32} (h1 : inP w 0 1 = 0) : C0 E YX7_beatsFor 0 0 [.ref (ad 214), .int w] ws (fun v9 w9 => v9 = some (.int 0) ∧ ZM E ad w9 p sv sc len ch 1 hh ∧ MO ws w9) := by
  obtain ⟨ea, iw, z, rw, as, l, hs, hq, er, bf, ⟨h, hz, hr, has, hl⟩, ⟨hhs, hha, hbf, he⟩, ⟨hG, hLG⟩, hsv, hlen, hch⟩ := id hM
  refine c0V vX7_beatsFor (Nat.le_of_ble_eq_true rfl) (lv0 := [(0, .ref (ad 214)), (1, .int w)]) rfl ?_
  refine ev_ss DX7_beatsFor 2 0 (pc' := 2) (lv' := [(0, .ref _), (1, .int _)]) (st' := [.int 0, .ref _]) rfl ?_
  refine ev_put (fs' := [_, _, _, _, _, _, _, _, _, _, _, _, _, _]) DX7_beatsFor 2 GX7 rfl (k0 := 9) (Nat.le_of_ble_eq_true rfl) fX7_35 rfl ⟨rfl, rfl⟩ h (Nat.le_of_ble_eq_true rfl) rfl rfl ?_
  refine ev_ss DX7_beatsFor 1 3 (pc' := 6) (lv' := [(0, .ref _), (1, .int _)]) (st' := [.int _]) rfl ?_
  refine ev_cS DX7_beatsFor 4 m_X7_isWay vX7_isWay rfl qX7_46 rfl (hd_of rfl rfl rfl rfl) ?_
  refine ev_ifeq DX7_beatsFor 5 rfl (tgt := 20) (by decide) (fun _ => ?_) (fun h => h.elim h1)
  refine ev_ss DX7_beatsFor 2 10 (pc' := 22) (lv' := [(0, .ref _), (1, .int _)]) (st' := [.int 1, .ref _]) rfl ?_
  refine ev_cV DX7_beatsFor 12 (cd_hs (m_X7_fails (wset_get h) (wset_o hz h rfl)) wset_set) vX7_fails rfl qX7_53 rfl (wset_get h) rfl (hd_of rfl rfl rfl rfl) ?_
  exact ev_iret DX7_beatsFor 13 rfl rfl ⟨rfl, hM.t0 h, MO.set (by decide) (by decide)⟩
set_option maxRecDepth 100000 in
set_option maxHeartbeats 4000000 in
theorem m_X7_bestLesson_1 {E : gE} {ad : Nat → Nat} {ws : va_W} {p : PS} {sv : Nat → PS} {sc len : Nat} {ch : Nat → Int32} {tw : Int32} {hh : Int64} (hM : ZM E ad ws p sv sc len ch tw hh) {w : Int32} (h1 : inP w 0 1 = 0) : C0 E YX7_bestLesson 0 0 [.ref (ad 214), .int w] ws (fun v9 w9 => v9 = some (.int 0) ∧ ZM E ad w9 p sv sc len ch 1 hh ∧ MO ws w9) := by
  obtain ⟨ea, iw, z, rw, as, l, hs, hq, er, bf, ⟨h, hz, hr, has, hl⟩, ⟨hhs, hha, hbf, he⟩, ⟨hG, hLG⟩, hsv, hlen, hch⟩ := id hM
  refine c0V vX7_bestLesson (Nat.le_of_ble_eq_true rfl) (lv0 := [(0, .ref (ad 214)), (1, .int w)]) rfl ?_
  refine ev_ss DX7_bestLesson 2 0 (pc' := 2) (lv' := [(0, .ref _), (1, .int _)]) (st' := [.int 0, .ref _]) rfl ?_
  refine ev_put (fs' := [_, _, _, _, _, _, _, _, _, _, _, _, _, _]) DX7_bestLesson 2 GX7 rfl (k0 := 9) (Nat.le_of_ble_eq_true rfl) fX7_35 rfl ⟨rfl, rfl⟩ h (Nat.le_of_ble_eq_true rfl) rfl rfl ?_
  refine ev_ss DX7_bestLesson 1 3 (pc' := 6) (lv' := [(0, .ref _), (1, .int _)]) (st' := [.int _]) rfl ?_
  refine ev_cS DX7_bestLesson 4 m_X7_isWay vX7_isWay rfl qX7_46 rfl (hd_of rfl rfl rfl rfl) ?_
  refine ev_ifeq DX7_bestLesson 5 rfl (tgt := 20) (by decide) (fun _ => ?_) (fun h => h.elim h1)
  refine ev_ss DX7_bestLesson 2 10 (pc' := 22) (lv' := [(0, .ref _), (1, .int _)]) (st' := [.int 1, .ref _]) rfl ?_
  refine ev_cV DX7_bestLesson 12 (cd_hs (m_X7_fails (wset_get h) (wset_o hz h rfl)) wset_set) vX7_fails rfl qX7_53 rfl (wset_get h) rfl (hd_of rfl rfl rfl rfl) ?_
  exact ev_iret DX7_bestLesson 13 rfl rfl ⟨rfl, hM.t0 h, MO.set (by decide) (by decide)⟩
set_option maxRecDepth 100000 in
set_option maxHeartbeats 4000000 in
theorem m_X7_rightShare_1 {E : gE} {ad : Nat → Nat} {ws : va_W} {p : PS} {sv : Nat → PS} {sc len : Nat} {ch : Nat → Int32} {tw : Int32} {hh : Int64} (hM : ZM E ad ws p sv sc len ch tw hh) {w : Int32} (h1 : inP w 0 1 = 0) : C0 E YX7_rightShare 0 0 [.ref (ad 214), .int w] ws (fun v9 w9 => (∃ x9, v9 = some (.double x9)) ∧ ZM E ad w9 p sv sc len ch 1 hh ∧ MO ws w9) := by
  obtain ⟨ea, iw, z, rw, as, l, hs, hq, er, bf, ⟨h, hz, hr, has, hl⟩, ⟨hhs, hha, hbf, he⟩, ⟨hG, hLG⟩, hsv, hlen, hch⟩ := id hM
  refine c0V vX7_rightShare (Nat.le_of_ble_eq_true rfl) (lv0 := [(0, .ref (ad 214)), (1, .int w)]) rfl ?_
  refine ev_ss DX7_rightShare 2 0 (pc' := 2) (lv' := [(0, .ref _), (1, .int _)]) (st' := [.int 0, .ref _]) rfl ?_
  refine ev_put (fs' := [_, _, _, _, _, _, _, _, _, _, _, _, _, _]) DX7_rightShare 2 GX7 rfl (k0 := 9) (Nat.le_of_ble_eq_true rfl) fX7_35 rfl ⟨rfl, rfl⟩ h (Nat.le_of_ble_eq_true rfl) rfl rfl ?_
  refine ev_ss DX7_rightShare 1 3 (pc' := 6) (lv' := [(0, .ref _), (1, .int _)]) (st' := [.int _]) rfl ?_
  refine ev_cS DX7_rightShare 4 m_X7_isWay vX7_isWay rfl qX7_46 rfl (hd_of rfl rfl rfl rfl) ?_
  refine ev_ifeq DX7_rightShare 5 rfl (tgt := 20) (by decide) (fun _ => ?_) (fun h => h.elim h1)
  refine ev_ss DX7_rightShare 2 10 (pc' := 22) (lv' := [(0, .ref _), (1, .int _)]) (st' := [.int 1, .ref _]) rfl ?_
  refine ev_cV DX7_rightShare 12 (cd_hs (m_X7_fails (wset_get h) (wset_o hz h rfl)) wset_set) vX7_fails rfl qX7_53 rfl (wset_get h) rfl (hd_of rfl rfl rfl rfl) ?_
  refine ev_ss DX7_rightShare 1 13 (pc' := 26) (lv' := [(0, .ref _), (1, .int _)]) (st' := [.double _]) rfl ?_
  exact ev_dret DX7_rightShare 14 rfl rfl ⟨⟨_, rfl⟩, hM.t0 h, MO.set (by decide) (by decide)⟩
