theorem lrT_2 {p sd : Int32} {nb : Nat} {σ : WS} {sz : Nat → Int32} : ∀ i, (lrT p nb sd σ sz i).2.1.2 = σ.2
  | 0 => rfl
  | i + 1 => by
    rw [lrT_s]
    show (lrT p nb sd σ sz i).2.1.2 = σ.2
    exact lrT_2 i
theorem lrN_2 {p sd : Int32} {σ : WS} : ∀ n, (lrN p sd σ n).2.1.2 = σ.2
  | 0 => rfl
  | n + 1 => by rw [lrN_s, lrT_2]; exact lrN_2 n
theorem enT_2 {mg : Int32} {sz : Nat → Int32} {σ : WS} : ∀ i, (enT mg sz σ i).2 = σ.2
  | 0 => rfl
  | i + 1 => enT_2 i
theorem tlW_2 {p mg sd : Int32} {σ : WS} {n : Nat} : (tlW p mg sd σ n).2 = σ.2 := by
  unfold tlW
  rw [enT_2, lrN_2]
theorem fgT_2 {σ : WS} : ∀ i, (fgT σ i).2 = σ.2
  | 0 => rfl
  | i + 1 => fgT_2 i
theorem LG.set {l : Nat → Int64} {p : PS} {sd bt : Int32} {a : Nat} {τ : WS} (ha : a < 2) (h : LG l p) (e : τ.2 = (pW p a).2) : LG l (sd, bt, (pSet p a τ).2.2) := fun b hb => by
  by_cases e2 : b = a
  · subst e2
    rw [show pW (sd, bt, (pSet p b τ).2.2) b = τ from pW_set (p := p), e]
    exact h b hb
  · rw [show pW (sd, bt, (pSet p a τ).2.2) b = pW p b from pW_other (p := p) ha hb e2]
    exact h b hb
theorem LG.learn {l : Nat → Int64} {p : PS} {a n : Nat} (ha : a < 2) (h : LG l p) : LG l (pLearn p a n) := h.set ha tlW_2
theorem LG.forg {l : Nat → Int64} {p : PS} {a : Nat} (ha : a < 2) (h : LG l p) : LG l (pForg p a) := h.set (sd := p.1) (bt := p.2.1) ha (fgT_2 k8)
theorem pForg_SW {p : PS} {a : Nat} : pForg p a = pSW p p.1 a (fgT (pW p a) k8) := rfl
theorem fgT_s {σ : WS} {i : Nat} : fgT σ (i + 1) = (va_up (fgT σ i).1 i (loseP ((fgT σ i).1 i)), (fgT σ i).2) := rfl
set_option maxRecDepth 100000 in
set_option maxHeartbeats 4000000 in
theorem m_X7_learn_ok {E : gE} {ad : Nat → Nat} {ws : va_W} {p : PS} {sv : Nat → PS} {sc len : Nat} {ch : Nat → Int32} {tw : Int32} {hh : Int64} (hM : ZM E ad ws p sv sc len ch tw hh) {a n : Nat} (ha : a < 2) (hb1 : ¬ inP (nI n) 1 100 = 0) (hn : n ≤ 100) (hl5 : ¬ 5000 < p.2.1 + nI n) (hsc : sc ≤ 6) (hN : LN p a) : C0 E YX7_learn 0 0 [.ref (ad 214), .int (nI a), .int (nI n)] ws (fun v9 w9 => v9 = some (.int (sumN (fun t => (pW (pLearn p a n) a).1 t 10) 8)) ∧ ZM E ad w9 (pLearn p a n) (svN p sv sc) (scN sc) len ch 0 hh ∧ MO ws w9) := by
  obtain ⟨ea, iw, z, rw, as, l, hs, hq, er, bf, ⟨h, hz, hr, has, hl⟩, ⟨hhs, hha, hbf, he⟩, ⟨hG, hLG⟩, hsv, hlen, hch⟩ := id hM
  refine c0V vX7_learn (Nat.le_of_ble_eq_true rfl) (lv0 := [(0, .ref (ad 214)), (1, .int (nI a)), (2, .int (nI n))]) rfl ?_
  refine ev_ss DX7_learn 2 0 (pc' := 2) (lv' := [(0, .ref _), (1, .int _), (2, .int _)]) (st' := [.int 0, .ref _]) rfl ?_
  refine ev_put (fs' := [_, _, _, _, _, _, _, _, _, _, _, _, _, _]) DX7_learn 2 GX7 rfl (k0 := 9) (Nat.le_of_ble_eq_true rfl) fX7_35 rfl ⟨rfl, rfl⟩ h (Nat.le_of_ble_eq_true rfl) rfl rfl ?_
  refine ev_ss DX7_learn 3 3 (pc' := 8) (lv' := [(0, .ref _), (1, .int _), (2, .int _)]) (st' := [.int _, .int _, .ref _]) rfl ?_
  refine ev_cV DX7_learn 6 (m_X7_mayBeat_ok (wset_get h) (wset_o hz h rfl) (inW_g ha) hb1 (by rw [hG.2.2.2.2.1]; exact hl5)) vX7_mayBeat rfl qX7_111 rfl (wset_get h) rfl (hd_of rfl rfl rfl rfl) ?_
  refine ev_ifne DX7_learn 7 rfl (tgt := 16) (by decide) (fun _ => ?_) (fun h => absurd h (by decide))
  refine ev_ss DX7_learn 1 10 (pc' := 17) (lv' := [(0, .ref _), (1, .int _), (2, .int _)]) (st' := [.ref _]) rfl ?_
  refine ev_rV DX7_learn 11 (m_X7_save (hM.t0 h (tw := 0)) hsc) vX7_save rfl qX7_61 rfl (wset_get h) rfl (hd_of rfl rfl rfl rfl) (fun v w hvw => ?_)
  obtain ⟨rfl, hM2, hO2⟩ := hvw
  obtain ⟨ea2, iw2, z2, rw2, as2, l2, hs2, hq2, er2, bf2, ⟨h2, hz2, hr2, has2, hl2⟩, ⟨hhs2, hha2, hbf2, he2⟩, ⟨hG2, hLG2⟩, hsv2, hlen2, hch2⟩ := id hM2
  refine ev_ss DX7_learn 3 12 (pc' := 23) (lv' := [(0, .ref _), (1, .int _), (2, .int _)]) (st' := [.int _, .int _, .ref _]) rfl ?_
  refine ev_rV DX7_learn 15 (m_X7_learnAll h2 hz2 he2 ha (by omega) hG2 hN) vX7_learnAll rfl qX7_114 rfl h2 rfl (hd_of rfl rfl rfl rfl) (fun v w3 hvw => ?_)
  obtain ⟨rfl, hz3, he3, hO3⟩ := hvw
  exact ev_iret DX7_learn 16 rfl rfl ⟨rfl, hM2.st hz3 ⟨l2, (hO3 218 (by decide) (by decide)).trans hl2, hLG2.learn ha⟩ ⟨as2, (hO3 217 (by decide) (by decide)).trans has2⟩ ⟨hq2, (hO3 220 (by decide) (by decide)).trans hha2⟩ he3 (fun j _ _ b1 _ _ _ b2 => hO3 j b1 b2), ((MO.set (by decide) (by decide)).tr hO2).tr (fun j hj => hO3 j (by omega) (by omega))⟩
set_option maxRecDepth 100000 in
set_option maxHeartbeats 4000000 in
theorem m_X7_send_ok {E : gE} {ad : Nat → Nat} {ws : va_W} {p : PS} {sv : Nat → PS} {sc len : Nat} {ch : Nat → Int32} {tw : Int32} {hh : Int64} (hM : ZM E ad ws p sv sc len ch tw hh) {a n : Nat} (ha : a < 2) (hb1 : ¬ inP (nI n) 1 100 = 0) (hn : n ≤ 100) (hl5 : ¬ 5000 < p.2.1 + nI n) (hsc : sc ≤ 6) (hI : WI (pW p a)) : C0 E YX7_send 0 0 [.ref (ad 214), .int (nI a), .int (nI n)] ws (fun v9 w9 => v9 = some (.int (btN (p.2.2.1 2) p.1 (pW p a) n).1) ∧ ZM E ad w9 (pSend p a n) (svN p sv sc) (scN sc) len ch 0 hh ∧ MO ws w9) := by
  obtain ⟨ea, iw, z, rw, as, l, hs, hq, er, bf, ⟨h, hz, hr, has, hl⟩, ⟨hhs, hha, hbf, he⟩, ⟨hG, hLG⟩, hsv, hlen, hch⟩ := id hM
  refine c0V vX7_send (Nat.le_of_ble_eq_true rfl) (lv0 := [(0, .ref (ad 214)), (1, .int (nI a)), (2, .int (nI n))]) rfl ?_
  refine ev_ss DX7_send 2 0 (pc' := 2) (lv' := [(0, .ref _), (1, .int _), (2, .int _)]) (st' := [.int 0, .ref _]) rfl ?_
  refine ev_put (fs' := [_, _, _, _, _, _, _, _, _, _, _, _, _, _]) DX7_send 2 GX7 rfl (k0 := 9) (Nat.le_of_ble_eq_true rfl) fX7_35 rfl ⟨rfl, rfl⟩ h (Nat.le_of_ble_eq_true rfl) rfl rfl ?_
  refine ev_ss DX7_send 3 3 (pc' := 8) (lv' := [(0, .ref _), (1, .int _), (2, .int _)]) (st' := [.int _, .int _, .ref _]) rfl ?_
  refine ev_cV DX7_send 6 (m_X7_mayBeat_ok (wset_get h) (wset_o hz h rfl) (inW_g ha) hb1 (by rw [hG.2.2.2.2.1]; exact hl5)) vX7_mayBeat rfl qX7_111 rfl (wset_get h) rfl (hd_of rfl rfl rfl rfl) ?_
  refine ev_ifne DX7_send 7 rfl (tgt := 16) (by decide) (fun _ => ?_) (fun h => absurd h (by decide))
  refine ev_ss DX7_send 1 10 (pc' := 17) (lv' := [(0, .ref _), (1, .int _), (2, .int _)]) (st' := [.ref _]) rfl ?_
  refine ev_rV DX7_send 11 (m_X7_save (hM.t0 h (tw := 0)) hsc) vX7_save rfl qX7_61 rfl (wset_get h) rfl (hd_of rfl rfl rfl rfl) (fun v w hvw => ?_)
  obtain ⟨rfl, hM2, hO2⟩ := hvw
  obtain ⟨ea2, iw2, z2, rw2, as2, l2, hs2, hq2, er2, bf2, ⟨h2, hz2, hr2, has2, hl2⟩, ⟨hhs2, hha2, hbf2, he2⟩, ⟨hG2, hLG2⟩, hsv2, hlen2, hch2⟩ := id hM2
  refine ev_ss DX7_send 3 12 (pc' := 23) (lv' := [(0, .ref _), (1, .int _), (2, .int _)]) (st' := [.int _, .int _, .ref _]) rfl ?_
  refine ev_rV DX7_send 15 (m_X7_sendAll h2 hz2 hl2 ha (by omega) hG2 hLG2 hI) vX7_sendAll rfl qX7_137 rfl h2 rfl (hd_of rfl rfl rfl rfl) (fun v w3 hvw => ?_)
  obtain ⟨rfl, ⟨z3, l3, hz3, hl3, hG3, hLG3⟩, hO3⟩ := hvw
  exact ev_iret DX7_send 16 rfl rfl ⟨rfl, hM2.st ⟨z3, hz3, hG3⟩ ⟨l3, hl3, hLG3⟩ ⟨as2, (hO3 217 (by decide) (by decide)).trans has2⟩ ⟨hq2, (hO3 220 (by decide) (by decide)).trans hha2⟩ ⟨er2, (hO3 222 (by decide) (by decide)).trans he2⟩ (fun j _ _ b1 _ b2 _ _ => hO3 j b1 b2), ((MO.set (by decide) (by decide)).tr hO2).tr (fun j hj => hO3 j (by omega) (by omega))⟩
set_option maxRecDepth 100000 in
set_option maxHeartbeats 4000000 in
theorem m_X7_forget_ok {E : gE} {ad : Nat → Nat} {ws : va_W} {p : PS} {sv : Nat → PS} {sc len : Nat} {ch : Nat → Int32} {tw : Int32} {hh : Int64} (hM : ZM E ad ws p sv sc len ch tw hh) {a : Nat} (ha : a < 2) (hsc : sc ≤ 6) : C0 E YX7_forget 0 0 [.ref (ad 214), .int (nI a)] ws (fun v9 w9 => v9 = some (.int (sumN (fun t => (pW p a).1 t 10) 8)) ∧ ZM E ad w9 (pForg p a) (svN p sv sc) (scN sc) len ch 0 hh ∧ MO ws w9) := by
  obtain ⟨ea, iw, z, rw, as, l, hs, hq, er, bf, ⟨h, hz, hr, has, hl⟩, ⟨hhs, hha, hbf, he⟩, ⟨hG, hLG⟩, hsv, hlen, hch⟩ := id hM
  have e8 := k8e
  refine c0V vX7_forget (Nat.le_of_ble_eq_true rfl) (lv0 := [(0, .ref (ad 214)), (1, .int (nI a))]) rfl ?_
  refine ev_ss DX7_forget 2 0 (pc' := 2) (lv' := [(0, .ref _), (1, .int _)]) (st' := [.int 0, .ref _]) rfl ?_
  refine ev_put (fs' := [_, _, _, _, _, _, _, _, _, _, _, _, _, _]) DX7_forget 2 GX7 rfl (k0 := 9) (Nat.le_of_ble_eq_true rfl) fX7_35 rfl ⟨rfl, rfl⟩ h (Nat.le_of_ble_eq_true rfl) rfl rfl ?_
  refine ev_ss DX7_forget 1 3 (pc' := 6) (lv' := [(0, .ref _), (1, .int _)]) (st' := [.int _]) rfl ?_
  refine ev_cS DX7_forget 4 m_X7_isWay vX7_isWay rfl qX7_46 rfl (hd_of rfl rfl rfl rfl) ?_
  refine ev_ifne DX7_forget 5 rfl (tgt := 18) (by decide) (fun _ => ?_) (fun h => absurd h (inW_g ha))
  refine ev_ss DX7_forget 1 10 (pc' := 19) (lv' := [(0, .ref _), (1, .int _)]) (st' := [.ref _]) rfl ?_
  refine ev_rV DX7_forget 11 (m_X7_save (hM.t0 h (tw := 0)) hsc) vX7_save rfl qX7_61 rfl (wset_get h) rfl (hd_of rfl rfl rfl rfl) (fun v w hvw => ?_)
  obtain ⟨rfl, hM2, hO2⟩ := hvw
  obtain ⟨ea2, iw2, z2, rw2, as2, l2, hs2, hq2, er2, bf2, ⟨h2, hz2, hr2, has2, hl2⟩, ⟨hhs2, hha2, hbf2, he2⟩, ⟨hG2, hLG2⟩, hsv2, hlen2, hch2⟩ := id hM2
  refine ev_ss DX7_forget 2 12 (pc' := 24) (lv' := [(0, .ref _), (1, .int _)]) (st' := [.int _, .ref _]) rfl ?_
  refine ev_cV DX7_forget 14 (m_X7_carried h2 hz2 ha hG2) vX7_carried rfl qX7_108 rfl h2 rfl (hd_of rfl rfl rfl rfl) ?_
  refine ev_ss DX7_forget 3 15 (pc' := 30) (lv' := [(3, .int 0), (2, .int _), (0, .ref _), (1, .int _)]) (st' := []) rfl ?_
  refine ev_lvp (lv2 := [(0, .ref _), (1, .int _), (2, .int _), (3, .int _)]) [2, 3, 1, 0] rfl ?_
  suffices K : ∀ (m i : Nat) (x : Int32) (w3 : va_W) (z1 : Nat → Int32), i + m = k8 → x = nI i → w3[215]? = some (ad 215, iaC E 811 z1) → ZG z1 (pSW p p.1 a (fgT (pW p a) i)) → (∀ j, j ≠ 215 → w3[j]? = w[j]?) → Ev E YX7_forget (fun v9 w9 => v9 = some (.int (sumN (fun t => (pW p a).1 t 10) 8)) ∧ ZM E ad w9 (pForg p a) (svN p sv sc) (scN sc) len ch 0 hh ∧ MO ws w9) nX 0 0 30 [(0, .ref (ad 214)), (1, .int (nI a)), (2, .int (sumN (fun t => (pW p a).1 t 10) 8)), (3, .int x)] [] w3 by
    exact K k8 0 _ w z2 (Nat.zero_add k8) nI_0.symm hz2 (by rw [fgT_0, pSW_id]; exact hG2) (fun _ _ => rfl)
  intro m
  induction m with
  | zero =>
    intro i x w3 z1 hm hx hz1 hg1 hO3
    obtain rfl : i = k8 := by omega
    subst hx
    refine ev_ss DX7_forget 2 18 (pc' := 33) (lv' := [(0, .ref _), (1, .int _), (2, .int _), (3, .int _)]) (st' := [.int 8, .int _]) rfl ?_
    refine ev_icge DX7_forget 20 rfl (tgt := 111) (by decide) (fun _ => ?_) (fun h => h.elim (by rw [k8e]; decide))
    refine ev_ss DX7_forget 1 70 (pc' := 112) (lv' := [(0, .ref _), (1, .int _), (2, .int _), (3, .int _)]) (st' := [.int _]) rfl ?_
    exact ev_iret DX7_forget 71 rfl rfl ⟨rfl, hM2.st ⟨z1, hz1, hg1⟩ ⟨l2, (hO3 218 (by decide)).trans hl2, hLG2.forg ha⟩ ⟨as2, (hO3 217 (by decide)).trans has2⟩ ⟨hq2, (hO3 220 (by decide)).trans hha2⟩ ⟨er2, (hO3 222 (by decide)).trans he2⟩ (fun j _ _ b1 _ _ _ _ => hO3 j b1), ((MO.set (by decide) (by decide)).tr hO2).tr (fun j hj => hO3 j (by omega))⟩
  | succ m ih =>
    intro i x w3 z1 hm hx hz1 hg1 hO3
    subst hx
    have h1 := (hO3 214 (by decide)).trans h2
    have hc1 : acA a i + 11 ≤ 288 := by unfold acA; omega
    have hi8 : i < 8 := by omega
    obtain ⟨q, eq⟩ : ∃ q, q = pSW p p.1 a (fgT (pW p a) i) := ⟨_, rfl⟩
    have hT : ∀ F : TF, pTone q a i F = pSW p p.1 a (va_up (fgT (pW p a) i).1 i F, (fgT (pW p a) i).2) := fun F => by rw [eq]; exact pSW_T (p := p) (sd := p.1)
    have ef : (pW q a).1 i = (fgT (pW p a) i).1 i := by rw [eq, pW_SW]
    rw [← eq] at hg1
    have hg2 : ZG z1 (pTone q a i ((fgT (pW p a) i).1 i)) := by rw [← ef, pT_id]; exact hg1
    have hg3 := (((((hg2.ac ha hi8 (j := 0) (v := 64) (by decide)).ac ha hi8 (j := 1) (v := 0) (by decide)).ac ha hi8 (j := 2) (v := 0) (by decide)).ac ha hi8 (j := 3) (v := 0) (by decide)).ac ha hi8 (j := 4) (v := -1) (by decide)).ac ha hi8 (j := 5) (v := 0) (by decide)
    rw [hT] at hg3
    refine ev_ss DX7_forget 2 18 (pc' := 33) (lv' := [(0, .ref _), (1, .int _), (2, .int _), (3, .int _)]) (st' := [.int 8, .int _]) rfl ?_
    refine ev_icge DX7_forget 20 rfl (tgt := 111) (by decide) (fun h => absurd h (nI_ge (b := 8) (by omega) (by decide))) (fun _ => ?_)
    refine ev_ss DX7_forget 3 21 (pc' := 39) (lv' := [(0, .ref _), (1, .int _), (2, .int _), (3, .int _)]) (st' := [.int _, .int _, .ref _]) rfl ?_
    refine ev_cV DX7_forget 24 (m_X7_accentAt h1) vX7_accentAt rfl qX7_68 rfl h1 rfl (hd_of rfl rfl rfl rfl) ?_
    refine ev_ss DX7_forget 2 25 (pc' := 45) (lv' := [(4, .int _), (0, .ref _), (1, .int _), (2, .int _), (3, .int _)]) (st' := [.ref _]) rfl ?_
    refine ev_get DX7_forget 27 GX7 rfl (k0 := 0) (Nat.le_of_ble_eq_true rfl) fX7_7 h1 rfl ?_
    refine ev_ss DX7_forget 4 28 (pc' := 54) (lv' := [(4, .int _), (0, .ref _), (1, .int _), (2, .int _), (3, .int _)]) (st' := [.int 64, .int _, .ref _]) rfl ?_
    refine ev_iastv DX7_forget 32 (k0 := (acA a i + 0)) rfl hz1 (nx_add (a := acA a i) (b := 0) rfl rfl) (by omega) (by decide) rfl ?_
    refine ev_ss DX7_forget 1 33 (pc' := 56) (lv' := [(4, .int _), (0, .ref _), (1, .int _), (2, .int _), (3, .int _)]) (st' := [.ref _]) rfl ?_
    refine ev_get DX7_forget 34 GX7 rfl (k0 := 0) (Nat.le_of_ble_eq_true rfl) fX7_7 (wset_o h1 hz1 rfl) rfl ?_
    refine ev_ss DX7_forget 4 35 (pc' := 64) (lv' := [(4, .int _), (0, .ref _), (1, .int _), (2, .int _), (3, .int _)]) (st' := [.int 0, .int _, .ref _]) rfl ?_
    refine ev_iastv DX7_forget 39 (k0 := (acA a i + 1)) rfl (wset_get hz1) (nx_add (a := acA a i) (b := 1) rfl rfl) (by omega) (by decide) wset_set ?_
    refine ev_ss DX7_forget 1 40 (pc' := 66) (lv' := [(4, .int _), (0, .ref _), (1, .int _), (2, .int _), (3, .int _)]) (st' := [.ref _]) rfl ?_
    refine ev_get DX7_forget 41 GX7 rfl (k0 := 0) (Nat.le_of_ble_eq_true rfl) fX7_7 (wset_o h1 hz1 rfl) rfl ?_
    refine ev_ss DX7_forget 4 42 (pc' := 74) (lv' := [(4, .int _), (0, .ref _), (1, .int _), (2, .int _), (3, .int _)]) (st' := [.int 0, .int _, .ref _]) rfl ?_
    refine ev_iastv DX7_forget 46 (k0 := (acA a i + 2)) rfl (wset_get hz1) (nx_add (a := acA a i) (b := 2) rfl rfl) (by omega) (by decide) wset_set ?_
    refine ev_ss DX7_forget 1 47 (pc' := 76) (lv' := [(4, .int _), (0, .ref _), (1, .int _), (2, .int _), (3, .int _)]) (st' := [.ref _]) rfl ?_
    refine ev_get DX7_forget 48 GX7 rfl (k0 := 0) (Nat.le_of_ble_eq_true rfl) fX7_7 (wset_o h1 hz1 rfl) rfl ?_
    refine ev_ss DX7_forget 4 49 (pc' := 84) (lv' := [(4, .int _), (0, .ref _), (1, .int _), (2, .int _), (3, .int _)]) (st' := [.int 0, .int _, .ref _]) rfl ?_
    refine ev_iastv DX7_forget 53 (k0 := (acA a i + 3)) rfl (wset_get hz1) (nx_add (a := acA a i) (b := 3) rfl rfl) (by omega) (by decide) wset_set ?_
    refine ev_ss DX7_forget 1 54 (pc' := 86) (lv' := [(4, .int _), (0, .ref _), (1, .int _), (2, .int _), (3, .int _)]) (st' := [.ref _]) rfl ?_
    refine ev_get DX7_forget 55 GX7 rfl (k0 := 0) (Nat.le_of_ble_eq_true rfl) fX7_7 (wset_o h1 hz1 rfl) rfl ?_
    refine ev_ss DX7_forget 4 56 (pc' := 94) (lv' := [(4, .int _), (0, .ref _), (1, .int _), (2, .int _), (3, .int _)]) (st' := [.int (-1), .int _, .ref _]) rfl ?_
    refine ev_iastv DX7_forget 60 (k0 := (acA a i + 4)) rfl (wset_get hz1) (nx_add (a := acA a i) (b := 4) rfl rfl) (by omega) (by decide) wset_set ?_
    refine ev_ss DX7_forget 1 61 (pc' := 96) (lv' := [(4, .int _), (0, .ref _), (1, .int _), (2, .int _), (3, .int _)]) (st' := [.ref _]) rfl ?_
    refine ev_get DX7_forget 62 GX7 rfl (k0 := 0) (Nat.le_of_ble_eq_true rfl) fX7_7 (wset_o h1 hz1 rfl) rfl ?_
    refine ev_ss DX7_forget 4 63 (pc' := 104) (lv' := [(4, .int _), (0, .ref _), (1, .int _), (2, .int _), (3, .int _)]) (st' := [.int 0, .int _, .ref _]) rfl ?_
    refine ev_iastv DX7_forget 67 (k0 := (acA a i + 5)) rfl (wset_get hz1) (nx_add (a := acA a i) (b := 5) rfl rfl) (by omega) (by decide) wset_set ?_
    refine ev_ss DX7_forget 1 68 (pc' := 108) (lv' := [(3, .int _), (4, .int _), (0, .ref _), (1, .int _), (2, .int _)]) (st' := []) rfl ?_
    refine ev_goto DX7_forget 69 rfl (tgt := 30) (by decide) ?_
    refine ev_lvp (lv2 := [(0, .ref _), (1, .int _), (2, .int _), (3, .int _)]) [2, 3, 4, 0] rfl ?_
    exact ih (i + 1) _ _ _ (by omega) (nI_1 i) (wset_get hz1) (by rw [fgT_s]; exact hg3) (fun j b => (List.getElem?_set_ne (Ne.symm b)).trans (hO3 j b))
theorem add_sub_r {x y x0 : Int32} : x + y - (x0 + y) = x - x0 := by rw [Int32.add_comm x0 y, ← Int32.sub_sub, Int32.add_sub_cancel]
theorem add_sub_l {x y x0 : Int32} : y + x - (y + x0) = x - x0 := by rw [Int32.add_comm y x, Int32.add_comm y x0]; exact add_sub_r
theorem shy_d {p : PS} {a n : Nat} (ha : a < 2) : (sumN (fun t => (pW (pSend p a n) 0).1 t 13) 8 + sumN (fun t => (pW (pSend p a n) 1).1 t 13) 8) - (sumN (fun t => (pW p 0).1 t 13) 8 + sumN (fun t => (pW p 1).1 t 13) 8) = ifS p a n 1 := by
  rcases (show a = 0 ∨ a = 1 by omega) with rfl | rfl
  · rw [pW_send, show pW (pSend p 0 n) 1 = pW p 1 from pW_other (p := p) (by decide) (by decide) (by decide)]
    exact add_sub_r
  · rw [pW_send, show pW (pSend p 1 n) 0 = pW p 0 from pW_other (p := p) (by decide) (by decide) (by decide)]
    exact add_sub_l
set_option maxRecDepth 100000 in
set_option maxHeartbeats 4000000 in
theorem m_X7_sentOf_0 {E : gE} {ad : Nat → Nat} {ws : va_W} {p : PS} {sv : Nat → PS} {sc len : Nat} {ch : Nat → Int32} {tw : Int32} {hh : Int64} (hM : ZM E ad ws p sv sc len ch tw hh) {a n : Nat} (ha : a < 2) (hn : n < 2 ^ 31) (hI : WI (pW p a)) : C0 E YX7_sentOf 0 0 [.ref (ad 214), .int (nI a), .int (nI n), .int 0] ws (fun v9 w9 => v9 = some (.int (ifS p a n 0)) ∧ ZM E ad w9 p sv sc len ch tw hh ∧ MO ws w9) := by
  obtain ⟨ea, iw, z, rw, as, l, hs, hq, er, bf, ⟨h, hz, hr, has, hl⟩, ⟨hhs, hha, hbf, he⟩, ⟨hG, hLG⟩, hsv, hlen, hch⟩ := id hM
  refine c0V vX7_sentOf (Nat.le_of_ble_eq_true rfl) (lv0 := [(0, .ref (ad 214)), (1, .int (nI a)), (2, .int (nI n)), (3, .int 0)]) rfl ?_
  refine ev_ss DX7_sentOf 1 0 (pc' := 1) (lv' := [(0, .ref _), (1, .int _), (2, .int _), (3, .int 0)]) (st' := [.ref _]) rfl ?_
  refine ev_rV DX7_sentOf 1 (m_X7_putAside h hz has hl hha) vX7_putAside rfl qX7_175 rfl h rfl (hd_of rfl rfl rfl rfl) (fun v w1 hvw => ?_)
  obtain ⟨rfl, ⟨as1, has1, eas⟩, ⟨hq1, hha1, eha⟩, hO1⟩ := hvw
  have h1 := (hO1 214 (by decide) (by decide)).trans h
  have hz1 := (hO1 215 (by decide) (by decide)).trans hz
  have hl1 := (hO1 218 (by decide) (by decide)).trans hl
  have he1 := (hO1 222 (by decide) (by decide)).trans he
  refine ev_ss DX7_sentOf 1 2 (pc' := 5) (lv' := [(0, .ref _), (1, .int _), (2, .int _), (3, .int 0)]) (st' := [.ref _]) rfl ?_
  refine ev_cV DX7_sentOf 3 (m_X7_shyAll h1 hz1 hG) vX7_shyAll rfl qX7_162 rfl h1 rfl (hd_of rfl rfl rfl rfl) ?_
  refine ev_ss DX7_sentOf 4 4 (pc' := 13) (lv' := [(4, .int _), (0, .ref _), (1, .int _), (2, .int _), (3, .int 0)]) (st' := [.int _, .int _, .ref _]) rfl ?_
  refine ev_rV DX7_sentOf 8 (m_X7_sendAll h1 hz1 hl1 ha hn hG hLG hI) vX7_sendAll rfl qX7_137 rfl h1 rfl (hd_of rfl rfl rfl rfl) (fun v w2 hvw => ?_)
  obtain ⟨rfl, ⟨z2, l2, hz2, hl2, hG2, hLG2⟩, hO2⟩ := hvw
  have h2 := (hO2 214 (by decide) (by decide)).trans h1
  refine ev_ss DX7_sentOf 2 9 (pc' := 19) (lv' := [(5, .int _), (4, .int _), (0, .ref _), (1, .int _), (2, .int _), (3, .int 0)]) (st' := [.int 0]) rfl ?_
  refine ev_ifne DX7_sentOf 11 rfl (tgt := 27) (by decide) (fun h => h.elim (by decide)) (fun _ => ?_)
  refine ev_ss DX7_sentOf 1 12 (pc' := 24) (lv' := [(5, .int _), (4, .int _), (0, .ref _), (1, .int _), (2, .int _), (3, .int 0)]) (st' := [.int _]) rfl ?_
  refine ev_goto DX7_sentOf 13 rfl (tgt := 52) (by decide) ?_
  refine ev_ss DX7_sentOf 2 28 (pc' := 55) (lv' := [(6, .int _), (5, .int _), (4, .int _), (0, .ref _), (1, .int _), (2, .int _), (3, .int 0)]) (st' := [.ref _]) rfl ?_
  refine ev_rV DX7_sentOf 30 (m_X7_putBack h2 hz2 ((hO2 217 (by decide) (by decide)).trans has1) hl2 ((hO2 220 (by decide) (by decide)).trans hha1)) vX7_putBack rfl qX7_178 rfl h2 rfl (hd_of rfl rfl rfl rfl) (fun v w3 hvw => ?_)
  obtain ⟨rfl, ⟨zb, hzb, ez⟩, ⟨lb, hlb, el⟩, hO3⟩ := hvw
  refine ev_ss DX7_sentOf 1 31 (pc' := 60) (lv' := [(6, .int _), (5, .int _), (4, .int _), (0, .ref _), (1, .int _), (2, .int _), (3, .int 0)]) (st' := [.int _]) rfl ?_
  exact ev_iret DX7_sentOf 32 rfl rfl ⟨rfl, hM.st ⟨zb, hzb, hG.ag (fun j hj => (ez j hj).trans (eas j hj))⟩ ⟨lb, hlb, hLG.ag (fun j hj => (el j hj).trans (eha j hj))⟩ ⟨as1, (hO3 217 (by decide) (by decide)).trans ((hO2 217 (by decide) (by decide)).trans has1)⟩ ⟨hq1, (hO3 220 (by decide) (by decide)).trans ((hO2 220 (by decide) (by decide)).trans hha1)⟩ ⟨_, (hO3 222 (by decide) (by decide)).trans ((hO2 222 (by decide) (by decide)).trans he1)⟩ (fun j _ _ b1 b2 b3 b4 b5 => (hO3 j b1 b3).trans ((hO2 j b1 b3).trans (hO1 j b2 b4))), fun j hj => (hO3 j (by omega) (by omega)).trans ((hO2 j (by omega) (by omega)).trans (hO1 j (by omega) (by omega)))⟩
set_option maxRecDepth 100000 in
set_option maxHeartbeats 4000000 in
theorem m_X7_sentOf_1 {E : gE} {ad : Nat → Nat} {ws : va_W} {p : PS} {sv : Nat → PS} {sc len : Nat} {ch : Nat → Int32} {tw : Int32} {hh : Int64} (hM : ZM E ad ws p sv sc len ch tw hh) {a n : Nat} (ha : a < 2) (hn : n < 2 ^ 31) (hI : WI (pW p a)) : C0 E YX7_sentOf 0 0 [.ref (ad 214), .int (nI a), .int (nI n), .int 1] ws (fun v9 w9 => v9 = some (.int (ifS p a n 1)) ∧ ZM E ad w9 p sv sc len ch tw hh ∧ MO ws w9) := by
  obtain ⟨ea, iw, z, rw, as, l, hs, hq, er, bf, ⟨h, hz, hr, has, hl⟩, ⟨hhs, hha, hbf, he⟩, ⟨hG, hLG⟩, hsv, hlen, hch⟩ := id hM
  refine c0V vX7_sentOf (Nat.le_of_ble_eq_true rfl) (lv0 := [(0, .ref (ad 214)), (1, .int (nI a)), (2, .int (nI n)), (3, .int 1)]) rfl ?_
  refine ev_ss DX7_sentOf 1 0 (pc' := 1) (lv' := [(0, .ref _), (1, .int _), (2, .int _), (3, .int 1)]) (st' := [.ref _]) rfl ?_
  refine ev_rV DX7_sentOf 1 (m_X7_putAside h hz has hl hha) vX7_putAside rfl qX7_175 rfl h rfl (hd_of rfl rfl rfl rfl) (fun v w1 hvw => ?_)
  obtain ⟨rfl, ⟨as1, has1, eas⟩, ⟨hq1, hha1, eha⟩, hO1⟩ := hvw
  have h1 := (hO1 214 (by decide) (by decide)).trans h
  have hz1 := (hO1 215 (by decide) (by decide)).trans hz
  have hl1 := (hO1 218 (by decide) (by decide)).trans hl
  have he1 := (hO1 222 (by decide) (by decide)).trans he
  refine ev_ss DX7_sentOf 1 2 (pc' := 5) (lv' := [(0, .ref _), (1, .int _), (2, .int _), (3, .int 1)]) (st' := [.ref _]) rfl ?_
  refine ev_cV DX7_sentOf 3 (m_X7_shyAll h1 hz1 hG) vX7_shyAll rfl qX7_162 rfl h1 rfl (hd_of rfl rfl rfl rfl) ?_
  refine ev_ss DX7_sentOf 4 4 (pc' := 13) (lv' := [(4, .int _), (0, .ref _), (1, .int _), (2, .int _), (3, .int 1)]) (st' := [.int _, .int _, .ref _]) rfl ?_
  refine ev_rV DX7_sentOf 8 (m_X7_sendAll h1 hz1 hl1 ha hn hG hLG hI) vX7_sendAll rfl qX7_137 rfl h1 rfl (hd_of rfl rfl rfl rfl) (fun v w2 hvw => ?_)
  obtain ⟨rfl, ⟨z2, l2, hz2, hl2, hG2, hLG2⟩, hO2⟩ := hvw
  have h2 := (hO2 214 (by decide) (by decide)).trans h1
  refine ev_ss DX7_sentOf 2 9 (pc' := 19) (lv' := [(5, .int _), (4, .int _), (0, .ref _), (1, .int _), (2, .int _), (3, .int 1)]) (st' := [.int 1]) rfl ?_
  refine ev_ifne DX7_sentOf 11 rfl (tgt := 27) (by decide) (fun _ => ?_) (fun h => absurd h (by decide))
  refine ev_ss DX7_sentOf 2 14 (pc' := 29) (lv' := [(5, .int _), (4, .int _), (0, .ref _), (1, .int _), (2, .int _), (3, .int 1)]) (st' := [.int 1, .int 1]) rfl ?_
  refine ev_icne DX7_sentOf 16 rfl (tgt := 42) (by decide) (fun h => h.elim (by decide)) (fun _ => ?_)
  refine ev_ss DX7_sentOf 1 17 (pc' := 33) (lv' := [(5, .int _), (4, .int _), (0, .ref _), (1, .int _), (2, .int _), (3, .int 1)]) (st' := [.ref _]) rfl ?_
  refine ev_cV DX7_sentOf 18 (m_X7_shyAll h2 hz2 hG2) vX7_shyAll rfl qX7_162 rfl h2 rfl (hd_of rfl rfl rfl rfl) ?_
  refine ev_ss DX7_sentOf 2 19 (pc' := 39) (lv' := [(5, .int _), (4, .int _), (0, .ref _), (1, .int _), (2, .int _), (3, .int 1)]) (st' := [.int _]) rfl ?_
  refine ev_goto DX7_sentOf 21 rfl (tgt := 52) (by decide) ?_
  refine ev_ss DX7_sentOf 2 28 (pc' := 55) (lv' := [(6, .int _), (5, .int _), (4, .int _), (0, .ref _), (1, .int _), (2, .int _), (3, .int 1)]) (st' := [.ref _]) rfl ?_
  refine ev_rV DX7_sentOf 30 (m_X7_putBack h2 hz2 ((hO2 217 (by decide) (by decide)).trans has1) hl2 ((hO2 220 (by decide) (by decide)).trans hha1)) vX7_putBack rfl qX7_178 rfl h2 rfl (hd_of rfl rfl rfl rfl) (fun v w3 hvw => ?_)
  obtain ⟨rfl, ⟨zb, hzb, ez⟩, ⟨lb, hlb, el⟩, hO3⟩ := hvw
  refine ev_ss DX7_sentOf 1 31 (pc' := 60) (lv' := [(6, .int _), (5, .int _), (4, .int _), (0, .ref _), (1, .int _), (2, .int _), (3, .int 1)]) (st' := [.int _]) rfl ?_
  exact ev_iret DX7_sentOf 32 rfl rfl ⟨congrArg (fun z => some (Value.int z)) (shy_d ha), hM.st ⟨zb, hzb, hG.ag (fun j hj => (ez j hj).trans (eas j hj))⟩ ⟨lb, hlb, hLG.ag (fun j hj => (el j hj).trans (eha j hj))⟩ ⟨as1, (hO3 217 (by decide) (by decide)).trans ((hO2 217 (by decide) (by decide)).trans has1)⟩ ⟨hq1, (hO3 220 (by decide) (by decide)).trans ((hO2 220 (by decide) (by decide)).trans hha1)⟩ ⟨_, (hO3 222 (by decide) (by decide)).trans ((hO2 222 (by decide) (by decide)).trans he1)⟩ (fun j _ _ b1 b2 b3 b4 b5 => (hO3 j b1 b3).trans ((hO2 j b1 b3).trans (hO1 j b2 b4))), fun j hj => (hO3 j (by omega) (by omega)).trans ((hO2 j (by omega) (by omega)).trans (hO1 j (by omega) (by omega)))⟩
set_option maxRecDepth 100000 in
set_option maxHeartbeats 4000000 in
theorem m_X7_sentOf_2 {E : gE} {ad : Nat → Nat} {ws : va_W} {p : PS} {sv : Nat → PS} {sc len : Nat} {ch : Nat → Int32} {tw : Int32} {hh : Int64} (hM : ZM E ad ws p sv sc len ch tw hh) {a n : Nat} (ha : a < 2) (hn : n < 2 ^ 31) (hI : WI (pW p a)) : C0 E YX7_sentOf 0 0 [.ref (ad 214), .int (nI a), .int (nI n), .int 2] ws (fun v9 w9 => v9 = some (.int (ifS p a n 2)) ∧ ZM E ad w9 p sv sc len ch tw hh ∧ MO ws w9) := by
  obtain ⟨ea, iw, z, rw, as, l, hs, hq, er, bf, ⟨h, hz, hr, has, hl⟩, ⟨hhs, hha, hbf, he⟩, ⟨hG, hLG⟩, hsv, hlen, hch⟩ := id hM
  refine c0V vX7_sentOf (Nat.le_of_ble_eq_true rfl) (lv0 := [(0, .ref (ad 214)), (1, .int (nI a)), (2, .int (nI n)), (3, .int 2)]) rfl ?_
  refine ev_ss DX7_sentOf 1 0 (pc' := 1) (lv' := [(0, .ref _), (1, .int _), (2, .int _), (3, .int 2)]) (st' := [.ref _]) rfl ?_
  refine ev_rV DX7_sentOf 1 (m_X7_putAside h hz has hl hha) vX7_putAside rfl qX7_175 rfl h rfl (hd_of rfl rfl rfl rfl) (fun v w1 hvw => ?_)
  obtain ⟨rfl, ⟨as1, has1, eas⟩, ⟨hq1, hha1, eha⟩, hO1⟩ := hvw
  have h1 := (hO1 214 (by decide) (by decide)).trans h
  have hz1 := (hO1 215 (by decide) (by decide)).trans hz
  have hl1 := (hO1 218 (by decide) (by decide)).trans hl
  have he1 := (hO1 222 (by decide) (by decide)).trans he
  refine ev_ss DX7_sentOf 1 2 (pc' := 5) (lv' := [(0, .ref _), (1, .int _), (2, .int _), (3, .int 2)]) (st' := [.ref _]) rfl ?_
  refine ev_cV DX7_sentOf 3 (m_X7_shyAll h1 hz1 hG) vX7_shyAll rfl qX7_162 rfl h1 rfl (hd_of rfl rfl rfl rfl) ?_
  refine ev_ss DX7_sentOf 4 4 (pc' := 13) (lv' := [(4, .int _), (0, .ref _), (1, .int _), (2, .int _), (3, .int 2)]) (st' := [.int _, .int _, .ref _]) rfl ?_
  refine ev_rV DX7_sentOf 8 (m_X7_sendAll h1 hz1 hl1 ha hn hG hLG hI) vX7_sendAll rfl qX7_137 rfl h1 rfl (hd_of rfl rfl rfl rfl) (fun v w2 hvw => ?_)
  obtain ⟨rfl, ⟨z2, l2, hz2, hl2, hG2, hLG2⟩, hO2⟩ := hvw
  have h2 := (hO2 214 (by decide) (by decide)).trans h1
  refine ev_ss DX7_sentOf 2 9 (pc' := 19) (lv' := [(5, .int _), (4, .int _), (0, .ref _), (1, .int _), (2, .int _), (3, .int 2)]) (st' := [.int 2]) rfl ?_
  refine ev_ifne DX7_sentOf 11 rfl (tgt := 27) (by decide) (fun _ => ?_) (fun h => absurd h (by decide))
  refine ev_ss DX7_sentOf 2 14 (pc' := 29) (lv' := [(5, .int _), (4, .int _), (0, .ref _), (1, .int _), (2, .int _), (3, .int 2)]) (st' := [.int 1, .int 2]) rfl ?_
  refine ev_icne DX7_sentOf 16 rfl (tgt := 42) (by decide) (fun _ => ?_) (fun h => absurd h (by decide))
  refine ev_ss DX7_sentOf 1 22 (pc' := 43) (lv' := [(5, .int _), (4, .int _), (0, .ref _), (1, .int _), (2, .int _), (3, .int 2)]) (st' := [.ref _]) rfl ?_
  refine ev_get DX7_sentOf 23 GX7 rfl (k0 := 0) (Nat.le_of_ble_eq_true rfl) fX7_7 h2 rfl ?_
  refine ev_ss DX7_sentOf 3 24 (pc' := 51) (lv' := [(5, .int _), (4, .int _), (0, .ref _), (1, .int _), (2, .int _), (3, .int 2)]) (st' := [.int _, .ref _]) rfl ?_
  refine ev_ialdv DX7_sentOf 27 (k0 := (800 + a)) rfl hz2 (nx_add (a := 800) (b := a) rfl rfl) (by omega) (by decide) ((hG2.2.2.2.1 a ha).2.1) ?_
  refine ev_ss DX7_sentOf 2 28 (pc' := 55) (lv' := [(6, .int _), (5, .int _), (4, .int _), (0, .ref _), (1, .int _), (2, .int _), (3, .int 2)]) (st' := [.ref _]) rfl ?_
  refine ev_rV DX7_sentOf 30 (m_X7_putBack h2 hz2 ((hO2 217 (by decide) (by decide)).trans has1) hl2 ((hO2 220 (by decide) (by decide)).trans hha1)) vX7_putBack rfl qX7_178 rfl h2 rfl (hd_of rfl rfl rfl rfl) (fun v w3 hvw => ?_)
  obtain ⟨rfl, ⟨zb, hzb, ez⟩, ⟨lb, hlb, el⟩, hO3⟩ := hvw
  refine ev_ss DX7_sentOf 1 31 (pc' := 60) (lv' := [(6, .int _), (5, .int _), (4, .int _), (0, .ref _), (1, .int _), (2, .int _), (3, .int 2)]) (st' := [.int _]) rfl ?_
  exact ev_iret DX7_sentOf 32 rfl rfl ⟨(by rw [pW_send]; rfl), hM.st ⟨zb, hzb, hG.ag (fun j hj => (ez j hj).trans (eas j hj))⟩ ⟨lb, hlb, hLG.ag (fun j hj => (el j hj).trans (eha j hj))⟩ ⟨as1, (hO3 217 (by decide) (by decide)).trans ((hO2 217 (by decide) (by decide)).trans has1)⟩ ⟨hq1, (hO3 220 (by decide) (by decide)).trans ((hO2 220 (by decide) (by decide)).trans hha1)⟩ ⟨_, (hO3 222 (by decide) (by decide)).trans ((hO2 222 (by decide) (by decide)).trans he1)⟩ (fun j _ _ b1 b2 b3 b4 b5 => (hO3 j b1 b3).trans ((hO2 j b1 b3).trans (hO1 j b2 b4))), fun j hj => (hO3 j (by omega) (by omega)).trans ((hO2 j (by omega) (by omega)).trans (hO1 j (by omega) (by omega)))⟩
set_option maxRecDepth 100000 in
set_option maxHeartbeats 4000000 in
theorem m_X7_sentOf {E : gE} {ad : Nat → Nat} {ws : va_W} {p : PS} {sv : Nat → PS} {sc len : Nat} {ch : Nat → Int32} {tw : Int32} {hh : Int64} (hM : ZM E ad ws p sv sc len ch tw hh) {a n j : Nat} (ha : a < 2) (hn : n < 2 ^ 31) (hI : WI (pW p a)) (hj : j < 3) : C0 E YX7_sentOf 0 0 [.ref (ad 214), .int (nI a), .int (nI n), .int (nI j)] ws (fun v9 w9 => v9 = some (.int (ifS p a n j)) ∧ ZM E ad w9 p sv sc len ch tw hh ∧ MO ws w9) := by
  rcases (show j = 0 ∨ j = 1 ∨ j = 2 by omega) with rfl | rfl | rfl
  · exact m_X7_sentOf_0 hM ha hn hI
  · exact m_X7_sentOf_1 hM ha hn hI
  · exact m_X7_sentOf_2 hM ha hn hI
set_option maxRecDepth 100000 in
set_option maxHeartbeats 4000000 in
theorem m_X7_learnedOf {E : gE} {ad : Nat → Nat} {ws : va_W} {p : PS} {sv : Nat → PS} {sc len : Nat} {ch : Nat → Int32} {tw : Int32} {hh : Int64} (hM : ZM E ad ws p sv sc len ch tw hh) {a n : Nat} (ha : a < 2) (hn : n < 128) (hN : LN p a) : C0 E YX7_learnedOf 0 0 [.ref (ad 214), .int (nI a), .int (nI n)] ws (fun v9 w9 => v9 = some (.int (ifL p a n)) ∧ ZM E ad w9 p sv sc len ch tw hh ∧ MO ws w9) := by
  obtain ⟨ea, iw, z, rw, as, l, hs, hq, er, bf, ⟨h, hz, hr, has, hl⟩, ⟨hhs, hha, hbf, he⟩, ⟨hG, hLG⟩, hsv, hlen, hch⟩ := id hM
  refine c0V vX7_learnedOf (Nat.le_of_ble_eq_true rfl) (lv0 := [(0, .ref (ad 214)), (1, .int (nI a)), (2, .int (nI n))]) rfl ?_
  refine ev_ss DX7_learnedOf 1 0 (pc' := 1) (lv' := [(0, .ref _), (1, .int _), (2, .int _)]) (st' := [.ref _]) rfl ?_
  refine ev_rV DX7_learnedOf 1 (m_X7_putAside h hz has hl hha) vX7_putAside rfl qX7_175 rfl h rfl (hd_of rfl rfl rfl rfl) (fun v w1 hvw => ?_)
  obtain ⟨rfl, ⟨as1, has1, eas⟩, ⟨hq1, hha1, eha⟩, hO1⟩ := hvw
  have h1 := (hO1 214 (by decide) (by decide)).trans h
  have hz1 := (hO1 215 (by decide) (by decide)).trans hz
  have hl1 := (hO1 218 (by decide) (by decide)).trans hl
  have he1 := (hO1 222 (by decide) (by decide)).trans he
  refine ev_ss DX7_learnedOf 3 2 (pc' := 7) (lv' := [(0, .ref _), (1, .int _), (2, .int _)]) (st' := [.int _, .int _, .ref _]) rfl ?_
  refine ev_rV DX7_learnedOf 5 (m_X7_learnAll h1 hz1 he1 ha hn hG hN) vX7_learnAll rfl qX7_114 rfl h1 rfl (hd_of rfl rfl rfl rfl) (fun v w2 hvw => ?_)
  obtain ⟨rfl, ⟨z2, hz2, hG2⟩, ⟨er2, he2⟩, hO2⟩ := hvw
  refine ev_ss DX7_learnedOf 2 6 (pc' := 12) (lv' := [(3, .int _), (0, .ref _), (1, .int _), (2, .int _)]) (st' := [.ref _]) rfl ?_
  refine ev_rV DX7_learnedOf 8 (m_X7_putBack ((hO2 214 (by decide) (by decide)).trans h1) hz2 ((hO2 217 (by decide) (by decide)).trans has1) ((hO2 218 (by decide) (by decide)).trans hl1) ((hO2 220 (by decide) (by decide)).trans hha1)) vX7_putBack rfl qX7_178 rfl ((hO2 214 (by decide) (by decide)).trans h1) rfl (hd_of rfl rfl rfl rfl) (fun v w3 hvw => ?_)
  obtain ⟨rfl, ⟨zb, hzb, ez⟩, ⟨lb, hlb, el⟩, hO3⟩ := hvw
  refine ev_ss DX7_learnedOf 1 9 (pc' := 16) (lv' := [(3, .int _), (0, .ref _), (1, .int _), (2, .int _)]) (st' := [.int _]) rfl ?_
  exact ev_iret DX7_learnedOf 10 rfl rfl ⟨(by unfold ifL; rw [show pW (pLearn p a n) a = tlW (p.2.2.1 0) (p.2.2.1 1) p.1 (pW p a) n from pW_set (p := p)]), hM.st ⟨zb, hzb, hG.ag (fun j hj => (ez j hj).trans (eas j hj))⟩ ⟨lb, hlb, hLG.ag (fun j hj => (el j hj).trans (eha j hj))⟩ ⟨as1, (hO3 217 (by decide) (by decide)).trans ((hO2 217 (by decide) (by decide)).trans has1)⟩ ⟨hq1, (hO3 220 (by decide) (by decide)).trans ((hO2 220 (by decide) (by decide)).trans hha1)⟩ ⟨_, (hO3 222 (by decide) (by decide)).trans he2⟩ (fun j _ _ b1 b2 b3 b4 b5 => (hO3 j b1 b3).trans ((hO2 j b1 b5).trans (hO1 j b2 b4))), fun j hj => (hO3 j (by omega) (by omega)).trans ((hO2 j (by omega) (by omega)).trans (hO1 j (by omega) (by omega)))⟩
