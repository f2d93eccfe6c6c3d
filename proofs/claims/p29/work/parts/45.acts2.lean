set_option maxRecDepth 100000 in
set_option maxHeartbeats 4000000 in
theorem m_L_set {E : gE} {ad : Nat → Nat} {ws : va_W} {x y : Int32} {B m : Nat} (hWD : WD E ad ws B m) (hm1 : m ≤ 1) : C0 E YL_set 0 0 [.ref (ad 0), .int x, .int y, .ref (ad 221)] ws (fun v w => v = some (.int 1) ∧ WD E ad w (B + 30) m) := by
  obtain ⟨p, sv, sc, r, len, ch, ze, hM, hL, hG, hs, hb, hsc, hm⟩ := id hWD
  obtain ⟨zq, zu, za, zn, zd, zw, zc, zt, zh, hC, hT, hW, hS⟩ := id hL
  obtain ⟨hzq, hzu, hza, hzn, hzd, hzw, hzc, hzt, hze, hzh⟩ := id hC
  refine c0S vL_set (Nat.le_of_ble_eq_true rfl) (lv0 := [(0, .ref (ad 0)), (1, .int x), (2, .int y), (3, .ref (ad 221))]) rfl ?_
  refine ev_ss DL_set 4 0 (pc' := 4) (lv' := [(0, .ref _), (1, .int _), (2, .int _), (3, .ref _)]) (st' := [.int 3, .int _]) rfl ?_
  refine ev_rS DL_set 4 (m_L_atE (n := 3) rfl (by decide) (by decide)) vL_at rfl qL_96 rfl (hd_of rfl rfl rfl rfl) (fun v_ w_ h_ => ?_)
  obtain ⟨⟨k, hk, rfl⟩, rfl⟩ := h_
  refine ev_ss DL_set 2 5 (pc' := 11) (lv' := [(4, .int _), (0, .ref _), (1, .int _), (2, .int _), (3, .ref _)]) (st' := [.int _]) rfl ?_
  refine ev_ifne DL_set 7 rfl (tgt := 25) (by decide) (fun c_1 => ?_) (fun c_1 => ?_)
  · refine ev_ss DL_set 2 14 (pc' := 28) (lv' := [(4, .int _), (0, .ref _), (1, .int _), (2, .int _), (3, .ref _)]) (st' := [.int 1, .int _]) rfl ?_
    refine ev_icne DL_set 16 rfl (tgt := 42) (by decide) (fun c_2 => ?_) (fun c_2 => ?_)
    · have hkk : k = 2 := by
        have e0 : ¬ k = 0 := fun e => c_1 (by rw [e]; rfl)
        have e1 : ¬ k = 1 := fun e => c_2 (by rw [e]; rfl)
        omega
      refine ev_ss DL_set 6 23 (pc' := 49) (lv' := [(4, .int _), (0, .ref _), (1, .int _), (2, .int _), (3, .ref _)]) (st' := [.int 2, .int _, .int _, .int 1]) rfl ?_
      refine ev_rS DL_set 29 (m_L_atE (n := 2) rfl (by decide) (by decide)) vL_at rfl qL_96 rfl (hd_of rfl rfl rfl rfl) (fun v_ w_ h_ => ?_)
      obtain ⟨⟨k2, hk2, rfl⟩, rfl⟩ := h_
      refine ev_ifne DL_set 30 rfl (tgt := 59) (by decide) (fun c_10 => ?_) (fun c_10 => ?_)
      · refine ev_ss DL_set 1 33 (pc' := 61) (lv' := [(4, .int _), (0, .ref _), (1, .int _), (2, .int _), (3, .ref _)]) (st' := [.int 50, .int _, .int 1]) rfl ?_
        refine ev_rS DL_set 34 (m_L_atE (n := 50) rfl (by decide) (by decide)) vL_at rfl qL_96 rfl (hd_of rfl rfl rfl rfl) (fun v_ w_ h_ => ?_)
        obtain ⟨⟨r, hr, rfl⟩, rfl⟩ := h_
        refine ev_ss DL_set 1 35 (pc' := 65) (lv' := [(4, .int _), (0, .ref _), (1, .int _), (2, .int _), (3, .ref _)]) (st' := [.int _]) rfl ?_
        refine ev_topv (nx_add (a := 1) (b := r) rfl rfl) ?_
        refine ev_ss DL_set 3 36 (pc' := 70) (lv' := [(5, .int _), (4, .int _), (0, .ref _), (1, .int _), (2, .int _), (3, .ref _)]) (st' := [.int _, .ref _]) rfl ?_
        refine ev_ialdv DL_set 39 (k0 := k) rfl hzt rfl (by omega) (by decide) ((hS _ (by omega))) ?_
        refine ev_ss DL_set 4 40 (pc' := 78) (lv' := [(6, .int _), (5, .int _), (4, .int _), (0, .ref _), (1, .int _), (2, .int _), (3, .ref _)]) (st' := [.int _, .int _, .ref _]) rfl ?_
        refine ev_iastv DL_set 44 (k0 := k) rfl hzt rfl (by omega) (by decide) rfl ?_
        refine ev_ss DL_set 3 45 (pc' := 84) (lv' := [(6, .int _), (5, .int _), (4, .int _), (0, .ref _), (1, .int _), (2, .int _), (3, .ref _)]) (st' := [.int _, .int _, .ref _]) rfl ?_
        refine ev_rV DL_set 48 (m_X6_set (hM.mo (MO.rf.st (by decide) (by decide))) (j := k) (by omega) hsc (by rw [hkk]; exact se_g2 (by omega))) vX6_set rfl qL_118 rfl (hM.mo (MO.rf.st (by decide) (by decide))).1 rfl (hd_of rfl rfl rfl rfl) (fun v w9 hvw => ?_)
        obtain ⟨rfl, ⟨r2, hM2⟩, hFO⟩ := hvw
        have hC9 := LC.of (show LC E ad _ _ _ _ _ _ _ _ _ _ _ from ⟨(wset_n hzq (by decide)), (wset_n hzu (by decide)), (wset_n hza (by decide)), (wset_n hzn (by decide)), (wset_n hzd (by decide)), (wset_n hzw (by decide)), (wset_n hzc (by decide)), (wset_get hzt), (wset_n hze (by decide)), (wset_n hzh (by decide))⟩) (fun j a b => hFO j a)
        have hL2 : LM E ad w9 (pSett p k (nI (1 + r))) ze := ⟨_, _, _, _, _, _, _, _, _, hC9, (hT.pw (fun _ _ => rfl)), (hW.to (fun _ _ => rfl) (fun _ _ => rfl) rfl hW.2.2.2), hS.set⟩
        have hWD2 : WD E ad w9 (B + 30) 1 := WD.nw (p := p) hM2 hL2 (hG.sett (by omega) (by rw [hkk]; exact se_g2 (by omega))) hs hb rfl (by omega) hsc
        obtain ⟨hyq, hyu, hya, hyn, hyd, hyw, hyc, hyt, hye, hyh⟩ := id hC9
        refine ev_ss DL_set 1 49 (pc' := 89) (lv' := [(6, .int _), (5, .int _), (4, .int _), (0, .ref _), (1, .int _), (2, .int _), (3, .ref _)]) (st' := [.int _, .int _]) rfl ?_
        refine ev_icne DL_set 50 rfl (tgt := 96) (by decide) (fun h => h.elim rfl) (fun _ => ?_)
        refine ev_ss DL_set 1 51 (pc' := 93) (lv' := [(6, .int _), (5, .int _), (4, .int _), (0, .ref _), (1, .int _), (2, .int _), (3, .ref _)]) (st' := [.int 1]) rfl ?_
        refine ev_goto DL_set 52 rfl (tgt := 97) (by decide) ?_
        exact ev_zret DL_set 54 rfl rfl rfl ⟨rfl, hWD2.le (Nat.le_refl _) hm1⟩
      · refine ev_ss DL_set 1 31 (pc' := 56) (lv' := [(4, .int _), (0, .ref _), (1, .int _), (2, .int _), (3, .ref _)]) (st' := [.int 3, .int _, .int 1]) rfl ?_
        refine ev_goto DL_set 32 rfl (tgt := 61) (by decide) ?_
        refine ev_rS DL_set 34 (m_L_atE (n := 3) rfl (by decide) (by decide)) vL_at rfl qL_96 rfl (hd_of rfl rfl rfl rfl) (fun v_ w_ h_ => ?_)
        obtain ⟨⟨r, hr, rfl⟩, rfl⟩ := h_
        refine ev_ss DL_set 1 35 (pc' := 65) (lv' := [(4, .int _), (0, .ref _), (1, .int _), (2, .int _), (3, .ref _)]) (st' := [.int _]) rfl ?_
        refine ev_topv (nx_add (a := 1) (b := r) rfl rfl) ?_
        refine ev_ss DL_set 3 36 (pc' := 70) (lv' := [(5, .int _), (4, .int _), (0, .ref _), (1, .int _), (2, .int _), (3, .ref _)]) (st' := [.int _, .ref _]) rfl ?_
        refine ev_ialdv DL_set 39 (k0 := k) rfl hzt rfl (by omega) (by decide) ((hS _ (by omega))) ?_
        refine ev_ss DL_set 4 40 (pc' := 78) (lv' := [(6, .int _), (5, .int _), (4, .int _), (0, .ref _), (1, .int _), (2, .int _), (3, .ref _)]) (st' := [.int _, .int _, .ref _]) rfl ?_
        refine ev_iastv DL_set 44 (k0 := k) rfl hzt rfl (by omega) (by decide) rfl ?_
        refine ev_ss DL_set 3 45 (pc' := 84) (lv' := [(6, .int _), (5, .int _), (4, .int _), (0, .ref _), (1, .int _), (2, .int _), (3, .ref _)]) (st' := [.int _, .int _, .ref _]) rfl ?_
        refine ev_rV DL_set 48 (m_X6_set (hM.mo (MO.rf.st (by decide) (by decide))) (j := k) (by omega) hsc (by rw [hkk]; exact se_g2 (by omega))) vX6_set rfl qL_118 rfl (hM.mo (MO.rf.st (by decide) (by decide))).1 rfl (hd_of rfl rfl rfl rfl) (fun v w9 hvw => ?_)
        obtain ⟨rfl, ⟨r2, hM2⟩, hFO⟩ := hvw
        have hC9 := LC.of (show LC E ad _ _ _ _ _ _ _ _ _ _ _ from ⟨(wset_n hzq (by decide)), (wset_n hzu (by decide)), (wset_n hza (by decide)), (wset_n hzn (by decide)), (wset_n hzd (by decide)), (wset_n hzw (by decide)), (wset_n hzc (by decide)), (wset_get hzt), (wset_n hze (by decide)), (wset_n hzh (by decide))⟩) (fun j a b => hFO j a)
        have hL2 : LM E ad w9 (pSett p k (nI (1 + r))) ze := ⟨_, _, _, _, _, _, _, _, _, hC9, (hT.pw (fun _ _ => rfl)), (hW.to (fun _ _ => rfl) (fun _ _ => rfl) rfl hW.2.2.2), hS.set⟩
        have hWD2 : WD E ad w9 (B + 30) 1 := WD.nw (p := p) hM2 hL2 (hG.sett (by omega) (by rw [hkk]; exact se_g2 (by omega))) hs hb rfl (by omega) hsc
        obtain ⟨hyq, hyu, hya, hyn, hyd, hyw, hyc, hyt, hye, hyh⟩ := id hC9
        refine ev_ss DL_set 1 49 (pc' := 89) (lv' := [(6, .int _), (5, .int _), (4, .int _), (0, .ref _), (1, .int _), (2, .int _), (3, .ref _)]) (st' := [.int _, .int _]) rfl ?_
        refine ev_icne DL_set 50 rfl (tgt := 96) (by decide) (fun h => h.elim rfl) (fun _ => ?_)
        refine ev_ss DL_set 1 51 (pc' := 93) (lv' := [(6, .int _), (5, .int _), (4, .int _), (0, .ref _), (1, .int _), (2, .int _), (3, .ref _)]) (st' := [.int 1]) rfl ?_
        refine ev_goto DL_set 52 rfl (tgt := 97) (by decide) ?_
        exact ev_zret DL_set 54 rfl rfl rfl ⟨rfl, hWD2.le (Nat.le_refl _) hm1⟩
    · have hk1 : k = 1 := (nI_eq (by omega) (by decide)).mp c_2
      refine ev_ss DL_set 3 17 (pc' := 35) (lv' := [(4, .int _), (0, .ref _), (1, .int _), (2, .int _), (3, .ref _)]) (st' := [.int 37, .int _, .int 4]) rfl ?_
      refine ev_rS DL_set 20 (m_L_atE (n := 37) rfl (by decide) (by decide)) vL_at rfl qL_96 rfl (hd_of rfl rfl rfl rfl) (fun v_ w_ h_ => ?_)
      obtain ⟨⟨r, hr, rfl⟩, rfl⟩ := h_
      refine ev_ss DL_set 1 21 (pc' := 39) (lv' := [(4, .int _), (0, .ref _), (1, .int _), (2, .int _), (3, .ref _)]) (st' := [.int _]) rfl ?_
      refine ev_goto DL_set 22 rfl (tgt := 65) (by decide) ?_
      refine ev_topv (nx_add (a := 4) (b := r) rfl rfl) ?_
      refine ev_ss DL_set 3 36 (pc' := 70) (lv' := [(5, .int _), (4, .int _), (0, .ref _), (1, .int _), (2, .int _), (3, .ref _)]) (st' := [.int _, .ref _]) rfl ?_
      refine ev_ialdv DL_set 39 (k0 := k) rfl hzt rfl (by omega) (by decide) ((hS _ (by omega))) ?_
      refine ev_ss DL_set 4 40 (pc' := 78) (lv' := [(6, .int _), (5, .int _), (4, .int _), (0, .ref _), (1, .int _), (2, .int _), (3, .ref _)]) (st' := [.int _, .int _, .ref _]) rfl ?_
      refine ev_iastv DL_set 44 (k0 := k) rfl hzt rfl (by omega) (by decide) rfl ?_
      refine ev_ss DL_set 3 45 (pc' := 84) (lv' := [(6, .int _), (5, .int _), (4, .int _), (0, .ref _), (1, .int _), (2, .int _), (3, .ref _)]) (st' := [.int _, .int _, .ref _]) rfl ?_
      refine ev_rV DL_set 48 (m_X6_set (hM.mo (MO.rf.st (by decide) (by decide))) (j := k) (by omega) hsc (by rw [hk1]; exact se_g1 hr)) vX6_set rfl qL_118 rfl (hM.mo (MO.rf.st (by decide) (by decide))).1 rfl (hd_of rfl rfl rfl rfl) (fun v w9 hvw => ?_)
      obtain ⟨rfl, ⟨r2, hM2⟩, hFO⟩ := hvw
      have hC9 := LC.of (show LC E ad _ _ _ _ _ _ _ _ _ _ _ from ⟨(wset_n hzq (by decide)), (wset_n hzu (by decide)), (wset_n hza (by decide)), (wset_n hzn (by decide)), (wset_n hzd (by decide)), (wset_n hzw (by decide)), (wset_n hzc (by decide)), (wset_get hzt), (wset_n hze (by decide)), (wset_n hzh (by decide))⟩) (fun j a b => hFO j a)
      have hL2 : LM E ad w9 (pSett p k (nI (4 + r))) ze := ⟨_, _, _, _, _, _, _, _, _, hC9, (hT.pw (fun _ _ => rfl)), (hW.to (fun _ _ => rfl) (fun _ _ => rfl) rfl hW.2.2.2), hS.set⟩
      have hWD2 : WD E ad w9 (B + 30) 1 := WD.nw (p := p) hM2 hL2 (hG.sett (by omega) (by rw [hk1]; exact se_g1 hr)) hs hb rfl (by omega) hsc
      obtain ⟨hyq, hyu, hya, hyn, hyd, hyw, hyc, hyt, hye, hyh⟩ := id hC9
      refine ev_ss DL_set 1 49 (pc' := 89) (lv' := [(6, .int _), (5, .int _), (4, .int _), (0, .ref _), (1, .int _), (2, .int _), (3, .ref _)]) (st' := [.int _, .int _]) rfl ?_
      refine ev_icne DL_set 50 rfl (tgt := 96) (by decide) (fun h => h.elim rfl) (fun _ => ?_)
      refine ev_ss DL_set 1 51 (pc' := 93) (lv' := [(6, .int _), (5, .int _), (4, .int _), (0, .ref _), (1, .int _), (2, .int _), (3, .ref _)]) (st' := [.int 1]) rfl ?_
      refine ev_goto DL_set 52 rfl (tgt := 97) (by decide) ?_
      exact ev_zret DL_set 54 rfl rfl rfl ⟨rfl, hWD2.le (Nat.le_refl _) hm1⟩
  · have hk0 : k = 0 := (nI_eq (by omega) (by decide)).mp c_1
    refine ev_ss DL_set 3 8 (pc' := 18) (lv' := [(4, .int _), (0, .ref _), (1, .int _), (2, .int _), (3, .ref _)]) (st' := [.int 64, .int _, .int 1]) rfl ?_
    refine ev_rS DL_set 11 (m_L_atE (n := 64) rfl (by decide) (by decide)) vL_at rfl qL_96 rfl (hd_of rfl rfl rfl rfl) (fun v_ w_ h_ => ?_)
    obtain ⟨⟨r, hr, rfl⟩, rfl⟩ := h_
    refine ev_ss DL_set 1 12 (pc' := 22) (lv' := [(4, .int _), (0, .ref _), (1, .int _), (2, .int _), (3, .ref _)]) (st' := [.int _]) rfl ?_
    refine ev_goto DL_set 13 rfl (tgt := 65) (by decide) ?_
    refine ev_topv (nx_add (a := 1) (b := r) rfl rfl) ?_
    refine ev_ss DL_set 3 36 (pc' := 70) (lv' := [(5, .int _), (4, .int _), (0, .ref _), (1, .int _), (2, .int _), (3, .ref _)]) (st' := [.int _, .ref _]) rfl ?_
    refine ev_ialdv DL_set 39 (k0 := k) rfl hzt rfl (by omega) (by decide) ((hS _ (by omega))) ?_
    refine ev_ss DL_set 4 40 (pc' := 78) (lv' := [(6, .int _), (5, .int _), (4, .int _), (0, .ref _), (1, .int _), (2, .int _), (3, .ref _)]) (st' := [.int _, .int _, .ref _]) rfl ?_
    refine ev_iastv DL_set 44 (k0 := k) rfl hzt rfl (by omega) (by decide) rfl ?_
    refine ev_ss DL_set 3 45 (pc' := 84) (lv' := [(6, .int _), (5, .int _), (4, .int _), (0, .ref _), (1, .int _), (2, .int _), (3, .ref _)]) (st' := [.int _, .int _, .ref _]) rfl ?_
    refine ev_rV DL_set 48 (m_X6_set (hM.mo (MO.rf.st (by decide) (by decide))) (j := k) (by omega) hsc (by rw [hk0]; exact se_g0 hr)) vX6_set rfl qL_118 rfl (hM.mo (MO.rf.st (by decide) (by decide))).1 rfl (hd_of rfl rfl rfl rfl) (fun v w9 hvw => ?_)
    obtain ⟨rfl, ⟨r2, hM2⟩, hFO⟩ := hvw
    have hC9 := LC.of (show LC E ad _ _ _ _ _ _ _ _ _ _ _ from ⟨(wset_n hzq (by decide)), (wset_n hzu (by decide)), (wset_n hza (by decide)), (wset_n hzn (by decide)), (wset_n hzd (by decide)), (wset_n hzw (by decide)), (wset_n hzc (by decide)), (wset_get hzt), (wset_n hze (by decide)), (wset_n hzh (by decide))⟩) (fun j a b => hFO j a)
    have hL2 : LM E ad w9 (pSett p k (nI (1 + r))) ze := ⟨_, _, _, _, _, _, _, _, _, hC9, (hT.pw (fun _ _ => rfl)), (hW.to (fun _ _ => rfl) (fun _ _ => rfl) rfl hW.2.2.2), hS.set⟩
    have hWD2 : WD E ad w9 (B + 30) 1 := WD.nw (p := p) hM2 hL2 (hG.sett (by omega) (by rw [hk0]; exact se_g0 hr)) hs hb rfl (by omega) hsc
    obtain ⟨hyq, hyu, hya, hyn, hyd, hyw, hyc, hyt, hye, hyh⟩ := id hC9
    refine ev_ss DL_set 1 49 (pc' := 89) (lv' := [(6, .int _), (5, .int _), (4, .int _), (0, .ref _), (1, .int _), (2, .int _), (3, .ref _)]) (st' := [.int _, .int _]) rfl ?_
    refine ev_icne DL_set 50 rfl (tgt := 96) (by decide) (fun h => h.elim rfl) (fun _ => ?_)
    refine ev_ss DL_set 1 51 (pc' := 93) (lv' := [(6, .int _), (5, .int _), (4, .int _), (0, .ref _), (1, .int _), (2, .int _), (3, .ref _)]) (st' := [.int 1]) rfl ?_
    refine ev_goto DL_set 52 rfl (tgt := 97) (by decide) ?_
    exact ev_zret DL_set 54 rfl rfl rfl ⟨rfl, hWD2.le (Nat.le_refl _) hm1⟩
set_option maxRecDepth 100000 in
set_option maxHeartbeats 4000000 in
theorem m_L_street {E : gE} {ad : Nat → Nat} {ws : va_W} {x y : Int32} {B m : Nat} (hWD : WD E ad ws B m) : C0 E YL_street 0 0 [.ref (ad 0), .int x, .int y, .ref (ad 214)] ws (fun v w => v = some (.int 1) ∧ WD E ad w (B + 30) 1) := by
  obtain ⟨p, sv, sc, r, len, ch, ze, hM, hL, hG, hs, hb, hsc, hm⟩ := id hWD
  obtain ⟨zq, zu, za, zn, zd, zw, zc, zt, zh, hC, hT, hW, hS⟩ := id hL
  obtain ⟨hzq, hzu, hza, hzn, hzd, hzw, hzc, hzt, hze, hzh⟩ := id hC
  refine c0S vL_street (Nat.le_of_ble_eq_true rfl) (lv0 := [(0, .ref (ad 0)), (1, .int x), (2, .int y), (3, .ref (ad 214))]) rfl ?_
  refine ev_ss DL_street 4 0 (pc' := 5) (lv' := [(0, .ref _), (1, .int _), (2, .int _), (3, .ref _)]) (st' := [.int 16, .int _]) rfl ?_
  refine ev_rS DL_street 4 (m_L_atE (n := 16) rfl (by decide) (by decide)) vL_at rfl qL_96 rfl (hd_of rfl rfl rfl rfl) (fun v_ w_ h_ => ?_)
  obtain ⟨⟨i, hi, rfl⟩, rfl⟩ := h_
  obtain ⟨a, t, ha, ht, rfl⟩ := i16 hi
  obtain ⟨f, ef⟩ : ∃ f, f = (pW p a).1 t := ⟨_, rfl⟩
  have hT2 : LT zq zu za zn zd (pTone p a t f) := by rw [ef]; exact hT.id
  have hTI : TI f := by rw [ef]; exact (hG.1 a ha).1 t ht
  have hQ : ∀ j, j < 4 → zq (4 * (8 * a + t) + j) = f j := fun j hj => by rw [ef]; exact hT.1.at ha ht j hj
  have hU : ∀ j, j < 4 → zu (4 * (8 * a + t) + j) = f (mU j) := fun j hj => by rw [ef]; exact hT.2.1.at ha ht j hj
  have hA : ∀ j, j < 4 → za (4 * (8 * a + t) + j) = f (7 + j) := fun j hj => by rw [ef]; exact hT.2.2.1.at ha ht j hj
  refine ev_ss DL_street 3 5 (pc' := 12) (lv' := [(4, .int _), (0, .ref _), (1, .int _), (2, .int _), (3, .ref _)]) (st' := [.int 4, .int _]) rfl ?_
  refine ev_rS DL_street 8 (m_L_atE (n := 4) rfl (by decide) (by decide)) vL_at rfl qL_96 rfl (hd_of rfl rfl rfl rfl) (fun v_ w_ h_ => ?_)
  obtain ⟨⟨j, hj, rfl⟩, rfl⟩ := h_
  refine ev_ss DL_street 2 9 (pc' := 19) (lv' := [(5, .int _), (4, .int _), (0, .ref _), (1, .int _), (2, .int _), (3, .ref _)]) (st' := [.int _]) rfl ?_
  refine ev_ifne DL_street 11 rfl (tgt := 36) (by decide) (fun c_1 => ?_) (fun c_1 => ?_)
  · refine ev_ss DL_street 2 20 (pc' := 39) (lv' := [(5, .int _), (4, .int _), (0, .ref _), (1, .int _), (2, .int _), (3, .ref _)]) (st' := [.int 3, .int _]) rfl ?_
    refine ev_icne DL_street 22 rfl (tgt := 65) (by decide) (fun c_2 => ?_) (fun c_2 => ?_)
    · have hj12 : j = 1 ∨ j = 2 := by
        have e0 : ¬ j = 0 := fun e => c_1 (by rw [e]; rfl)
        have e1 : ¬ j = 3 := fun e => c_2 (by rw [e]; rfl)
        omega
      refine ev_ss DL_street 4 37 (pc' := 70) (lv' := [(5, .int _), (4, .int _), (0, .ref _), (1, .int _), (2, .int _), (3, .ref _)]) (st' := [.int 65, .int _]) rfl ?_
      refine ev_rS DL_street 41 (m_L_atE (n := 65) rfl (by decide) (by decide)) vL_at rfl qL_96 rfl (hd_of rfl rfl rfl rfl) (fun v_ w_ h_ => ?_)
      obtain ⟨⟨r, hr, rfl⟩, rfl⟩ := h_
      refine ev_ss DL_street 2 42 (pc' := 76) (lv' := [(5, .int _), (4, .int _), (0, .ref _), (1, .int _), (2, .int _), (3, .ref _)]) (st' := [.int _]) rfl ?_
      refine ev_ss DL_street 7 44 (pc' := 86) (lv' := [(6, .int _), (5, .int _), (4, .int _), (0, .ref _), (1, .int _), (2, .int _), (3, .ref _)]) (st' := [.int _, .ref _]) rfl ?_
      refine ev_ialdv DL_street 51 (k0 := ((4 * (8 * a + t)) + j)) rfl hzq (nx_add (a := (4 * (8 * a + t))) (b := j) (nx_mul (a := 4) (b := (8 * a + t)) rfl rfl) rfl) (by omega) (by decide) ((hQ j (by omega))) ?_
      refine ev_ss DL_street 8 52 (pc' := 99) (lv' := [(7, .int _), (6, .int _), (5, .int _), (4, .int _), (0, .ref _), (1, .int _), (2, .int _), (3, .ref _)]) (st' := [.int _, .int _, .ref _]) rfl ?_
      refine ev_iastv DL_street 60 (k0 := ((4 * (8 * a + t)) + j)) rfl hzq (nx_add (a := (4 * (8 * a + t))) (b := j) (nx_mul (a := 4) (b := (8 * a + t)) rfl rfl) rfl) (by omega) (by decide) rfl ?_
      refine ev_ss DL_street 3 61 (pc' := 105) (lv' := [(7, .int _), (6, .int _), (5, .int _), (4, .int _), (0, .ref _), (1, .int _), (2, .int _), (3, .ref _)]) (st' := [.int 8, .int _, .ref _]) rfl ?_
      refine ev_idiv DL_street 64 rfl (by decide) ?_
      refine ev_topv ((nx_div (a := (8 * a + t)) (d := 8) rfl rfl (by omega) (by decide) (by decide)).trans (congrArg nI (show ((8 * a + t) / 8) = a by omega))) ?_
      refine ev_ss DL_street 2 65 (pc' := 110) (lv' := [(7, .int _), (6, .int _), (5, .int _), (4, .int _), (0, .ref _), (1, .int _), (2, .int _), (3, .ref _)]) (st' := [.int 8, .int _, .int _, .ref _]) rfl ?_
      refine ev_irem DL_street 67 rfl (by decide) ?_
      refine ev_topv ((nx_rem (a := (8 * a + t)) (d := 8) rfl rfl (by omega) (by decide) (by decide)).trans (congrArg nI (show ((8 * a + t) % 8) = t by omega))) ?_
      refine ev_ss DL_street 2 68 (pc' := 115) (lv' := [(7, .int _), (6, .int _), (5, .int _), (4, .int _), (0, .ref _), (1, .int _), (2, .int _), (3, .ref _)]) (st' := [.int _, .int _, .int _, .int _, .ref _]) rfl ?_
      refine ev_rV DL_street 70 (m_X6_build (hM.mo (MO.rf.st (by decide) (by decide))) (j := j) ha ht hsc hj (st_g12 hr hj12)) vX6_build rfl qL_108 rfl (hM.mo (MO.rf.st (by decide) (by decide))).1 rfl (hd_of rfl rfl rfl rfl) (fun v w9 hvw => ?_)
      obtain ⟨rfl, ⟨r2, hM2⟩, hFO⟩ := hvw
      rw [← ef] at hM2 ⊢
      have hC9 := LC.of (show LC E ad _ _ _ _ _ _ _ _ _ _ _ from ⟨(wset_get hzq), (wset_n hzu (by decide)), (wset_n hza (by decide)), (wset_n hzn (by decide)), (wset_n hzd (by decide)), (wset_n hzw (by decide)), (wset_n hzc (by decide)), (wset_n hzt (by decide)), (wset_n hze (by decide)), (wset_n hzh (by decide))⟩) (fun j a b => hFO j a)
      have hL2 : LM E ad w9 (pTone p a t (upd f j (nI r - 32))) ze := ⟨_, _, _, _, _, _, _, _, _, hC9, LT_q ha ht hj hT2, hW.T ha, hS.T2⟩
      have hWD2 : WD E ad w9 (B + 30) 1 := WD.nw (p := p) hM2 hL2 (hG.tone ha (hTI.street hj (st_g12 hr hj12))) hs hb rfl (by omega) hsc
      obtain ⟨hyq, hyu, hya, hyn, hyd, hyw, hyc, hyt, hye, hyh⟩ := id hC9
      refine ev_ss DL_street 1 71 (pc' := 120) (lv' := [(7, .int _), (6, .int _), (5, .int _), (4, .int _), (0, .ref _), (1, .int _), (2, .int _), (3, .ref _)]) (st' := [.int _, .int _]) rfl ?_
      refine ev_icne DL_street 72 rfl (tgt := 127) (by decide) (fun h => h.elim rfl) (fun _ => ?_)
      refine ev_ss DL_street 1 73 (pc' := 124) (lv' := [(7, .int _), (6, .int _), (5, .int _), (4, .int _), (0, .ref _), (1, .int _), (2, .int _), (3, .ref _)]) (st' := [.int 1]) rfl ?_
      refine ev_goto DL_street 74 rfl (tgt := 128) (by decide) ?_
      exact ev_zret DL_street 76 rfl rfl rfl ⟨rfl, hWD2.le (Nat.le_refl _) (Nat.le_refl _)⟩
    · have hj3 : j = 3 := (nI_eq (by omega) (by decide)).mp c_2
      refine ev_ss DL_street 7 23 (pc' := 50) (lv' := [(5, .int _), (4, .int _), (0, .ref _), (1, .int _), (2, .int _), (3, .ref _)]) (st' := [.int 2, .int _, .int _]) rfl ?_
      refine ev_rS DL_street 30 (m_L_atE (n := 2) rfl (by decide) (by decide)) vL_at rfl qL_96 rfl (hd_of rfl rfl rfl rfl) (fun v_ w_ h_ => ?_)
      obtain ⟨⟨k2, hk2, rfl⟩, rfl⟩ := h_
      refine ev_ss DL_street 4 31 (pc' := 59) (lv' := [(5, .int _), (4, .int _), (0, .ref _), (1, .int _), (2, .int _), (3, .ref _)]) (st' := [.int _, .int _]) rfl ?_
      refine ev_rS DL_street 35 (m_L_atE (n := (k2 * 52 + 9)) (nx_add (a := (k2 * 52)) (b := 9) (nx_mul (a := k2) (b := 52) rfl rfl) rfl) (by omega) (by omega)) vL_at rfl qL_96 rfl (hd_of rfl rfl rfl rfl) (fun v_ w_ h_ => ?_)
      obtain ⟨⟨r, hr, rfl⟩, rfl⟩ := h_
      refine ev_goto DL_street 36 rfl (tgt := 76) (by decide) ?_
      refine ev_ss DL_street 7 44 (pc' := 86) (lv' := [(6, .int _), (5, .int _), (4, .int _), (0, .ref _), (1, .int _), (2, .int _), (3, .ref _)]) (st' := [.int _, .ref _]) rfl ?_
      refine ev_ialdv DL_street 51 (k0 := ((4 * (8 * a + t)) + j)) rfl hzq (nx_add (a := (4 * (8 * a + t))) (b := j) (nx_mul (a := 4) (b := (8 * a + t)) rfl rfl) rfl) (by omega) (by decide) ((hQ j (by omega))) ?_
      refine ev_ss DL_street 8 52 (pc' := 99) (lv' := [(7, .int _), (6, .int _), (5, .int _), (4, .int _), (0, .ref _), (1, .int _), (2, .int _), (3, .ref _)]) (st' := [.int _, .int _, .ref _]) rfl ?_
      refine ev_iastv DL_street 60 (k0 := ((4 * (8 * a + t)) + j)) rfl hzq (nx_add (a := (4 * (8 * a + t))) (b := j) (nx_mul (a := 4) (b := (8 * a + t)) rfl rfl) rfl) (by omega) (by decide) rfl ?_
      refine ev_ss DL_street 3 61 (pc' := 105) (lv' := [(7, .int _), (6, .int _), (5, .int _), (4, .int _), (0, .ref _), (1, .int _), (2, .int _), (3, .ref _)]) (st' := [.int 8, .int _, .ref _]) rfl ?_
      refine ev_idiv DL_street 64 rfl (by decide) ?_
      refine ev_topv ((nx_div (a := (8 * a + t)) (d := 8) rfl rfl (by omega) (by decide) (by decide)).trans (congrArg nI (show ((8 * a + t) / 8) = a by omega))) ?_
      refine ev_ss DL_street 2 65 (pc' := 110) (lv' := [(7, .int _), (6, .int _), (5, .int _), (4, .int _), (0, .ref _), (1, .int _), (2, .int _), (3, .ref _)]) (st' := [.int 8, .int _, .int _, .ref _]) rfl ?_
      refine ev_irem DL_street 67 rfl (by decide) ?_
      refine ev_topv ((nx_rem (a := (8 * a + t)) (d := 8) rfl rfl (by omega) (by decide) (by decide)).trans (congrArg nI (show ((8 * a + t) % 8) = t by omega))) ?_
      refine ev_ss DL_street 2 68 (pc' := 115) (lv' := [(7, .int _), (6, .int _), (5, .int _), (4, .int _), (0, .ref _), (1, .int _), (2, .int _), (3, .ref _)]) (st' := [.int _, .int _, .int _, .int _, .ref _]) rfl ?_
      refine ev_rV DL_street 70 (m_X6_build (hM.mo (MO.rf.st (by decide) (by decide))) (j := j) ha ht hsc hj (by rw [hj3]; exact st_g3 (by omega))) vX6_build rfl qL_108 rfl (hM.mo (MO.rf.st (by decide) (by decide))).1 rfl (hd_of rfl rfl rfl rfl) (fun v w9 hvw => ?_)
      obtain ⟨rfl, ⟨r2, hM2⟩, hFO⟩ := hvw
      rw [← ef] at hM2 ⊢
      have hC9 := LC.of (show LC E ad _ _ _ _ _ _ _ _ _ _ _ from ⟨(wset_get hzq), (wset_n hzu (by decide)), (wset_n hza (by decide)), (wset_n hzn (by decide)), (wset_n hzd (by decide)), (wset_n hzw (by decide)), (wset_n hzc (by decide)), (wset_n hzt (by decide)), (wset_n hze (by decide)), (wset_n hzh (by decide))⟩) (fun j a b => hFO j a)
      have hL2 : LM E ad w9 (pTone p a t (upd f j (nI r))) ze := ⟨_, _, _, _, _, _, _, _, _, hC9, LT_q ha ht hj hT2, hW.T ha, hS.T2⟩
      have hWD2 : WD E ad w9 (B + 30) 1 := WD.nw (p := p) hM2 hL2 (hG.tone ha (hTI.street hj (by rw [hj3]; exact st_g3 (by omega)))) hs hb rfl (by omega) hsc
      obtain ⟨hyq, hyu, hya, hyn, hyd, hyw, hyc, hyt, hye, hyh⟩ := id hC9
      refine ev_ss DL_street 1 71 (pc' := 120) (lv' := [(7, .int _), (6, .int _), (5, .int _), (4, .int _), (0, .ref _), (1, .int _), (2, .int _), (3, .ref _)]) (st' := [.int _, .int _]) rfl ?_
      refine ev_icne DL_street 72 rfl (tgt := 127) (by decide) (fun h => h.elim rfl) (fun _ => ?_)
      refine ev_ss DL_street 1 73 (pc' := 124) (lv' := [(7, .int _), (6, .int _), (5, .int _), (4, .int _), (0, .ref _), (1, .int _), (2, .int _), (3, .ref _)]) (st' := [.int 1]) rfl ?_
      refine ev_goto DL_street 74 rfl (tgt := 128) (by decide) ?_
      exact ev_zret DL_street 76 rfl rfl rfl ⟨rfl, hWD2.le (Nat.le_refl _) (Nat.le_refl _)⟩
  · have hj0 : j = 0 := (nI_eq (by omega) (by decide)).mp c_1
    refine ev_ss DL_street 5 12 (pc' := 29) (lv' := [(5, .int _), (4, .int _), (0, .ref _), (1, .int _), (2, .int _), (3, .ref _)]) (st' := [.int 81, .int _, .int 16]) rfl ?_
    refine ev_rS DL_street 17 (m_L_atE (n := 81) rfl (by decide) (by decide)) vL_at rfl qL_96 rfl (hd_of rfl rfl rfl rfl) (fun v_ w_ h_ => ?_)
    obtain ⟨⟨r, hr, rfl⟩, rfl⟩ := h_
    refine ev_ss DL_street 1 18 (pc' := 33) (lv' := [(5, .int _), (4, .int _), (0, .ref _), (1, .int _), (2, .int _), (3, .ref _)]) (st' := [.int _]) rfl ?_
    refine ev_goto DL_street 19 rfl (tgt := 76) (by decide) ?_
    refine ev_topv (nx_add (a := 16) (b := r) rfl rfl) ?_
    refine ev_ss DL_street 7 44 (pc' := 86) (lv' := [(6, .int _), (5, .int _), (4, .int _), (0, .ref _), (1, .int _), (2, .int _), (3, .ref _)]) (st' := [.int _, .ref _]) rfl ?_
    refine ev_ialdv DL_street 51 (k0 := ((4 * (8 * a + t)) + j)) rfl hzq (nx_add (a := (4 * (8 * a + t))) (b := j) (nx_mul (a := 4) (b := (8 * a + t)) rfl rfl) rfl) (by omega) (by decide) ((hQ j (by omega))) ?_
    refine ev_ss DL_street 8 52 (pc' := 99) (lv' := [(7, .int _), (6, .int _), (5, .int _), (4, .int _), (0, .ref _), (1, .int _), (2, .int _), (3, .ref _)]) (st' := [.int _, .int _, .ref _]) rfl ?_
    refine ev_iastv DL_street 60 (k0 := ((4 * (8 * a + t)) + j)) rfl hzq (nx_add (a := (4 * (8 * a + t))) (b := j) (nx_mul (a := 4) (b := (8 * a + t)) rfl rfl) rfl) (by omega) (by decide) rfl ?_
    refine ev_ss DL_street 3 61 (pc' := 105) (lv' := [(7, .int _), (6, .int _), (5, .int _), (4, .int _), (0, .ref _), (1, .int _), (2, .int _), (3, .ref _)]) (st' := [.int 8, .int _, .ref _]) rfl ?_
    refine ev_idiv DL_street 64 rfl (by decide) ?_
    refine ev_topv ((nx_div (a := (8 * a + t)) (d := 8) rfl rfl (by omega) (by decide) (by decide)).trans (congrArg nI (show ((8 * a + t) / 8) = a by omega))) ?_
    refine ev_ss DL_street 2 65 (pc' := 110) (lv' := [(7, .int _), (6, .int _), (5, .int _), (4, .int _), (0, .ref _), (1, .int _), (2, .int _), (3, .ref _)]) (st' := [.int 8, .int _, .int _, .ref _]) rfl ?_
    refine ev_irem DL_street 67 rfl (by decide) ?_
    refine ev_topv ((nx_rem (a := (8 * a + t)) (d := 8) rfl rfl (by omega) (by decide) (by decide)).trans (congrArg nI (show ((8 * a + t) % 8) = t by omega))) ?_
    refine ev_ss DL_street 2 68 (pc' := 115) (lv' := [(7, .int _), (6, .int _), (5, .int _), (4, .int _), (0, .ref _), (1, .int _), (2, .int _), (3, .ref _)]) (st' := [.int _, .int _, .int _, .int _, .ref _]) rfl ?_
    refine ev_rV DL_street 70 (m_X6_build (hM.mo (MO.rf.st (by decide) (by decide))) (j := j) ha ht hsc hj (by rw [hj0]; exact st_g0 hr)) vX6_build rfl qL_108 rfl (hM.mo (MO.rf.st (by decide) (by decide))).1 rfl (hd_of rfl rfl rfl rfl) (fun v w9 hvw => ?_)
    obtain ⟨rfl, ⟨r2, hM2⟩, hFO⟩ := hvw
    rw [← ef] at hM2 ⊢
    have hC9 := LC.of (show LC E ad _ _ _ _ _ _ _ _ _ _ _ from ⟨(wset_get hzq), (wset_n hzu (by decide)), (wset_n hza (by decide)), (wset_n hzn (by decide)), (wset_n hzd (by decide)), (wset_n hzw (by decide)), (wset_n hzc (by decide)), (wset_n hzt (by decide)), (wset_n hze (by decide)), (wset_n hzh (by decide))⟩) (fun j a b => hFO j a)
    have hL2 : LM E ad w9 (pTone p a t (upd f j (nI (16 + r)))) ze := ⟨_, _, _, _, _, _, _, _, _, hC9, LT_q ha ht hj hT2, hW.T ha, hS.T2⟩
    have hWD2 : WD E ad w9 (B + 30) 1 := WD.nw (p := p) hM2 hL2 (hG.tone ha (hTI.street hj (by rw [hj0]; exact st_g0 hr))) hs hb rfl (by omega) hsc
    obtain ⟨hyq, hyu, hya, hyn, hyd, hyw, hyc, hyt, hye, hyh⟩ := id hC9
    refine ev_ss DL_street 1 71 (pc' := 120) (lv' := [(7, .int _), (6, .int _), (5, .int _), (4, .int _), (0, .ref _), (1, .int _), (2, .int _), (3, .ref _)]) (st' := [.int _, .int _]) rfl ?_
    refine ev_icne DL_street 72 rfl (tgt := 127) (by decide) (fun h => h.elim rfl) (fun _ => ?_)
    refine ev_ss DL_street 1 73 (pc' := 124) (lv' := [(7, .int _), (6, .int _), (5, .int _), (4, .int _), (0, .ref _), (1, .int _), (2, .int _), (3, .ref _)]) (st' := [.int 1]) rfl ?_
    refine ev_goto DL_street 74 rfl (tgt := 128) (by decide) ?_
    exact ev_zret DL_street 76 rfl rfl rfl ⟨rfl, hWD2.le (Nat.le_refl _) (Nat.le_refl _)⟩
