theorem pBits_1 {p : PS} {a y : Nat} {bs : List Int32} (ha : a < 2) (hy : y < 2) : (pW (pBits p a bs) y).1 = (pW p y).1 := by
  unfold pBits
  by_cases e : y = a
  · subst e; rw [pW_set]
  · rw [pW_other ha hy e]
theorem pBits_3 {p : PS} {a y : Nat} {bs : List Int32} (ha : a < 2) (hy : y < 2) : (pW (pBits p a bs) y).2.2 = (pW p y).2.2 := by
  unfold pBits
  by_cases e : y = a
  · subst e; rw [pW_set]
  · rw [pW_other ha hy e]
theorem A4.bits {m : Nat → Nat} {g : Nat → Int32} {p : PS} {a : Nat} {bs : List Int32} (ha : a < 2) (h : A4 m g p) : A4 m g (pBits p a bs) := fun y k j hy hk hj => by rw [pBits_1 ha hy]; exact h y k j hy hk hj
theorem A2.bits {m : Nat → Nat} {g : Nat → Int32} {p : PS} {a : Nat} {bs : List Int32} (ha : a < 2) (h : A2 m g p) : A2 m g (pBits p a bs) := fun y k j hy hk hj => by rw [pBits_1 ha hy]; exact h y k j hy hk hj
theorem LT.bits {zq zu za zn zd : Nat → Int32} {p : PS} {a : Nat} {bs : List Int32} (ha : a < 2) (h : LT zq zu za zn zd p) : LT zq zu za zn zd (pBits p a bs) := ⟨h.1.bits ha, h.2.1.bits ha, h.2.2.1.bits ha, h.2.2.2.1.bits ha, h.2.2.2.2.bits ha⟩
theorem LW.take {zw zc : Nat → Int32} {zh : Nat → Int64} {p : PS} {a : Nat} {b : Int32} {bs : List Int32} (h : LW zw zc zh p) (ha : a < 2) (e : (pW p a).2.1 = b :: bs) : LW (shZ zw (32 * a) (bs.length + 1)) (upd zc (2 + a) (nI bs.length)) zh (pBits p a bs) := by
  obtain ⟨h3, h4, h5, h6⟩ := h
  have hl := (h4 a ha).1
  rw [e] at hl
  have hl2 : bs.length + 1 ≤ 32 := hl
  refine ⟨fun c i hc hi => ?_, fun c hc => ?_, ?_, ?_⟩
  · by_cases e3 : c = a
    · subst e3
      have e4 : (pW (pBits p c bs) c).2.1 = bs := by unfold pBits; rw [pW_set]
      rw [e4] at hi ⊢
      have e5 := h3 c (i + 1) hc (by rw [e]; exact Nat.succ_lt_succ hi)
      rw [e] at e5
      unfold shZ
      rw [if_pos (by omega), show 32 * c + i + 1 = 32 * c + (i + 1) by omega, e5]
      rfl
    · have e4 : (pW (pBits p a bs) c).2.1 = (pW p c).2.1 := by unfold pBits; rw [pW_other ha hc e3]
      rw [e4] at hi ⊢
      have := (h4 c hc).1
      unfold shZ
      rw [if_neg (by omega)]
      exact h3 c i hc hi
  · obtain ⟨q1, q2, q3, q4, q5⟩ := h4 c hc
    refine ⟨?_, ?_, ?_, ?_, ?_⟩
    · by_cases e3 : c = a
      · subst e3; unfold pBits; rw [pW_set]; show bs.length ≤ 32; omega
      · unfold pBits; rw [pW_other ha hc e3]; exact q1
    · by_cases e3 : c = a
      · subst e3; unfold pBits; rw [pW_set, upd_eq]
      · unfold pBits; rw [pW_other ha hc e3, upd_ne (by omega)]; exact q2
    · rw [upd_ne (by omega), pBits_3 ha hc]; exact q3
    · rw [upd_ne (by omega), pBits_3 ha hc]; exact q4
    · rw [pBits_3 ha hc]; exact q5
  · rw [upd_ne (by omega)]; exact h5
  · rw [upd_ne (by omega)]; exact h6
theorem LSe.bits {zt : Nat → Int32} {p : PS} {a : Nat} {bs : List Int32} (h : LSe zt p) : LSe zt (pBits p a bs) := fun j hj => h j hj
set_option maxRecDepth 100000 in
set_option maxHeartbeats 4000000 in
theorem m_L_next {E : gE} {ad : Nat → Nat} {ws : va_W} {p : PS} {ze : Nat → Int32} {a : Nat} (hM : LM E ad ws p ze) (ha : a < 2) : C0 E YL_next 0 0 [.int (nI a), .ref (ad 219), .ref (ad 220)] ws (fun v w => v = some (.int (tk1 (pW p a).2.1).1) ∧ LM E ad w (pBits p a (tk1 (pW p a).2.1).2) ze ∧ MO ws w) := by
  obtain ⟨zq, zu, za, zn, zd, zw, zc, zt, zh, hC, hT, hW, hS⟩ := id hM
  obtain ⟨hzq, hzu, hza, hzn, hzd, hzw, hzc, hzt, hze, hzh⟩ := id hC
  obtain ⟨q1, q2, -, -, -⟩ := hW.2.1 a ha
  obtain ⟨bb, ebb⟩ : ∃ bb, bb = (pW p a).2.1 := ⟨_, rfl⟩
  rw [← ebb] at q1 q2
  refine c0S vL_next (Nat.le_of_ble_eq_true rfl) (lv0 := [(0, .int (nI a)), (1, .ref (ad 219)), (2, .ref (ad 220))]) rfl ?_
  cases bb with
  | nil =>
    refine ev_ss DL_next 4 0 (pc' := 4) (lv' := [(0, .int _), (1, .ref _), (2, .ref _)]) (st' := [.int _, .ref _]) rfl ?_
    refine ev_ialdv DL_next 4 (k0 := (2 + a)) rfl hzc (nx_add (a := 2) (b := a) rfl rfl) (by omega) (by decide) (q2) ?_
    refine ev_ifne DL_next 5 rfl (tgt := 10) (by decide) (fun h => h.elim rfl) (fun _ => ?_)
    refine ev_ss DL_next 1 6 (pc' := 9) (lv' := [(0, .int _), (1, .ref _), (2, .ref _)]) (st' := [.int 0]) rfl ?_
    exact ev_iret DL_next 7 rfl rfl ⟨by rw [← ebb]; rfl, by rw [← ebb, show (tk1 ([] : List Int32)).2 = (pW p a).2.1 from ebb, pBits_id]; exact hM, MO.rf⟩
  | cons b bs =>
    have hl2 : bs.length + 1 ≤ 32 := q1
    have hne : ¬ nI (bs.length + 1) = 0 := nI_ne0 (by omega) (by omega)
    have hW2 := hW.take ha ebb.symm
    have q5 : zw (32 * a) = b := by
      have e := hW.1 a 0 ha (by rw [← ebb]; exact Nat.succ_pos _)
      rw [← ebb] at e
      exact e
    have K : ∀ (m i : Nat) (x : Int32) (w : va_W), i + m = bs.length → x = nI i → LC E ad w zq zu za zn zd (shZ zw (32 * a) (i + 1)) (upd zc (2 + a) (nI bs.length)) zt ze zh → MO ws w →
        Ev E YL_next (fun v w => v = some (.int (tk1 (pW p a).2.1).1) ∧ LM E ad w (pBits p a (tk1 (pW p a).2.1).2) ze ∧ MO ws w) nX 0 0 29 [(0, .int (nI a)), (1, .ref (ad 219)), (2, .ref (ad 220)), (3, .int b), (4, .int x)] [] w := by
      intro m
      induction m with
      | zero =>
        intro i x w hm hx hC1 hO
        obtain rfl : i = bs.length := by omega
        subst hx
        obtain ⟨hyq, hyu, hya, hyn, hyd, hyw, hyc, hyt, hye, hyh⟩ := id hC1
        refine ev_ss DL_next 5 25 (pc' := 35) (lv' := [(0, .int _), (1, .ref _), (2, .ref _), (3, .int _), (4, .int _)]) (st' := [.int _, .ref _, .int _]) rfl ?_
        refine ev_ialdv DL_next 30 (k0 := (2 + a)) rfl hyc (nx_add (a := 2) (b := a) rfl rfl) (by omega) (by decide) (upd_eq) ?_
        refine ev_icge DL_next 31 rfl (tgt := 65) (by decide) (fun _ => ?_) (fun h => h.elim (nI_le (Nat.le_refl _) (by omega)))
        refine ev_ss DL_next 1 50 (pc' := 66) (lv' := [(0, .int _), (1, .ref _), (2, .ref _), (3, .int _), (4, .int _)]) (st' := [.int _]) rfl ?_
        exact ev_iret DL_next 51 rfl rfl ⟨by rw [← ebb]; rfl, by rw [← ebb]; exact ⟨_, _, _, _, _, _, _, _, _, hC1, hT.bits ha, hW2, hS.bits⟩, hO⟩
      | succ m ih =>
        intro i x w hm hx hC1 hO
        subst hx
        obtain ⟨hyq, hyu, hya, hyn, hyd, hyw, hyc, hyt, hye, hyh⟩ := id hC1
        refine ev_ss DL_next 5 25 (pc' := 35) (lv' := [(0, .int _), (1, .ref _), (2, .ref _), (3, .int _), (4, .int _)]) (st' := [.int _, .ref _, .int _]) rfl ?_
        refine ev_ialdv DL_next 30 (k0 := (2 + a)) rfl hyc (nx_add (a := 2) (b := a) rfl rfl) (by omega) (by decide) (upd_eq) ?_
        refine ev_icge DL_next 31 rfl (tgt := 65) (by decide) (fun h => absurd h (nI_ge (b := bs.length) (by omega) (by omega))) (fun _ => ?_)
        refine ev_ss DL_next 14 32 (pc' := 57) (lv' := [(0, .int _), (1, .ref _), (2, .ref _), (3, .int _), (4, .int _)]) (st' := [.int _, .ref _, .int _, .ref _]) rfl ?_
        refine ev_ialdv DL_next 46 (k0 := (((32 * a) + i) + 1)) rfl hyw (nx_add (a := ((32 * a) + i)) (b := 1) (nx_add (a := (32 * a)) (b := i) (nx_mul (a := 32) (b := a) rfl rfl) rfl) rfl) (by omega) (by decide) ((shZ_at (by omega))) ?_
        refine ev_iastv DL_next 47 (k0 := ((32 * a) + i)) rfl hyw (nx_add (a := (32 * a)) (b := i) (nx_mul (a := 32) (b := a) rfl rfl) rfl) (by omega) (by decide) rfl ?_
        refine ev_ss DL_next 1 48 (pc' := 62) (lv' := [(4, .int _), (0, .int _), (1, .ref _), (2, .ref _), (3, .int _)]) (st' := []) rfl ?_
        refine ev_goto DL_next 49 rfl (tgt := 29) (by decide) ?_
        refine ev_lvp (lv2 := [(0, .int _), (1, .ref _), (2, .ref _), (3, .int _), (4, .int _)]) [1, 2, 3, 4, 0] rfl ?_
        refine ih (i + 1) _ _ (by omega) (nI_1 i) ?_ (hO.tr (MO.rf.st (by decide) (by decide)))
        have e9 : upd (shZ zw (32 * a) (i + 1)) (32 * a + i) (zw (32 * a + i + 1)) = shZ zw (32 * a) (i + 1 + 1) := by
          have e := shZ_s (z := zw) (b := 32 * a) (i := i + 1) (by omega)
          rw [show 32 * a + (i + 1) - 1 = 32 * a + i by omega] at e
          exact e
        rw [e9]
        exact ⟨(wset_n hyq (by decide)), (wset_n hyu (by decide)), (wset_n hya (by decide)), (wset_n hyn (by decide)), (wset_n hyd (by decide)), (wset_get hyw), (wset_n hyc (by decide)), (wset_n hyt (by decide)), (wset_n hye (by decide)), (wset_n hyh (by decide))⟩
    refine ev_ss DL_next 4 0 (pc' := 4) (lv' := [(0, .int _), (1, .ref _), (2, .ref _)]) (st' := [.int _, .ref _]) rfl ?_
    refine ev_ialdv DL_next 4 (k0 := (2 + a)) rfl hzc (nx_add (a := 2) (b := a) rfl rfl) (by omega) (by decide) (q2) ?_
    refine ev_ifne DL_next 5 rfl (tgt := 10) (by decide) (fun _ => ?_) (fun h => absurd h hne)
    refine ev_ss DL_next 4 8 (pc' := 15) (lv' := [(0, .int _), (1, .ref _), (2, .ref _)]) (st' := [.int _, .ref _]) rfl ?_
    refine ev_ialdv DL_next 12 (k0 := (32 * a)) rfl hzw (nx_mul (a := 32) (b := a) rfl rfl) (by omega) (by decide) (q5) ?_
    refine ev_ss DL_next 6 13 (pc' := 22) (lv' := [(3, .int _), (0, .int _), (1, .ref _), (2, .ref _)]) (st' := [.int _, .ref _, .int _, .ref _]) rfl ?_
    refine ev_ialdv DL_next 19 (k0 := (2 + a)) rfl hzc (nx_add (a := 2) (b := a) rfl rfl) (by omega) (by decide) (q2) ?_
    refine ev_ss DL_next 2 20 (pc' := 25) (lv' := [(3, .int _), (0, .int _), (1, .ref _), (2, .ref _)]) (st' := [.int _, .int _, .ref _]) rfl ?_
    refine ev_iastv DL_next 22 (k0 := (2 + a)) rfl hzc (nx_add (a := 2) (b := a) rfl rfl) (by omega) (by decide) rfl ?_
    refine ev_ss DL_next 2 23 (pc' := 29) (lv' := [(4, .int 0), (3, .int _), (0, .int _), (1, .ref _), (2, .ref _)]) (st' := []) rfl ?_
    refine ev_lvp (lv2 := [(0, .int _), (1, .ref _), (2, .ref _), (3, .int _), (4, .int _)]) [2, 3, 4, 1, 0] rfl ?_
    refine K bs.length 0 _ _ (by omega) nI_0.symm ?_ (MO.rf.st (by decide) (by decide))
    rw [shZ_1]
    have e9 : upd zc (2 + a) (nI (bs.length + 1) - 1) = upd zc (2 + a) (nI bs.length) := by rw [nI_pred]
    rw [← e9]
    exact ⟨(wset_n hzq (by decide)), (wset_n hzu (by decide)), (wset_n hza (by decide)), (wset_n hzn (by decide)), (wset_n hzd (by decide)), (wset_n hzw (by decide)), (wset_get hzc), (wset_n hzt (by decide)), (wset_n hze (by decide)), (wset_n hzh (by decide))⟩
set_option maxRecDepth 100000 in
set_option maxHeartbeats 4000000 in
theorem tk_loop {E : gE} {ad : Nat → Nat} {ws : va_W} {za : Nat → Int32} {i n : Nat} {lv r : Int32} (hi : i < 16) (hza : ws[216]? = some (ad 216, iaC E 64 za)) (h10 : za (4 * i + 3) = nI n) (hn : n ≤ 4) : ∀ (m j : Nat) (x best : Int32), j + 1 + m = 2 ^ n → x = nI (j + 1) → best = dcS (nI n) lv j → Ev E YL_taken (fun v w => v = some (.int (dcS (nI n) lv (2 ^ n - 1))) ∧ w = ws) nX 0 0 53 [(0, .int (nI i)), (1, .int r), (2, .ref (ad 216)), (3, .ref (ad 218)), (4, .int (nI (4 * i))), (5, .int lv), (6, .int best), (7, .int x)] [] ws := by
  have h2 := p2_n n (by omega)
  have h3 := shl_n n (by omega)
  intro m
  induction m with
  | zero =>
    intro j x best hm hx hb
    have ei : j = 2 ^ n - 1 := by omega
    subst hx; subst hb
    rw [show j + 1 = 2 ^ n by omega]
    refine ev_ss DL_taken 6 44 (pc' := 61) (lv' := [(0, .int _), (1, .int _), (2, .ref _), (3, .ref _), (4, .int _), (5, .int _), (6, .int _), (7, .int _)]) (st' := [.int _, .ref _, .int 1, .int _]) rfl ?_
    refine ev_ialdv DL_taken 50 (k0 := ((4 * i) + 3)) rfl hza (nx_add (a := (4 * i)) (b := 3) rfl rfl) (by omega) (by decide) (h10) ?_
    refine ev_ss DL_taken 1 51 (pc' := 63) (lv' := [(0, .int _), (1, .int _), (2, .ref _), (3, .ref _), (4, .int _), (5, .int _), (6, .int _), (7, .int _)]) (st' := [.int _, .int _]) rfl ?_
    refine ev_icge DL_taken 52 rfl (tgt := 113) (by decide) (fun _ => ?_) (fun h => h.elim (by show (1 : Int32) <<< (nI n &&& 31) ≤ nI (2 ^ n); rw [h3]; exact nI_le (Nat.le_refl _) (by omega)))
    refine ev_ss DL_taken 1 78 (pc' := 115) (lv' := [(0, .int _), (1, .int _), (2, .ref _), (3, .ref _), (4, .int _), (5, .int _), (6, .int _), (7, .int _)]) (st' := [.int _]) rfl ?_
    exact ev_iret DL_taken 79 rfl rfl ⟨by rw [ei], rfl⟩
  | succ m ih =>
    intro j x best hm hx hb
    subst hx
    refine ev_ss DL_taken 6 44 (pc' := 61) (lv' := [(0, .int _), (1, .int _), (2, .ref _), (3, .ref _), (4, .int _), (5, .int _), (6, .int _), (7, .int _)]) (st' := [.int _, .ref _, .int 1, .int _]) rfl ?_
    refine ev_ialdv DL_taken 50 (k0 := ((4 * i) + 3)) rfl hza (nx_add (a := (4 * i)) (b := 3) rfl rfl) (by omega) (by decide) (h10) ?_
    refine ev_ss DL_taken 1 51 (pc' := 63) (lv' := [(0, .int _), (1, .int _), (2, .ref _), (3, .ref _), (4, .int _), (5, .int _), (6, .int _), (7, .int _)]) (st' := [.int _, .int _]) rfl ?_
    refine ev_icge DL_taken 52 rfl (tgt := 113) (by decide) (fun h => absurd h (show ¬ (1 : Int32) <<< (nI n &&& 31) ≤ nI (j + 1) by rw [h3]; exact nI_ge (by omega) (by omega))) (fun _ => ?_)
    refine ev_ss DL_taken 4 53 (pc' := 71) (lv' := [(0, .int _), (1, .int _), (2, .ref _), (3, .ref _), (4, .int _), (5, .int _), (6, .int _), (7, .int _)]) (st' := [.int _, .ref _]) rfl ?_
    refine ev_ialdv DL_taken 57 (k0 := ((4 * i) + 3)) rfl hza (nx_add (a := (4 * i)) (b := 3) rfl rfl) (by omega) (by decide) (h10) ?_
    refine ev_ss DL_taken 1 58 (pc' := 74) (lv' := [(0, .int _), (1, .int _), (2, .ref _), (3, .ref _), (4, .int _), (5, .int _), (6, .int _), (7, .int _)]) (st' := [.int _, .int _]) rfl ?_
    refine ev_cS DL_taken 59 m_L_amp vL_amp rfl qL_37 rfl (hd_of rfl rfl rfl rfl) ?_
    refine ev_ss DL_taken 2 60 (pc' := 80) (lv' := [(0, .int _), (1, .int _), (2, .ref _), (3, .ref _), (4, .int _), (5, .int _), (6, .int _), (7, .int _)]) (st' := [.int _]) rfl ?_
    refine ev_cS DL_taken 62 m_L_size vL_size rfl qL_29 rfl (hd_of rfl rfl rfl rfl) ?_
    refine ev_ss DL_taken 4 63 (pc' := 88) (lv' := [(0, .int _), (1, .int _), (2, .ref _), (3, .ref _), (4, .int _), (5, .int _), (6, .int _), (7, .int _)]) (st' := [.int _, .ref _, .int _]) rfl ?_
    refine ev_ialdv DL_taken 67 (k0 := ((4 * i) + 3)) rfl hza (nx_add (a := (4 * i)) (b := 3) rfl rfl) (by omega) (by decide) (h10) ?_
    refine ev_ss DL_taken 1 68 (pc' := 91) (lv' := [(0, .int _), (1, .int _), (2, .ref _), (3, .ref _), (4, .int _), (5, .int _), (6, .int _), (7, .int _)]) (st' := [.int _, .int _, .int _]) rfl ?_
    refine ev_cS DL_taken 69 m_L_amp vL_amp rfl qL_37 rfl (hd_of rfl rfl rfl rfl) ?_
    refine ev_ss DL_taken 2 70 (pc' := 97) (lv' := [(0, .int _), (1, .int _), (2, .ref _), (3, .ref _), (4, .int _), (5, .int _), (6, .int _), (7, .int _)]) (st' := [.int _, .int _]) rfl ?_
    refine ev_cS DL_taken 72 m_L_size vL_size rfl qL_29 rfl (hd_of rfl rfl rfl rfl) ?_
    refine ev_icge DL_taken 73 rfl (tgt := 107) (by decide) (fun c_2 => ?_) (fun c_2 => ?_)
    · refine ev_ss DL_taken 1 76 (pc' := 110) (lv' := [(7, .int _), (0, .int _), (1, .int _), (2, .ref _), (3, .ref _), (4, .int _), (5, .int _), (6, .int _)]) (st' := []) rfl ?_
      refine ev_goto DL_taken 77 rfl (tgt := 53) (by decide) ?_
      refine ev_lvp (lv2 := [(0, .int _), (1, .int _), (2, .ref _), (3, .ref _), (4, .int _), (5, .int _), (6, .int _), (7, .int _)]) [1, 2, 3, 4, 5, 6, 7, 0] rfl ?_
      exact ih (j + 1) _ _ (by omega) (nI_1 (j + 1)) (by rw [dcS_s, ← hb]; exact (if_pos c_2).symm)
    · refine ev_ss DL_taken 3 74 (pc' := 110) (lv' := [(7, .int _), (6, .int _), (0, .int _), (1, .int _), (2, .ref _), (3, .ref _), (4, .int _), (5, .int _)]) (st' := []) rfl ?_
      refine ev_goto DL_taken 77 rfl (tgt := 53) (by decide) ?_
      refine ev_lvp (lv2 := [(0, .int _), (1, .int _), (2, .ref _), (3, .ref _), (4, .int _), (5, .int _), (6, .int _), (7, .int _)]) [2, 3, 4, 5, 6, 7, 1, 0] rfl ?_
      exact ih (j + 1) _ _ (by omega) (nI_1 (j + 1)) (by rw [dcS_s, ← hb]; exact (if_neg c_2).symm)
set_option maxRecDepth 100000 in
set_option maxHeartbeats 4000000 in
theorem m_L_taken {E : gE} {ad : Nat → Nat} {ws : va_W} {za zd : Nat → Int32} (hza : ws[216]? = some (ad 216, iaC E 64 za)) (hzd : ws[218]? = some (ad 218, iaC E 32 zd)) {i n : Nat} (hi : i < 16) {f : TF} {r : Int32} (hA : ∀ j, j < 4 → za (4 * i + j) = f (7 + j)) (hD : ∀ j, j < 2 → zd (2 * i + j) = f (16 + j)) (hn : n ≤ 4) (hb : f 10 = nI n) (hg : ¬ f 7 ≤ 0) (hR : DR f r) : CD E YL_taken 0 0 [.int (nI i), .int r, .ref (ad 216), .ref (ad 218)] ws (some (.int (decP f r))) ws := by
  have h10 : za (4 * i + 3) = nI n := by rw [hA 3 (by decide)]; exact hb
  have hg0 : ¬ f 7 = 0 := fun e => hg (by rw [e]; decide)
  have h2 := p2_n n (by omega)
  have h3 := shl_n n (by omega)
  rw [decP_L, hb, ← dec_all hn hR.1 hR.2]
  refine cdS vL_taken (Nat.le_of_ble_eq_true rfl) (lv0 := [(0, .int (nI i)), (1, .int r), (2, .ref (ad 216)), (3, .ref (ad 218))]) rfl ?_
  refine ev_ss DL_taken 3 0 (pc' := 3) (lv' := [(0, .int _), (1, .int _), (2, .ref _), (3, .ref _)]) (st' := [.int _]) rfl ?_
  refine ev_topv (nx_mul (a := 4) (b := i) rfl rfl) ?_
  refine ev_ss DL_taken 6 3 (pc' := 11) (lv' := [(4, .int _), (0, .int _), (1, .int _), (2, .ref _), (3, .ref _)]) (st' := [.int _, .ref _, .int _]) rfl ?_
  refine ev_ialdv DL_taken 9 (k0 := ((4 * i) + 1)) rfl hza (nx_add (a := (4 * i)) (b := 1) rfl rfl) (by omega) (by decide) ((hA 1 (by decide))) ?_
  refine ev_ss DL_taken 4 10 (pc' := 16) (lv' := [(4, .int _), (0, .int _), (1, .int _), (2, .ref _), (3, .ref _)]) (st' := [.int _, .ref _, .int _, .int _]) rfl ?_
  refine ev_ialdv DL_taken 14 (k0 := (2 * i)) rfl hzd (nx_mul (a := 2) (b := i) rfl rfl) (by omega) (by decide) ((hD 0 (by decide))) ?_
  refine ev_ss DL_taken 5 15 (pc' := 23) (lv' := [(4, .int _), (0, .int _), (1, .int _), (2, .ref _), (3, .ref _)]) (st' := [.int _, .ref _, .int _, .int _]) rfl ?_
  refine ev_ialdv DL_taken 20 (k0 := ((4 * i) + 2)) rfl hza (nx_add (a := (4 * i)) (b := 2) rfl rfl) (by omega) (by decide) ((hA 2 (by decide))) ?_
  refine ev_ss DL_taken 6 21 (pc' := 30) (lv' := [(4, .int _), (0, .int _), (1, .int _), (2, .ref _), (3, .ref _)]) (st' := [.int _, .ref _, .int _, .int _, .int _]) rfl ?_
  refine ev_ialdv DL_taken 27 (k0 := ((2 * i) + 1)) rfl hzd (nx_add (a := (2 * i)) (b := 1) (nx_mul (a := 2) (b := i) rfl rfl) rfl) (by omega) (by decide) ((hD 1 (by decide))) ?_
  refine ev_ss DL_taken 3 28 (pc' := 35) (lv' := [(4, .int _), (0, .int _), (1, .int _), (2, .ref _), (3, .ref _)]) (st' := [.int 64, .int _, .int _]) rfl ?_
  refine ev_idiv DL_taken 31 rfl (by decide) ?_
  refine ev_ss DL_taken 5 32 (pc' := 43) (lv' := [(4, .int _), (0, .int _), (1, .int _), (2, .ref _), (3, .ref _)]) (st' := [.int _, .ref _, .int _]) rfl ?_
  refine ev_ialdv DL_taken 37 (k0 := (4 * i)) rfl hza rfl (by omega) (by decide) ((hA 0 (by decide))) ?_
  refine ev_idiv DL_taken 38 rfl hg0 ?_
  refine ev_ss DL_taken 5 39 (pc' := 53) (lv' := [(7, .int 0), (6, .int 0), (5, .int _), (4, .int _), (0, .int _), (1, .int _), (2, .ref _), (3, .ref _)]) (st' := []) rfl ?_
  refine ev_ss DL_taken 6 44 (pc' := 61) (lv' := [(7, .int 0), (6, .int 0), (5, .int _), (4, .int _), (0, .int _), (1, .int _), (2, .ref _), (3, .ref _)]) (st' := [.int _, .ref _, .int 1, .int 0]) rfl ?_
  refine ev_ialdv DL_taken 50 (k0 := ((4 * i) + 3)) rfl hza (nx_add (a := (4 * i)) (b := 3) rfl rfl) (by omega) (by decide) (h10) ?_
  refine ev_ss DL_taken 1 51 (pc' := 63) (lv' := [(7, .int 0), (6, .int 0), (5, .int _), (4, .int _), (0, .int _), (1, .int _), (2, .ref _), (3, .ref _)]) (st' := [.int _, .int 0]) rfl ?_
  refine ev_icge DL_taken 52 rfl (tgt := 113) (by decide) (fun h => absurd h (show ¬ (1 : Int32) <<< (nI n &&& 31) ≤ nI 0 by rw [h3]; exact nI_ge (by omega) (by omega))) (fun _ => ?_)
  refine ev_ss DL_taken 4 53 (pc' := 71) (lv' := [(7, .int 0), (6, .int 0), (5, .int _), (4, .int _), (0, .int _), (1, .int _), (2, .ref _), (3, .ref _)]) (st' := [.int _, .ref _]) rfl ?_
  refine ev_ialdv DL_taken 57 (k0 := ((4 * i) + 3)) rfl hza (nx_add (a := (4 * i)) (b := 3) rfl rfl) (by omega) (by decide) (h10) ?_
  refine ev_ss DL_taken 1 58 (pc' := 74) (lv' := [(7, .int 0), (6, .int 0), (5, .int _), (4, .int _), (0, .int _), (1, .int _), (2, .ref _), (3, .ref _)]) (st' := [.int 0, .int _]) rfl ?_
  refine ev_cS DL_taken 59 m_L_amp vL_amp rfl qL_37 rfl (hd_of rfl rfl rfl rfl) ?_
  refine ev_ss DL_taken 2 60 (pc' := 80) (lv' := [(7, .int 0), (6, .int 0), (5, .int _), (4, .int _), (0, .int _), (1, .int _), (2, .ref _), (3, .ref _)]) (st' := [.int _]) rfl ?_
  refine ev_cS DL_taken 62 m_L_size vL_size rfl qL_29 rfl (hd_of rfl rfl rfl rfl) ?_
  refine ev_ss DL_taken 4 63 (pc' := 88) (lv' := [(7, .int 0), (6, .int 0), (5, .int _), (4, .int _), (0, .int _), (1, .int _), (2, .ref _), (3, .ref _)]) (st' := [.int _, .ref _, .int _]) rfl ?_
  refine ev_ialdv DL_taken 67 (k0 := ((4 * i) + 3)) rfl hza (nx_add (a := (4 * i)) (b := 3) rfl rfl) (by omega) (by decide) (h10) ?_
  refine ev_ss DL_taken 1 68 (pc' := 91) (lv' := [(7, .int 0), (6, .int 0), (5, .int _), (4, .int _), (0, .int _), (1, .int _), (2, .ref _), (3, .ref _)]) (st' := [.int 0, .int _, .int _]) rfl ?_
  refine ev_cS DL_taken 69 m_L_amp vL_amp rfl qL_37 rfl (hd_of rfl rfl rfl rfl) ?_
  refine ev_ss DL_taken 2 70 (pc' := 97) (lv' := [(7, .int 0), (6, .int 0), (5, .int _), (4, .int _), (0, .int _), (1, .int _), (2, .ref _), (3, .ref _)]) (st' := [.int _, .int _]) rfl ?_
  refine ev_cS DL_taken 72 m_L_size vL_size rfl qL_29 rfl (hd_of rfl rfl rfl rfl) ?_
  refine ev_icge DL_taken 73 rfl (tgt := 107) (by decide) (fun _ => ?_) (fun h => h.elim (Int32.le_refl _))
  refine ev_ss DL_taken 1 76 (pc' := 110) (lv' := [(7, .int 1), (6, .int 0), (5, .int _), (4, .int _), (0, .int _), (1, .int _), (2, .ref _), (3, .ref _)]) (st' := []) rfl ?_
  refine ev_goto DL_taken 77 rfl (tgt := 53) (by decide) ?_
  refine ev_lvp (lv2 := [(0, .int _), (1, .int _), (2, .ref _), (3, .ref _), (4, .int _), (5, .int _), (6, .int _), (7, .int _)]) [4, 5, 6, 7, 3, 2, 1, 0] rfl ?_
  exact tk_loop (lv := lvP f r) hi hza h10 hn (2 ^ n - 1) 0 _ _ (by omega) rfl rfl
