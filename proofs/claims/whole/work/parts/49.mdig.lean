theorem m_X7_mixZ {E : gE} {ad : Nat → Nat} {ws : va_W} {p : PS} {sv : Nat → PS} {sc len : Nat} {ch : Nat → Int32} {tw : Int32} {hh v : Int64} (hM : ZM E ad ws p sv sc len ch tw hh) : C0 E YX7_mix 0 0 [.ref (ad 214), .long v] ws (fun v9 w9 => v9 = none ∧ ZM E ad w9 p sv sc len ch tw (31 * hh + v) ∧ MO ws w9) := by
  obtain ⟨ea, iw, z, rw, as, l, hs, hq, er, bf, ⟨h, -⟩, -⟩ := id hM
  refine c0_mono (m_X7_mix h) (fun v w hvw => ?_)
  obtain ⟨rfl, rfl⟩ := hvw
  exact ⟨rfl, hM.ob (wset_get h) (fun j a b => List.getElem?_set_ne (by omega)), MO.set (by decide) (by decide)⟩
set_option maxRecDepth 100000 in
set_option maxHeartbeats 4000000 in
theorem mw_tone {E : gE} {ad : Nat → Nat} {ws : va_W} {p : PS} {sv : Nat → PS} {sc len : Nat} {ch : Nat → Int32} {tw : Int32} {hh : Int64} (hM : ZM E ad ws p sv sc len ch tw hh) {Pr : Option Value → va_W → Prop} {a t : Nat} (ha : a < 2) (ht : t < 8) (hI : WI (pW p a)) (kt : ∀ w, ZM E ad w p sv sc len ch tw (dgT p a t hh) → MO ws w → Ev E YX7_mixWay Pr nX 0 0 94 [(0, .ref (ad 214)), (1, .int (nI a)), (2, .int (nI t))] [] w) : Ev E YX7_mixWay Pr nX 0 0 8 [(0, .ref (ad 214)), (1, .int (nI a)), (2, .int (nI t))] [] ws := by
  have e7 := kOe 7
  have e11 := kOe 11
  have hs1 : stA a t + 7 ≤ 112 := by unfold stA; omega
  have hc1 : acA a t + 11 ≤ 288 := by unfold acA; omega
  have K2 : ∀ (m i : Nat) (x : Int32) (w1 : va_W), i + m = kO 11 → x = nI i → ZM E ad w1 p sv sc len ch tw (mxN (fun j => (pW p a).1 t (7 + j)) i (mxN (fun j => (pW p a).1 t j) (kO 7) hh)) → MO ws w1 → Ev E YX7_mixWay Pr nX 0 0 42 [(0, .ref (ad 214)), (1, .int (nI a)), (2, .int (nI t)), (3, .int x)] [] w1 := by
    intro m
    induction m with
    | zero =>
      intro i x w1 hm hx hM hO
      obtain rfl : i = kO 11 := by omega
      subst hx
      obtain ⟨ea, iw, z, rw, as, l, hs, hq, er, bf, ⟨h, hz, hr, has, hl⟩, ⟨hhs, hha, hbf, he⟩, ⟨hG, hLG⟩, hsv, hlen, hch⟩ := id hM
      refine ev_ss DX7_mixWay_0 2 26 (pc' := 45) (lv' := [(0, .ref _), (1, .int _), (2, .int _), (3, .int _)]) (st' := [.int 11, .int _]) rfl ?_
      refine ev_icge DX7_mixWay_0 28 rfl (tgt := 72) (by decide) (fun _ => ?_) (fun h => h.elim (by rw [e11]; decide))
      refine ev_ss DX7_mixWay_0 4 43 (pc' := 76) (lv' := [(0, .ref _), (1, .int _), (2, .int _), (3, .int _)]) (st' := [.int _, .int _, .ref _, .ref _]) rfl ?_
      refine ev_cV DX7_mixWay_0 47 (m_X7_sureOf h hz hG ha ht) vX7_sureOf rfl qX7_172 rfl h rfl (hd_of rfl rfl rfl rfl) ?_
      refine ev_ss DX7_mixWay_0 1 48 (pc' := 80) (lv' := [(0, .ref _), (1, .int _), (2, .int _), (3, .int _)]) (st' := [.long _, .ref _]) rfl ?_
      refine ev_rV DX7_mixWay_0 49 (m_X7_mixZ hM) vX7_mix rfl qX7_209 rfl h rfl (hd_of rfl rfl rfl rfl) (fun v w hvw => ?_)
      obtain ⟨rfl, hM, hO2⟩ := hvw
      replace hO := hO.tr hO2
      obtain ⟨ea, iw, z, rw, as, l, hs, hq, er, bf, ⟨h, hz, hr, has, hl⟩, ⟨hhs, hha, hbf, he⟩, ⟨hG, hLG⟩, hsv, hlen, hch⟩ := id hM
      refine ev_ss DX7_mixWay_0 4 50 (pc' := 87) (lv' := [(0, .ref _), (1, .int _), (2, .int _), (3, .int _)]) (st' := [.int _, .int _, .ref _, .ref _]) rfl ?_
      refine ev_rV DX7_mixWay_0 54 (m_X7_hurtsOf hM ha ht hI) vX7_hurtsOf rfl qX7_196 rfl h rfl (hd_of rfl rfl rfl rfl) (fun v w hvw => ?_)
      obtain ⟨rfl, hM, hO2⟩ := hvw
      replace hO := hO.tr hO2
      obtain ⟨ea, iw, z, rw, as, l, hs, hq, er, bf, ⟨h, hz, hr, has, hl⟩, ⟨hhs, hha, hbf, he⟩, ⟨hG, hLG⟩, hsv, hlen, hch⟩ := id hM
      refine ev_ss DX7_mixWay_0 1 55 (pc' := 91) (lv' := [(0, .ref _), (1, .int _), (2, .int _), (3, .int _)]) (st' := [.long _, .ref _]) rfl ?_
      refine ev_rV DX7_mixWay_0 56 (m_X7_mixZ hM) vX7_mix rfl qX7_209 rfl h rfl (hd_of rfl rfl rfl rfl) (fun v w hvw => ?_)
      obtain ⟨rfl, hM, hO2⟩ := hvw
      replace hO := hO.tr hO2
      obtain ⟨ea, iw, z, rw, as, l, hs, hq, er, bf, ⟨h, hz, hr, has, hl⟩, ⟨hhs, hha, hbf, he⟩, ⟨hG, hLG⟩, hsv, hlen, hch⟩ := id hM
      refine ev_lvp (lv2 := [(0, .ref _), (1, .int _), (2, .int _)]) [0, 1, 2] rfl ?_
      exact kt _ hM hO
    | succ m ih =>
      intro i x w1 hm hx hM hO
      subst hx
      obtain ⟨ea, iw, z, rw, as, l, hs, hq, er, bf, ⟨h, hz, hr, has, hl⟩, ⟨hhs, hha, hbf, he⟩, ⟨hG, hLG⟩, hsv, hlen, hch⟩ := id hM
      refine ev_ss DX7_mixWay_0 2 26 (pc' := 45) (lv' := [(0, .ref _), (1, .int _), (2, .int _), (3, .int _)]) (st' := [.int 11, .int _]) rfl ?_
      refine ev_icge DX7_mixWay_0 28 rfl (tgt := 72) (by decide) (fun h => absurd h (nI_ge (b := 11) (by omega) (by decide))) (fun _ => ?_)
      refine ev_ss DX7_mixWay_0 2 29 (pc' := 50) (lv' := [(0, .ref _), (1, .int _), (2, .int _), (3, .int _)]) (st' := [.ref _, .ref _]) rfl ?_
      refine ev_get DX7_mixWay_0 31 GX7 rfl (k0 := 0) (Nat.le_of_ble_eq_true rfl) fX7_7 h rfl ?_
      refine ev_ss DX7_mixWay_0 3 32 (pc' := 56) (lv' := [(0, .ref _), (1, .int _), (2, .int _), (3, .int _)]) (st' := [.int _, .int _, .ref _, .ref _, .ref _]) rfl ?_
      refine ev_cV DX7_mixWay_0 35 (m_X7_accentAt h) vX7_accentAt rfl qX7_68 rfl h rfl (hd_of rfl rfl rfl rfl) ?_
      refine ev_ss DX7_mixWay_0 2 36 (pc' := 61) (lv' := [(0, .ref _), (1, .int _), (2, .int _), (3, .int _)]) (st' := [.int _, .ref _, .ref _]) rfl ?_
      refine ev_ialdv DX7_mixWay_0 38 (k0 := (acA a t + i)) rfl hz (nx_add (a := acA a t) (b := i) rfl rfl) (by omega) (by decide) ((hG.2.1 a t i ha ht (by omega))) ?_
      refine ev_ss DX7_mixWay_0 1 39 (pc' := 63) (lv' := [(0, .ref _), (1, .int _), (2, .int _), (3, .int _)]) (st' := [.long _, .ref _]) rfl ?_
      refine ev_rV DX7_mixWay_0 40 (m_X7_mixZ hM) vX7_mix rfl qX7_209 rfl h rfl (hd_of rfl rfl rfl rfl) (fun v w hvw => ?_)
      obtain ⟨rfl, hM, hO2⟩ := hvw
      replace hO := hO.tr hO2
      obtain ⟨ea, iw, z, rw, as, l, hs, hq, er, bf, ⟨h, hz, hr, has, hl⟩, ⟨hhs, hha, hbf, he⟩, ⟨hG, hLG⟩, hsv, hlen, hch⟩ := id hM
      refine ev_ss DX7_mixWay_0 1 41 (pc' := 69) (lv' := [(3, .int _), (0, .ref _), (1, .int _), (2, .int _)]) (st' := []) rfl ?_
      refine ev_goto DX7_mixWay_0 42 rfl (tgt := 42) (by decide) ?_
      refine ev_lvp (lv2 := [(0, .ref _), (1, .int _), (2, .int _), (3, .int _)]) [1, 2, 3, 0] rfl ?_
      exact ih (i + 1) _ _ (by omega) (nI_1 i) hM hO
  have K1 : ∀ (m i : Nat) (x : Int32) (w1 : va_W), i + m = kO 7 → x = nI i → ZM E ad w1 p sv sc len ch tw (mxN (fun j => (pW p a).1 t j) i hh) → MO ws w1 → Ev E YX7_mixWay Pr nX 0 0 10 [(0, .ref (ad 214)), (1, .int (nI a)), (2, .int (nI t)), (3, .int x)] [] w1 := by
    intro m
    induction m with
    | zero =>
      intro i x w1 hm hx hM hO
      obtain rfl : i = kO 7 := by omega
      subst hx
      refine ev_ss DX7_mixWay_0 2 7 (pc' := 13) (lv' := [(0, .ref _), (1, .int _), (2, .int _), (3, .int _)]) (st' := [.int 7, .int _]) rfl ?_
      refine ev_icge DX7_mixWay_0 9 rfl (tgt := 40) (by decide) (fun _ => ?_) (fun h => h.elim (by rw [e7]; decide))
      refine ev_ss DX7_mixWay_0 2 24 (pc' := 42) (lv' := [(3, .int 0), (0, .ref _), (1, .int _), (2, .int _)]) (st' := []) rfl ?_
      refine ev_lvp (lv2 := [(0, .ref _), (1, .int _), (2, .int _), (3, .int _)]) [1, 2, 3, 0] rfl ?_
      exact K2 (kO 11) 0 _ w1 (Nat.zero_add _) nI_0.symm hM hO
    | succ m ih =>
      intro i x w1 hm hx hM hO
      subst hx
      obtain ⟨ea, iw, z, rw, as, l, hs, hq, er, bf, ⟨h, hz, hr, has, hl⟩, ⟨hhs, hha, hbf, he⟩, ⟨hG, hLG⟩, hsv, hlen, hch⟩ := id hM
      refine ev_ss DX7_mixWay_0 2 7 (pc' := 13) (lv' := [(0, .ref _), (1, .int _), (2, .int _), (3, .int _)]) (st' := [.int 7, .int _]) rfl ?_
      refine ev_icge DX7_mixWay_0 9 rfl (tgt := 40) (by decide) (fun h => absurd h (nI_ge (b := 7) (by omega) (by decide))) (fun _ => ?_)
      refine ev_ss DX7_mixWay_0 2 10 (pc' := 18) (lv' := [(0, .ref _), (1, .int _), (2, .int _), (3, .int _)]) (st' := [.ref _, .ref _]) rfl ?_
      refine ev_get DX7_mixWay_0 12 GX7 rfl (k0 := 0) (Nat.le_of_ble_eq_true rfl) fX7_7 h rfl ?_
      refine ev_ss DX7_mixWay_0 3 13 (pc' := 24) (lv' := [(0, .ref _), (1, .int _), (2, .int _), (3, .int _)]) (st' := [.int _, .int _, .ref _, .ref _, .ref _]) rfl ?_
      refine ev_cV DX7_mixWay_0 16 (m_X7_streetAt h) vX7_streetAt rfl qX7_64 rfl h rfl (hd_of rfl rfl rfl rfl) ?_
      refine ev_ss DX7_mixWay_0 2 17 (pc' := 29) (lv' := [(0, .ref _), (1, .int _), (2, .int _), (3, .int _)]) (st' := [.int _, .ref _, .ref _]) rfl ?_
      refine ev_ialdv DX7_mixWay_0 19 (k0 := (stA a t + i)) rfl hz (nx_add (a := stA a t) (b := i) rfl rfl) (by omega) (by decide) ((hG.1 a t i ha ht (by omega))) ?_
      refine ev_ss DX7_mixWay_0 1 20 (pc' := 31) (lv' := [(0, .ref _), (1, .int _), (2, .int _), (3, .int _)]) (st' := [.long _, .ref _]) rfl ?_
      refine ev_rV DX7_mixWay_0 21 (m_X7_mixZ hM) vX7_mix rfl qX7_209 rfl h rfl (hd_of rfl rfl rfl rfl) (fun v w hvw => ?_)
      obtain ⟨rfl, hM, hO2⟩ := hvw
      replace hO := hO.tr hO2
      obtain ⟨ea, iw, z, rw, as, l, hs, hq, er, bf, ⟨h, hz, hr, has, hl⟩, ⟨hhs, hha, hbf, he⟩, ⟨hG, hLG⟩, hsv, hlen, hch⟩ := id hM
      refine ev_ss DX7_mixWay_0 1 22 (pc' := 37) (lv' := [(3, .int _), (0, .ref _), (1, .int _), (2, .int _)]) (st' := []) rfl ?_
      refine ev_goto DX7_mixWay_0 23 rfl (tgt := 10) (by decide) ?_
      refine ev_lvp (lv2 := [(0, .ref _), (1, .int _), (2, .int _), (3, .int _)]) [1, 2, 3, 0] rfl ?_
      exact ih (i + 1) _ _ (by omega) (nI_1 i) hM hO
  refine ev_ss DX7_mixWay_0 2 5 (pc' := 10) (lv' := [(3, .int 0), (0, .ref _), (1, .int _), (2, .int _)]) (st' := []) rfl ?_
  refine ev_lvp (lv2 := [(0, .ref _), (1, .int _), (2, .int _), (3, .int _)]) [1, 2, 3, 0] rfl ?_
  exact K1 (kO 7) 0 _ ws (Nat.zero_add _) nI_0.symm hM MO.rf
set_option maxRecDepth 100000 in
set_option maxHeartbeats 4000000 in
theorem m_X7_mixWay {E : gE} {ad : Nat → Nat} {ws : va_W} {p : PS} {sv : Nat → PS} {sc len : Nat} {ch : Nat → Int32} {tw : Int32} {hh : Int64} (hM : ZM E ad ws p sv sc len ch tw hh) {a : Nat} (ha : a < 2) (hI : WI (pW p a)) (hN : LN p a) (hC : CI p a) : C0 E YX7_mixWay 0 0 [.ref (ad 214), .int (nI a)] ws (fun v9 w9 => v9 = none ∧ ZM E ad w9 p sv sc len ch tw (dgW p a (rsP (pW p a).2.2.2.1 (pW p a).2.2.2.2).toInt64 (tnD p a hh (kO 8))) ∧ MO ws w9) := by
  have e8 := kOe 8
  have e3 := kOe 3
  refine c0V vX7_mixWay (Nat.le_of_ble_eq_true rfl) (lv0 := [(0, .ref (ad 214)), (1, .int (nI a))]) rfl ?_
  have K3 : ∀ (m i : Nat) (x : Int32) (w1 : va_W), i + m = kO 3 → x = nI i → ZM E ad w1 p sv sc len ch tw (mxN (ifS p a 5) i (31 * (mxN (fun j => (pW p a).2.1.getD j 0) (pW p a).2.1.length (tnD p a hh (kO 8))) + (pW p a).2.2.1)) → MO ws w1 → Ev E YX7_mixWay (fun v9 w9 => v9 = none ∧ ZM E ad w9 p sv sc len ch tw (dgW p a (rsP (pW p a).2.2.2.1 (pW p a).2.2.2.2).toInt64 (tnD p a hh (kO 8))) ∧ MO ws w9) nX 0 0 155 [(0, .ref (ad 214)), (1, .int (nI a)), (2, .int x)] [] w1 := by
    intro m
    induction m with
    | zero =>
      intro i x w1 hm hx hM hO
      obtain rfl : i = kO 3 := by omega
      subst hx
      obtain ⟨ea, iw, z, rw, as, l, hs, hq, er, bf, ⟨h, hz, hr, has, hl⟩, ⟨hhs, hha, hbf, he⟩, ⟨hG, hLG⟩, hsv, hlen, hch⟩ := id hM
      refine ev_ss DX7_mixWay_0 2 92 (pc' := 157) (lv' := [(0, .ref _), (1, .int _), (2, .int _)]) (st' := [.int 3, .int _]) rfl ?_
      refine ev_icge DX7_mixWay_0 94 rfl (tgt := 178) (by decide) (fun _ => ?_) (fun h => h.elim (by rw [e3]; decide))
      refine ev_ss DX7_mixWay_0 4 105 (pc' := 183) (lv' := [(0, .ref _), (1, .int _), (2, .int _)]) (st' := [.int 12, .int _, .ref _, .ref _]) rfl ?_
      refine ev_rV DX7_mixWay_0 109 (m_X7_learnedOf (n := 12) hM ha (by decide) hN) vX7_learnedOf rfl qX7_184 rfl h rfl (hd_of rfl rfl rfl rfl) (fun v w hvw => ?_)
      obtain ⟨rfl, hM, hO2⟩ := hvw
      replace hO := hO.tr hO2
      obtain ⟨ea, iw, z, rw, as, l, hs, hq, er, bf, ⟨h, hz, hr, has, hl⟩, ⟨hhs, hha, hbf, he⟩, ⟨hG, hLG⟩, hsv, hlen, hch⟩ := id hM
      refine ev_ss DX7_mixWay_0 1 110 (pc' := 187) (lv' := [(0, .ref _), (1, .int _), (2, .int _)]) (st' := [.long _, .ref _]) rfl ?_
      refine ev_rV DX7_mixWay_0 111 (m_X7_mixZ hM) vX7_mix rfl qX7_209 rfl h rfl (hd_of rfl rfl rfl rfl) (fun v w hvw => ?_)
      obtain ⟨rfl, hM, hO2⟩ := hvw
      replace hO := hO.tr hO2
      obtain ⟨ea, iw, z, rw, as, l, hs, hq, er, bf, ⟨h, hz, hr, has, hl⟩, ⟨hhs, hha, hbf, he⟩, ⟨hG, hLG⟩, hsv, hlen, hch⟩ := id hM
      refine ev_ss DX7_mixWay_0 3 112 (pc' := 193) (lv' := [(0, .ref _), (1, .int _), (2, .int _)]) (st' := [.int _, .ref _, .ref _]) rfl ?_
      refine ev_rV DX7_mixWay_0 115 (m_X7_beatsOf hM ha hI) vX7_beatsOf rfl qX7_187 rfl h rfl (hd_of rfl rfl rfl rfl) (fun v w hvw => ?_)
      obtain ⟨rfl, hM, hO2⟩ := hvw
      replace hO := hO.tr hO2
      obtain ⟨ea, iw, z, rw, as, l, hs, hq, er, bf, ⟨h, hz, hr, has, hl⟩, ⟨hhs, hha, hbf, he⟩, ⟨hG, hLG⟩, hsv, hlen, hch⟩ := id hM
      refine ev_ss DX7_mixWay_0 1 116 (pc' := 197) (lv' := [(0, .ref _), (1, .int _), (2, .int _)]) (st' := [.long _, .ref _]) rfl ?_
      refine ev_rV DX7_mixWay_0 117 (m_X7_mixZ hM) vX7_mix rfl qX7_209 rfl h rfl (hd_of rfl rfl rfl rfl) (fun v w hvw => ?_)
      obtain ⟨rfl, hM, hO2⟩ := hvw
      replace hO := hO.tr hO2
      obtain ⟨ea, iw, z, rw, as, l, hs, hq, er, bf, ⟨h, hz, hr, has, hl⟩, ⟨hhs, hha, hbf, he⟩, ⟨hG, hLG⟩, hsv, hlen, hch⟩ := id hM
      refine ev_ss DX7_mixWay_0 2 118 (pc' := 202) (lv' := [(0, .ref _), (1, .int _), (2, .int _)]) (st' := [.ref _, .ref _]) rfl ?_
      refine ev_ss DX7_mixWay_1 1 0 (pc' := 203) (lv' := [(0, .ref _), (1, .int _), (2, .int _)]) (st' := [.int _, .ref _, .ref _]) rfl ?_
      refine ev_rV DX7_mixWay_1 1 (m_X7_lessonOf hM ha hN) vX7_lessonOf rfl qX7_193 rfl h rfl (hd_of rfl rfl rfl rfl) (fun v w hvw => ?_)
      obtain ⟨rfl, hM, hO2⟩ := hvw
      replace hO := hO.tr hO2
      obtain ⟨ea, iw, z, rw, as, l, hs, hq, er, bf, ⟨h, hz, hr, has, hl⟩, ⟨hhs, hha, hbf, he⟩, ⟨hG, hLG⟩, hsv, hlen, hch⟩ := id hM
      refine ev_ss DX7_mixWay_1 1 2 (pc' := 207) (lv' := [(0, .ref _), (1, .int _), (2, .int _)]) (st' := [.long _, .ref _]) rfl ?_
      refine ev_rV DX7_mixWay_1 3 (m_X7_mixZ hM) vX7_mix rfl qX7_209 rfl h rfl (hd_of rfl rfl rfl rfl) (fun v w hvw => ?_)
      obtain ⟨rfl, hM, hO2⟩ := hvw
      replace hO := hO.tr hO2
      obtain ⟨ea, iw, z, rw, as, l, hs, hq, er, bf, ⟨h, hz, hr, has, hl⟩, ⟨hhs, hha, hbf, he⟩, ⟨hG, hLG⟩, hsv, hlen, hch⟩ := id hM
      refine ev_ss DX7_mixWay_1 3 4 (pc' := 213) (lv' := [(0, .ref _), (1, .int _), (2, .int _)]) (st' := [.int _, .ref _, .ref _]) rfl ?_
      refine ev_cV DX7_mixWay_1 7 (m_X7_shareOf h hz hG ha hC) vX7_shareOf rfl qX7_199 rfl h rfl (hd_of rfl rfl rfl rfl) ?_
      refine ev_cS DX7_mixWay_1 8 (m_Jxe99ae_doubleToLongBits_ccdee hC.F) vJxe99ae_doubleToLongBits_ccdee rfl qX7_213 rfl (hd_of rfl rfl rfl rfl) ?_
      refine ev_rV DX7_mixWay_1 9 (m_X7_mixZ hM) vX7_mix rfl qX7_209 rfl h rfl (hd_of rfl rfl rfl rfl) (fun v w hvw => ?_)
      obtain ⟨rfl, hM, hO2⟩ := hvw
      replace hO := hO.tr hO2
      obtain ⟨ea, iw, z, rw, as, l, hs, hq, er, bf, ⟨h, hz, hr, has, hl⟩, ⟨hhs, hha, hbf, he⟩, ⟨hG, hLG⟩, hsv, hlen, hch⟩ := id hM
      exact ev_vret DX7_mixWay_1 10 rfl rfl ⟨rfl, hM, hO⟩
    | succ m ih =>
      intro i x w1 hm hx hM hO
      subst hx
      have hj3 : i < 3 := by omega
      obtain ⟨ea, iw, z, rw, as, l, hs, hq, er, bf, ⟨h, hz, hr, has, hl⟩, ⟨hhs, hha, hbf, he⟩, ⟨hG, hLG⟩, hsv, hlen, hch⟩ := id hM
      refine ev_ss DX7_mixWay_0 2 92 (pc' := 157) (lv' := [(0, .ref _), (1, .int _), (2, .int _)]) (st' := [.int 3, .int _]) rfl ?_
      refine ev_icge DX7_mixWay_0 94 rfl (tgt := 178) (by decide) (fun h => absurd h (nI_ge (b := 3) (by omega) (by decide))) (fun _ => ?_)
      refine ev_ss DX7_mixWay_0 5 95 (pc' := 165) (lv' := [(0, .ref _), (1, .int _), (2, .int _)]) (st' := [.int _, .int 5, .int _, .ref _, .ref _]) rfl ?_
      refine ev_rV DX7_mixWay_0 100 (m_X7_sentOf (n := 5) hM ha (by decide) hI hj3) vX7_sentOf rfl qX7_181 rfl h rfl (hd_of rfl rfl rfl rfl) (fun v w hvw => ?_)
      obtain ⟨rfl, hM, hO2⟩ := hvw
      replace hO := hO.tr hO2
      obtain ⟨ea, iw, z, rw, as, l, hs, hq, er, bf, ⟨h, hz, hr, has, hl⟩, ⟨hhs, hha, hbf, he⟩, ⟨hG, hLG⟩, hsv, hlen, hch⟩ := id hM
      refine ev_ss DX7_mixWay_0 1 101 (pc' := 169) (lv' := [(0, .ref _), (1, .int _), (2, .int _)]) (st' := [.long _, .ref _]) rfl ?_
      refine ev_rV DX7_mixWay_0 102 (m_X7_mixZ hM) vX7_mix rfl qX7_209 rfl h rfl (hd_of rfl rfl rfl rfl) (fun v w hvw => ?_)
      obtain ⟨rfl, hM, hO2⟩ := hvw
      replace hO := hO.tr hO2
      obtain ⟨ea, iw, z, rw, as, l, hs, hq, er, bf, ⟨h, hz, hr, has, hl⟩, ⟨hhs, hha, hbf, he⟩, ⟨hG, hLG⟩, hsv, hlen, hch⟩ := id hM
      refine ev_ss DX7_mixWay_0 1 103 (pc' := 175) (lv' := [(2, .int _), (0, .ref _), (1, .int _)]) (st' := []) rfl ?_
      refine ev_goto DX7_mixWay_0 104 rfl (tgt := 155) (by decide) ?_
      refine ev_lvp (lv2 := [(0, .ref _), (1, .int _), (2, .int _)]) [1, 2, 0] rfl ?_
      exact ih (i + 1) _ _ (by omega) (nI_1 i) hM hO
  have K2 : ∀ (m i : Nat) (x : Int32) (w1 : va_W), i + m = (pW p a).2.1.length → x = nI i → ZM E ad w1 p sv sc len ch tw (mxN (fun j => (pW p a).2.1.getD j 0) i (tnD p a hh (kO 8))) → MO ws w1 → Ev E YX7_mixWay (fun v9 w9 => v9 = none ∧ ZM E ad w9 p sv sc len ch tw (dgW p a (rsP (pW p a).2.2.2.1 (pW p a).2.2.2.2).toInt64 (tnD p a hh (kO 8))) ∧ MO ws w9) nX 0 0 102 [(0, .ref (ad 214)), (1, .int (nI a)), (2, .int x)] [] w1 := by
    intro m
    induction m with
    | zero =>
      intro i x w1 hm hx hM hO
      obtain rfl : i = (pW p a).2.1.length := by omega
      subst hx
      obtain ⟨ea, iw, z, rw, as, l, hs, hq, er, bf, ⟨h, hz, hr, has, hl⟩, ⟨hhs, hha, hbf, he⟩, ⟨hG, hLG⟩, hsv, hlen, hch⟩ := id hM
      have hL := (hG.2.2.2.1 a ha).1
      refine ev_ss DX7_mixWay_0 2 61 (pc' := 104) (lv' := [(0, .ref _), (1, .int _), (2, .int _)]) (st' := [.ref _, .int _]) rfl ?_
      refine ev_get DX7_mixWay_0 63 GX7 rfl (k0 := 0) (Nat.le_of_ble_eq_true rfl) fX7_7 h rfl ?_
      refine ev_ss DX7_mixWay_0 3 64 (pc' := 112) (lv' := [(0, .ref _), (1, .int _), (2, .int _)]) (st' := [.int _, .ref _, .int _]) rfl ?_
      refine ev_ialdv DX7_mixWay_0 67 (k0 := (800 + a)) rfl hz (nx_add (a := 800) (b := a) rfl rfl) (by omega) (by decide) ((hG.2.2.2.1 a ha).2.1) ?_
      refine ev_icge DX7_mixWay_0 68 rfl (tgt := 143) (by decide) (fun _ => ?_) (fun h => h.elim (nI_le (Nat.le_refl _) (by omega)))
      refine ev_ss DX7_mixWay_0 2 84 (pc' := 145) (lv' := [(0, .ref _), (1, .int _), (2, .int _)]) (st' := [.ref _, .ref _]) rfl ?_
      refine ev_get DX7_mixWay_0 86 GX7 rfl (k0 := 3) (Nat.le_of_ble_eq_true rfl) fX7_19 h rfl ?_
      refine ev_ss DX7_mixWay_0 1 87 (pc' := 149) (lv' := [(0, .ref _), (1, .int _), (2, .int _)]) (st' := [.int _, .ref _, .ref _]) rfl ?_
      refine ev_laldv DX7_mixWay_0 88 (k0 := a) rfl hl rfl (by omega) (by decide) ((hLG a ha)) ?_
      refine ev_rV DX7_mixWay_0 89 (m_X7_mixZ hM) vX7_mix rfl qX7_209 rfl h rfl (hd_of rfl rfl rfl rfl) (fun v w hvw => ?_)
      obtain ⟨rfl, hM, hO2⟩ := hvw
      replace hO := hO.tr hO2
      obtain ⟨ea, iw, z, rw, as, l, hs, hq, er, bf, ⟨h, hz, hr, has, hl⟩, ⟨hhs, hha, hbf, he⟩, ⟨hG, hLG⟩, hsv, hlen, hch⟩ := id hM
      refine ev_ss DX7_mixWay_0 2 90 (pc' := 155) (lv' := [(2, .int 0), (0, .ref _), (1, .int _)]) (st' := []) rfl ?_
      refine ev_lvp (lv2 := [(0, .ref _), (1, .int _), (2, .int _)]) [1, 2, 0] rfl ?_
      exact K3 (kO 3) 0 _ _ (Nat.zero_add _) nI_0.symm hM hO
    | succ m ih =>
      intro i x w1 hm hx hM hO
      subst hx
      obtain ⟨ea, iw, z, rw, as, l, hs, hq, er, bf, ⟨h, hz, hr, has, hl⟩, ⟨hhs, hha, hbf, he⟩, ⟨hG, hLG⟩, hsv, hlen, hch⟩ := id hM
      have hL := (hG.2.2.2.1 a ha).1
      refine ev_ss DX7_mixWay_0 2 61 (pc' := 104) (lv' := [(0, .ref _), (1, .int _), (2, .int _)]) (st' := [.ref _, .int _]) rfl ?_
      refine ev_get DX7_mixWay_0 63 GX7 rfl (k0 := 0) (Nat.le_of_ble_eq_true rfl) fX7_7 h rfl ?_
      refine ev_ss DX7_mixWay_0 3 64 (pc' := 112) (lv' := [(0, .ref _), (1, .int _), (2, .int _)]) (st' := [.int _, .ref _, .int _]) rfl ?_
      refine ev_ialdv DX7_mixWay_0 67 (k0 := (800 + a)) rfl hz (nx_add (a := 800) (b := a) rfl rfl) (by omega) (by decide) ((hG.2.2.2.1 a ha).2.1) ?_
      refine ev_icge DX7_mixWay_0 68 rfl (tgt := 143) (by decide) (fun h => absurd h (nI_ge (b := (pW p a).2.1.length) (by omega) (by omega))) (fun _ => ?_)
      refine ev_ss DX7_mixWay_0 2 69 (pc' := 118) (lv' := [(0, .ref _), (1, .int _), (2, .int _)]) (st' := [.ref _, .ref _]) rfl ?_
      refine ev_get DX7_mixWay_0 71 GX7 rfl (k0 := 0) (Nat.le_of_ble_eq_true rfl) fX7_7 h rfl ?_
      refine ev_ss DX7_mixWay_0 7 72 (pc' := 132) (lv' := [(0, .ref _), (1, .int _), (2, .int _)]) (st' := [.int _, .ref _, .ref _]) rfl ?_
      refine ev_ialdv DX7_mixWay_0 79 (k0 := ((288 + (256 * a)) + i)) rfl hz (nx_add (a := (288 + (256 * a))) (b := i) (nx_add (a := 288) (b := (256 * a)) rfl (nx_mul (a := 256) (b := a) rfl rfl)) rfl) (by omega) (by decide) ((hG.2.2.1 a i ha (by omega))) ?_
      refine ev_ss DX7_mixWay_0 1 80 (pc' := 134) (lv' := [(0, .ref _), (1, .int _), (2, .int _)]) (st' := [.long _, .ref _]) rfl ?_
      refine ev_rV DX7_mixWay_0 81 (m_X7_mixZ hM) vX7_mix rfl qX7_209 rfl h rfl (hd_of rfl rfl rfl rfl) (fun v w hvw => ?_)
      obtain ⟨rfl, hM, hO2⟩ := hvw
      replace hO := hO.tr hO2
      obtain ⟨ea, iw, z, rw, as, l, hs, hq, er, bf, ⟨h, hz, hr, has, hl⟩, ⟨hhs, hha, hbf, he⟩, ⟨hG, hLG⟩, hsv, hlen, hch⟩ := id hM
      refine ev_ss DX7_mixWay_0 1 82 (pc' := 140) (lv' := [(2, .int _), (0, .ref _), (1, .int _)]) (st' := []) rfl ?_
      refine ev_goto DX7_mixWay_0 83 rfl (tgt := 102) (by decide) ?_
      refine ev_lvp (lv2 := [(0, .ref _), (1, .int _), (2, .int _)]) [1, 2, 0] rfl ?_
      exact ih (i + 1) _ _ (by omega) (nI_1 i) hM hO
  have K1 : ∀ (m i : Nat) (x : Int32) (w1 : va_W), i + m = kO 8 → x = nI i → ZM E ad w1 p sv sc len ch tw (tnD p a hh i) → MO ws w1 → Ev E YX7_mixWay (fun v9 w9 => v9 = none ∧ ZM E ad w9 p sv sc len ch tw (dgW p a (rsP (pW p a).2.2.2.1 (pW p a).2.2.2.2).toInt64 (tnD p a hh (kO 8))) ∧ MO ws w9) nX 0 0 2 [(0, .ref (ad 214)), (1, .int (nI a)), (2, .int x)] [] w1 := by
    intro m
    induction m with
    | zero =>
      intro i x w1 hm hx hM hO
      obtain rfl : i = kO 8 := by omega
      subst hx
      refine ev_ss DX7_mixWay_0 2 2 (pc' := 5) (lv' := [(0, .ref _), (1, .int _), (2, .int _)]) (st' := [.int 8, .int _]) rfl ?_
      refine ev_icge DX7_mixWay_0 4 rfl (tgt := 100) (by decide) (fun _ => ?_) (fun h => h.elim (by rw [e8]; decide))
      refine ev_ss DX7_mixWay_0 2 59 (pc' := 102) (lv' := [(2, .int 0), (0, .ref _), (1, .int _)]) (st' := []) rfl ?_
      refine ev_lvp (lv2 := [(0, .ref _), (1, .int _), (2, .int _)]) [1, 2, 0] rfl ?_
      exact K2 (pW p a).2.1.length 0 _ w1 (Nat.zero_add _) nI_0.symm hM hO
    | succ m ih =>
      intro i x w1 hm hx hM hO
      subst hx
      refine ev_ss DX7_mixWay_0 2 2 (pc' := 5) (lv' := [(0, .ref _), (1, .int _), (2, .int _)]) (st' := [.int 8, .int _]) rfl ?_
      refine ev_icge DX7_mixWay_0 4 rfl (tgt := 100) (by decide) (fun h => absurd h (nI_ge (b := 8) (by omega) (by decide))) (fun _ => ?_)
      refine ev_lvp (lv2 := [(0, .ref _), (1, .int _), (2, .int _)]) [0, 1, 2] rfl ?_
      refine mw_tone hM ha (t := i) (by omega) hI (fun w hM2 hO2 => ?_)
      refine ev_ss DX7_mixWay_0 1 57 (pc' := 97) (lv' := [(2, .int _), (0, .ref _), (1, .int _)]) (st' := []) rfl ?_
      refine ev_goto DX7_mixWay_0 58 rfl (tgt := 2) (by decide) ?_
      refine ev_lvp (lv2 := [(0, .ref _), (1, .int _), (2, .int _)]) [1, 2, 0] rfl ?_
      exact ih (i + 1) _ _ (by omega) (nI_1 i) hM2 (hO.tr hO2)
  refine ev_ss DX7_mixWay_0 2 0 (pc' := 2) (lv' := [(2, .int 0), (0, .ref _), (1, .int _)]) (st' := []) rfl ?_
  refine ev_lvp (lv2 := [(0, .ref _), (1, .int _), (2, .int _)]) [1, 2, 0] rfl ?_
  exact K1 (kO 8) 0 _ ws (Nat.zero_add _) nI_0.symm hM MO.rf
set_option maxRecDepth 100000 in
set_option maxHeartbeats 4000000 in
theorem m_X7_digest {E : gE} {ad : Nat → Nat} {ws : va_W} {p : PS} {sv : Nat → PS} {sc len : Nat} {ch : Nat → Int32} {tw : Int32} {hh : Int64} (hM : ZM E ad ws p sv sc len ch tw hh) (hI : ∀ a, a < 2 → WI (pW p a)) (hN : ∀ a, a < 2 → LN p a) (hC : ∀ a, a < 2 → CI p a) : C0 E YX7_digest 0 0 [.ref (ad 214)] ws (fun v9 w9 => v9 = some (.long (dgA p sc len ch (fun a => (rsP (pW p a).2.2.2.1 (pW p a).2.2.2.2).toInt64))) ∧ ZM E ad w9 p sv sc len ch 0 (dgA p sc len ch (fun a => (rsP (pW p a).2.2.2.1 (pW p a).2.2.2.2).toInt64)) ∧ MO ws w9) := by
  obtain ⟨ea, iw, z, rw, as, l, hs, hq, er, bf, ⟨h, hz, hr, has, hl⟩, ⟨hhs, hha, hbf, he⟩, ⟨hG, hLG⟩, hsv, hlen, hch⟩ := id hM
  have e13 := kOe 13
  have e3 := kOe 3
  have e2 := kOe 2
  refine c0V vX7_digest (Nat.le_of_ble_eq_true rfl) (lv0 := [(0, .ref (ad 214))]) rfl ?_
  have K4 : ∀ (m i : Nat) (x : Int32) (w1 : va_W), i + m = len → x = nI i → ZM E ad w1 p sv sc len ch 0 (mxN ch i (31 * wyD p (fun a => (rsP (pW p a).2.2.2.1 (pW p a).2.2.2.2).toInt64) (mxN p.2.2.1 (kO 3) (mxN (cntV p sc) (kO 13) 2417)) (kO 2) + (nI len).toInt64)) → MO ws w1 → Ev E YX7_digest (fun v9 w9 => v9 = some (.long (dgA p sc len ch (fun a => (rsP (pW p a).2.2.2.1 (pW p a).2.2.2.2).toInt64))) ∧ ZM E ad w9 p sv sc len ch 0 (dgA p sc len ch (fun a => (rsP (pW p a).2.2.2.1 (pW p a).2.2.2.2).toInt64)) ∧ MO ws w9) nX 0 0 93 [(0, .ref (ad 214)), (1, .int x)] [] w1 := by
    intro m
    induction m with
    | zero =>
      intro i x w1 hm hx hM hO
      obtain rfl : i = len := by omega
      subst hx
      obtain ⟨ea, iw, z, rw, as, l, hs, hq, er, bf, ⟨h, hz, hr, has, hl⟩, ⟨hhs, hha, hbf, he⟩, ⟨hG, hLG⟩, hsv, hlen, hch⟩ := id hM
      refine ev_ss DX7_digest 2 52 (pc' := 95) (lv' := [(0, .ref _), (1, .int _)]) (st' := [.ref _, .int _]) rfl ?_
      refine ev_get DX7_digest 54 GX7 rfl (k0 := 8) (Nat.le_of_ble_eq_true rfl) fX7_140 h rfl ?_
      refine ev_icge DX7_digest 55 rfl (tgt := 118) (by decide) (fun _ => ?_) (fun h => h.elim (nI_le (Nat.le_refl _) (by omega)))
      refine ev_ss DX7_digest 1 65 (pc' := 119) (lv' := [(0, .ref _), (1, .int _)]) (st' := [.ref _]) rfl ?_
      refine ev_get DX7_digest 66 GX7 rfl (k0 := 13) (Nat.le_of_ble_eq_true rfl) fX7_205 h rfl ?_
      exact ev_lret DX7_digest 67 rfl rfl ⟨rfl, hM, hO⟩
    | succ m ih =>
      intro i x w1 hm hx hM hO
      subst hx
      obtain ⟨ea, iw, z, rw, as, l, hs, hq, er, bf, ⟨h, hz, hr, has, hl⟩, ⟨hhs, hha, hbf, he⟩, ⟨hG, hLG⟩, hsv, hlen, hch⟩ := id hM
      refine ev_ss DX7_digest 2 52 (pc' := 95) (lv' := [(0, .ref _), (1, .int _)]) (st' := [.ref _, .int _]) rfl ?_
      refine ev_get DX7_digest 54 GX7 rfl (k0 := 8) (Nat.le_of_ble_eq_true rfl) fX7_140 h rfl ?_
      refine ev_icge DX7_digest 55 rfl (tgt := 118) (by decide) (fun h => absurd h (nI_ge (b := len) (by omega) (by omega))) (fun _ => ?_)
      refine ev_ss DX7_digest 2 56 (pc' := 103) (lv' := [(0, .ref _), (1, .int _)]) (st' := [.ref _, .ref _]) rfl ?_
      refine ev_get DX7_digest 58 GX7 rfl (k0 := 7) (Nat.le_of_ble_eq_true rfl) fX7_29 h rfl ?_
      refine ev_ss DX7_digest 1 59 (pc' := 107) (lv' := [(0, .ref _), (1, .int _)]) (st' := [.int _, .ref _, .ref _]) rfl ?_
      refine ev_ialdv DX7_digest 60 (k0 := i) rfl hbf rfl (by omega) (by decide) ((hch i (by omega))) ?_
      refine ev_ss DX7_digest 1 61 (pc' := 109) (lv' := [(0, .ref _), (1, .int _)]) (st' := [.long _, .ref _]) rfl ?_
      refine ev_rV DX7_digest 62 (m_X7_mixZ hM) vX7_mix rfl qX7_209 rfl h rfl (hd_of rfl rfl rfl rfl) (fun v w hvw => ?_)
      obtain ⟨rfl, hM, hO2⟩ := hvw
      replace hO := hO.tr hO2
      obtain ⟨ea, iw, z, rw, as, l, hs, hq, er, bf, ⟨h, hz, hr, has, hl⟩, ⟨hhs, hha, hbf, he⟩, ⟨hG, hLG⟩, hsv, hlen, hch⟩ := id hM
      refine ev_ss DX7_digest 1 63 (pc' := 115) (lv' := [(1, .int _), (0, .ref _)]) (st' := []) rfl ?_
      refine ev_goto DX7_digest 64 rfl (tgt := 93) (by decide) ?_
      refine ev_lvp (lv2 := [(0, .ref _), (1, .int _)]) [1, 0] rfl ?_
      exact ih (i + 1) _ _ (by omega) (nI_1 i) hM hO
  have K3 : ∀ (m i : Nat) (x : Int32) (w1 : va_W), i + m = kO 2 → x = nI i → ZM E ad w1 p sv sc len ch 0 (wyD p (fun a => (rsP (pW p a).2.2.2.1 (pW p a).2.2.2.2).toInt64) (mxN p.2.2.1 (kO 3) (mxN (cntV p sc) (kO 13) 2417)) i) → MO ws w1 → Ev E YX7_digest (fun v9 w9 => v9 = some (.long (dgA p sc len ch (fun a => (rsP (pW p a).2.2.2.1 (pW p a).2.2.2.2).toInt64))) ∧ ZM E ad w9 p sv sc len ch 0 (dgA p sc len ch (fun a => (rsP (pW p a).2.2.2.1 (pW p a).2.2.2.2).toInt64)) ∧ MO ws w9) nX 0 0 66 [(0, .ref (ad 214)), (1, .int x)] [] w1 := by
    intro m
    induction m with
    | zero =>
      intro i x w1 hm hx hM hO
      obtain rfl : i = kO 2 := by omega
      subst hx
      obtain ⟨ea, iw, z, rw, as, l, hs, hq, er, bf, ⟨h, hz, hr, has, hl⟩, ⟨hhs, hha, hbf, he⟩, ⟨hG, hLG⟩, hsv, hlen, hch⟩ := id hM
      refine ev_ss DX7_digest 2 37 (pc' := 68) (lv' := [(0, .ref _), (1, .int _)]) (st' := [.int 2, .int _]) rfl ?_
      refine ev_icge DX7_digest 39 rfl (tgt := 82) (by decide) (fun _ => ?_) (fun h => h.elim (by rw [e2]; decide))
      refine ev_ss DX7_digest 2 45 (pc' := 84) (lv' := [(0, .ref _), (1, .int _)]) (st' := [.ref _, .ref _]) rfl ?_
      refine ev_get DX7_digest 47 GX7 rfl (k0 := 8) (Nat.le_of_ble_eq_true rfl) fX7_140 h rfl ?_
      refine ev_ss DX7_digest 1 48 (pc' := 88) (lv' := [(0, .ref _), (1, .int _)]) (st' := [.long _, .ref _]) rfl ?_
      refine ev_rV DX7_digest 49 (m_X7_mixZ hM) vX7_mix rfl qX7_209 rfl h rfl (hd_of rfl rfl rfl rfl) (fun v w hvw => ?_)
      obtain ⟨rfl, hM, hO2⟩ := hvw
      replace hO := hO.tr hO2
      obtain ⟨ea, iw, z, rw, as, l, hs, hq, er, bf, ⟨h, hz, hr, has, hl⟩, ⟨hhs, hha, hbf, he⟩, ⟨hG, hLG⟩, hsv, hlen, hch⟩ := id hM
      refine ev_ss DX7_digest 2 50 (pc' := 93) (lv' := [(1, .int 0), (0, .ref _)]) (st' := []) rfl ?_
      refine ev_lvp (lv2 := [(0, .ref _), (1, .int _)]) [1, 0] rfl ?_
      exact K4 len 0 _ _ (Nat.zero_add _) nI_0.symm hM hO
    | succ m ih =>
      intro i x w1 hm hx hM hO
      subst hx
      obtain ⟨ea, iw, z, rw, as, l, hs, hq, er, bf, ⟨h, hz, hr, has, hl⟩, ⟨hhs, hha, hbf, he⟩, ⟨hG, hLG⟩, hsv, hlen, hch⟩ := id hM
      refine ev_ss DX7_digest 2 37 (pc' := 68) (lv' := [(0, .ref _), (1, .int _)]) (st' := [.int 2, .int _]) rfl ?_
      refine ev_icge DX7_digest 39 rfl (tgt := 82) (by decide) (fun h => absurd h (nI_ge (b := 2) (by omega) (by decide))) (fun _ => ?_)
      refine ev_ss DX7_digest 2 40 (pc' := 73) (lv' := [(0, .ref _), (1, .int _)]) (st' := [.int _, .ref _]) rfl ?_
      refine ev_rV DX7_digest 42 (m_X7_mixWay hM (a := i) (by omega) (hI i (by omega)) (hN i (by omega)) (hC i (by omega))) vX7_mixWay rfl qX7_221 rfl h rfl (hd_of rfl rfl rfl rfl) (fun v w hvw => ?_)
      obtain ⟨rfl, hM, hO2⟩ := hvw
      replace hO := hO.tr hO2
      obtain ⟨ea, iw, z, rw, as, l, hs, hq, er, bf, ⟨h, hz, hr, has, hl⟩, ⟨hhs, hha, hbf, he⟩, ⟨hG, hLG⟩, hsv, hlen, hch⟩ := id hM
      refine ev_ss DX7_digest 1 43 (pc' := 79) (lv' := [(1, .int _), (0, .ref _)]) (st' := []) rfl ?_
      refine ev_goto DX7_digest 44 rfl (tgt := 66) (by decide) ?_
      refine ev_lvp (lv2 := [(0, .ref _), (1, .int _)]) [1, 0] rfl ?_
      exact ih (i + 1) _ _ (by omega) (nI_1 i) hM hO
  have K2 : ∀ (m i : Nat) (x : Int32) (w1 : va_W), i + m = kO 3 → x = nI i → ZM E ad w1 p sv sc len ch 0 (mxN p.2.2.1 i (mxN (cntV p sc) (kO 13) 2417)) → MO ws w1 → Ev E YX7_digest (fun v9 w9 => v9 = some (.long (dgA p sc len ch (fun a => (rsP (pW p a).2.2.2.1 (pW p a).2.2.2.2).toInt64))) ∧ ZM E ad w9 p sv sc len ch 0 (dgA p sc len ch (fun a => (rsP (pW p a).2.2.2.1 (pW p a).2.2.2.2).toInt64)) ∧ MO ws w9) nX 0 0 38 [(0, .ref (ad 214)), (1, .int x)] [] w1 := by
    intro m
    induction m with
    | zero =>
      intro i x w1 hm hx hM hO
      obtain rfl : i = kO 3 := by omega
      subst hx
      obtain ⟨ea, iw, z, rw, as, l, hs, hq, er, bf, ⟨h, hz, hr, has, hl⟩, ⟨hhs, hha, hbf, he⟩, ⟨hG, hLG⟩, hsv, hlen, hch⟩ := id hM
      refine ev_ss DX7_digest 2 21 (pc' := 40) (lv' := [(0, .ref _), (1, .int _)]) (st' := [.int 3, .int _]) rfl ?_
      refine ev_icge DX7_digest 23 rfl (tgt := 64) (by decide) (fun _ => ?_) (fun h => h.elim (by rw [e3]; decide))
      refine ev_ss DX7_digest 2 35 (pc' := 66) (lv' := [(1, .int 0), (0, .ref _)]) (st' := []) rfl ?_
      refine ev_lvp (lv2 := [(0, .ref _), (1, .int _)]) [1, 0] rfl ?_
      exact K3 (kO 2) 0 _ _ (Nat.zero_add _) nI_0.symm hM hO
    | succ m ih =>
      intro i x w1 hm hx hM hO
      subst hx
      obtain ⟨ea, iw, z, rw, as, l, hs, hq, er, bf, ⟨h, hz, hr, has, hl⟩, ⟨hhs, hha, hbf, he⟩, ⟨hG, hLG⟩, hsv, hlen, hch⟩ := id hM
      refine ev_ss DX7_digest 2 21 (pc' := 40) (lv' := [(0, .ref _), (1, .int _)]) (st' := [.int 3, .int _]) rfl ?_
      refine ev_icge DX7_digest 23 rfl (tgt := 64) (by decide) (fun h => absurd h (nI_ge (b := 3) (by omega) (by decide))) (fun _ => ?_)
      refine ev_ss DX7_digest 2 24 (pc' := 45) (lv' := [(0, .ref _), (1, .int _)]) (st' := [.ref _, .ref _]) rfl ?_
      refine ev_get DX7_digest 26 GX7 rfl (k0 := 0) (Nat.le_of_ble_eq_true rfl) fX7_7 h rfl ?_
      refine ev_ss DX7_digest 3 27 (pc' := 53) (lv' := [(0, .ref _), (1, .int _)]) (st' := [.int _, .ref _, .ref _]) rfl ?_
      refine ev_ialdv DX7_digest 30 (k0 := (808 + i)) rfl hz (nx_add (a := 808) (b := i) rfl rfl) (by omega) (by decide) ((hG.2.2.2.2.2.2 i (by omega))) ?_
      refine ev_ss DX7_digest 1 31 (pc' := 55) (lv' := [(0, .ref _), (1, .int _)]) (st' := [.long _, .ref _]) rfl ?_
      refine ev_rV DX7_digest 32 (m_X7_mixZ hM) vX7_mix rfl qX7_209 rfl h rfl (hd_of rfl rfl rfl rfl) (fun v w hvw => ?_)
      obtain ⟨rfl, hM, hO2⟩ := hvw
      replace hO := hO.tr hO2
      obtain ⟨ea, iw, z, rw, as, l, hs, hq, er, bf, ⟨h, hz, hr, has, hl⟩, ⟨hhs, hha, hbf, he⟩, ⟨hG, hLG⟩, hsv, hlen, hch⟩ := id hM
      refine ev_ss DX7_digest 1 33 (pc' := 61) (lv' := [(1, .int _), (0, .ref _)]) (st' := []) rfl ?_
      refine ev_goto DX7_digest 34 rfl (tgt := 38) (by decide) ?_
      refine ev_lvp (lv2 := [(0, .ref _), (1, .int _)]) [1, 0] rfl ?_
      exact ih (i + 1) _ _ (by omega) (nI_1 i) hM hO
  have K1 : ∀ (m i : Nat) (x : Int32) (w1 : va_W), i + m = kO 13 → x = nI i → ZM E ad w1 p sv sc len ch 0 (mxN (cntV p sc) i 2417) → MO ws w1 → Ev E YX7_digest (fun v9 w9 => v9 = some (.long (dgA p sc len ch (fun a => (rsP (pW p a).2.2.2.1 (pW p a).2.2.2.2).toInt64))) ∧ ZM E ad w9 p sv sc len ch 0 (dgA p sc len ch (fun a => (rsP (pW p a).2.2.2.1 (pW p a).2.2.2.2).toInt64)) ∧ MO ws w9) nX 0 0 14 [(0, .ref (ad 214)), (1, .int x)] [] w1 := by
    intro m
    induction m with
    | zero =>
      intro i x w1 hm hx hM hO
      obtain rfl : i = kO 13 := by omega
      subst hx
      obtain ⟨ea, iw, z, rw, as, l, hs, hq, er, bf, ⟨h, hz, hr, has, hl⟩, ⟨hhs, hha, hbf, he⟩, ⟨hG, hLG⟩, hsv, hlen, hch⟩ := id hM
      refine ev_ss DX7_digest 2 8 (pc' := 17) (lv' := [(0, .ref _), (1, .int _)]) (st' := [.int 13, .int _]) rfl ?_
      refine ev_icge DX7_digest 10 rfl (tgt := 36) (by decide) (fun _ => ?_) (fun h => h.elim (by rw [e13]; decide))
      refine ev_ss DX7_digest 2 19 (pc' := 38) (lv' := [(1, .int 0), (0, .ref _)]) (st' := []) rfl ?_
      refine ev_lvp (lv2 := [(0, .ref _), (1, .int _)]) [1, 0] rfl ?_
      exact K2 (kO 3) 0 _ _ (Nat.zero_add _) nI_0.symm hM hO
    | succ m ih =>
      intro i x w1 hm hx hM hO
      subst hx
      obtain ⟨ea, iw, z, rw, as, l, hs, hq, er, bf, ⟨h, hz, hr, has, hl⟩, ⟨hhs, hha, hbf, he⟩, ⟨hG, hLG⟩, hsv, hlen, hch⟩ := id hM
      refine ev_ss DX7_digest 2 8 (pc' := 17) (lv' := [(0, .ref _), (1, .int _)]) (st' := [.int 13, .int _]) rfl ?_
      refine ev_icge DX7_digest 10 rfl (tgt := 36) (by decide) (fun h => absurd h (nI_ge (b := 13) (by omega) (by decide))) (fun _ => ?_)
      refine ev_ss DX7_digest 3 11 (pc' := 23) (lv' := [(0, .ref _), (1, .int _)]) (st' := [.int _, .ref _, .ref _]) rfl ?_
      refine ev_cV DX7_digest 14 (m_X7_counted h hz hG (j := i) (by omega)) vX7_counted rfl qX7_169 rfl h rfl (hd_of rfl rfl rfl rfl) ?_
      refine ev_ss DX7_digest 1 15 (pc' := 27) (lv' := [(0, .ref _), (1, .int _)]) (st' := [.long _, .ref _]) rfl ?_
      refine ev_rV DX7_digest 16 (m_X7_mixZ hM) vX7_mix rfl qX7_209 rfl h rfl (hd_of rfl rfl rfl rfl) (fun v w hvw => ?_)
      obtain ⟨rfl, hM, hO2⟩ := hvw
      replace hO := hO.tr hO2
      obtain ⟨ea, iw, z, rw, as, l, hs, hq, er, bf, ⟨h, hz, hr, has, hl⟩, ⟨hhs, hha, hbf, he⟩, ⟨hG, hLG⟩, hsv, hlen, hch⟩ := id hM
      refine ev_ss DX7_digest 1 17 (pc' := 33) (lv' := [(1, .int _), (0, .ref _)]) (st' := []) rfl ?_
      refine ev_goto DX7_digest 18 rfl (tgt := 14) (by decide) ?_
      refine ev_lvp (lv2 := [(0, .ref _), (1, .int _)]) [1, 0] rfl ?_
      exact ih (i + 1) _ _ (by omega) (nI_1 i) hM hO
  refine ev_ss DX7_digest 2 0 (pc' := 2) (lv' := [(0, .ref _)]) (st' := [.int 0, .ref _]) rfl ?_
  refine ev_put (fs' := [_, _, _, _, _, _, _, _, _, _, _, _, _, _]) DX7_digest 2 GX7 rfl (k0 := 9) (Nat.le_of_ble_eq_true rfl) fX7_35 rfl ⟨rfl, rfl⟩ h (Nat.le_of_ble_eq_true rfl) rfl rfl ?_
  refine ev_ss DX7_digest 1 3 (pc' := 6) (lv' := [(0, .ref _)]) (st' := [.ref _]) rfl ?_
  refine ev_ldc2 DX7_digest 4 rfl kX7_219 ?_
  refine ev_put (fs' := [_, _, _, _, _, _, _, _, _, _, _, _, _, _]) DX7_digest 5 GX7 rfl (k0 := 13) (Nat.le_of_ble_eq_true rfl) fX7_205 rfl ⟨rfl, rfl⟩ (wset_get h) (Nat.le_of_ble_eq_true rfl) rfl wset_set ?_
  refine ev_ss DX7_digest 2 6 (pc' := 14) (lv' := [(1, .int 0), (0, .ref _)]) (st' := []) rfl ?_
  refine ev_lvp (lv2 := [(0, .ref _), (1, .int _)]) [1, 0] rfl ?_
  exact K1 (kO 13) 0 _ _ (Nat.zero_add _) nI_0.symm (hM.ob (wset_get h) (fun j a b => List.getElem?_set_ne (by omega))) (MO.set (by decide) (by decide))
