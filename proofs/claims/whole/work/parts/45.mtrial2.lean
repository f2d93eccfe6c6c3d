theorem bt_1 {m sd : Int32} {σ : WS} {i : Nat} : (btN m (btN m sd σ i).2.1 (btN m sd σ i).2.2 1).2 = (btN m sd σ (i + 1)).2 := rfl
theorem bfW_n {m2 sd : Int32} {σ : WS} {m i : Nat} : bfW m2 (m + 1) i (btN m2 sd σ i).2.1 (btN m2 sd σ i).2.2 = if nI (btN m2 sd σ i).2.2.2.1.length = 0 then nI i else bfW m2 m (i + 1) (btN m2 sd σ (i + 1)).2.1 (btN m2 sd σ (i + 1)).2.2 := by
  rw [bfW_s, bt_1]
/-- what the trials have put aside, and what they go back to -/
def AS_ (E : gE) (ad : Nat → Nat) (w : va_W) (z : Nat → Int32) (l : Nat → Int64) : Prop := (∃ g, w[217]? = some (ad 217, iaC E 811 g) ∧ ∀ j, j < 811 → g j = z j) ∧ (∃ g, w[220]? = some (ad 220, laC E 2 g) ∧ ∀ j, j < 2 → g j = l j)
theorem AS_.of {E : gE} {ad : Nat → Nat} {w w2 : va_W} {z : Nat → Int32} {l : Nat → Int64} (h : AS_ E ad w z l) (h1 : w2[217]? = w[217]?) (h2 : w2[220]? = w[220]?) : AS_ E ad w2 z l := by
  unfold AS_
  rw [h1, h2]
  exact h
def TF5 (ws w : va_W) : Prop := ∀ j, j ≠ 215 → j ≠ 217 → j ≠ 218 → j ≠ 220 → j ≠ 222 → w[j]? = ws[j]?
theorem TF5.tr {ws w w2 : va_W} (h : TF5 ws w) (h2 : TF5 w w2) : TF5 ws w2 := fun j a b c d e => (h2 j a b c d e).trans (h j a b c d e)
theorem NH.t5 {ws w : va_W} (h : NH ws w) : TF5 ws w := fun j a _ b _ _ => h j a b
theorem NE.t5 {ws w : va_W} (h : NE ws w) : TF5 ws w := fun j a _ _ _ b => h j a b
theorem NZ.t5 {ws w : va_W} (h : NZ ws w) : TF5 ws w := fun j a _ _ _ _ => h j a
set_option maxRecDepth 100000 in
set_option maxHeartbeats 4000000 in
theorem m_pa {E : gE} {ad : Nat → Nat} {ws : va_W} {p : PS} {sv : Nat → PS} {sc len : Nat} {ch : Nat → Int32} {tw : Int32} {hh : Int64} (hM : ZM E ad ws p sv sc len ch tw hh) : ∃ (ea iw : Int32) (z : Nat → Int32) (l : Nat → Int64), (ws[214]? = some (ad 214, moC ad (nI sc) (nI len) tw ea iw hh) ∧ ZG z p ∧ LG l p) ∧ C0 E YX7_putAside 0 0 [.ref (ad 214)] ws (fun v w => v = none ∧ (w[214]? = some (ad 214, moC ad (nI sc) (nI len) tw ea iw hh) ∧ w[215]? = some (ad 215, iaC E 811 z) ∧ w[218]? = some (ad 218, laC E 2 l) ∧ ∃ er, w[222]? = some (ad 222, iaC E 64 er)) ∧ AS_ E ad w z l ∧ TF5 ws w) := by
  obtain ⟨ea, iw, z, rw, as, l, hs, hq, er, bf, ⟨h, hz, hr, has, hl⟩, ⟨hhs, hha, hbf, he⟩, ⟨hG, hLG⟩, hsv, hlen, hch⟩ := id hM
  refine ⟨ea, iw, z, l, ⟨h, hG, hLG⟩, c0_mono (m_X7_putAside h hz has hl hha) (fun v w hvw => ?_)⟩
  obtain ⟨rfl, ⟨as1, has1, eas⟩, ⟨hq1, hha1, eha⟩, hO1⟩ := hvw
  exact ⟨rfl, ⟨(hO1 214 (by decide) (by decide)).trans h, (hO1 215 (by decide) (by decide)).trans hz, (hO1 218 (by decide) (by decide)).trans hl, ⟨er, (hO1 222 (by decide) (by decide)).trans he⟩⟩, ⟨⟨as1, has1, eas⟩, ⟨hq1, hha1, eha⟩⟩, fun j _ a _ b _ => hO1 j a b⟩
set_option maxRecDepth 100000 in
set_option maxHeartbeats 4000000 in
theorem m_pb {E : gE} {ad : Nat → Nat} {ws : va_W} {p : PS} {sv : Nat → PS} {sc len : Nat} {ch : Nat → Int32} {tw : Int32} {hh : Int64} (hM : ZM E ad ws p sv sc len ch tw hh) {ea iw : Int32} {z : Nat → Int32} {l : Nat → Int64} (hG : ZG z p) (hLG : LG l p) {w : va_W} (h : w[214]? = some (ad 214, moC ad (nI sc) (nI len) tw ea iw hh)) (h1 : ∃ z2, w[215]? = some (ad 215, iaC E 811 z2)) (h2 : ∃ l2, w[218]? = some (ad 218, laC E 2 l2)) (h3 : ∃ er, w[222]? = some (ad 222, iaC E 64 er)) (hA : AS_ E ad w z l) (hF : TF5 ws w) : C0 E YX7_putBack 0 0 [.ref (ad 214)] w (fun v w2 => v = none ∧ ZM E ad w2 p sv sc len ch tw hh ∧ MO ws w2) := by
  obtain ⟨z2, hz2⟩ := h1
  obtain ⟨l2, hl2⟩ := h2
  obtain ⟨er, he⟩ := h3
  obtain ⟨⟨g1, hg1, eg1⟩, ⟨g2, hg2, eg2⟩⟩ := hA
  refine c0_mono (m_X7_putBack h hz2 hg1 hl2 hg2) (fun v w3 hvw => ?_)
  obtain ⟨rfl, ⟨zb, hzb, ez⟩, ⟨lb, hlb, el⟩, hO3⟩ := hvw
  refine ⟨rfl, hM.st ⟨zb, hzb, hG.ag (fun j hj => (ez j hj).trans (eg1 j hj))⟩ ⟨lb, hlb, hLG.ag (fun j hj => (el j hj).trans (eg2 j hj))⟩ ⟨g1, (hO3 217 (by decide) (by decide)).trans hg1⟩ ⟨g2, (hO3 220 (by decide) (by decide)).trans hg2⟩ ⟨er, (hO3 222 (by decide) (by decide)).trans he⟩ (fun j _ _ b1 b2 b3 b4 b5 => (hO3 j b1 b3).trans (hF j b1 b2 b3 b4 b5)), fun j hj => (hO3 j (by omega) (by omega)).trans (hF j (by omega) (by omega) (by omega) (by omega) (by omega))⟩
set_option maxRecDepth 100000 in
set_option maxHeartbeats 4000000 in
theorem bo_tail {E : gE} {ad : Nat → Nat} {ws : va_W} {p : PS} {sv : Nat → PS} {sc len : Nat} {ch : Nat → Int32} {tw : Int32} {hh : Int64} (hM : ZM E ad ws p sv sc len ch tw hh) {a i : Nat} {V : Int32} {ea iw : Int32} {z : Nat → Int32} {l : Nat → Int64} (ha : a < 2) (hG : ZG z p) (hLG : LG l p) {w : va_W} {q : PS} (h : w[214]? = some (ad 214, moC ad (nI sc) (nI len) tw ea iw hh)) {z2 : Nat → Int32} (hz : w[215]? = some (ad 215, iaC E 811 z2)) (hG2 : ZG z2 q) (h2 : ∃ l2, w[218]? = some (ad 218, laC E 2 l2)) (h3 : ∃ er, w[222]? = some (ad 222, iaC E 64 er)) (hA : AS_ E ad w z l) (hF : TF5 ws w) (hV : (if nI (pW q a).2.1.length = 0 then nI i else -1) = V) : Ev E YX7_beatsOf (fun v9 w9 => v9 = some (.int V) ∧ ZM E ad w9 p sv sc len ch tw hh ∧ MO ws w9) nX 0 0 38 [(0, .ref (ad 214)), (1, .int (nI a)), (2, .int (nI i))] [] w := by
  by_cases q1 : nI (pW q a).2.1.length = 0
  · refine ev_ss DX7_beatsOf 1 20 (pc' := 39) (lv' := [(0, .ref _), (1, .int _), (2, .int _)]) (st' := [.ref _]) rfl ?_
    refine ev_get DX7_beatsOf 21 GX7 rfl (k0 := 0) (Nat.le_of_ble_eq_true rfl) fX7_7 h rfl ?_
    refine ev_ss DX7_beatsOf 3 22 (pc' := 47) (lv' := [(0, .ref _), (1, .int _), (2, .int _)]) (st' := [.int _, .ref _]) rfl ?_
    refine ev_ialdv DX7_beatsOf 25 (k0 := (800 + a)) rfl hz (nx_add (a := 800) (b := a) rfl rfl) (by omega) (by decide) ((hG2.2.2.2.1 a ha).2.1) ?_
    refine ev_ifne DX7_beatsOf 26 rfl (tgt := 55) (by decide) (fun h => h.elim q1) (fun _ => ?_)
    refine ev_ss DX7_beatsOf 1 27 (pc' := 52) (lv' := [(0, .ref _), (1, .int _), (2, .int _)]) (st' := [.int 1]) rfl ?_
    refine ev_goto DX7_beatsOf 28 rfl (tgt := 56) (by decide) ?_
    refine ev_ss DX7_beatsOf 2 30 (pc' := 58) (lv' := [(3, .int 1), (0, .ref _), (1, .int _), (2, .int _)]) (st' := [.ref _]) rfl ?_
    refine ev_rV DX7_beatsOf 32 (m_pb hM hG hLG h ⟨_, hz⟩ h2 h3 hA hF) vX7_putBack rfl qX7_178 rfl h rfl (hd_of rfl rfl rfl rfl) (fun v w3 hvw => ?_)
    obtain ⟨rfl, hM3, hO3⟩ := hvw
    refine ev_ss DX7_beatsOf 1 33 (pc' := 62) (lv' := [(3, .int 1), (0, .ref _), (1, .int _), (2, .int _)]) (st' := [.int 1]) rfl ?_
    refine ev_ifeq DX7_beatsOf 34 rfl (tgt := 69) (by decide) (fun h => absurd h (by decide)) (fun _ => ?_)
    refine ev_ss DX7_beatsOf 1 35 (pc' := 66) (lv' := [(3, .int 1), (0, .ref _), (1, .int _), (2, .int _)]) (st' := [.int _]) rfl ?_
    refine ev_goto DX7_beatsOf 36 rfl (tgt := 70) (by decide) ?_
    exact ev_iret DX7_beatsOf 38 rfl rfl ⟨congrArg (fun z => some (Value.int z)) ((if_pos q1).symm.trans hV), hM3, hO3⟩
  · refine ev_ss DX7_beatsOf 1 20 (pc' := 39) (lv' := [(0, .ref _), (1, .int _), (2, .int _)]) (st' := [.ref _]) rfl ?_
    refine ev_get DX7_beatsOf 21 GX7 rfl (k0 := 0) (Nat.le_of_ble_eq_true rfl) fX7_7 h rfl ?_
    refine ev_ss DX7_beatsOf 3 22 (pc' := 47) (lv' := [(0, .ref _), (1, .int _), (2, .int _)]) (st' := [.int _, .ref _]) rfl ?_
    refine ev_ialdv DX7_beatsOf 25 (k0 := (800 + a)) rfl hz (nx_add (a := 800) (b := a) rfl rfl) (by omega) (by decide) ((hG2.2.2.2.1 a ha).2.1) ?_
    refine ev_ifne DX7_beatsOf 26 rfl (tgt := 55) (by decide) (fun _ => ?_) (fun h => absurd h q1)
    refine ev_ss DX7_beatsOf 3 29 (pc' := 58) (lv' := [(3, .int 0), (0, .ref _), (1, .int _), (2, .int _)]) (st' := [.ref _]) rfl ?_
    refine ev_rV DX7_beatsOf 32 (m_pb hM hG hLG h ⟨_, hz⟩ h2 h3 hA hF) vX7_putBack rfl qX7_178 rfl h rfl (hd_of rfl rfl rfl rfl) (fun v w3 hvw => ?_)
    obtain ⟨rfl, hM3, hO3⟩ := hvw
    refine ev_ss DX7_beatsOf 1 33 (pc' := 62) (lv' := [(3, .int 0), (0, .ref _), (1, .int _), (2, .int _)]) (st' := [.int 0]) rfl ?_
    refine ev_ifeq DX7_beatsOf 34 rfl (tgt := 69) (by decide) (fun _ => ?_) (fun h => h.elim (by decide))
    refine ev_ss DX7_beatsOf 1 37 (pc' := 70) (lv' := [(3, .int 0), (0, .ref _), (1, .int _), (2, .int _)]) (st' := [.int (-1)]) rfl ?_
    exact ev_iret DX7_beatsOf 38 rfl rfl ⟨congrArg (fun z => some (Value.int z)) ((if_neg q1).symm.trans hV), hM3, hO3⟩
set_option maxRecDepth 100000 in
set_option maxHeartbeats 4000000 in
theorem m_X7_beatsOf {E : gE} {ad : Nat → Nat} {ws : va_W} {p : PS} {sv : Nat → PS} {sc len : Nat} {ch : Nat → Int32} {tw : Int32} {hh : Int64} (hM : ZM E ad ws p sv sc len ch tw hh) {a : Nat} (ha : a < 2) (hI : WI (pW p a)) : C0 E YX7_beatsOf 0 0 [.ref (ad 214), .int (nI a)] ws (fun v9 w9 => v9 = some (.int (bfW (p.2.2.1 2) k301 0 p.1 (pW p a))) ∧ ZM E ad w9 p sv sc len ch tw hh ∧ MO ws w9) := by
  have eK := k301e
  obtain ⟨V, hV⟩ : ∃ V, V = bfW (p.2.2.1 2) k301 0 p.1 (pW p a) := ⟨_, rfl⟩
  rw [← hV]
  obtain ⟨ea, iw, z, l, ⟨h, hG, hLG⟩, hpa⟩ := m_pa hM
  refine c0V vX7_beatsOf (Nat.le_of_ble_eq_true rfl) (lv0 := [(0, .ref (ad 214)), (1, .int (nI a))]) rfl ?_
  have K : ∀ (m i : Nat) (x : Int32) (w1 : va_W) (z1 : Nat → Int32) (l1 : Nat → Int64), i + m + 1 = k301 → x = nI i → w1[214]? = some (ad 214, moC ad (nI sc) (nI len) tw ea iw hh) → w1[215]? = some (ad 215, iaC E 811 z1) → w1[218]? = some (ad 218, laC E 2 l1) → ZG z1 (pSend p a i) → LG l1 (pSend p a i) → (∃ er, w1[222]? = some (ad 222, iaC E 64 er)) → AS_ E ad w1 z l → TF5 ws w1 → bfW (p.2.2.1 2) (m + 1) i (btN (p.2.2.1 2) p.1 (pW p a) i).2.1 (btN (p.2.2.1 2) p.1 (pW p a) i).2.2 = V →
      Ev E YX7_beatsOf (fun v9 w9 => v9 = some (.int V) ∧ ZM E ad w9 p sv sc len ch tw hh ∧ MO ws w9) nX 0 0 6 [(0, .ref (ad 214)), (1, .int (nI a)), (2, .int x)] [] w1 := by
    intro m
    induction m with
    | zero =>
      intro i x w1 z1 l1 hm hx h1 hz1 hl1 hg1 hL1 he1 hA1 hF1 hv
      subst hx
      have hp2 := pW_send (p := p) (a := a) (n := i)
      refine ev_ss DX7_beatsOf 2 4 (pc' := 10) (lv' := [(0, .ref _), (1, .int _), (2, .int _)]) (st' := [.int 300, .int _]) rfl ?_
      refine ev_icge DX7_beatsOf 6 rfl (tgt := 38) (by decide) (fun _ => ?_) (fun h => h.elim (by rw [show i = 300 by omega]; decide))
      refine ev_lvp (lv2 := [(0, .ref _), (1, .int _), (2, .int _)]) [0, 1, 2] rfl ?_
      exact bo_tail hM ha hG hLG h1 hz1 hg1 ⟨l1, hl1⟩ he1 hA1 hF1 (by rw [hp2]; rw [bfW_n] at hv; exact hv)
    | succ m ih =>
      intro i x w1 z1 l1 hm hx h1 hz1 hl1 hg1 hL1 he1 hA1 hF1 hv
      subst hx
      have hp2 := pW_send (p := p) (a := a) (n := i)
      have hI1 : WI (pW (pSend p a i) a) := by rw [hp2]; exact WI_btN hI i
      have hlen2 := (hg1.2.2.2.1 a ha).1
      rw [bfW_n, ← hp2] at hv
      by_cases q1 : nI (pW (pSend p a i) a).2.1.length = 0
      · refine ev_ss DX7_beatsOf 2 4 (pc' := 10) (lv' := [(0, .ref _), (1, .int _), (2, .int _)]) (st' := [.int 300, .int _]) rfl ?_
        refine ev_icge DX7_beatsOf 6 rfl (tgt := 38) (by decide) (fun h => absurd h (nI_ge (b := 300) (by omega) (by decide))) (fun _ => ?_)
        refine ev_ss DX7_beatsOf 1 7 (pc' := 14) (lv' := [(0, .ref _), (1, .int _), (2, .int _)]) (st' := [.ref _]) rfl ?_
        refine ev_get DX7_beatsOf 8 GX7 rfl (k0 := 0) (Nat.le_of_ble_eq_true rfl) fX7_7 h1 rfl ?_
        refine ev_ss DX7_beatsOf 3 9 (pc' := 22) (lv' := [(0, .ref _), (1, .int _), (2, .int _)]) (st' := [.int _, .ref _]) rfl ?_
        refine ev_ialdv DX7_beatsOf 12 (k0 := (800 + a)) rfl hz1 (nx_add (a := 800) (b := a) rfl rfl) (by omega) (by decide) ((hg1.2.2.2.1 a ha).2.1) ?_
        refine ev_ifle DX7_beatsOf 13 rfl (tgt := 38) (by decide) (fun _ => ?_) (fun h => h.elim (by rw [q1]; decide))
        refine ev_lvp (lv2 := [(0, .ref _), (1, .int _), (2, .int _)]) [0, 1, 2] rfl ?_
        exact bo_tail hM ha hG hLG h1 hz1 hg1 ⟨l1, hl1⟩ he1 hA1 hF1 (by rw [if_pos q1] at hv ⊢; exact hv)
      · refine ev_ss DX7_beatsOf 2 4 (pc' := 10) (lv' := [(0, .ref _), (1, .int _), (2, .int _)]) (st' := [.int 300, .int _]) rfl ?_
        refine ev_icge DX7_beatsOf 6 rfl (tgt := 38) (by decide) (fun h => absurd h (nI_ge (b := 300) (by omega) (by decide))) (fun _ => ?_)
        refine ev_ss DX7_beatsOf 1 7 (pc' := 14) (lv' := [(0, .ref _), (1, .int _), (2, .int _)]) (st' := [.ref _]) rfl ?_
        refine ev_get DX7_beatsOf 8 GX7 rfl (k0 := 0) (Nat.le_of_ble_eq_true rfl) fX7_7 h1 rfl ?_
        refine ev_ss DX7_beatsOf 3 9 (pc' := 22) (lv' := [(0, .ref _), (1, .int _), (2, .int _)]) (st' := [.int _, .ref _]) rfl ?_
        refine ev_ialdv DX7_beatsOf 12 (k0 := (800 + a)) rfl hz1 (nx_add (a := 800) (b := a) rfl rfl) (by omega) (by decide) ((hg1.2.2.2.1 a ha).2.1) ?_
        refine ev_ifle DX7_beatsOf 13 rfl (tgt := 38) (by decide) (fun h => absurd h (nI_nle (Nat.pos_of_ne_zero (fun e => q1 (by rw [e]; rfl))) (by omega))) (fun _ => ?_)
        refine ev_ss DX7_beatsOf 2 14 (pc' := 28) (lv' := [(0, .ref _), (1, .int _), (2, .int _)]) (st' := [.int _, .ref _]) rfl ?_
        refine ev_rV DX7_beatsOf 16 (m_X7_sendBeat h1 hz1 hl1 ha hg1 hL1 hI1) vX7_sendBeat rfl qX7_134 rfl h1 rfl (hd_of rfl rfl rfl rfl) (fun v w2 hvw => ?_)
        obtain ⟨rfl, ⟨z2, l2, hz2, hl2, hg2, hL2⟩, hO2⟩ := hvw
        rw [pBt_send] at hg2 hL2
        refine ev_ss DX7_beatsOf 2 17 (pc' := 35) (lv' := [(2, .int _), (0, .ref _), (1, .int _)]) (st' := []) rfl ?_
        refine ev_goto DX7_beatsOf 19 rfl (tgt := 6) (by decide) ?_
        refine ev_lvp (lv2 := [(0, .ref _), (1, .int _), (2, .int _)]) [1, 2, 0] rfl ?_
        rw [if_neg q1] at hv
        obtain ⟨er1, he1⟩ := he1
        exact ih (i + 1) _ w2 z2 l2 (by omega) (nI_1 i) ((hO2 214 (by decide) (by decide)).trans h1) hz2 hl2 hg2 hL2 ⟨er1, (hO2 222 (by decide) (by decide)).trans he1⟩ (hA1.of (hO2 217 (by decide) (by decide)) (hO2 220 (by decide) (by decide))) (hF1.tr hO2.t5) hv
  refine ev_ss DX7_beatsOf 1 0 (pc' := 1) (lv' := [(0, .ref _), (1, .int _)]) (st' := [.ref _]) rfl ?_
  refine ev_rV DX7_beatsOf 1 hpa vX7_putAside rfl qX7_175 rfl h rfl (hd_of rfl rfl rfl rfl) (fun v w1 hvw => ?_)
  obtain ⟨rfl, ⟨h1, hz1, hl1, er1, he1⟩, hA1, hF1⟩ := hvw
  refine ev_ss DX7_beatsOf 2 2 (pc' := 6) (lv' := [(2, .int 0), (0, .ref _), (1, .int _)]) (st' := []) rfl ?_
  refine ev_lvp (lv2 := [(0, .ref _), (1, .int _), (2, .int _)]) [1, 2, 0] rfl ?_
  exact K 300 0 _ w1 z l (by omega) nI_0.symm h1 hz1 hl1 (by rw [pSend_0]; exact hG) (by rw [pSend_0]; exact hLG) ⟨er1, he1⟩ hA1 hF1 (by rw [hV, eK]; rfl)
set_option maxRecDepth 100000 in
set_option maxHeartbeats 4000000 in
theorem lo_tail {E : gE} {ad : Nat → Nat} {ws : va_W} {p : PS} {sv : Nat → PS} {sc len : Nat} {ch : Nat → Int32} {tw : Int32} {hh : Int64} (hM : ZM E ad ws p sv sc len ch tw hh) {V : Int32} {ea iw : Int32} {z : Nat → Int32} {l : Nat → Int64} (hG : ZG z p) (hLG : LG l p) {w : va_W} (h : w[214]? = some (ad 214, moC ad (nI sc) (nI len) tw ea iw hh)) (h1 : ∃ z2, w[215]? = some (ad 215, iaC E 811 z2)) (h2 : ∃ l2, w[218]? = some (ad 218, laC E 2 l2)) (h3 : ∃ er, w[222]? = some (ad 222, iaC E 64 er)) (hA : AS_ E ad w z l) (hF : TF5 ws w) : Ev E YX7_lessonOf (fun v9 w9 => v9 = some (.int V) ∧ ZM E ad w9 p sv sc len ch tw hh ∧ MO ws w9) nX 0 0 68 [(0, .ref (ad 214)), (2, .int V)] [] w := by
  refine ev_ss DX7_lessonOf 1 38 (pc' := 69) (lv' := [(0, .ref _), (2, .int _)]) (st' := [.ref _]) rfl ?_
  refine ev_rV DX7_lessonOf 39 (m_pb hM hG hLG h h1 h2 h3 hA hF) vX7_putBack rfl qX7_178 rfl h rfl (hd_of rfl rfl rfl rfl) (fun v w3 hvw => ?_)
  obtain ⟨rfl, hM3, hO3⟩ := hvw
  refine ev_ss DX7_lessonOf 1 40 (pc' := 73) (lv' := [(0, .ref _), (2, .int _)]) (st' := [.int _]) rfl ?_
  exact ev_iret DX7_lessonOf 41 rfl rfl ⟨rfl, hM3, hO3⟩
set_option maxRecDepth 100000 in
set_option maxHeartbeats 4000000 in
theorem m_X7_lessonOf {E : gE} {ad : Nat → Nat} {ws : va_W} {p : PS} {sv : Nat → PS} {sc len : Nat} {ch : Nat → Int32} {tw : Int32} {hh : Int64} (hM : ZM E ad ws p sv sc len ch tw hh) {a : Nat} (ha : a < 2) (hN : LN p a) : C0 E YX7_lessonOf 0 0 [.ref (ad 214), .int (nI a)] ws (fun v9 w9 => v9 = some (.int ((blN p a k40).1)) ∧ ZM E ad w9 p sv sc len ch tw hh ∧ MO ws w9) := by
  have eK := k40e
  obtain ⟨V, hV⟩ : ∃ V, V = (blN p a k40).1 := ⟨_, rfl⟩
  rw [← hV]
  obtain ⟨ea, iw, z, l, ⟨h, hG, hLG⟩, hpa⟩ := m_pa hM
  refine c0V vX7_lessonOf (Nat.le_of_ble_eq_true rfl) (lv0 := [(0, .ref (ad 214)), (1, .int (nI a))]) rfl ?_
  refine ev_ss DX7_lessonOf 1 0 (pc' := 1) (lv' := [(0, .ref _), (1, .int _)]) (st' := [.ref _]) rfl ?_
  refine ev_rV DX7_lessonOf 1 hpa vX7_putAside rfl qX7_175 rfl h rfl (hd_of rfl rfl rfl rfl) (fun v w1 hvw => ?_)
  obtain ⟨rfl, ⟨h1, hz1, hl1, er1, he1⟩, hA1, hF1⟩ := hvw
  suffices K : ∀ (m i : Nat) (x : Int32) (w2 : va_W) (z2 : Nat → Int32), i + m = k40 → x = nI (i + 1) → w2[215]? = some (ad 215, iaC E 811 z2) → ZG z2 (pSW p (lrM (p.2.2.1 0) p.1 (pW p a) er1 i).1 a (lrM (p.2.2.1 0) p.1 (pW p a) er1 i).2.1) → w2[222]? = some (ad 222, iaC E 64 (lrM (p.2.2.1 0) p.1 (pW p a) er1 i).2.2) → NE w1 w2 → Ev E YX7_lessonOf (fun v9 w9 => v9 = some (.int V) ∧ ZM E ad w9 p sv sc len ch tw hh ∧ MO ws w9) nX 0 0 11 [(0, .ref (ad 214)), (1, .int (nI a)), (2, .int (blN p a i).1), (3, .int (blN p a i).2), (4, .int x)] [] w2 by
    refine ev_ss DX7_lessonOf 6 2 (pc' := 11) (lv' := [(4, .int 1), (3, .int (-1)), (2, .int 1), (0, .ref _), (1, .int _)]) (st' := []) rfl ?_
    refine ev_lvp (lv2 := [(0, .ref _), (1, .int _), (2, .int _), (3, .int _), (4, .int _)]) [3, 4, 2, 1, 0] rfl ?_
    exact K k40 0 _ w1 z (Nat.zero_add _) rfl hz1 (by rw [lrM_0, pSW_id]; exact hG) (by rw [lrM_0]; exact he1) NE.rf
  intro m
  induction m with
  | zero =>
    intro i x w2 z2 hm hx hz2 hg2 he2 hO2
    obtain rfl : i = k40 := by omega
    subst hx
    have h2 := (hO2 214 (by decide) (by decide)).trans h1
    refine ev_ss DX7_lessonOf 2 8 (pc' := 15) (lv' := [(0, .ref _), (1, .int _), (2, .int _), (3, .int _), (4, .int _)]) (st' := [.int 40, .int _]) rfl ?_
    refine ev_icgt DX7_lessonOf 10 rfl (tgt := 68) (by decide) (fun _ => ?_) (fun h => h.elim (by rw [eK]; decide))
    refine ev_lvp (lv2 := [(0, .ref _), (2, .int _)]) [0, 2] rfl ?_
    rw [← hV]
    exact lo_tail hM hG hLG h2 ⟨_, hz2⟩ ⟨_, (hO2 218 (by decide) (by decide)).trans hl1⟩ ⟨_, he2⟩ (hA1.of (hO2 217 (by decide) (by decide)) (hO2 220 (by decide) (by decide))) (hF1.tr hO2.t5)
  | succ m ih =>
    intro i x w2 z2 hm hx hz2 hg2 he2 hO2
    subst hx
    have h2 := (hO2 214 (by decide) (by decide)).trans h1
    have hT : ∀ t, t < 8 → TN ((pW (pSW p (lrM (p.2.2.1 0) p.1 (pW p a) er1 i).1 a (lrM (p.2.2.1 0) p.1 (pW p a) er1 i).2.1) a).1 t) := by
      rw [pW_SW, (lrM_rel i).2.1]
      exact TN_lrN hN.1 i
    have eM := lrM_s (p := p.2.2.1 0) (sd := p.1) (σ := pW p a) (er := er1) (n := i)
    obtain ⟨r1, r2, r3⟩ := lrM_rel (p := p.2.2.1 0) (sd := p.1) (σ := pW p a) (er := er1) (i + 1)
    have hw : ∀ t, t < 8 → wrM (lrM (p.2.2.1 0) p.1 (pW p a) er1 (i + 1)).2.2 t (min 8 (i + 1)) = worN (lrN (p.2.2.1 0) p.1 (pW p a) (i + 1)).2.2 t k8 := fun t ht => wor_k (fun j hj => r3 t j ht hj)
    have hbl : bbN (p.2.2.1 1) (lrN (p.2.2.1 0) p.1 (pW p a) (i + 1)).2.2 (lrM (p.2.2.1 0) p.1 (pW p a) er1 (i + 1)).2.1 k8 = blB p a (i + 1) := by rw [r2]; rfl
    by_cases q1 : blB p a (i + 1) ≤ (blN p a i).2
    · refine ev_ss DX7_lessonOf 2 8 (pc' := 15) (lv' := [(0, .ref _), (1, .int _), (2, .int _), (3, .int _), (4, .int _)]) (st' := [.int 40, .int _]) rfl ?_
      refine ev_icgt DX7_lessonOf 10 rfl (tgt := 68) (by decide) (fun h => absurd h (nI_nlt (a := 40) (b := i + 1) (by omega) (by decide))) (fun _ => ?_)
      refine ev_ss DX7_lessonOf 5 11 (pc' := 24) (lv' := [(0, .ref _), (1, .int _), (2, .int _), (3, .int _), (4, .int _)]) (st' := [.int _, .int _, .ref _]) rfl ?_
      refine (congrArg (fun z9 => Ev E YX7_lessonOf (fun v9 w9 => v9 = some (.int V) ∧ ZM E ad w9 p sv sc len ch tw hh ∧ MO ws w9) nX 0 0 24 [(0, .ref (ad 214)), (1, .int (nI a)), (2, .int (blN p a i).1), (3, .int (blN p a i).2), (4, .int (nI (i + 1)))] [.int z9, .int (nI a), .ref (ad 214)] w2) (nI_pred i)).mpr ?_
      refine ev_rV DX7_lessonOf 16 (m_X7_learnBeat h2 hz2 he2 ha (nb := i) (by omega) hg2 hT hN.2.2) vX7_learnBeat rfl qX7_104 rfl h2 rfl (hd_of rfl rfl rfl rfl) (fun v w3 hvw => ?_)
      obtain ⟨rfl, ⟨z3, hz3, hg3⟩, he3, hO3⟩ := hvw
      rw [pW_SW, pSW_se, pSW_pSW] at hg3
      rw [pW_SW, pSW_se] at he3
      replace he3 : w3[222]? = some (ad 222, iaC E 64 (lrM (p.2.2.1 0) p.1 (pW p a) er1 (i + 1)).2.2) := by rw [eM]; exact he3
      replace hg3 : ZG z3 (pSW p (lrM (p.2.2.1 0) p.1 (pW p a) er1 (i + 1)).1 a (lrM (p.2.2.1 0) p.1 (pW p a) er1 (i + 1)).2.1) := by rw [eM]; exact hg3
      have h3 := (hO3 214 (by decide) (by decide)).trans h2
      refine ev_ss DX7_lessonOf 3 17 (pc' := 31) (lv' := [(0, .ref _), (1, .int _), (2, .int _), (3, .int _), (4, .int _)]) (st' := [.int _, .int _, .ref _]) rfl ?_
      refine ev_cV DX7_lessonOf 20 (m_X7_lessonBits h3 hz3 he3 ha (n := i + 1) (by omega) hg3 hw) vX7_lessonBits rfl qX7_190 rfl h3 rfl (hd_of rfl rfl rfl rfl) ?_
      rw [pW_SW, pSW_se, hbl]
      refine ev_ss DX7_lessonOf 3 21 (pc' := 39) (lv' := [(5, .int _), (0, .ref _), (1, .int _), (2, .int _), (3, .int _), (4, .int _)]) (st' := [.int _, .int _]) rfl ?_
      refine ev_icle DX7_lessonOf 24 rfl (tgt := 47) (by decide) (fun _ => ?_) (fun h => h.elim q1)
      refine ev_ss DX7_lessonOf 4 27 (pc' := 52) (lv' := [(2, .int _), (5, .int _), (0, .ref _), (1, .int _), (3, .int _), (4, .int _)]) (st' := [.int _, .int _]) rfl ?_
      refine ev_icle DX7_lessonOf 31 rfl (tgt := 60) (by decide) (fun _ => ?_) (fun h => h.elim q1)
      refine ev_ss DX7_lessonOf 3 34 (pc' := 65) (lv' := [(4, .int _), (3, .int _), (2, .int _), (5, .int _), (0, .ref _), (1, .int _)]) (st' := []) rfl ?_
      refine ev_goto DX7_lessonOf 37 rfl (tgt := 11) (by decide) ?_
      refine ev_lvp (lv2 := [(0, .ref _), (1, .int _), (2, .int _), (3, .int _), (4, .int _)]) [4, 5, 2, 1, 0] rfl ?_
      have e9 := ih (i + 1) _ w3 z3 (by omega) (nI_1 (i + 1)) hz3 hg3 he3 (hO2.tr hO3)
      rw [blN_s, if_pos q1] at e9
      exact e9
    · refine ev_ss DX7_lessonOf 2 8 (pc' := 15) (lv' := [(0, .ref _), (1, .int _), (2, .int _), (3, .int _), (4, .int _)]) (st' := [.int 40, .int _]) rfl ?_
      refine ev_icgt DX7_lessonOf 10 rfl (tgt := 68) (by decide) (fun h => absurd h (nI_nlt (a := 40) (b := i + 1) (by omega) (by decide))) (fun _ => ?_)
      refine ev_ss DX7_lessonOf 5 11 (pc' := 24) (lv' := [(0, .ref _), (1, .int _), (2, .int _), (3, .int _), (4, .int _)]) (st' := [.int _, .int _, .ref _]) rfl ?_
      refine (congrArg (fun z9 => Ev E YX7_lessonOf (fun v9 w9 => v9 = some (.int V) ∧ ZM E ad w9 p sv sc len ch tw hh ∧ MO ws w9) nX 0 0 24 [(0, .ref (ad 214)), (1, .int (nI a)), (2, .int (blN p a i).1), (3, .int (blN p a i).2), (4, .int (nI (i + 1)))] [.int z9, .int (nI a), .ref (ad 214)] w2) (nI_pred i)).mpr ?_
      refine ev_rV DX7_lessonOf 16 (m_X7_learnBeat h2 hz2 he2 ha (nb := i) (by omega) hg2 hT hN.2.2) vX7_learnBeat rfl qX7_104 rfl h2 rfl (hd_of rfl rfl rfl rfl) (fun v w3 hvw => ?_)
      obtain ⟨rfl, ⟨z3, hz3, hg3⟩, he3, hO3⟩ := hvw
      rw [pW_SW, pSW_se, pSW_pSW] at hg3
      rw [pW_SW, pSW_se] at he3
      replace he3 : w3[222]? = some (ad 222, iaC E 64 (lrM (p.2.2.1 0) p.1 (pW p a) er1 (i + 1)).2.2) := by rw [eM]; exact he3
      replace hg3 : ZG z3 (pSW p (lrM (p.2.2.1 0) p.1 (pW p a) er1 (i + 1)).1 a (lrM (p.2.2.1 0) p.1 (pW p a) er1 (i + 1)).2.1) := by rw [eM]; exact hg3
      have h3 := (hO3 214 (by decide) (by decide)).trans h2
      refine ev_ss DX7_lessonOf 3 17 (pc' := 31) (lv' := [(0, .ref _), (1, .int _), (2, .int _), (3, .int _), (4, .int _)]) (st' := [.int _, .int _, .ref _]) rfl ?_
      refine ev_cV DX7_lessonOf 20 (m_X7_lessonBits h3 hz3 he3 ha (n := i + 1) (by omega) hg3 hw) vX7_lessonBits rfl qX7_190 rfl h3 rfl (hd_of rfl rfl rfl rfl) ?_
      rw [pW_SW, pSW_se, hbl]
      refine ev_ss DX7_lessonOf 3 21 (pc' := 39) (lv' := [(5, .int _), (0, .ref _), (1, .int _), (2, .int _), (3, .int _), (4, .int _)]) (st' := [.int _, .int _]) rfl ?_
      refine ev_icle DX7_lessonOf 24 rfl (tgt := 47) (by decide) (fun h => absurd h q1) (fun _ => ?_)
      refine ev_ss DX7_lessonOf 1 25 (pc' := 44) (lv' := [(5, .int _), (0, .ref _), (1, .int _), (2, .int _), (3, .int _), (4, .int _)]) (st' := [.int _]) rfl ?_
      refine ev_goto DX7_lessonOf 26 rfl (tgt := 48) (by decide) ?_
      refine ev_ss DX7_lessonOf 3 28 (pc' := 52) (lv' := [(2, .int _), (5, .int _), (0, .ref _), (1, .int _), (3, .int _), (4, .int _)]) (st' := [.int _, .int _]) rfl ?_
      refine ev_icle DX7_lessonOf 31 rfl (tgt := 60) (by decide) (fun h => absurd h q1) (fun _ => ?_)
      refine ev_ss DX7_lessonOf 1 32 (pc' := 57) (lv' := [(2, .int _), (5, .int _), (0, .ref _), (1, .int _), (3, .int _), (4, .int _)]) (st' := [.int _]) rfl ?_
      refine ev_goto DX7_lessonOf 33 rfl (tgt := 61) (by decide) ?_
      refine ev_ss DX7_lessonOf 2 35 (pc' := 65) (lv' := [(4, .int _), (3, .int _), (2, .int _), (5, .int _), (0, .ref _), (1, .int _)]) (st' := []) rfl ?_
      refine ev_goto DX7_lessonOf 37 rfl (tgt := 11) (by decide) ?_
      refine ev_lvp (lv2 := [(0, .ref _), (1, .int _), (2, .int _), (3, .int _), (4, .int _)]) [4, 5, 2, 1, 0] rfl ?_
      have e9 := ih (i + 1) _ w3 z3 (by omega) (nI_1 (i + 1)) hz3 hg3 he3 (hO2.tr hO3)
      rw [blN_s, if_neg q1] at e9
      exact e9
