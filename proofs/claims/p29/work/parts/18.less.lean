noncomputable def enT (mg : Int32) (sz : Nat → Int32) (σ : WS) : Nat → WS
  | 0 => σ
  | i + 1 => (va_up (enT mg sz σ i).1 i (endP ((enT mg sz σ i).1 i) (worN sz i k8) mg), (enT mg sz σ i).2)
theorem enT_0 {mg : Int32} {sz : Nat → Int32} {σ : WS} : enT mg sz σ 0 = σ := rfl
/-- what a lesson makes of a way -/
noncomputable def tlW (p mg sd : Int32) (σ : WS) (n : Nat) : WS := enT mg (lrN p sd σ n).2.2 (lrN p sd σ n).2.1 k8
noncomputable def bbN (mg : Int32) (sz : Nat → Int32) (σ : WS) : Nat → Int32
  | 0 => 0
  | i + 1 => bbN mg sz σ i + bfP ((σ.1 i) 7) (worN sz i k8 * mg / 4)
theorem bbN_0 {mg : Int32} {sz : Nat → Int32} {σ : WS} : bbN mg sz σ 0 = 0 := rfl
/-- three hundred and one, that nothing unrolls -/
noncomputable def k301 : Nat := Classical.choose (⟨301, rfl⟩ : ∃ n : Nat, n = 301)
theorem k301e : k301 = 301 := Classical.choose_spec (⟨301, rfl⟩ : ∃ n : Nat, n = 301)
def lhP (f : TF) (sent arr : Int32) : Nat → Nat → Int32
  | 0, _ => -1
  | m + 1, i => if decP f (arr + nI i) = sent then (if decP f (arr - nI i) = sent then lhP f sent arr m (i + 1) else nI i) else nI i
theorem lhP_s {f : TF} {sent arr : Int32} {m i : Nat} : lhP f sent arr (m + 1) i = if decP f (arr + nI i) = sent then (if decP f (arr - nI i) = sent then lhP f sent arr m (i + 1) else nI i) else nI i := rfl
noncomputable def luP (sd : Int32) (f : TF) (bs : List Int32) : Int32 := lhP f (sgV f bs) (arrP f (sgA f bs) (drwN sd f)) k301 0
set_option maxRecDepth 100000 in
set_option maxHeartbeats 4000000 in
theorem m_X1_takeLesson {E : gE} {ad : Nat → Nat} {ws : va_W} {is iw il n : Nat} {sd0 bt0 lb : Int32} {se : Nat → Int32} {σ0 : WS} {sz0 : Nat → Int32} (hn : n < 128) (hi : AL is iw il) (hS0 : SD E ad ws is sd0 bt0 se) (hW0 : WY E ad ws iw σ0) (hL0 : LE E ad ws il lb sz0) (hN : ∀ t, t < 8 → TN (σ0.1 t)) (hp : ¬ se 0 ≤ 0) (hp2 : ¬ (128 : Int32) * se 0 = 0) : C0 E YX1_takeLesson 0 0 [.ref (ad is), .ref (ad iw), .int (nI n), .ref (ad il)] ws (fun v w => v = none ∧ SD E ad w is (lrN (se 0) sd0 σ0 n).1 (bt0 + nI n) se ∧ WY E ad w iw (tlW (se 0) (se 1) sd0 σ0 n) ∧ (∃ lb2 sz2, LE E ad w il lb2 sz2) ∧ SL is iw il ws w) := by
  have e8 := k8e
  obtain ⟨i1, i2, i3⟩ := id hi
  refine c0V vX1_takeLesson (Nat.le_of_ble_eq_true rfl) (lv0 := [(0, .ref (ad is)), (1, .ref (ad iw)), (2, .int (nI n)), (3, .ref (ad il))]) rfl ?_
  have K2 : ∀ (m i : Nat) (x : Int32) (w : va_W) (lv9 : List (Nat × Value)), i + m = k8 → x = nI i → SD E ad w is (lrN (se 0) sd0 σ0 n).1 (bt0 + nI n) se → WY E ad w iw (enT (se 1) (lrN (se 0) sd0 σ0 n).2.2 (lrN (se 0) sd0 σ0 n).2.1 i) → (∃ lb2, LE E ad w il lb2 (lrN (se 0) sd0 σ0 n).2.2) → SL is iw il ws w → lv9 = [(0, .ref (ad is)), (1, .ref (ad iw)), (2, .int (nI n)), (3, .ref (ad il)), (4, .int x)] →
      Ev E YX1_takeLesson (fun v w => v = none ∧ SD E ad w is (lrN (se 0) sd0 σ0 n).1 (bt0 + nI n) se ∧ WY E ad w iw (tlW (se 0) (se 1) sd0 σ0 n) ∧ (∃ lb2 sz2, LE E ad w il lb2 sz2) ∧ SL is iw il ws w) nX 0 0 28 lv9 [] w := by
    intro m
    induction m with
    | zero =>
      intro i x w lv9 hm hx hS hW hL hO hv
      obtain rfl : i = k8 := by omega
      obtain ⟨lb2, hL2⟩ := hL
      subst hx; subst hv
      refine ev_ss DX1_takeLesson 2 15 (pc' := 32) (lv' := [(0, .ref _), (1, .ref _), (2, .int _), (3, .ref _), (4, .int _)]) (st' := [.int 8, .int _]) rfl ?_
      refine ev_icge DX1_takeLesson 17 rfl (tgt := 63) (by decide) (fun _ => ?_) (fun h => h.elim (by rw [k8e]; decide))
      exact ev_vret DX1_takeLesson 32 rfl rfl ⟨rfl, hS, hW, ⟨lb2, _, hL2⟩, hO⟩
    | succ m ih =>
      intro i x w lv9 hm hx hS hW hL hO hv
      subst hx; subst hv
      obtain ⟨lb2, hL2⟩ := hL
      obtain ⟨st, sz, r, h1, h2, h3, h4, h5, h6⟩ := id hW
      obtain ⟨hs1, g, hs2, hs3⟩ := id hS
      have g1 : g ((1 : Int32).toNatClampNeg) = se 1 := hs3 1 (by decide)
      refine ev_ss DX1_takeLesson 2 15 (pc' := 32) (lv' := [(0, .ref _), (1, .ref _), (2, .int _), (3, .ref _), (4, .int _)]) (st' := [.int 8, .int _]) rfl ?_
      refine ev_icge DX1_takeLesson 17 rfl (tgt := 63) (by decide) (fun h => absurd h (nI_ge (b := 8) (by omega) (by decide))) (fun _ => ?_)
      refine ev_ss DX1_takeLesson 1 18 (pc' := 36) (lv' := [(0, .ref _), (1, .ref _), (2, .int _), (3, .ref _), (4, .int _)]) (st' := [.ref _]) rfl ?_
      refine ev_get DX1_takeLesson 19 GX5 rfl (k0 := 0) (Nat.le_of_ble_eq_true rfl) fX1_66 h1 rfl ?_
      refine ev_ss DX1_takeLesson 1 20 (pc' := 41) (lv' := [(0, .ref _), (1, .ref _), (2, .int _), (3, .ref _), (4, .int _)]) (st' := [.int _, .ref _]) rfl ?_
      refine ev_aald4 DX1_takeLesson 21 rfl h2 (vp_in_nI (by omega) (by decide)) (b := ad (iw + 4 + i)) (arT_at (by omega)) ?_
      refine ev_ss DX1_takeLesson 2 22 (pc' := 45) (lv' := [(0, .ref _), (1, .ref _), (2, .int _), (3, .ref _), (4, .int _)]) (st' := [.int _, .ref _, .ref _]) rfl ?_
      refine ev_cV DX1_takeLesson 24 (m_X0_worstOf (by omega) hL2) vX0_worstOf rfl qX1_130 rfl hL2.1 rfl (hd_of rfl rfl rfl rfl) ?_
      refine ev_ss DX1_takeLesson 1 25 (pc' := 49) (lv' := [(0, .ref _), (1, .ref _), (2, .int _), (3, .ref _), (4, .int _)]) (st' := [.ref _, .int _, .ref _]) rfl ?_
      refine ev_get DX1_takeLesson 26 GX1 rfl (k0 := 2) (Nat.le_of_ble_eq_true rfl) fX1_21 hs1 rfl ?_
      refine ev_ss DX1_takeLesson 1 27 (pc' := 53) (lv' := [(0, .ref _), (1, .ref _), (2, .int _), (3, .ref _), (4, .int _)]) (st' := [.int 1, .ref _, .int _, .ref _]) rfl ?_
      refine ev_iald DX1_takeLesson 28 rfl hs2 (by unfold vp_in; decide) ?_
      refine ev_cV DX1_takeLesson 29 (m_X3_endLesson (h6 i (by omega))) vX3_endLesson rfl qX1_133 rfl (h6 i (by omega)) rfl (hd_of rfl rfl rfl rfl) ?_
      refine ev_ss DX1_takeLesson 1 30 (pc' := 60) (lv' := [(4, .int _), (0, .ref _), (1, .ref _), (2, .int _), (3, .ref _)]) (st' := []) rfl ?_
      refine ev_goto DX1_takeLesson 31 rfl (tgt := 28) (by decide) ?_
      refine ev_lvp (lv2 := [(0, .ref _), (1, .ref _), (2, .int _), (3, .ref _), (4, .int _)]) [1, 2, 3, 4, 0] rfl ?_
      have hW2 := hW.tone (t := i) (by omega) (f := endP ((enT (se 1) (lrN (se 0) sd0 σ0 n).2.2 (lrN (se 0) sd0 σ0 n).2.1 i).1 i) (worN (lrN (se 0) sd0 σ0 n).2.2 i k8) (g ((1 : Int32).toNatClampNeg)))
      refine ih (i + 1) _ _ _ (by omega) (nI_1 i) (hS.of (List.getElem?_set_ne (by omega)) (List.getElem?_set_ne (by omega))) ?_ ⟨lb2, hL2.of (List.getElem?_set_ne (by omega)) (List.getElem?_set_ne (by omega))⟩ (hO.tr (fun j a b c d => List.getElem?_set_ne (by omega))) rfl
      show WY E ad _ iw (va_up (enT (se 1) (lrN (se 0) sd0 σ0 n).2.2 (lrN (se 0) sd0 σ0 n).2.1 i).1 i (endP ((enT (se 1) (lrN (se 0) sd0 σ0 n).2.2 (lrN (se 0) sd0 σ0 n).2.1 i).1 i) (worN (lrN (se 0) sd0 σ0 n).2.2 i k8) (se 1)), (enT (se 1) (lrN (se 0) sd0 σ0 n).2.2 (lrN (se 0) sd0 σ0 n).2.1 i).2)
      exact (congrArg (fun z => WY E ad (w.set (iw + 4 + i) (ad (iw + 4 + i), toneC (endP ((enT (se 1) (lrN (se 0) sd0 σ0 n).2.2 (lrN (se 0) sd0 σ0 n).2.1 i).1 i) (worN (lrN (se 0) sd0 σ0 n).2.2 i k8) (g ((1 : Int32).toNatClampNeg))))) iw (va_up (enT (se 1) (lrN (se 0) sd0 σ0 n).2.2 (lrN (se 0) sd0 σ0 n).2.1 i).1 i (endP ((enT (se 1) (lrN (se 0) sd0 σ0 n).2.2 (lrN (se 0) sd0 σ0 n).2.1 i).1 i) (worN (lrN (se 0) sd0 σ0 n).2.2 i k8) z), (enT (se 1) (lrN (se 0) sd0 σ0 n).2.2 (lrN (se 0) sd0 σ0 n).2.1 i).2)) g1).mp hW2
  have K1 : ∀ (m i : Nat) (x : Int32) (w : va_W) (lv9 : List (Nat × Value)), i + m = n → x = nI i → SD E ad w is (lrN (se 0) sd0 σ0 i).1 (bt0 + nI i) se → WY E ad w iw (lrN (se 0) sd0 σ0 i).2.1 → LE E ad w il (nI i) (lrN (se 0) sd0 σ0 i).2.2 → SL is iw il ws w → lv9 = [(0, .ref (ad is)), (1, .ref (ad iw)), (2, .int (nI n)), (3, .ref (ad il)), (4, .int x)] →
      Ev E YX1_takeLesson (fun v w => v = none ∧ SD E ad w is (lrN (se 0) sd0 σ0 n).1 (bt0 + nI n) se ∧ WY E ad w iw (tlW (se 0) (se 1) sd0 σ0 n) ∧ (∃ lb2 sz2, LE E ad w il lb2 sz2) ∧ SL is iw il ws w) nX 0 0 7 lv9 [] w := by
    intro m
    induction m with
    | zero =>
      intro i x w lv9 hm hx hS hW hL hO hv
      obtain rfl : i = n := by omega
      subst hx; subst hv
      refine ev_ss DX1_takeLesson 2 4 (pc' := 10) (lv' := [(0, .ref _), (1, .ref _), (2, .int _), (3, .ref _), (4, .int _)]) (st' := [.int _, .int _]) rfl ?_
      refine ev_icge DX1_takeLesson 6 rfl (tgt := 25) (by decide) (fun _ => ?_) (fun h => h.elim (nI_le (Nat.le_refl _) (by omega)))
      refine ev_ss DX1_takeLesson 2 13 (pc' := 28) (lv' := [(4, .int 0), (0, .ref _), (1, .ref _), (2, .int _), (3, .ref _)]) (st' := []) rfl ?_
      refine ev_lvp (lv2 := [(0, .ref _), (1, .ref _), (2, .int _), (3, .ref _), (4, .int _)]) [1, 2, 3, 4, 0] rfl ?_
      exact K2 k8 0 _ w _ (Nat.zero_add k8) nI_0.symm hS (by rw [enT_0]; exact hW) ⟨_, hL⟩ hO rfl
    | succ m ih =>
      intro i x w lv9 hm hx hS hW hL hO hv
      subst hx; subst hv
      refine ev_ss DX1_takeLesson 2 4 (pc' := 10) (lv' := [(0, .ref _), (1, .ref _), (2, .int _), (3, .ref _), (4, .int _)]) (st' := [.int _, .int _]) rfl ?_
      refine ev_icge DX1_takeLesson 6 rfl (tgt := 25) (by decide) (fun h => absurd h (nI_ge (b := n) (by omega) (by omega))) (fun _ => ?_)
      refine ev_ss DX1_takeLesson 3 7 (pc' := 16) (lv' := [(0, .ref _), (1, .ref _), (2, .int _), (3, .ref _), (4, .int _)]) (st' := [.ref _, .ref _, .ref _]) rfl ?_
      refine ev_rV DX1_takeLesson 10 (m_X1_learnBeat (nb := i) (by omega) rfl hi hS hW hL (TN_lrN hN i) hp hp2) vX1_learnBeat rfl qX1_126 rfl hS.1 rfl (hd_of rfl rfl rfl rfl) (fun v w2 hvw => ?_)
      obtain ⟨rfl, hS2, hW2, hL2, hO2⟩ := hvw
      refine ev_ss DX1_takeLesson 1 11 (pc' := 22) (lv' := [(4, .int _), (0, .ref _), (1, .ref _), (2, .int _), (3, .ref _)]) (st' := []) rfl ?_
      refine ev_goto DX1_takeLesson 12 rfl (tgt := 7) (by decide) ?_
      refine ev_lvp (lv2 := [(0, .ref _), (1, .ref _), (2, .int _), (3, .ref _), (4, .int _)]) [1, 2, 3, 4, 0] rfl ?_
      exact ih (i + 1) _ w2 _ (by omega) (nI_1 i) (by rw [lrN_s, ← nI_1 i, ← Int32.add_assoc]; exact hS2) (by rw [lrN_s]; exact hW2) (by rw [lrN_s]; exact hL2) (hO.tr hO2) rfl
  refine ev_ss DX1_takeLesson 1 0 (pc' := 1) (lv' := [(0, .ref _), (1, .ref _), (2, .int _), (3, .ref _)]) (st' := [.ref _]) rfl ?_
  refine ev_rV DX1_takeLesson 1 (m_X0_begin hL0) vX0_begin rfl qX1_121 rfl hL0.1 rfl (hd_of rfl rfl rfl rfl) (fun v w2 hvw => ?_)
  obtain ⟨rfl, hL2, hO2⟩ := hvw
  refine ev_ss DX1_takeLesson 2 2 (pc' := 7) (lv' := [(4, .int 0), (0, .ref _), (1, .ref _), (2, .int _), (3, .ref _)]) (st' := []) rfl ?_
  refine ev_lvp (lv2 := [(0, .ref _), (1, .ref _), (2, .int _), (3, .ref _), (4, .int _)]) [1, 2, 3, 4, 0] rfl ?_
  exact K1 n 0 _ w2 _ (Nat.zero_add n) nI_0.symm (by rw [lrN_0, nI_0, Int32.add_zero]; exact hS0.of (hO2 _ (by omega) (by omega)) (hO2 _ (by omega) (by omega))) (by rw [lrN_0]; exact hW0.of (fun j a b => hO2 j (by omega) (by omega))) (by rw [lrN_0, nI_0]; exact hL2) (fun j a b c d => hO2 j c d) rfl