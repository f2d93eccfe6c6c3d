def cpR (f g : Nat → Int32) (n : Int32) : Nat → Int32 := va_cpy f g (0 : Int32).toNatClampNeg (0 : Int32).toNatClampNeg n.toNatClampNeg
theorem cpR_at {f g : Nat → Int32} {n : Int32} {k : Nat} (h : k < n.toNatClampNeg) : cpR f g n k = f k := by
  unfold cpR va_cpy
  rw [show (0 : Int32).toNatClampNeg = 0 from rfl, if_pos ⟨Nat.zero_le k, by omega⟩, Nat.zero_add, Nat.sub_zero]
theorem RQ_cp {r r2 : Nat → Int32} {st sz : Int32} {bs : List Int32} (h : RQ r st sz bs) : RQ (cpR r r2 256) st sz bs := by
  obtain ⟨s0, h1, h2, h3, h4, h5⟩ := h
  refine ⟨s0, h1, h2, h3, h4, fun p hp => ?_⟩
  rw [cpR_at (by rw [show (256 : Int32).toNatClampNeg = 256 from rfl]; omega)]
  exact h5 p hp
set_option maxRecDepth 100000 in
set_option maxHeartbeats 4000000 in
theorem m_X4_copyFrom {E : gE} {ws : va_W} {q a q2 a2 qr ar qr2 ar2 : Nat} {r r2 : Nat → Int32} {st sz st2 sz2 : Int32} (h : ws[q]? = some (a, waitC ar st sz)) (h2 : ws[q2]? = some (a2, waitC ar2 st2 sz2)) (hr : ws[qr]? = some (ar, iaC E 256 r)) (hr2 : ws[qr2]? = some (ar2, iaC E 256 r2)) (hne : q2 ≠ q) : CD E YX4_copyFrom 0 0 [.ref a, .ref a2] ws none ((ws.set qr (ar, iaC E 256 (cpR r2 r 256))).set q (a, waitC ar st2 sz2)) := by
  refine cdV vX4_copyFrom (Nat.le_of_ble_eq_true rfl) (lv0 := [(0, .ref a), (1, .ref a2)]) rfl ?_
  refine ev_ss DX4_copyFrom 1 0 (pc' := 1) (lv' := [(0, .ref _), (1, .ref _)]) (st' := [.ref _]) rfl ?_
  refine ev_get DX4_copyFrom 1 GX4 rfl (k0 := 0) (Nat.le_of_ble_eq_true rfl) fX4_9 h2 rfl ?_
  refine ev_ss DX4_copyFrom 2 2 (pc' := 6) (lv' := [(0, .ref _), (1, .ref _)]) (st' := [.ref _, .int 0, .ref _]) rfl ?_
  refine ev_get DX4_copyFrom 4 GX4 rfl (k0 := 0) (Nat.le_of_ble_eq_true rfl) fX4_9 h rfl ?_
  refine ev_ss DX4_copyFrom 2 5 (pc' := 13) (lv' := [(0, .ref _), (1, .ref _)]) (st' := [.int 256, .int 0, .ref _, .int 0, .ref _]) rfl ?_
  refine ev_copy DX4_copyFrom 7 rfl qX4_15 (Nat.le_of_ble_eq_true rfl) (Nat.le_of_ble_eq_true rfl) hr2 hr (by decide) (by decide) (by decide) (by decide) (by decide) rfl ?_
  refine ev_ss DX4_copyFrom 2 8 (pc' := 18) (lv' := [(0, .ref _), (1, .ref _)]) (st' := [.ref _, .ref _]) rfl ?_
  refine ev_get DX4_copyFrom 10 GX4 rfl (k0 := 1) (Nat.le_of_ble_eq_true rfl) fX4_21 (wset_o h2 hr rfl) rfl ?_
  refine ev_put (fs' := [_, _, _]) DX4_copyFrom 11 GX4 rfl (k0 := 1) (Nat.le_of_ble_eq_true rfl) fX4_21 rfl ⟨rfl, rfl⟩ (wset_o h hr rfl) (Nat.le_of_ble_eq_true rfl) rfl rfl ?_
  refine ev_ss DX4_copyFrom 2 12 (pc' := 26) (lv' := [(0, .ref _), (1, .ref _)]) (st' := [.ref _, .ref _]) rfl ?_
  refine ev_get DX4_copyFrom 14 GX4 rfl (k0 := 2) (Nat.le_of_ble_eq_true rfl) fX4_25 (wset_n (wset_o h2 hr rfl) (Ne.symm hne)) rfl ?_
  refine ev_put (fs' := [_, _, _]) DX4_copyFrom 15 GX4 rfl (k0 := 2) (Nat.le_of_ble_eq_true rfl) fX4_25 rfl ⟨rfl, rfl⟩ (wset_get (wset_o h hr rfl)) (Nat.le_of_ble_eq_true rfl) rfl wset_set ?_
  exact ev_vret DX4_copyFrom 16 rfl rfl ⟨rfl, rfl⟩
set_option maxRecDepth 100000 in
set_option maxHeartbeats 4000000 in
theorem m_X1_copyCommonFrom {E : gE} {ws : va_W} {q a q2 a2 qs sg qs2 sg2 w0 w1 w2 w3 : Nat} {g g2 : Nat → Int32} {sd bt sd2 bt2 : Int32} (h : ws[q]? = some (a, stC w0 w1 sg sd bt)) (h2 : ws[q2]? = some (a2, stC w2 w3 sg2 sd2 bt2)) (hr : ws[qs]? = some (sg, iaC E 3 g)) (hr2 : ws[qs2]? = some (sg2, iaC E 3 g2)) (hne : q2 ≠ q) : CD E YX1_copyCommonFrom 0 0 [.ref a, .ref a2] ws none ((ws.set qs (sg, iaC E 3 (cpR g2 g 3))).set q (a, stC w0 w1 sg sd2 bt2)) := by
  refine cdV vX1_copyCommonFrom (Nat.le_of_ble_eq_true rfl) (lv0 := [(0, .ref a), (1, .ref a2)]) rfl ?_
  refine ev_ss DX1_copyCommonFrom 1 0 (pc' := 1) (lv' := [(0, .ref _), (1, .ref _)]) (st' := [.ref _]) rfl ?_
  refine ev_get DX1_copyCommonFrom 1 GX1 rfl (k0 := 2) (Nat.le_of_ble_eq_true rfl) fX1_21 h2 rfl ?_
  refine ev_ss DX1_copyCommonFrom 2 2 (pc' := 6) (lv' := [(0, .ref _), (1, .ref _)]) (st' := [.ref _, .int 0, .ref _]) rfl ?_
  refine ev_get DX1_copyCommonFrom 4 GX1 rfl (k0 := 2) (Nat.le_of_ble_eq_true rfl) fX1_21 h rfl ?_
  refine ev_ss DX1_copyCommonFrom 2 5 (pc' := 11) (lv' := [(0, .ref _), (1, .ref _)]) (st' := [.int 3, .int 0, .ref _, .int 0, .ref _]) rfl ?_
  refine ev_copy DX1_copyCommonFrom 7 rfl qX1_41 (Nat.le_of_ble_eq_true rfl) (Nat.le_of_ble_eq_true rfl) hr2 hr (by decide) (by decide) (by decide) (by decide) (by decide) rfl ?_
  refine ev_ss DX1_copyCommonFrom 2 8 (pc' := 16) (lv' := [(0, .ref _), (1, .ref _)]) (st' := [.ref _, .ref _]) rfl ?_
  refine ev_get DX1_copyCommonFrom 10 GX1 rfl (k0 := 3) (Nat.le_of_ble_eq_true rfl) fX1_25 (wset_o h2 hr rfl) rfl ?_
  refine ev_put (fs' := [_, _, _, _, _]) DX1_copyCommonFrom 11 GX1 rfl (k0 := 3) (Nat.le_of_ble_eq_true rfl) fX1_25 rfl ⟨rfl, rfl⟩ (wset_o h hr rfl) (Nat.le_of_ble_eq_true rfl) rfl rfl ?_
  refine ev_ss DX1_copyCommonFrom 2 12 (pc' := 24) (lv' := [(0, .ref _), (1, .ref _)]) (st' := [.ref _, .ref _]) rfl ?_
  refine ev_get DX1_copyCommonFrom 14 GX1 rfl (k0 := 4) (Nat.le_of_ble_eq_true rfl) fX1_47 (wset_n (wset_o h2 hr rfl) (Ne.symm hne)) rfl ?_
  refine ev_put (fs' := [_, _, _, _, _]) DX1_copyCommonFrom 15 GX1 rfl (k0 := 4) (Nat.le_of_ble_eq_true rfl) fX1_47 rfl ⟨rfl, rfl⟩ (wset_get (wset_o h hr rfl)) (Nat.le_of_ble_eq_true rfl) rfl wset_set ?_
  exact ev_vret DX1_copyCommonFrom 16 rfl rfl ⟨rfl, rfl⟩
def cpT (τ σ : WS) (i : Nat) : WS := (fun t => if t < i then τ.1 t else σ.1 t, σ.2)
theorem cpT_0 {τ σ : WS} : cpT τ σ 0 = σ := rfl
theorem cpT_s {τ σ : WS} {i : Nat} : (va_up (cpT τ σ i).1 i (τ.1 i), (cpT τ σ i).2) = cpT τ σ (i + 1) := by
  refine Prod.ext (funext fun t => ?_) rfl
  show (if t = i then τ.1 i else if t < i then τ.1 t else σ.1 t) = if t < i + 1 then τ.1 t else σ.1 t
  by_cases h1 : t = i
  · subst h1
    rw [if_pos rfl]
    exact (if_pos (Nat.lt_succ_self t)).symm
  · rw [if_neg h1]
    by_cases h2 : t < i
    · show (if t < i then τ.1 t else σ.1 t) = if t < i + 1 then τ.1 t else σ.1 t
      rw [if_pos h2, if_pos (by omega)]
    · show (if t < i then τ.1 t else σ.1 t) = if t < i + 1 then τ.1 t else σ.1 t
      rw [if_neg h2, if_neg (by omega)]
/-- two ways lie apart -/
def WP (iw iv : Nat) : Prop := iw + 12 ≤ iv ∨ iv + 12 ≤ iw
/-- nothing has changed outside a way -/
def WO (iw : Nat) (ws w : va_W) : Prop := ∀ j, (j < iw ∨ iw + 12 ≤ j) → w[j]? = ws[j]?
theorem WO.rf {iw : Nat} {ws : va_W} : WO iw ws ws := fun _ _ => rfl
theorem WO.tr {iw : Nat} {ws w w2 : va_W} (h : WO iw ws w) (h2 : WO iw w w2) : WO iw ws w2 := fun j a => (h2 j a).trans (h j a)
theorem WO.set {iw j : Nat} {ws : va_W} {x : Nat × va_E} (h1 : iw ≤ j) (h2 : j < iw + 12) : WO iw ws (ws.set j x) := fun j2 a => List.getElem?_set_ne (by omega)
theorem WY.ext {E : gE} {ad : Nat → Nat} {ws : va_W} {iw : Nat} {σ τ : WS} (h : WY E ad ws iw σ) (h1 : ∀ t, t < 8 → σ.1 t = τ.1 t) (h2 : σ.2 = τ.2) : WY E ad ws iw τ := by
  obtain ⟨st, sz, r, a, b, c, d, e, f⟩ := h
  rw [h2] at a e
  exact ⟨st, sz, r, a, b, c, d, e, fun t ht => by rw [← h1 t ht]; exact f t ht⟩
set_option maxRecDepth 100000 in
set_option maxHeartbeats 4000000 in
theorem m_X5_copyFrom {E : gE} {ad : Nat → Nat} {ws : va_W} {iw iv : Nat} {σ τ : WS} (hi : WP iw iv) (hW0 : WY E ad ws iw σ) (hV0 : WY E ad ws iv τ) : C0 E YX5_copyFrom 0 0 [.ref (ad iw), .ref (ad iv)] ws (fun v w => v = none ∧ WY E ad w iw τ ∧ WO iw ws w) := by
  have e8 := k8e
  unfold WP at hi
  refine c0V vX5_copyFrom (Nat.le_of_ble_eq_true rfl) (lv0 := [(0, .ref (ad iw)), (1, .ref (ad iv))]) rfl ?_
  suffices K : ∀ (m i : Nat) (x : Int32) (w : va_W) (lv9 : List (Nat × Value)), i + m = k8 → x = nI i → WY E ad w iw (cpT τ σ i) → WO iw ws w → lv9 = [(0, .ref (ad iw)), (1, .ref (ad iv)), (2, .int x)] →
      Ev E YX5_copyFrom (fun v w => v = none ∧ WY E ad w iw τ ∧ WO iw ws w) nX 0 0 2 lv9 [] w by
    refine ev_ss DX5_copyFrom 2 0 (pc' := 2) (lv' := [(2, .int 0), (0, .ref _), (1, .ref _)]) (st' := []) rfl ?_
    refine ev_lvp (lv2 := [(0, .ref _), (1, .ref _), (2, .int _)]) [1, 2, 0] rfl ?_
    exact K k8 0 _ ws _ (Nat.zero_add k8) nI_0.symm (by rw [cpT_0]; exact hW0) WO.rf rfl
  intro m
  induction m with
  | zero =>
    intro i x w lv9 hm hx hW hO hv
    obtain rfl : i = k8 := by omega
    subst hx; subst hv
    have hV : WY E ad w iv τ := hV0.of (fun j a b => hO j (by omega))
    obtain ⟨st, sz, r, h1, h2, h3, h4, h5, h6⟩ := id hW
    obtain ⟨st2, sz2, r2, g1, g2, g3, g4, g5, g6⟩ := id hV
    refine ev_ss DX5_copyFrom 2 2 (pc' := 5) (lv' := [(0, .ref _), (1, .ref _), (2, .int _)]) (st' := [.int 8, .int _]) rfl ?_
    refine ev_icge DX5_copyFrom 4 rfl (tgt := 29) (by decide) (fun _ => ?_) (fun h => h.elim (by rw [k8e]; decide))
    refine ev_ss DX5_copyFrom 1 16 (pc' := 30) (lv' := [(0, .ref _), (1, .ref _), (2, .int _)]) (st' := [.ref _]) rfl ?_
    refine ev_get DX5_copyFrom 17 GX5 rfl (k0 := 1) (Nat.le_of_ble_eq_true rfl) fX5_20 h1 rfl ?_
    refine ev_ss DX5_copyFrom 1 18 (pc' := 34) (lv' := [(0, .ref _), (1, .ref _), (2, .int _)]) (st' := [.ref _, .ref _]) rfl ?_
    refine ev_get DX5_copyFrom 19 GX5 rfl (k0 := 1) (Nat.le_of_ble_eq_true rfl) fX5_20 g1 rfl ?_
    refine ev_cV DX5_copyFrom 20 (m_X4_copyFrom h3 g3 h4 g4 (by omega)) vX4_copyFrom rfl qX5_29 rfl h3 rfl (hd_of rfl rfl rfl rfl) ?_
    refine ev_ss DX5_copyFrom 2 21 (pc' := 42) (lv' := [(0, .ref _), (1, .ref _), (2, .int _)]) (st' := [.ref _, .ref _]) rfl ?_
    refine ev_get DX5_copyFrom 23 GX5 rfl (k0 := 2) (Nat.le_of_ble_eq_true rfl) fX5_32 (wset_n (wset_n g1 (by omega)) (by omega)) rfl ?_
    refine ev_put (fs' := [_, _, _, _, _]) DX5_copyFrom 24 GX5 rfl (k0 := 2) (Nat.le_of_ble_eq_true rfl) fX5_32 rfl ⟨rfl, rfl⟩ (wset_n (wset_n h1 (by omega)) (by omega)) (Nat.le_of_ble_eq_true rfl) rfl rfl ?_
    refine ev_ss DX5_copyFrom 2 25 (pc' := 50) (lv' := [(0, .ref _), (1, .ref _), (2, .int _)]) (st' := [.ref _, .ref _]) rfl ?_
    refine ev_get DX5_copyFrom 27 GX5 rfl (k0 := 3) (Nat.le_of_ble_eq_true rfl) fX5_36 (wset_n (wset_n (wset_n g1 (by omega)) (by omega)) (by omega)) rfl ?_
    refine ev_put (fs' := [_, _, _, _, _]) DX5_copyFrom 28 GX5 rfl (k0 := 3) (Nat.le_of_ble_eq_true rfl) fX5_36 rfl ⟨rfl, rfl⟩ (wset_get (wset_n (wset_n h1 (by omega)) (by omega))) (Nat.le_of_ble_eq_true rfl) rfl wset_set ?_
    refine ev_ss DX5_copyFrom 2 29 (pc' := 58) (lv' := [(0, .ref _), (1, .ref _), (2, .int _)]) (st' := [.ref _, .ref _]) rfl ?_
    refine ev_get DX5_copyFrom 31 GX5 rfl (k0 := 4) (Nat.le_of_ble_eq_true rfl) fX5_40 (wset_n (wset_n (wset_n g1 (by omega)) (by omega)) (by omega)) rfl ?_
    refine ev_put (fs' := [_, _, _, _, _]) DX5_copyFrom 32 GX5 rfl (k0 := 4) (Nat.le_of_ble_eq_true rfl) fX5_40 rfl ⟨rfl, rfl⟩ (wset_get (wset_n (wset_n h1 (by omega)) (by omega))) (Nat.le_of_ble_eq_true rfl) rfl wset_set ?_
    refine ev_vret DX5_copyFrom 33 rfl rfl ⟨rfl, ?_, hO.tr ?_⟩
    · exact ⟨st2, sz2, _, wset_get (wset_n (wset_n h1 (by omega)) (by omega)), wset_n (wset_n (wset_n h2 (by omega)) (by omega)) (by omega), wset_n (wset_get (wset_n h3 (by omega))) (by omega), wset_n (wset_n (wset_get h4) (by omega)) (by omega), RQ_cp g5, fun t ht => wset_n (wset_n (wset_n (by have e := h6 t ht; rw [show (cpT τ σ k8).1 t = τ.1 t from if_pos (by omega)] at e; exact e) (by omega)) (by omega)) (by omega)⟩
    · exact ((WO.set (by omega) (by omega)).tr (WO.set (by omega) (by omega))).tr (WO.set (by omega) (by omega))
  | succ m ih =>
    intro i x w lv9 hm hx hW hO hv
    subst hx; subst hv
    have hV : WY E ad w iv τ := hV0.of (fun j a b => hO j (by omega))
    obtain ⟨st, sz, r, h1, h2, h3, h4, h5, h6⟩ := id hW
    obtain ⟨st2, sz2, r2, g1, g2, g3, g4, g5, g6⟩ := id hV
    refine ev_ss DX5_copyFrom 2 2 (pc' := 5) (lv' := [(0, .ref _), (1, .ref _), (2, .int _)]) (st' := [.int 8, .int _]) rfl ?_
    refine ev_icge DX5_copyFrom 4 rfl (tgt := 29) (by decide) (fun h => absurd h (nI_ge (b := 8) (by omega) (by decide))) (fun _ => ?_)
    refine ev_ss DX5_copyFrom 1 5 (pc' := 9) (lv' := [(0, .ref _), (1, .ref _), (2, .int _)]) (st' := [.ref _]) rfl ?_
    refine ev_get DX5_copyFrom 6 GX5 rfl (k0 := 0) (Nat.le_of_ble_eq_true rfl) fX5_11 h1 rfl ?_
    refine ev_ss DX5_copyFrom 1 7 (pc' := 13) (lv' := [(0, .ref _), (1, .ref _), (2, .int _)]) (st' := [.int _, .ref _]) rfl ?_
    refine ev_aald4 DX5_copyFrom 8 rfl h2 (vp_in_nI (by omega) (by decide)) (b := ad (iw + 4 + i)) (arT_at (by omega)) ?_
    refine ev_ss DX5_copyFrom 1 9 (pc' := 15) (lv' := [(0, .ref _), (1, .ref _), (2, .int _)]) (st' := [.ref _, .ref _]) rfl ?_
    refine ev_get DX5_copyFrom 10 GX5 rfl (k0 := 0) (Nat.le_of_ble_eq_true rfl) fX5_11 g1 rfl ?_
    refine ev_ss DX5_copyFrom 1 11 (pc' := 19) (lv' := [(0, .ref _), (1, .ref _), (2, .int _)]) (st' := [.int _, .ref _, .ref _]) rfl ?_
    refine ev_aald4 DX5_copyFrom 12 rfl g2 (vp_in_nI (by omega) (by decide)) (b := ad (iv + 4 + i)) (arT_at (by omega)) ?_
    refine ev_cV DX5_copyFrom 13 (m_X3_copyFrom (h6 i (by omega)) (g6 i (by omega)) (by omega)) vX3_copyFrom rfl qX5_25 rfl (h6 i (by omega)) rfl (hd_of rfl rfl rfl rfl) ?_
    refine ev_ss DX5_copyFrom 1 14 (pc' := 26) (lv' := [(2, .int _), (0, .ref _), (1, .ref _)]) (st' := []) rfl ?_
    refine ev_goto DX5_copyFrom 15 rfl (tgt := 2) (by decide) ?_
    refine ev_lvp (lv2 := [(0, .ref _), (1, .ref _), (2, .int _)]) [1, 2, 0] rfl ?_
    exact ih (i + 1) _ _ _ (by omega) (nI_1 i) (by rw [← cpT_s]; exact hW.tone (by omega)) (hO.tr (WO.set (by omega) (by omega))) rfl
/-- two states lie apart -/
def PP (is io : Nat) : Prop := is + 26 ≤ io ∨ io + 26 ≤ is
/-- nothing has changed outside a state -/
def PO (is : Nat) (ws w : va_W) : Prop := ∀ j, (j < is ∨ is + 26 ≤ j) → w[j]? = ws[j]?
theorem SD.cp {E : gE} {ad : Nat → Nat} {ws w : va_W} {is io : Nat} {sd bt sd2 bt2 : Int32} {se se2 g g2 : Nat → Int32} (h : ws[is + 25]? = some (ad (is + 25), iaC E 3 g)) (h0 : ws[is]? = some (ad is, stC (ad (is + 1)) (ad (is + 13)) (ad (is + 25)) sd bt)) (h3 : ∀ j, j < 3 → g2 j = se2 j) : SD E ad ((ws.set (is + 25) (ad (is + 25), iaC E 3 (cpR g2 g 3))).set is (ad is, stC (ad (is + 1)) (ad (is + 13)) (ad (is + 25)) sd2 bt2)) is sd2 bt2 se2 :=
  ⟨wset_get (wset_n h0 (by omega)), _, wset_n (wset_get h) (by omega), fun j hj => by rw [cpR_at (by rw [show (3 : Int32).toNatClampNeg = 3 from rfl]; exact hj)]; exact h3 j hj⟩
theorem m_X1_ccf {E : gE} {ad : Nat → Nat} {ws : va_W} {is io : Nat} {sd bt sd2 bt2 : Int32} {se se2 : Nat → Int32} (hi : PP is io) (hS : SD E ad ws is sd bt se) (hO : SD E ad ws io sd2 bt2 se2) :
    C0 E YX1_copyCommonFrom 0 0 [.ref (ad is), .ref (ad io)] ws (fun v w => v = none ∧ SD E ad w is sd2 bt2 se2 ∧ ∀ j, j ≠ is → j ≠ is + 25 → w[j]? = ws[j]?) := by
  unfold PP at hi
  obtain ⟨h0, g, h1, h2⟩ := hS
  obtain ⟨k0, g2, k1, k2⟩ := hO
  refine c0_mono (m_X1_copyCommonFrom h0 k0 h1 k1 (by omega)) (fun v w hvw => ?_)
  obtain ⟨rfl, rfl⟩ := hvw
  exact ⟨rfl, SD.cp (io := io) (w := ws) (se := se2) h1 h0 k2, fun j a b => by rw [List.getElem?_set_ne (by omega), List.getElem?_set_ne (by omega)]⟩
set_option maxRecDepth 100000 in
set_option maxHeartbeats 4000000 in
theorem m_X1_copyFrom {E : gE} {ad : Nat → Nat} {ws : va_W} {is io : Nat} {sd bt sd2 bt2 : Int32} {se se2 : Nat → Int32} {σ0 σ1 τ0 τ1 : WS} (hi : PP is io) (hS : SD E ad ws is sd bt se) (hO : SD E ad ws io sd2 bt2 se2) (hA : WY E ad ws (is + 1) σ0) (hB : WY E ad ws (is + 13) σ1) (hC : WY E ad ws (io + 1) τ0) (hD : WY E ad ws (io + 13) τ1) : C0 E YX1_copyFrom 0 0 [.ref (ad is), .ref (ad io)] ws (fun v w => v = none ∧ SD E ad w is sd2 bt2 se2 ∧ WY E ad w (is + 1) τ0 ∧ WY E ad w (is + 13) τ1 ∧ PO is ws w) := by
  have hi0 := hi
  unfold PP at hi0
  refine c0V vX1_copyFrom (Nat.le_of_ble_eq_true rfl) (lv0 := [(0, .ref (ad is)), (1, .ref (ad io))]) rfl ?_
  refine ev_ss DX1_copyFrom 1 0 (pc' := 1) (lv' := [(0, .ref _), (1, .ref _)]) (st' := [.ref _]) rfl ?_
  refine ev_get DX1_copyFrom 1 GX1 rfl (k0 := 0) (Nat.le_of_ble_eq_true rfl) fX1_12 hS.1 rfl ?_
  refine ev_ss DX1_copyFrom 1 2 (pc' := 5) (lv' := [(0, .ref _), (1, .ref _)]) (st' := [.ref _, .ref _]) rfl ?_
  refine ev_get DX1_copyFrom 3 GX1 rfl (k0 := 0) (Nat.le_of_ble_eq_true rfl) fX1_12 hO.1 rfl ?_
  refine ev_rV DX1_copyFrom 4 (m_X5_copyFrom (iw := is + 1) (iv := io + 1) (by unfold WP; omega) hA hC) vX5_copyFrom rfl qX1_29 rfl (have ⟨_, _, _, h, _⟩ := hA; h) rfl (hd_of rfl rfl rfl rfl) (fun v w1 hvw => ?_)
  obtain ⟨rfl, hA1, hO1⟩ := hvw
  have hS1 : SD E ad w1 is sd bt se := hS.of (hO1 _ (by omega)) (hO1 _ (by omega))
  have hQ1 : SD E ad w1 io sd2 bt2 se2 := hO.of (hO1 _ (by omega)) (hO1 _ (by omega))
  have hB1 : WY E ad w1 (is + 13) σ1 := hB.of (fun j a b => hO1 _ (by omega))
  have hD1 : WY E ad w1 (io + 13) τ1 := hD.of (fun j a b => hO1 _ (by omega))
  refine ev_ss DX1_copyFrom 1 5 (pc' := 12) (lv' := [(0, .ref _), (1, .ref _)]) (st' := [.ref _]) rfl ?_
  refine ev_get DX1_copyFrom 6 GX1 rfl (k0 := 1) (Nat.le_of_ble_eq_true rfl) fX1_18 hS1.1 rfl ?_
  refine ev_ss DX1_copyFrom 1 7 (pc' := 16) (lv' := [(0, .ref _), (1, .ref _)]) (st' := [.ref _, .ref _]) rfl ?_
  refine ev_get DX1_copyFrom 8 GX1 rfl (k0 := 1) (Nat.le_of_ble_eq_true rfl) fX1_18 hQ1.1 rfl ?_
  refine ev_rV DX1_copyFrom 9 (m_X5_copyFrom (iw := is + 13) (iv := io + 13) (by unfold WP; omega) hB1 hD1) vX5_copyFrom rfl qX1_29 rfl (have ⟨_, _, _, h, _⟩ := hB1; h) rfl (hd_of rfl rfl rfl rfl) (fun v w2 hvw => ?_)
  obtain ⟨rfl, hB2, hO2⟩ := hvw
  have hS2 : SD E ad w2 is sd bt se := hS1.of (hO2 _ (by omega)) (hO2 _ (by omega))
  have hQ2 : SD E ad w2 io sd2 bt2 se2 := hQ1.of (hO2 _ (by omega)) (hO2 _ (by omega))
  have hA2 : WY E ad w2 (is + 1) τ0 := hA1.of (fun j a b => hO2 _ (by omega))
  refine ev_ss DX1_copyFrom 2 10 (pc' := 24) (lv' := [(0, .ref _), (1, .ref _)]) (st' := [.ref _, .ref _]) rfl ?_
  refine ev_rV DX1_copyFrom 12 (m_X1_ccf hi hS2 hQ2) vX1_copyCommonFrom rfl qX1_33 rfl hS2.1 rfl (hd_of rfl rfl rfl rfl) (fun v w9 hvw => ?_)
  obtain ⟨rfl, hS9, hO9⟩ := hvw
  exact ev_vret DX1_copyFrom 13 rfl rfl ⟨rfl, hS9, hA2.of (fun j a b => hO9 j (by omega) (by omega)), hB2.of (fun j a b => hO9 j (by omega) (by omega)), fun j a => ((hO9 j (by omega) (by omega)).trans (hO2 j (by omega))).trans (hO1 j (by omega))⟩