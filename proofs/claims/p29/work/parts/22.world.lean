section KX
variable {E : gE} {Y Y2 : MI} {Pr Pr2 : Option Value → va_W → Prop} {Px Px2 : String → va_W → Prop} {k n k1 n1 pc np : Nat} {lv : List (Nat × Value)} {st stk As : List Value} {ws : va_W} {L : LI}
/-- a call that may throw, over a method without handlers -/
theorem ev_xV (D : Lst Y L) (i : Nat) {idx b q ci N : Nat} {T : u_T} {fs : List Value} (k2 n2 : Nat) (hM : C1 E Y2 k1 n1 (.ref b :: As) ws Pr2 Px2) (hv : mVv Y2 np) (hi : L[i]? = some (pc, .invokevirtual idx, 3)) (hl : gw (.methodLink (mnm Y).cls idx (mnm Y2))) (hst : stk = As.reverse ++ .ref b :: st) (he : ws[q]? = some (b, .inr (ci, fs))) (hcl : gCl[ci]? = some ((mnm Y2).cls, T, N)) (hd : mdp Y2 + 1 ≤ mdp Y ∧ mml Y2 ≤ 18 ∧ As.length = np ∧ (st.map fun v => v.category).sum ≤ 8) (hh : mhh Y = []) (hk : k1 + k2 ≤ k) (hn2 : n1 + n2 ≤ n)
    (hx : ∀ X w, Px2 X w → Px X w) (kt : ∀ (v : Option Value) (w : va_W), Pr2 v w → Ev E Y Pr Px k2 n2 (pc + 3) lv (vcons v st) w) : Ev E Y Pr Px k n pc lv stk ws :=
  ev_callVx D i hv hi hl hd.1 hd.2.1 he hcl hd.2.2.1 hd.2.2.2 hst hk hn2 hM (fun X w h => evx_out hh (hx X w h)) (fun v w h => by rw [vcons_eq]; exact kt v w h)
theorem ev_xS (D : Lst Y L) (i : Nat) {idx : Nat} (k2 n2 : Nat) (hM : C1 E Y2 k1 n1 As ws Pr2 Px2) (hv : mVs Y2 np) (hi : L[i]? = some (pc, .invokestatic idx, 3)) (hl : gw (.methodLink (mnm Y).cls idx (mnm Y2))) (hst : stk = As.reverse ++ st) (hd : mdp Y2 + 1 ≤ mdp Y ∧ mml Y2 ≤ 18 ∧ As.length = np ∧ (st.map fun v => v.category).sum ≤ 8) (hh : mhh Y = []) (hk : k1 + k2 ≤ k) (hn2 : n1 + n2 ≤ n)
    (hx : ∀ X w, Px2 X w → Px X w) (kt : ∀ (v : Option Value) (w : va_W), Pr2 v w → Ev E Y Pr Px k2 n2 (pc + 3) lv (vcons v st) w) : Ev E Y Pr Px k n pc lv stk ws :=
  ev_callSx D i hv hi hl hd.1 hd.2.1 hd.2.2.1 hd.2.2.2 hst hk hn2 hM (fun X w h => evx_out hh (hx X w h)) (fun v w h => by rw [vcons_eq]; exact kt v w h)
end KX
theorem rngN {x : Int32} {n : Nat} (hn : n < 2 ^ 31) (h0 : ¬ x < 0) (h1 : x < nI n) : ∃ a, a < n ∧ x = nI a := by
  obtain ⟨j, hj, rfl⟩ := nI_of h0
  exact ⟨j, (nI_ltI hj hn).mp h1, rfl⟩
/-- a way that is not one; a tone that is not one -/
def bW (w : Int32) : Prop := w < 0 ∨ ¬ w < 2
def bT (t : Int32) : Prop := t < 0 ∨ ¬ t < 8
def wAt (a : Nat) : Nat := 2 + 12 * a
def pW (p : PS) (a : Nat) : WS := if a = 0 then p.2.2.2.1 else p.2.2.2.2
def pSet (p : PS) (a : Nat) (σ : WS) : PS := (p.1, p.2.1, p.2.2.1, if a = 0 then (σ, p.2.2.2.2) else (p.2.2.2.1, σ))
theorem STA.way {E : gE} {ad : Nat → Nat} {ws : va_W} {is : Nat} {p : PS} (h : STA E ad ws is p) {a : Nat} (ha : a < 2) : WY E ad ws (is + 1 + 12 * a) (pW p a) := by
  rcases (show a = 0 ∨ a = 1 by omega) with rfl | rfl
  · exact h.2.1
  · exact h.2.2
theorem STA.set {E : gE} {ad : Nat → Nat} {ws w : va_W} {is : Nat} {p : PS} {sd bt : Int32} {σ : WS} (h : STA E ad ws is p) {a : Nat} (ha : a < 2) (hS : SD E ad w is sd bt p.2.2.1) (hW : WY E ad w (is + 1 + 12 * a) σ) (hO : ∀ j, j ≠ is → (j < is + 1 + 12 * a ∨ is + 1 + 12 * a + 12 ≤ j) → w[j]? = ws[j]?) : STA E ad w is (sd, bt, (pSet p a σ).2.2) := by
  rcases (show a = 0 ∨ a = 1 by omega) with rfl | rfl
  · exact ⟨hS, hW, h.2.2.of (fun j b c => hO j (by omega) (by omega))⟩
  · exact ⟨hS, h.2.1.of (fun j b c => hO j (by omega) (by omega)), hW⟩
theorem MW.ob {E : gE} {ad : Nat → Nat} {ws : va_W} {p : PS} {sv : Nat → PS} {sc r len : Nat} {ch : Nat → Int32} (h : MW E ad ws p sv sc r len ch) : ws[0]? = some (ad 0, obC (ad 1) (ad 27) (ad 53) (ad 54) (ad 56) (nI sc)) := h.1
/-- only the present state has changed -/
theorem MW.now {E : gE} {ad : Nat → Nat} {ws w : va_W} {p p2 : PS} {sv : Nat → PS} {sc r len : Nat} {ch : Nat → Int32} (h : MW E ad ws p sv sc r len ch) (h1 : STA E ad w 1 p2) (hf : ∀ j, (j < 1 ∨ 27 ≤ j) → w[j]? = ws[j]?) : MW E ad w p2 sv sc r len ch := by
  obtain ⟨a, b, ⟨pt, c⟩, d, ⟨lb, sz, e⟩, f, g⟩ := h
  exact ⟨(hf 0 (by decide)).trans a, h1, ⟨pt, c.of (fun j x y => hf j (by omega))⟩, (hf 53 (by decide)).trans d, ⟨lb, sz, e.of (hf _ (by decide)) (hf _ (by decide))⟩, f.of (hf _ (by decide)) (hf _ (by decide)), fun k hk => (g k hk).of (fun j x y => hf j (by unfold plS at x; omega))⟩
/-- only the present state and the lesson have changed -/
theorem MW.nowL {E : gE} {ad : Nat → Nat} {ws w : va_W} {p p2 : PS} {sv : Nat → PS} {sc r len : Nat} {ch : Nat → Int32} (h : MW E ad ws p sv sc r len ch) (h1 : STA E ad w 1 p2) (hL : ∃ lb sz, LE E ad w 54 lb sz) (hf : ∀ j, (j < 1 ∨ 27 ≤ j) → j ≠ 54 → j ≠ 55 → w[j]? = ws[j]?) : MW E ad w p2 sv sc r len ch := by
  obtain ⟨a, b, ⟨pt, c⟩, d, -, f, g⟩ := h
  exact ⟨(hf 0 (by decide) (by decide) (by decide)).trans a, h1, ⟨pt, c.of (fun j x y => hf j (by omega) (by omega) (by omega))⟩, (hf 53 (by decide) (by decide) (by decide)).trans d, hL, f.of (hf _ (by decide) (by decide) (by decide)) (hf _ (by decide) (by decide) (by decide)), fun k hk => (g k hk).of (fun j x y => hf j (by unfold plS at x; omega) (by unfold plS at x; omega) (by unfold plS at x; omega))⟩
/-- only the trial and the lesson have changed -/
theorem MW.tri {E : gE} {ad : Nat → Nat} {ws w : va_W} {p : PS} {sv : Nat → PS} {sc r len : Nat} {ch : Nat → Int32} (h : MW E ad ws p sv sc r len ch) (h1 : ∃ pt, STA E ad w 27 pt) (hL : ∃ lb sz, LE E ad w 54 lb sz) (hf : ∀ j, (j < 27 ∨ 53 ≤ j) → j ≠ 54 → j ≠ 55 → w[j]? = ws[j]?) : MW E ad w p sv sc r len ch := by
  obtain ⟨a, b, -, d, -, f, g⟩ := h
  exact ⟨(hf 0 (by decide) (by decide) (by decide)).trans a, b.of (fun j x y => hf j (by omega) (by omega) (by omega)), h1, (hf 53 (by decide) (by decide) (by decide)).trans d, hL, f.of (hf _ (by decide) (by decide) (by decide)) (hf _ (by decide) (by decide) (by decide)), fun k hk => (g k hk).of (fun j x y => hf j (by unfold plS at x; omega) (by unfold plS at x; omega) (by unfold plS at x; omega))⟩
/-- only the text has changed -/
theorem MW.txt {E : gE} {ad : Nat → Nat} {ws w : va_W} {p : PS} {sv : Nat → PS} {sc r len len2 : Nat} {ch ch2 : Nat → Int32} (h : MW E ad ws p sv sc r len ch) (h1 : TXT E ad w 56 len2 ch2) (hf : ∀ j, j ≠ 56 → j ≠ 57 → w[j]? = ws[j]?) : MW E ad w p sv sc r len2 ch2 := by
  obtain ⟨a, b, ⟨pt, c⟩, d, ⟨lb, sz, e⟩, f, g⟩ := h
  exact ⟨(hf 0 (by decide) (by decide)).trans a, b.of (fun j x y => hf j (by omega) (by omega)), ⟨pt, c.of (fun j x y => hf j (by omega) (by omega))⟩, (hf 53 (by decide) (by decide)).trans d, ⟨lb, sz, e.of (hf _ (by decide) (by decide)) (hf _ (by decide) (by decide))⟩, h1, fun k hk => (g k hk).of (fun j x y => hf j (by unfold plS at x; omega) (by unfold plS at x; omega))⟩
set_option maxRecDepth 100000 in
set_option maxHeartbeats 4000000 in
theorem m_X6_wayOf_0 {E : gE} {ad : Nat → Nat} {ws : va_W} {p : PS} {sv : Nat → PS} {sc r len : Nat} {ch : Nat → Int32} (h : MW E ad ws p sv sc r len ch) : CD E YX6_wayOf 0 0 [.ref (ad 0), .int 0] ws (some (.ref (ad 2))) ws := by
  refine cdV vX6_wayOf (Nat.le_of_ble_eq_true rfl) (lv0 := [(0, .ref (ad 0)), (1, .int 0)]) rfl ?_
  refine ev_ss DX6_wayOf 1 0 (pc' := 1) (lv' := [(0, .ref _), (1, .int 0)]) (st' := [.int 0]) rfl ?_
  refine ev_iflt DX6_wayOf 1 rfl (tgt := 9) (by decide) (fun h => absurd h (by decide)) (fun _ => ?_)
  refine ev_ss DX6_wayOf 2 2 (pc' := 6) (lv' := [(0, .ref _), (1, .int 0)]) (st' := [.int 2, .int 0]) rfl ?_
  refine ev_iclt DX6_wayOf 4 rfl (tgt := 20) (by decide) (fun _ => ?_) (fun h => h.elim (by decide))
  refine ev_ss DX6_wayOf 1 10 (pc' := 21) (lv' := [(0, .ref _), (1, .int 0)]) (st' := [.ref _]) rfl ?_
  refine ev_get DX6_wayOf 11 GX6 rfl (k0 := 0) (Nat.le_of_ble_eq_true rfl) fX6_12 h.1 rfl ?_
  refine ev_ss DX6_wayOf 1 12 (pc' := 25) (lv' := [(0, .ref _), (1, .int 0)]) (st' := [.int 0, .ref _]) rfl ?_
  refine ev_cV DX6_wayOf 13 (m_X1_wayAt_0 h.2.1.1.1) vX1_wayAt rfl qX6_272 rfl h.2.1.1.1 rfl (hd_of rfl rfl rfl rfl) ?_
  exact ev_aret DX6_wayOf 14 rfl rfl ⟨rfl, rfl⟩
set_option maxRecDepth 100000 in
set_option maxHeartbeats 4000000 in
theorem m_X6_wayOf_1 {E : gE} {ad : Nat → Nat} {ws : va_W} {p : PS} {sv : Nat → PS} {sc r len : Nat} {ch : Nat → Int32} (h : MW E ad ws p sv sc r len ch) : CD E YX6_wayOf 0 0 [.ref (ad 0), .int 1] ws (some (.ref (ad 14))) ws := by
  refine cdV vX6_wayOf (Nat.le_of_ble_eq_true rfl) (lv0 := [(0, .ref (ad 0)), (1, .int 1)]) rfl ?_
  refine ev_ss DX6_wayOf 1 0 (pc' := 1) (lv' := [(0, .ref _), (1, .int 1)]) (st' := [.int 1]) rfl ?_
  refine ev_iflt DX6_wayOf 1 rfl (tgt := 9) (by decide) (fun h => absurd h (by decide)) (fun _ => ?_)
  refine ev_ss DX6_wayOf 2 2 (pc' := 6) (lv' := [(0, .ref _), (1, .int 1)]) (st' := [.int 2, .int 1]) rfl ?_
  refine ev_iclt DX6_wayOf 4 rfl (tgt := 20) (by decide) (fun _ => ?_) (fun h => h.elim (by decide))
  refine ev_ss DX6_wayOf 1 10 (pc' := 21) (lv' := [(0, .ref _), (1, .int 1)]) (st' := [.ref _]) rfl ?_
  refine ev_get DX6_wayOf 11 GX6 rfl (k0 := 0) (Nat.le_of_ble_eq_true rfl) fX6_12 h.1 rfl ?_
  refine ev_ss DX6_wayOf 1 12 (pc' := 25) (lv' := [(0, .ref _), (1, .int 1)]) (st' := [.int 1, .ref _]) rfl ?_
  refine ev_cV DX6_wayOf 13 (m_X1_wayAt_1 h.2.1.1.1) vX1_wayAt rfl qX6_272 rfl h.2.1.1.1 rfl (hd_of rfl rfl rfl rfl) ?_
  exact ev_aret DX6_wayOf 14 rfl rfl ⟨rfl, rfl⟩
theorem m_X6_wayOf {E : gE} {ad : Nat → Nat} {ws : va_W} {p : PS} {sv : Nat → PS} {sc r len : Nat} {ch : Nat → Int32} (h : MW E ad ws p sv sc r len ch) {a : Nat} (ha : a < 2) : CD E YX6_wayOf 0 0 [.ref (ad 0), .int (nI a)] ws (some (.ref (ad (2 + 12 * a)))) ws := by
  rcases (show a = 0 ∨ a = 1 by omega) with rfl | rfl
  · exact m_X6_wayOf_0 h
  · exact m_X6_wayOf_1 h
set_option maxRecDepth 100000 in
set_option maxHeartbeats 4000000 in
theorem x_X6_wayOf {E : gE} {ws : va_W} {a0 : Nat} {wy : Int32} (hb : bW wy) : C1 E YX6_wayOf 1 6 [.ref a0, .int wy] ws (fun _ _ => False) (fun X w => X = xI ∧ w = ws) := by
  unfold bW at hb
  refine c1V vX6_wayOf (Nat.le_of_ble_eq_true rfl) (lv0 := [(0, .ref a0), (1, .int wy)]) rfl ?_
  refine ev_ss DX6_wayOf 1 0 (pc' := 1) (lv' := [(0, .ref _), (1, .int _)]) (st' := [.int _]) rfl ?_
  refine ev_iflt DX6_wayOf 1 rfl (tgt := 9) (by decide) (fun c_1 => ?_) (fun c_1 => ?_)
  · exact ev_throwW DX6_wayOf 5 XbI rfl rfl nX6_184 (List.mem_of_getElem? (i := 1) rfl) rfl rfl rfl rfl rfl (Nat.le_of_ble_eq_true rfl) (Nat.le_of_ble_eq_true rfl) (by decide) (by decide) ⟨rfl, rfl⟩
  · refine ev_ss DX6_wayOf 2 2 (pc' := 6) (lv' := [(0, .ref _), (1, .int _)]) (st' := [.int 2, .int _]) rfl ?_
    refine ev_iclt DX6_wayOf 4 rfl (tgt := 20) (by decide) (fun c_2 => ?_) (fun c_2 => ?_)
    · exact absurd c_2 (hb.resolve_left c_1)
    · exact ev_throwW DX6_wayOf 5 XbI rfl rfl nX6_184 (List.mem_of_getElem? (i := 1) rfl) rfl rfl rfl rfl rfl (Nat.le_of_ble_eq_true rfl) (Nat.le_of_ble_eq_true rfl) (by decide) (by decide) ⟨rfl, rfl⟩
set_option maxRecDepth 100000 in
set_option maxHeartbeats 4000000 in
theorem m_X6_toneOf {E : gE} {ad : Nat → Nat} {ws : va_W} {p : PS} {sv : Nat → PS} {sc r len : Nat} {ch : Nat → Int32} (h : MW E ad ws p sv sc r len ch) {a t : Nat} (ha : a < 2) (ht : t < 8) : CD E YX6_toneOf 0 0 [.ref (ad 0), .int (nI a), .int (nI t)] ws (some (.ref (ad (2 + 12 * a + 4 + t)))) ws := by
  obtain ⟨st, sz, r9, h1, h2, h3, h4, h5, h6⟩ := h.2.1.way ha
  refine cdV vX6_toneOf (Nat.le_of_ble_eq_true rfl) (lv0 := [(0, .ref (ad 0)), (1, .int (nI a)), (2, .int (nI t))]) rfl ?_
  refine ev_ss DX6_toneOf 2 0 (pc' := 2) (lv' := [(0, .ref _), (1, .int _), (2, .int _)]) (st' := [.int _, .ref _]) rfl ?_
  refine ev_cV DX6_toneOf 2 (m_X6_wayOf h ha) vX6_wayOf rfl qX6_94 rfl h.1 rfl (hd_of rfl rfl rfl rfl) ?_
  refine ev_ss DX6_toneOf 2 3 (pc' := 7) (lv' := [(3, .ref _), (0, .ref _), (1, .int _), (2, .int _)]) (st' := [.int _]) rfl ?_
  refine ev_iflt DX6_toneOf 5 rfl (tgt := 16) (by decide) (fun h => absurd h (nI_pos (by omega))) (fun _ => ?_)
  refine ev_ss DX6_toneOf 2 6 (pc' := 13) (lv' := [(3, .ref _), (0, .ref _), (1, .int _), (2, .int _)]) (st' := [.int 8, .int _]) rfl ?_
  refine ev_iclt DX6_toneOf 8 rfl (tgt := 27) (by decide) (fun _ => ?_) (fun h => h.elim (nI_lt (by omega) (by decide)))
  refine ev_ss DX6_toneOf 1 14 (pc' := 28) (lv' := [(3, .ref _), (0, .ref _), (1, .int _), (2, .int _)]) (st' := [.ref _]) rfl ?_
  refine ev_get DX6_toneOf 15 GX5 rfl (k0 := 0) (Nat.le_of_ble_eq_true rfl) fX6_117 h1 rfl ?_
  refine ev_ss DX6_toneOf 1 16 (pc' := 32) (lv' := [(3, .ref _), (0, .ref _), (1, .int _), (2, .int _)]) (st' := [.int _, .ref _]) rfl ?_
  refine ev_aald4 DX6_toneOf 17 rfl h2 (vp_in_nI (by omega) (by decide)) (b := ad (2 + 12 * a + 4 + t)) (arT_at ht) ?_
  exact ev_aret DX6_toneOf 18 rfl rfl ⟨rfl, rfl⟩
set_option maxRecDepth 100000 in
set_option maxHeartbeats 4000000 in
theorem x_X6_toneOf_way {E : gE} {ad : Nat → Nat} {ws : va_W} {p : PS} {sv : Nat → PS} {sc r len : Nat} {ch : Nat → Int32} (h : MW E ad ws p sv sc r len ch) {wy t : Int32} (hb : bW wy) : C1 E YX6_toneOf 1 6 [.ref (ad 0), .int wy, .int t] ws (fun _ _ => False) (fun X w => X = xI ∧ w = ws) := by
  refine c1V vX6_toneOf (Nat.le_of_ble_eq_true rfl) (lv0 := [(0, .ref (ad 0)), (1, .int wy), (2, .int t)]) rfl ?_
  refine ev_ss DX6_toneOf 2 0 (pc' := 2) (lv' := [(0, .ref _), (1, .int _), (2, .int _)]) (st' := [.int _, .ref _]) rfl ?_
  exact ev_xV DX6_toneOf 2 0 0 (x_X6_wayOf hb) vX6_wayOf rfl qX6_94 rfl h.1 rfl (hd_of rfl rfl rfl rfl) rfl (by decide) (by decide) (fun X w hx => hx) (fun v w hf => hf.elim)
set_option maxRecDepth 100000 in
set_option maxHeartbeats 4000000 in
theorem x_X6_toneOf_tone {E : gE} {ad : Nat → Nat} {ws : va_W} {p : PS} {sv : Nat → PS} {sc r len : Nat} {ch : Nat → Int32} (h : MW E ad ws p sv sc r len ch) {wy t : Int32} {a : Nat} (ha : a < 2) (hwy : wy = nI a) (hb : bT t) : C1 E YX6_toneOf 1 6 [.ref (ad 0), .int wy, .int t] ws (fun _ _ => False) (fun X w => X = xI ∧ w = ws) := by
  subst hwy
  unfold bT at hb
  refine c1V vX6_toneOf (Nat.le_of_ble_eq_true rfl) (lv0 := [(0, .ref (ad 0)), (1, .int (nI a)), (2, .int t)]) rfl ?_
  refine ev_ss DX6_toneOf 2 0 (pc' := 2) (lv' := [(0, .ref _), (1, .int _), (2, .int _)]) (st' := [.int _, .ref _]) rfl ?_
  refine ev_cV DX6_toneOf 2 (m_X6_wayOf h ha) vX6_wayOf rfl qX6_94 rfl h.1 rfl (hd_of rfl rfl rfl rfl) ?_
  refine ev_ss DX6_toneOf 2 3 (pc' := 7) (lv' := [(3, .ref _), (0, .ref _), (1, .int _), (2, .int _)]) (st' := [.int _]) rfl ?_
  refine ev_iflt DX6_toneOf 5 rfl (tgt := 16) (by decide) (fun c_1 => ?_) (fun c_1 => ?_)
  · exact ev_throwW DX6_toneOf 9 XbI rfl rfl nX6_184 (List.mem_of_getElem? (i := 2) rfl) rfl rfl rfl rfl rfl (Nat.le_of_ble_eq_true rfl) (Nat.le_of_ble_eq_true rfl) (by decide) (by decide) ⟨rfl, rfl⟩
  · refine ev_ss DX6_toneOf 2 6 (pc' := 13) (lv' := [(3, .ref _), (0, .ref _), (1, .int _), (2, .int _)]) (st' := [.int 8, .int _]) rfl ?_
    refine ev_iclt DX6_toneOf 8 rfl (tgt := 27) (by decide) (fun c_2 => ?_) (fun c_2 => ?_)
    · exact absurd c_2 (hb.resolve_left c_1)
    · exact ev_throwW DX6_toneOf 9 XbI rfl rfl nX6_184 (List.mem_of_getElem? (i := 2) rfl) rfl rfl rfl rfl rfl (Nat.le_of_ble_eq_true rfl) (Nat.le_of_ble_eq_true rfl) (by decide) (by decide) ⟨rfl, rfl⟩
def bB (b : Int32) : Prop := b < 1 ∨ 100 < b
def bS (s : Int32) : Prop := s < 0 ∨ ¬ s < 3
theorem nbW {w : Int32} (h : ¬ bW w) : ∃ a, a < 2 ∧ w = nI a := rngN (by decide) (fun e => h (Or.inl e)) (Decidable.byContradiction (fun e => h (Or.inr e)))
theorem nbT {w : Int32} (h : ¬ bT w) : ∃ a, a < 8 ∧ w = nI a := rngN (by decide) (fun e => h (Or.inl e)) (Decidable.byContradiction (fun e => h (Or.inr e)))
theorem nbS {w : Int32} (h : ¬ bS w) : ∃ a, a < 3 ∧ w = nI a := rngN (by decide) (fun e => h (Or.inl e)) (Decidable.byContradiction (fun e => h (Or.inr e)))
set_option maxRecDepth 100000 in
set_option maxHeartbeats 4000000 in
theorem m_X6_checkBeats {E : gE} {ws : va_W} {b : Int32} (hg : ¬ bB b) : CD E YX6_checkBeats 0 0 [.int b] ws none ws := by
  refine cdS vX6_checkBeats (Nat.le_of_ble_eq_true rfl) (lv0 := [(0, .int b)]) rfl ?_
  refine ev_ss DX6_checkBeats 2 0 (pc' := 2) (lv' := [(0, .int _)]) (st' := [.int 1, .int _]) rfl ?_
  refine ev_iclt DX6_checkBeats 2 rfl (tgt := 11) (by decide) (fun h => absurd h (fun e => hg (Or.inl e))) (fun _ => ?_)
  refine ev_ss DX6_checkBeats 2 3 (pc' := 8) (lv' := [(0, .int _)]) (st' := [.int 100, .int _]) rfl ?_
  refine ev_icle DX6_checkBeats 5 rfl (tgt := 22) (by decide) (fun _ => ?_) (fun h => h.elim (Int32.not_lt.mp (fun e => hg (Or.inr e))))
  exact ev_vret DX6_checkBeats 11 rfl rfl ⟨rfl, rfl⟩
set_option maxRecDepth 100000 in
set_option maxHeartbeats 4000000 in
theorem x_X6_checkBeats {E : gE} {ws : va_W} {b : Int32} (hb : bB b) : C1 E YX6_checkBeats 1 6 [.int b] ws (fun _ _ => False) (fun X w => X = xA ∧ w = ws) := by
  unfold bB at hb
  refine c1S vX6_checkBeats (Nat.le_of_ble_eq_true rfl) (lv0 := [(0, .int b)]) rfl ?_
  refine ev_ss DX6_checkBeats 2 0 (pc' := 2) (lv' := [(0, .int _)]) (st' := [.int 1, .int _]) rfl ?_
  refine ev_iclt DX6_checkBeats 2 rfl (tgt := 11) (by decide) (fun c_1 => ?_) (fun c_1 => ?_)
  · exact ev_throwW DX6_checkBeats 6 XbA rfl rfl nX6_57 (List.mem_of_getElem? (i := 5) rfl) rfl rfl rfl rfl rfl (Nat.le_of_ble_eq_true rfl) (Nat.le_of_ble_eq_true rfl) (by decide) (by decide) ⟨rfl, rfl⟩
  · refine ev_ss DX6_checkBeats 2 3 (pc' := 8) (lv' := [(0, .int _)]) (st' := [.int 100, .int _]) rfl ?_
    refine ev_icle DX6_checkBeats 5 rfl (tgt := 22) (by decide) (fun c_2 => ?_) (fun c_2 => ?_)
    · exact absurd (hb.resolve_left c_1) (Int32.not_lt.mpr c_2)
    · exact ev_throwW DX6_checkBeats 6 XbA rfl rfl nX6_57 (List.mem_of_getElem? (i := 5) rfl) rfl rfl rfl rfl rfl (Nat.le_of_ble_eq_true rfl) (Nat.le_of_ble_eq_true rfl) (by decide) (by decide) ⟨rfl, rfl⟩
set_option maxRecDepth 100000 in
set_option maxHeartbeats 4000000 in
theorem m_X6_checkSetting {E : gE} {ws : va_W} {b : Int32} (hg : ¬ bS b) : CD E YX6_checkSetting 0 0 [.int b] ws none ws := by
  refine cdS vX6_checkSetting (Nat.le_of_ble_eq_true rfl) (lv0 := [(0, .int b)]) rfl ?_
  refine ev_ss DX6_checkSetting 1 0 (pc' := 1) (lv' := [(0, .int _)]) (st' := [.int _]) rfl ?_
  refine ev_iflt DX6_checkSetting 1 rfl (tgt := 9) (by decide) (fun h => absurd h (fun e => hg (Or.inl e))) (fun _ => ?_)
  refine ev_ss DX6_checkSetting 2 2 (pc' := 6) (lv' := [(0, .int _)]) (st' := [.int 3, .int _]) rfl ?_
  refine ev_iclt DX6_checkSetting 4 rfl (tgt := 20) (by decide) (fun _ => ?_) (fun h => h.elim (Decidable.byContradiction (fun e => hg (Or.inr e))))
  exact ev_vret DX6_checkSetting 10 rfl rfl ⟨rfl, rfl⟩
set_option maxRecDepth 100000 in
set_option maxHeartbeats 4000000 in
theorem x_X6_checkSetting {E : gE} {ws : va_W} {b : Int32} (hb : bS b) : C1 E YX6_checkSetting 1 6 [.int b] ws (fun _ _ => False) (fun X w => X = xI ∧ w = ws) := by
  unfold bS at hb
  refine c1S vX6_checkSetting (Nat.le_of_ble_eq_true rfl) (lv0 := [(0, .int b)]) rfl ?_
  refine ev_ss DX6_checkSetting 1 0 (pc' := 1) (lv' := [(0, .int _)]) (st' := [.int _]) rfl ?_
  refine ev_iflt DX6_checkSetting 1 rfl (tgt := 9) (by decide) (fun c_1 => ?_) (fun c_1 => ?_)
  · exact ev_throwW DX6_checkSetting 5 XbI rfl rfl nX6_184 (List.mem_of_getElem? (i := 11) rfl) rfl rfl rfl rfl rfl (Nat.le_of_ble_eq_true rfl) (Nat.le_of_ble_eq_true rfl) (by decide) (by decide) ⟨rfl, rfl⟩
  · refine ev_ss DX6_checkSetting 2 2 (pc' := 6) (lv' := [(0, .int _)]) (st' := [.int 3, .int _]) rfl ?_
    refine ev_iclt DX6_checkSetting 4 rfl (tgt := 20) (by decide) (fun c_2 => ?_) (fun c_2 => ?_)
    · exact absurd c_2 (hb.resolve_left c_1)
    · exact ev_throwW DX6_checkSetting 5 XbI rfl rfl nX6_184 (List.mem_of_getElem? (i := 11) rfl) rfl rfl rfl rfl rfl (Nat.le_of_ble_eq_true rfl) (Nat.le_of_ble_eq_true rfl) (by decide) (by decide) ⟨rfl, rfl⟩
set_option maxRecDepth 100000 in
set_option maxHeartbeats 4000000 in
theorem m_X6_checkBeatsLeft {E : gE} {ad : Nat → Nat} {ws : va_W} {p : PS} {sv : Nat → PS} {sc r len : Nat} {ch : Nat → Int32} (h : MW E ad ws p sv sc r len ch) {b : Int32} (hb : ¬ 5000 < p.2.1 + b) : CD E YX6_checkBeatsLeft 0 0 [.ref (ad 0), .int b] ws none ws := by
  refine cdV vX6_checkBeatsLeft (Nat.le_of_ble_eq_true rfl) (lv0 := [(0, .ref (ad 0)), (1, .int b)]) rfl ?_
  refine ev_ss DX6_checkBeatsLeft 1 0 (pc' := 1) (lv' := [(0, .ref _), (1, .int _)]) (st' := [.ref _]) rfl ?_
  refine ev_get DX6_checkBeatsLeft 1 GX6 rfl (k0 := 0) (Nat.le_of_ble_eq_true rfl) fX6_12 h.1 rfl ?_
  refine ev_get DX6_checkBeatsLeft 2 GX1 rfl (k0 := 4) (Nat.le_of_ble_eq_true rfl) fX6_196 h.2.1.1.1 rfl ?_
  refine ev_ss DX6_checkBeatsLeft 3 3 (pc' := 12) (lv' := [(0, .ref _), (1, .int _)]) (st' := [.int 5000, .int _]) rfl ?_
  refine ev_icle DX6_checkBeatsLeft 6 rfl (tgt := 26) (by decide) (fun _ => ?_) (fun h => h.elim (Int32.not_lt.mp hb))
  exact ev_vret DX6_checkBeatsLeft 12 rfl rfl ⟨rfl, rfl⟩
set_option maxRecDepth 100000 in
set_option maxHeartbeats 4000000 in
theorem x_X6_checkBeatsLeft {E : gE} {ad : Nat → Nat} {ws : va_W} {p : PS} {sv : Nat → PS} {sc r len : Nat} {ch : Nat → Int32} (h : MW E ad ws p sv sc r len ch) {b : Int32} (hb : 5000 < p.2.1 + b) : C1 E YX6_checkBeatsLeft 1 6 [.ref (ad 0), .int b] ws (fun _ _ => False) (fun X w => X = xS ∧ w = ws) := by
  refine c1V vX6_checkBeatsLeft (Nat.le_of_ble_eq_true rfl) (lv0 := [(0, .ref (ad 0)), (1, .int b)]) rfl ?_
  refine ev_ss DX6_checkBeatsLeft 1 0 (pc' := 1) (lv' := [(0, .ref _), (1, .int _)]) (st' := [.ref _]) rfl ?_
  refine ev_get DX6_checkBeatsLeft 1 GX6 rfl (k0 := 0) (Nat.le_of_ble_eq_true rfl) fX6_12 h.1 rfl ?_
  refine ev_get DX6_checkBeatsLeft 2 GX1 rfl (k0 := 4) (Nat.le_of_ble_eq_true rfl) fX6_196 h.2.1.1.1 rfl ?_
  refine ev_ss DX6_checkBeatsLeft 3 3 (pc' := 12) (lv' := [(0, .ref _), (1, .int _)]) (st' := [.int 5000, .int _]) rfl ?_
  refine ev_icle DX6_checkBeatsLeft 6 rfl (tgt := 26) (by decide) (fun h => absurd h (Int32.not_le.mpr hb)) (fun _ => ?_)
  exact ev_throwW DX6_checkBeatsLeft 7 XbS rfl rfl nX6_73 (List.mem_of_getElem? (i := 13) rfl) rfl rfl rfl rfl rfl (Nat.le_of_ble_eq_true rfl) (Nat.le_of_ble_eq_true rfl) (by decide) (by decide) ⟨rfl, rfl⟩
theorem plS_s {r k : Nat} : plS (r + 1) k = plS r (k + 1) := by unfold plS; rw [show r + 1 + k = r + (k + 1) by omega]
theorem plS_6 {r : Nat} : plS r 6 = plS r 0 := by unfold plS; rw [Nat.add_mod_right, Nat.add_zero]
theorem plS_lo (r k : Nat) : 58 ≤ plS r k ∧ plS r k + 26 ≤ 214 := by unfold plS; have := Nat.mod_lt (r + k) (show 0 < 6 by decide); omega
/-- nothing has changed behind the program's cells -/
def FO (ws w : va_W) : Prop := ∀ j, 214 ≤ j → w[j]? = ws[j]?
theorem FO.rf {ws : va_W} : FO ws ws := fun _ _ => rfl
theorem FO.tr {ws w w2 : va_W} (h : FO ws w) (h2 : FO w w2) : FO ws w2 := fun j a => (h2 j a).trans (h j a)
def svD (sv : Nat → PS) (k : Nat) : PS := if k = 5 then sv 0 else sv (k + 1)
theorem drop_end {E : gE} {ad : Nat → Nat} {ws : va_W} {p : PS} {sv : Nat → PS} {sc r len : Nat} {ch : Nat → Int32} (h : MW E ad ws p sv sc r len ch) (x : Nat × va_E) : MW E ad (((ws.set 53 x).set 0 (ad 0, obC (ad 1) (ad 27) (ad 53) (ad 54) (ad 56) 5)).set 53 (ad 53, toS E (arS ad (r + 1)))) p (svD sv) 5 (r + 1) len ch := by
  obtain ⟨a, b, ⟨pt, c⟩, d, ⟨lb, sz, e⟩, f, g⟩ := h
  have kk : ∀ j, j ≠ 0 → j ≠ 53 → (((ws.set 53 x).set 0 (ad 0, obC (ad 1) (ad 27) (ad 53) (ad 54) (ad 56) 5)).set 53 (ad 53, toS E (arS ad (r + 1))))[j]? = ws[j]? := fun j h1 h2 => by
    rw [List.getElem?_set_ne (Ne.symm h2), List.getElem?_set_ne (Ne.symm h1), List.getElem?_set_ne (Ne.symm h2)]
  have k0 : (((ws.set 53 x).set 0 (ad 0, obC (ad 1) (ad 27) (ad 53) (ad 54) (ad 56) 5)).set 53 (ad 53, toS E (arS ad (r + 1))))[0]? = some (ad 0, obC (ad 1) (ad 27) (ad 53) (ad 54) (ad 56) 5) := wset_n (wset_get (wset_n a (by decide))) (by decide)
  have k53 : (((ws.set 53 x).set 0 (ad 0, obC (ad 1) (ad 27) (ad 53) (ad 54) (ad 56) 5)).set 53 (ad 53, toS E (arS ad (r + 1))))[53]? = some (ad 53, toS E (arS ad (r + 1))) := by
    have hl := (List.getElem?_eq_some_iff.mp d).1
    exact List.getElem?_set_self (by rw [List.length_set, List.length_set]; exact hl)
  generalize (((ws.set 53 x).set 0 (ad 0, obC (ad 1) (ad 27) (ad 53) (ad 54) (ad 56) 5)).set 53 (ad 53, toS E (arS ad (r + 1)))) = w at *
  refine ⟨k0, b.of (fun j x y => kk j (by omega) (by omega)), ⟨pt, c.of (fun j x y => kk j (by omega) (by omega))⟩, k53, ⟨lb, sz, e.of (kk _ (by decide) (by decide)) (kk _ (by decide) (by decide))⟩, f.of (kk _ (by decide) (by decide)) (kk _ (by decide) (by decide)), fun k hk => ?_⟩
  rw [plS_s]
  have hp := plS_lo r (k + 1)
  by_cases e5 : k = 5
  · subst e5
    rw [plS_6]
    have hp0 := plS_lo r 0
    exact (g 0 (by decide)).of (fun j x y => kk j (by omega) (by omega))
  · rw [show svD sv k = sv (k + 1) from if_neg e5]
    exact (g (k + 1) (by omega)).of (fun j x y => kk j (by omega) (by omega))
set_option maxRecDepth 100000 in
set_option maxHeartbeats 4000000 in
theorem m_X6_dropOldest {E : gE} {ad : Nat → Nat} {ws : va_W} {p : PS} {sv : Nat → PS} {sc r len : Nat} {ch : Nat → Int32} (h : MW E ad ws p sv sc r len ch) : C0 E YX6_dropOldest 0 0 [.ref (ad 0)] ws (fun v w => v = none ∧ MW E ad w p (svD sv) 5 (r + 1) len ch ∧ FO ws w) := by
  refine c0V vX6_dropOldest (Nat.le_of_ble_eq_true rfl) (lv0 := [(0, .ref (ad 0))]) rfl ?_
  refine ev_ss DX6_dropOldest 1 0 (pc' := 1) (lv' := [(0, .ref _)]) (st' := [.ref _]) rfl ?_
  refine ev_get DX6_dropOldest 1 GX6 rfl (k0 := 2) (Nat.le_of_ble_eq_true rfl) fX6_19 h.1 rfl ?_
  refine ev_ss DX6_dropOldest 1 2 (pc' := 5) (lv' := [(0, .ref _)]) (st' := [.int 0, .ref _]) rfl ?_
  refine ev_aald5 DX6_dropOldest 3 rfl h.2.2.2.1 (by unfold vp_in; decide) (b := ad (plS r 0)) rfl ?_
  refine ev_ss DX6_dropOldest 5 4 (pc' := 12) (lv' := [(2, .int 1), (1, .ref _), (0, .ref _)]) (st' := [.int 6, .int 1]) rfl ?_
  refine ev_icge DX6_dropOldest 9 rfl (tgt := 35) (by decide) (fun h => absurd h (by decide)) (fun _ => ?_)
  refine ev_ss DX6_dropOldest 1 10 (pc' := 16) (lv' := [(2, .int 1), (1, .ref _), (0, .ref _)]) (st' := [.ref _]) rfl ?_
  refine ev_get DX6_dropOldest 11 GX6 rfl (k0 := 2) (Nat.le_of_ble_eq_true rfl) fX6_19 h.1 rfl ?_
  refine ev_ss DX6_dropOldest 4 12 (pc' := 23) (lv' := [(2, .int 1), (1, .ref _), (0, .ref _)]) (st' := [.ref _, .int 0, .ref _]) rfl ?_
  refine ev_get DX6_dropOldest 16 GX6 rfl (k0 := 2) (Nat.le_of_ble_eq_true rfl) fX6_19 h.1 rfl ?_
  refine ev_ss DX6_dropOldest 1 17 (pc' := 27) (lv' := [(2, .int 1), (1, .ref _), (0, .ref _)]) (st' := [.int 1, .ref _, .int 0, .ref _]) rfl ?_
  refine ev_aald5 DX6_dropOldest 18 rfl h.2.2.2.1 (by unfold vp_in; decide) (b := ad (plS r 1)) rfl ?_
  refine ev_aast5 DX6_dropOldest 19 rfl h.2.2.2.1 (h.2.2.2.2.2.2 1 (by decide)).1.1 (by unfold vp_in; decide) rfl ?_
  refine ev_ss DX6_dropOldest 1 20 (pc' := 32) (lv' := [(2, .int 2), (1, .ref _), (0, .ref _)]) (st' := []) rfl ?_
  refine ev_goto DX6_dropOldest 21 rfl (tgt := 9) (by decide) ?_
  refine ev_ss DX6_dropOldest 2 7 (pc' := 12) (lv' := [(2, .int 2), (1, .ref _), (0, .ref _)]) (st' := [.int 6, .int 2]) rfl ?_
  refine ev_icge DX6_dropOldest 9 rfl (tgt := 35) (by decide) (fun h => absurd h (by decide)) (fun _ => ?_)
  refine ev_ss DX6_dropOldest 1 10 (pc' := 16) (lv' := [(2, .int 2), (1, .ref _), (0, .ref _)]) (st' := [.ref _]) rfl ?_
  refine ev_get DX6_dropOldest 11 GX6 rfl (k0 := 2) (Nat.le_of_ble_eq_true rfl) fX6_19 (wset_o h.1 h.2.2.2.1 rfl) rfl ?_
  refine ev_ss DX6_dropOldest 4 12 (pc' := 23) (lv' := [(2, .int 2), (1, .ref _), (0, .ref _)]) (st' := [.ref _, .int 1, .ref _]) rfl ?_
  refine ev_get DX6_dropOldest 16 GX6 rfl (k0 := 2) (Nat.le_of_ble_eq_true rfl) fX6_19 (wset_o h.1 h.2.2.2.1 rfl) rfl ?_
  refine ev_ss DX6_dropOldest 1 17 (pc' := 27) (lv' := [(2, .int 2), (1, .ref _), (0, .ref _)]) (st' := [.int 2, .ref _, .int 1, .ref _]) rfl ?_
  refine ev_aald5 DX6_dropOldest 18 rfl (wset_get h.2.2.2.1) (by unfold vp_in; decide) (b := ad (plS r 2)) rfl ?_
  refine ev_aast5 DX6_dropOldest 19 rfl (wset_get h.2.2.2.1) (wset_o (h.2.2.2.2.2.2 2 (by decide)).1.1 h.2.2.2.1 rfl) (by unfold vp_in; decide) wset_set ?_
  refine ev_ss DX6_dropOldest 1 20 (pc' := 32) (lv' := [(2, .int 3), (1, .ref _), (0, .ref _)]) (st' := []) rfl ?_
  refine ev_goto DX6_dropOldest 21 rfl (tgt := 9) (by decide) ?_
  refine ev_ss DX6_dropOldest 2 7 (pc' := 12) (lv' := [(2, .int 3), (1, .ref _), (0, .ref _)]) (st' := [.int 6, .int 3]) rfl ?_
  refine ev_icge DX6_dropOldest 9 rfl (tgt := 35) (by decide) (fun h => absurd h (by decide)) (fun _ => ?_)
  refine ev_ss DX6_dropOldest 1 10 (pc' := 16) (lv' := [(2, .int 3), (1, .ref _), (0, .ref _)]) (st' := [.ref _]) rfl ?_
  refine ev_get DX6_dropOldest 11 GX6 rfl (k0 := 2) (Nat.le_of_ble_eq_true rfl) fX6_19 (wset_o h.1 h.2.2.2.1 rfl) rfl ?_
  refine ev_ss DX6_dropOldest 4 12 (pc' := 23) (lv' := [(2, .int 3), (1, .ref _), (0, .ref _)]) (st' := [.ref _, .int 2, .ref _]) rfl ?_
  refine ev_get DX6_dropOldest 16 GX6 rfl (k0 := 2) (Nat.le_of_ble_eq_true rfl) fX6_19 (wset_o h.1 h.2.2.2.1 rfl) rfl ?_
  refine ev_ss DX6_dropOldest 1 17 (pc' := 27) (lv' := [(2, .int 3), (1, .ref _), (0, .ref _)]) (st' := [.int 3, .ref _, .int 2, .ref _]) rfl ?_
  refine ev_aald5 DX6_dropOldest 18 rfl (wset_get h.2.2.2.1) (by unfold vp_in; decide) (b := ad (plS r 3)) rfl ?_
  refine ev_aast5 DX6_dropOldest 19 rfl (wset_get h.2.2.2.1) (wset_o (h.2.2.2.2.2.2 3 (by decide)).1.1 h.2.2.2.1 rfl) (by unfold vp_in; decide) wset_set ?_
  refine ev_ss DX6_dropOldest 1 20 (pc' := 32) (lv' := [(2, .int 4), (1, .ref _), (0, .ref _)]) (st' := []) rfl ?_
  refine ev_goto DX6_dropOldest 21 rfl (tgt := 9) (by decide) ?_
  refine ev_ss DX6_dropOldest 2 7 (pc' := 12) (lv' := [(2, .int 4), (1, .ref _), (0, .ref _)]) (st' := [.int 6, .int 4]) rfl ?_
  refine ev_icge DX6_dropOldest 9 rfl (tgt := 35) (by decide) (fun h => absurd h (by decide)) (fun _ => ?_)
  refine ev_ss DX6_dropOldest 1 10 (pc' := 16) (lv' := [(2, .int 4), (1, .ref _), (0, .ref _)]) (st' := [.ref _]) rfl ?_
  refine ev_get DX6_dropOldest 11 GX6 rfl (k0 := 2) (Nat.le_of_ble_eq_true rfl) fX6_19 (wset_o h.1 h.2.2.2.1 rfl) rfl ?_
  refine ev_ss DX6_dropOldest 4 12 (pc' := 23) (lv' := [(2, .int 4), (1, .ref _), (0, .ref _)]) (st' := [.ref _, .int 3, .ref _]) rfl ?_
  refine ev_get DX6_dropOldest 16 GX6 rfl (k0 := 2) (Nat.le_of_ble_eq_true rfl) fX6_19 (wset_o h.1 h.2.2.2.1 rfl) rfl ?_
  refine ev_ss DX6_dropOldest 1 17 (pc' := 27) (lv' := [(2, .int 4), (1, .ref _), (0, .ref _)]) (st' := [.int 4, .ref _, .int 3, .ref _]) rfl ?_
  refine ev_aald5 DX6_dropOldest 18 rfl (wset_get h.2.2.2.1) (by unfold vp_in; decide) (b := ad (plS r 4)) rfl ?_
  refine ev_aast5 DX6_dropOldest 19 rfl (wset_get h.2.2.2.1) (wset_o (h.2.2.2.2.2.2 4 (by decide)).1.1 h.2.2.2.1 rfl) (by unfold vp_in; decide) wset_set ?_
  refine ev_ss DX6_dropOldest 1 20 (pc' := 32) (lv' := [(2, .int 5), (1, .ref _), (0, .ref _)]) (st' := []) rfl ?_
  refine ev_goto DX6_dropOldest 21 rfl (tgt := 9) (by decide) ?_
  refine ev_ss DX6_dropOldest 2 7 (pc' := 12) (lv' := [(2, .int 5), (1, .ref _), (0, .ref _)]) (st' := [.int 6, .int 5]) rfl ?_
  refine ev_icge DX6_dropOldest 9 rfl (tgt := 35) (by decide) (fun h => absurd h (by decide)) (fun _ => ?_)
  refine ev_ss DX6_dropOldest 1 10 (pc' := 16) (lv' := [(2, .int 5), (1, .ref _), (0, .ref _)]) (st' := [.ref _]) rfl ?_
  refine ev_get DX6_dropOldest 11 GX6 rfl (k0 := 2) (Nat.le_of_ble_eq_true rfl) fX6_19 (wset_o h.1 h.2.2.2.1 rfl) rfl ?_
  refine ev_ss DX6_dropOldest 4 12 (pc' := 23) (lv' := [(2, .int 5), (1, .ref _), (0, .ref _)]) (st' := [.ref _, .int 4, .ref _]) rfl ?_
  refine ev_get DX6_dropOldest 16 GX6 rfl (k0 := 2) (Nat.le_of_ble_eq_true rfl) fX6_19 (wset_o h.1 h.2.2.2.1 rfl) rfl ?_
  refine ev_ss DX6_dropOldest 1 17 (pc' := 27) (lv' := [(2, .int 5), (1, .ref _), (0, .ref _)]) (st' := [.int 5, .ref _, .int 4, .ref _]) rfl ?_
  refine ev_aald5 DX6_dropOldest 18 rfl (wset_get h.2.2.2.1) (by unfold vp_in; decide) (b := ad (plS r 5)) rfl ?_
  refine ev_aast5 DX6_dropOldest 19 rfl (wset_get h.2.2.2.1) (wset_o (h.2.2.2.2.2.2 5 (by decide)).1.1 h.2.2.2.1 rfl) (by unfold vp_in; decide) wset_set ?_
  refine ev_ss DX6_dropOldest 1 20 (pc' := 32) (lv' := [(2, .int 6), (1, .ref _), (0, .ref _)]) (st' := []) rfl ?_
  refine ev_goto DX6_dropOldest 21 rfl (tgt := 9) (by decide) ?_
  refine ev_ss DX6_dropOldest 2 7 (pc' := 12) (lv' := [(2, .int 6), (1, .ref _), (0, .ref _)]) (st' := [.int 6, .int 6]) rfl ?_
  refine ev_icge DX6_dropOldest 9 rfl (tgt := 35) (by decide) (fun _ => ?_) (fun h => h.elim (by decide))
  refine ev_ss DX6_dropOldest 1 22 (pc' := 36) (lv' := [(2, .int 6), (1, .ref _), (0, .ref _)]) (st' := [.ref _]) rfl ?_
  refine ev_get DX6_dropOldest 23 GX6 rfl (k0 := 2) (Nat.le_of_ble_eq_true rfl) fX6_19 (wset_o h.1 h.2.2.2.1 rfl) rfl ?_
  refine ev_ss DX6_dropOldest 2 24 (pc' := 41) (lv' := [(2, .int 6), (1, .ref _), (0, .ref _)]) (st' := [.ref _, .int 5, .ref _]) rfl ?_
  refine ev_aast5 DX6_dropOldest 26 rfl (wset_get h.2.2.2.1) (wset_o (h.2.2.2.2.2.2 0 (by decide)).1.1 h.2.2.2.1 rfl) (by unfold vp_in; decide) wset_set ?_
  refine ev_ss DX6_dropOldest 2 27 (pc' := 44) (lv' := [(2, .int 6), (1, .ref _), (0, .ref _)]) (st' := [.int 5, .ref _]) rfl ?_
  refine ev_put (fs' := [_, _, _, _, _, _]) DX6_dropOldest 29 GX6 rfl (k0 := 5) (Nat.le_of_ble_eq_true rfl) fX6_169 rfl ⟨rfl, rfl⟩ (wset_o h.1 h.2.2.2.1 rfl) (Nat.le_of_ble_eq_true rfl) rfl rfl ?_
  refine ev_cellq (g := arS ad (r + 1)) (wset_o (wset_get h.2.2.2.1) (wset_o h.1 h.2.2.2.1 rfl) rfl) ?_ ?_
  · intro j hj
    rcases (show j = 0 ∨ j = 1 ∨ j = 2 ∨ j = 3 ∨ j = 4 ∨ j = 5 by omega) with rfl | rfl | rfl | rfl | rfl | rfl
    · show some (ad (plS r 1)) = some (ad (plS (r + 1) 0)); rw [plS_s]
    · show some (ad (plS r 2)) = some (ad (plS (r + 1) 1)); rw [plS_s]
    · show some (ad (plS r 3)) = some (ad (plS (r + 1) 2)); rw [plS_s]
    · show some (ad (plS r 4)) = some (ad (plS (r + 1) 3)); rw [plS_s]
    · show some (ad (plS r 5)) = some (ad (plS (r + 1) 4)); rw [plS_s]
    · show some (ad (plS r 0)) = some (ad (plS (r + 1) 5)); rw [plS_s, plS_6]
  · refine ev_vret DX6_dropOldest 30 rfl rfl ⟨rfl, ?_, fun j hj => by rw [List.getElem?_set_ne (by omega), List.getElem?_set_ne (by omega), List.getElem?_set_ne (by omega)]⟩
    exact drop_end h _
def svS (p : PS) (sv : Nat → PS) (sc : Nat) : Nat → PS := fun k => if k = sc then p else sv k
theorem save_end {E : gE} {ad : Nat → Nat} {ws : va_W} {p : PS} {sv : Nat → PS} {sc r len : Nat} {ch : Nat → Int32} (h : MW E ad ws p sv sc r len ch) {w : va_W} (h0 : w[0]? = some (ad 0, obC (ad 1) (ad 27) (ad 53) (ad 54) (ad 56) (nI sc))) (hsc : sc < 6) (hS : STA E ad w (plS r sc) p) (hO : PO (plS r sc) ws w) : MW E ad (w.set 0 (ad 0, obC (ad 1) (ad 27) (ad 53) (ad 54) (ad 56) (nI sc + 1))) p (svS p sv sc) (sc + 1) r len ch := by
  obtain ⟨a, b, ⟨pt, c⟩, d, ⟨lb, sz, e⟩, f, g⟩ := h
  have hp := plS_lo r sc
  have kk : ∀ j, j ≠ 0 → (w.set 0 (ad 0, obC (ad 1) (ad 27) (ad 53) (ad 54) (ad 56) (nI sc + 1)))[j]? = w[j]? := fun j h1 => List.getElem?_set_ne (Ne.symm h1)
  have kj : ∀ j, j ≠ 0 → (j < plS r sc ∨ plS r sc + 26 ≤ j) → (w.set 0 (ad 0, obC (ad 1) (ad 27) (ad 53) (ad 54) (ad 56) (nI sc + 1)))[j]? = ws[j]? := fun j h1 h2 => (kk j h1).trans (hO j h2)
  refine ⟨by rw [← nI_1]; exact wset_get h0, b.of (fun j x y => kj j (by omega) (by omega)), ⟨pt, c.of (fun j x y => kj j (by omega) (by omega))⟩, (kj 53 (by decide) (by omega)).trans d, ⟨lb, sz, e.of (kj _ (by decide) (by omega)) (kj _ (by decide) (by omega))⟩, f.of (kj _ (by decide) (by omega)) (kj _ (by decide) (by omega)), fun k hk => ?_⟩
  have hpk := plS_lo r k
  by_cases e5 : k = sc
  · subst e5
    rw [show svS p sv k k = p from if_pos rfl]
    exact hS.of (fun j x y => kk j (by omega))
  · rw [show svS p sv sc k = sv k from if_neg e5]
    refine (g k hk).of (fun j x y => kj j (by omega) ?_)
    have hne : (r + k) % 6 ≠ (r + sc) % 6 := by omega
    unfold plS at x y hp ⊢
    omega
set_option maxRecDepth 100000 in
set_option maxHeartbeats 4000000 in
theorem save_tail {E : gE} {Pr : Option Value → va_W → Prop} {ad : Nat → Nat} {ws : va_W} {p : PS} {sv : Nat → PS} {sc r len : Nat} {ch : Nat → Int32} (h : MW E ad ws p sv sc r len ch) (hsc : sc < 6) (hP : ∀ w, MW E ad w p (svS p sv sc) (sc + 1) r len ch → FO ws w → Pr none w) : Ev E YX6_save Pr nX 0 0 13 [(0, .ref (ad 0))] [] ws := by
  have hp := plS_lo r sc
  have hs := h.2.2.2.2.2.2 sc hsc
  refine ev_ss DX6_save 1 6 (pc' := 14) (lv' := [(0, .ref _)]) (st' := [.ref _]) rfl ?_
  refine ev_get DX6_save 7 GX6 rfl (k0 := 2) (Nat.le_of_ble_eq_true rfl) fX6_19 h.1 rfl ?_
  refine ev_ss DX6_save 1 8 (pc' := 18) (lv' := [(0, .ref _)]) (st' := [.ref _, .ref _]) rfl ?_
  refine ev_get DX6_save 9 GX6 rfl (k0 := 5) (Nat.le_of_ble_eq_true rfl) fX6_169 h.1 rfl ?_
  refine ev_aald5 DX6_save 10 rfl h.2.2.2.1 (vp_in_nI (by omega) (by decide)) (b := ad (plS r sc)) (arS_at hsc) ?_
  refine ev_ss DX6_save 1 11 (pc' := 23) (lv' := [(0, .ref _)]) (st' := [.ref _, .ref _]) rfl ?_
  refine ev_get DX6_save 12 GX6 rfl (k0 := 0) (Nat.le_of_ble_eq_true rfl) fX6_12 h.1 rfl ?_
  refine ev_rV DX6_save 13 (m_X1_copyFrom (is := plS r sc) (io := 1) (by unfold PP; omega) hs.1 h.2.1.1 hs.2.1 hs.2.2 h.2.1.2.1 h.2.1.2.2) vX1_copyFrom rfl qX6_174 rfl hs.1.1 rfl (hd_of rfl rfl rfl rfl) (fun v w hvw => ?_)
  obtain ⟨rfl, hS2, hA2, hB2, hO2⟩ := hvw
  have h0 : w[0]? = some (ad 0, obC (ad 1) (ad 27) (ad 53) (ad 54) (ad 56) (nI sc)) := (hO2 0 (by omega)).trans h.1
  refine ev_ss DX6_save 2 14 (pc' := 31) (lv' := [(0, .ref _)]) (st' := [.ref _, .ref _]) rfl ?_
  refine ev_get DX6_save 16 GX6 rfl (k0 := 5) (Nat.le_of_ble_eq_true rfl) fX6_169 h0 rfl ?_
  refine ev_ss DX6_save 2 17 (pc' := 36) (lv' := [(0, .ref _)]) (st' := [.int _, .ref _]) rfl ?_
  refine ev_put (fs' := [_, _, _, _, _, _]) DX6_save 19 GX6 rfl (k0 := 5) (Nat.le_of_ble_eq_true rfl) fX6_169 rfl ⟨rfl, rfl⟩ h0 (Nat.le_of_ble_eq_true rfl) rfl rfl ?_
  exact ev_vret DX6_save 20 rfl rfl (hP _ (save_end h h0 hsc ⟨hS2, hA2, hB2⟩ hO2) (fun j hj => by rw [List.getElem?_set_ne (by omega)]; exact hO2 j (by omega)))
/-- the saved states behind a save, and how many there are -/
def svN (p : PS) (sv : Nat → PS) (sc : Nat) : Nat → PS := if sc < 6 then svS p sv sc else svS p (svD sv) 5
def scN (sc : Nat) : Nat := if sc < 6 then sc + 1 else 6
set_option maxRecDepth 100000 in
set_option maxHeartbeats 4000000 in
theorem m_X6_save {E : gE} {ad : Nat → Nat} {ws : va_W} {p : PS} {sv : Nat → PS} {sc r len : Nat} {ch : Nat → Int32} (h : MW E ad ws p sv sc r len ch) (hsc : sc ≤ 6) : C0 E YX6_save 0 0 [.ref (ad 0)] ws (fun v w => v = none ∧ (∃ r2, MW E ad w p (svN p sv sc) (scN sc) r2 len ch) ∧ FO ws w) := by
  refine c0V vX6_save (Nat.le_of_ble_eq_true rfl) (lv0 := [(0, .ref (ad 0))]) rfl ?_
  refine ev_ss DX6_save 1 0 (pc' := 1) (lv' := [(0, .ref _)]) (st' := [.ref _]) rfl ?_
  refine ev_get DX6_save 1 GX6 rfl (k0 := 5) (Nat.le_of_ble_eq_true rfl) fX6_169 h.1 rfl ?_
  refine ev_ss DX6_save 1 2 (pc' := 6) (lv' := [(0, .ref _)]) (st' := [.int 6, .int _]) rfl ?_
  refine ev_iclt DX6_save 3 rfl (tgt := 13) (by decide) (fun c_1 => ?_) (fun c_1 => ?_)
  · have e6 : sc < 6 := (nI_ltI (a := sc) (b := 6) (by omega) (by decide)).mp c_1
    exact save_tail h e6 (fun w9 hM hO => ⟨rfl, ⟨_, by rw [show svN p sv sc = svS p sv sc from if_pos e6, show scN sc = sc + 1 from if_pos e6]; exact hM⟩, hO⟩)
  · refine ev_ss DX6_save 1 4 (pc' := 10) (lv' := [(0, .ref _)]) (st' := [.ref _]) rfl ?_
    refine ev_rV DX6_save 5 (m_X6_dropOldest h) vX6_dropOldest rfl qX6_325 rfl h.1 rfl (hd_of rfl rfl rfl rfl) (fun v w hvw => ?_)
    obtain ⟨rfl, h2, hO2⟩ := hvw
    have e6 : sc = 6 := Nat.le_antisymm hsc (Nat.le_of_not_lt (fun e => c_1 ((nI_ltI (a := sc) (b := 6) (by omega) (by decide)).mpr e)))
    exact save_tail h2 (by decide) (fun w9 hM hO => ⟨rfl, ⟨_, by rw [show svN p sv sc = svS p (svD sv) 5 from if_neg (by omega), show scN sc = 6 from if_neg (by omega)]; exact hM⟩, hO2.tr hO⟩)
