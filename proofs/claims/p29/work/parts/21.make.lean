noncomputable def k6 : Nat := Classical.choose (⟨6, rfl⟩ : ∃ n : Nat, n = 6)
theorem k6e : k6 = 6 := Classical.choose_spec (⟨6, rfl⟩ : ∃ n : Nat, n = 6)
abbrev obC (a1 a2 a3 a4 a5 : Nat) (sc : Int32) : va_E := .inr (6, [.ref a1, .ref a2, .ref a3, .ref a4, .ref a5, .int sc])
abbrev toS (E : gE) (f : Nat → Option Nat) : va_E := .inl (gK E 5, 6, .inr (.inr (.inr (.inr f))))
/-- the place of a saved state, by its number in the row, when the row was turned r times -/
def plS (r k : Nat) : Nat := 58 + 26 * ((r + k) % 6)
def arS (ad : Nat → Nat) (r k : Nat) : Option Nat := if k < 6 then some (ad (plS r k)) else none
theorem arS_at {ad : Nat → Nat} {r i : Nat} (h : i < 6) : arS ad r (nI i).toNatClampNeg = some (ad (plS r i)) := by
  rw [nI_clamp (by omega)]
  exact if_pos h
/-- the program's object and all that it holds -/
def MW (E : gE) (ad : Nat → Nat) (ws : va_W) (p : PS) (sv : Nat → PS) (sc r len : Nat) (ch : Nat → Int32) : Prop :=
  ws[0]? = some (ad 0, obC (ad 1) (ad 27) (ad 53) (ad 54) (ad 56) (nI sc)) ∧ STA E ad ws 1 p ∧ (∃ pt, STA E ad ws 27 pt) ∧ ws[53]? = some (ad 53, toS E (arS ad r)) ∧ (∃ lb sz, LE E ad ws 54 lb sz) ∧ TXT E ad ws 56 len ch ∧ ∀ k, k < 6 → STA E ad ws (plS r k) (sv k)
theorem LE.mv {E : gE} {ws w : va_W} {il : Nat} {lb : Int32} {sz : Nat → Int32} (h : LE E (adW ws) ws il lb sz) (h1 : w[il]? = ws[il]?) (h2 : w[il + 1]? = ws[il + 1]?) : LE E (adW w) w il lb sz := by
  obtain ⟨a, g, b, c⟩ := h
  refine ⟨?_, g, ?_, c⟩
  · rw [h1, adW_eq h1, adW_eq h2]; exact a
  · rw [h2, adW_eq h2]; exact b
theorem make_end {E : gE} {a x1 x2 x3 x4 x5 : Nat} {w5 W : va_W} (hy1 : STA E (adW w5) w5 1 ps0) (hy2 : STA E (adW w5) w5 27 ps0) (hL : LE E (adW w5) w5 54 0 (fun _ => 0)) (hX : w5[56]? = some (x5, txC (adW w5 57) 0) ∧ w5[57]? = some (adW w5 57, chA E (fun _ => 0))) (a1 : adW w5 1 = x1) (a2 : adW w5 27 = x2) (a4 : adW w5 54 = x4)
    (hl : W.length = 214) (h0 : W[0]? = some (a, obC x1 x2 x3 x4 x5 0)) (h53 : W[53]? = some (x3, toS E (arS (adW W) 0))) (hk : ∀ j, 0 < j → j < 58 → j ≠ 53 → W[j]? = w5[j]?) (hs : ∀ t, t < 6 → STA E (adW W) W (58 + 26 * t) ps0) :
    (none : Option Value) = none ∧ W.length = 214 ∧ adW W 0 = a ∧ MW E (adW W) W ps0 (fun _ => ps0) 0 0 0 (fun _ => 0) := by
  have b0 := adW_of h0
  have b53 := adW_of h53
  have b1 : adW W 1 = x1 := (adW_eq (hk 1 (by decide) (by decide) (by decide))).trans a1
  have b2 : adW W 27 = x2 := (adW_eq (hk 27 (by decide) (by decide) (by decide))).trans a2
  have b4 : adW W 54 = x4 := (adW_eq (hk 54 (by decide) (by decide) (by decide))).trans a4
  have b5 : adW W 56 = x5 := (adW_eq (hk 56 (by decide) (by decide) (by decide))).trans (adW_of hX.1)
  have b7 : adW W 57 = adW w5 57 := adW_eq (hk 57 (by decide) (by decide) (by decide))
  refine ⟨rfl, hl, b0, ?_, hy1.mv (fun j h1 h2 => hk j (by omega) (by omega) (by omega)), ⟨_, hy2.mv (fun j h1 h2 => hk j (by omega) (by omega) (by omega))⟩, by rw [b53]; exact h53, ⟨_, _, hL.mv (hk _ (by decide) (by decide) (by decide)) (hk _ (by decide) (by decide) (by decide))⟩, ⟨by decide, ?_, (fun _ => 0), ?_, fun j hj => rfl⟩, fun t ht => ?_⟩
  · rw [b0, b1, b2, b53, b4, b5]
    exact h0
  · rw [hk 56 (by decide) (by decide) (by decide), b5]
    show w5[56]? = some (x5, txC (adW W 57) 0)
    rw [b7]
    exact hX.1
  · show W[57]? = some (adW W 57, chA E (fun _ => 0))
    rw [hk 57 (by decide) (by decide) (by decide), b7]
    exact hX.2
  · have e : plS 0 t = 58 + 26 * t := by unfold plS; rw [Nat.zero_add, Nat.mod_eq_of_lt ht]
    rw [e]
    exact hs t ht
set_option maxRecDepth 100000 in
set_option maxHeartbeats 4000000 in
theorem make_loop {E : gE} {a x1 x2 x3 x4 x5 : Nat} {w5 : va_W} (hy1 : STA E (adW w5) w5 1 ps0) (hy2 : STA E (adW w5) w5 27 ps0) (hL : LE E (adW w5) w5 54 0 (fun _ => 0)) (hX : w5[56]? = some (x5, txC (adW w5 57) 0) ∧ w5[57]? = some (adW w5 57, chA E (fun _ => 0))) (a1 : adW w5 1 = x1) (a2 : adW w5 27 = x2) (a4 : adW w5 54 = x4) : ∀ (m i : Nat) (x : Int32) (w : va_W) (f : Nat → Option Nat), i + m = k6 → x = nI i → w.length = 58 + 26 * i → w[0]? = some (a, obC x1 x2 x3 x4 x5 0) → w[53]? = some (x3, toS E f) → (∀ j, 0 < j → j < 58 → j ≠ 53 → w[j]? = w5[j]?) → (∀ t, t < i → ∃ b, f t = some b ∧ adW w (58 + 26 * t) = b ∧ STA E (adW w) w (58 + 26 * t) ps0) →
      Ev E YX6_init (fun v w => v = none ∧ w.length = 214 ∧ adW w 0 = a ∧ MW E (adW w) w ps0 (fun _ => ps0) 0 0 0 (fun _ => 0)) nX (26 * m) (840 * m) 59 [(0, .ref a), (1, .int x)] [] w := by
  have e6 := k6e
  intro m
  induction m with
  | zero =>
    intro i x w f hm hx hl h0 h53 hk hs
    obtain rfl : i = k6 := by omega
    subst hx
    refine ev_ss DX6_init 2 28 (pc' := 62) (lv' := [(0, .ref _), (1, .int _)]) (st' := [.int 6, .int _]) rfl ?_
    refine ev_icge DX6_init 30 rfl (tgt := 84) (by decide) (fun _ => ?_) (fun h => h.elim (by rw [k6e]; decide))
    have hf : ∀ j, j < 6 → f j = arS (adW w) 0 j := fun j hj => by
      obtain ⟨b, b1, b2, -⟩ := hs j (by omega)
      rw [b1, show arS (adW w) 0 j = some (adW w (plS 0 j)) from if_pos hj, show plS 0 j = 58 + 26 * j by unfold plS; rw [Nat.zero_add, Nat.mod_eq_of_lt hj], b2]
    refine ev_cellq h53 hf ?_
    have ea := adW_set (v2 := toS E (arS (adW w) 0)) h53
    have kq : ∀ j, j ≠ 53 → (w.set 53 (x3, toS E (arS (adW w) 0)))[j]? = w[j]? := fun j hj => List.getElem?_set_ne (Ne.symm hj)
    exact ev_vret DX6_init 40 rfl rfl (make_end hy1 hy2 hL hX a1 a2 a4 (by rw [List.length_set, hl]; omega) ((kq 0 (by decide)).trans h0) (by rw [ea]; exact wset_get h53) (fun j b c d => (kq j d).trans (hk j b c d)) (fun t ht => by
        obtain ⟨b, -, -, b3⟩ := hs t (by omega)
        exact b3.mv (fun j c d => kq j (by omega))))
  | succ m ih =>
    intro i x w f hm hx hl h0 h53 hk hs
    subst hx
    have ei : (nI i).toNatClampNeg = i := nI_clamp (by omega)
    refine ev_ss DX6_init 2 28 (pc' := 62) (lv' := [(0, .ref _), (1, .int _)]) (st' := [.int 6, .int _]) rfl ?_
    refine ev_icge DX6_init 30 rfl (tgt := 84) (by decide) (fun h => absurd h (nI_ge (b := 6) (by omega) (by decide))) (fun _ => ?_)
    refine ev_ss DX6_init 1 31 (pc' := 66) (lv' := [(0, .ref _), (1, .int _)]) (st' := [.ref _]) rfl ?_
    refine ev_get DX6_init 32 GX6 rfl (k0 := 2) (Nat.le_of_ble_eq_true rfl) fX6_19 h0 rfl ?_
    refine ev_ss DX6_init 1 33 (pc' := 70) (lv' := [(0, .ref _), (1, .int _)]) (st' := [.int _, .ref _]) rfl ?_
    refine ev_new DX6_init 34 (k := 26 * m + 25) (n := 840 * m + 835) (fs := [.null, .null, .null, .int 0, .int 0]) GX1 rfl nX6_9 insX1 iniX1 (by decide) (fun x_1 => ?_)
    refine ev_ss DX6_init 1 35 (pc' := 74) (lv' := [(0, .ref _), (1, .int _)]) (st' := [.ref _, .ref _, .int _, .ref _]) rfl ?_
    refine ev_rIN DX6_init 36 (k1 := 25) (n1 := 835) (k2 := 26 * m) (n2 := 840 * m) (m_X1_init (q := 58 + 26 * i) (by simp [hl]) (app_at hl)) vX1_init rfl (by decide) rfl rfl rfl (hd_of rfl rfl rfl rfl) (by omega) (by omega) (fun w9 hw9 => ?_)
    obtain ⟨l9, f9, a9, y9⟩ := hw9
    have f8 : ∀ j, j < 58 + 26 * i → w9[j]? = w[j]? := fun j hj => by rw [f9 j hj]; exact app_k (by omega)
    have hN : ∃ v9, w9[58 + 26 * i]? = some (x_1, .inr (1, v9)) := ⟨_, by have := y9.1.1; rw [a9] at this; exact this⟩
    obtain ⟨v9, hN⟩ := hN
    refine ev_aast5 DX6_init 37 rfl ((f8 53 (by omega)).trans h53) hN (vp_in_nI (by omega) (by decide)) rfl ?_
    refine ev_ss DX6_init 1 38 (pc' := 81) (lv' := [(1, .int _), (0, .ref _)]) (st' := []) rfl ?_
    refine ev_goto DX6_init 39 rfl (tgt := 59) (by decide) ?_
    rw [ei]
    refine ev_lvp (lv2 := [(0, .ref _), (1, .int _)]) [1, 0] rfl ?_
    have kq : ∀ j, j ≠ 53 → (w9.set 53 (x3, toS E (va_up f i (some x_1))))[j]? = w9[j]? := fun j hj => List.getElem?_set_ne (Ne.symm hj)
    refine ih (i + 1) _ _ (va_up f i (some x_1)) (by omega) (nI_1 i) (by rw [List.length_set, l9]; omega) ((kq 0 (by decide)).trans ((f8 0 (by omega)).trans h0)) (wset_get ((f8 53 (by omega)).trans h53)) (fun j b c d => ((kq j d).trans (f8 j (by omega))).trans (hk j b c d)) (fun t ht => ?_)
    by_cases e : t = i
    · subst e
      exact ⟨x_1, if_pos rfl, (adW_eq (kq _ (by omega))).trans a9, y9.mv (fun j c d => kq j (by omega))⟩
    · obtain ⟨b, b1, b2, b3⟩ := hs t (by omega)
      exact ⟨b, (if_neg e).trans b1, (adW_eq ((kq _ (by omega)).trans (f8 _ (by omega)))).trans b2, b3.mv (fun j c d => (kq j (by omega)).trans (f8 j (by omega)))⟩
set_option maxRecDepth 100000 in
set_option maxHeartbeats 4000000 in
theorem m_X6_init {E : gE} {a : Nat} : C0 E YX6_init 213 6854 [.ref a] [(a, .inr (6, [.null, .null, .null, .null, .null, .int 0]))] (fun v w => v = none ∧ w.length = 214 ∧ adW w 0 = a ∧ MW E (adW w) w ps0 (fun _ => ps0) 0 0 0 (fun _ => 0)) := by
  have e6 := k6e
  refine c0I vX6_init (Nat.le_of_ble_eq_true rfl) (lv0 := [(0, .ref a)]) rfl ?_
  refine ev_ss DX6_init 1 0 (pc' := 1) (lv' := [(0, .ref _)]) (st' := [.ref _]) rfl ?_
  refine ev_objI DX6_init 1 rfl qX6_3 (Nat.le_of_ble_eq_true rfl) (Nat.le_of_ble_eq_true rfl) ?_
  refine ev_ss DX6_init 1 2 (pc' := 5) (lv' := [(0, .ref _)]) (st' := [.ref _]) rfl ?_
  refine ev_new DX6_init 3 (k := 212) (n := 6849) (fs := [.null, .null, .null, .int 0, .int 0]) GX1 rfl nX6_9 insX1 iniX1 (by decide) (fun x_1 => ?_)
  refine ev_ss DX6_init 1 4 (pc' := 9) (lv' := [(0, .ref _)]) (st' := [.ref _, .ref _, .ref _]) rfl ?_
  refine ev_rIN DX6_init 5 (k1 := 25) (n1 := 835) (k2 := 187) (n2 := 6014) (m_X1_init (q := 1) rfl rfl) vX1_init rfl (by decide) rfl rfl rfl (hd_of rfl rfl rfl rfl) (by decide) (by decide) (fun w1 hw1 => ?_)
  obtain ⟨l1, f1, a1, y1⟩ := hw1
  have g1 : w1[0]? = some (a, .inr (6, [.null, .null, .null, .null, .null, .int 0])) := f1 0 (by decide)
  refine ev_putF (fs' := [_, _, _, _, _, _]) DX6_init 6 GX6 rfl (k0 := 0) (Nat.le_of_ble_eq_true rfl) fX6_12 rfl rfl rfl ⟨rfl, rfl⟩ g1 (Nat.le_of_ble_eq_true rfl) rfl rfl ?_
  refine ev_ss DX6_init 1 7 (pc' := 16) (lv' := [(0, .ref _)]) (st' := [.ref _]) rfl ?_
  refine ev_new DX6_init 8 (k := 186) (n := 6009) (fs := [.null, .null, .null, .int 0, .int 0]) GX1 rfl nX6_9 insX1 iniX1 (by decide) (fun x_2 => ?_)
  refine ev_ss DX6_init 1 9 (pc' := 20) (lv' := [(0, .ref _)]) (st' := [.ref _, .ref _, .ref _]) rfl ?_
  refine ev_rIN DX6_init 10 (k1 := 25) (n1 := 835) (k2 := 161) (n2 := 5174) (m_X1_init (q := 27) (by simp [l1]) (app_at (by simp [l1]))) vX1_init rfl (by decide) rfl rfl rfl (hd_of rfl rfl rfl rfl) (by decide) (by decide) (fun w2 hw2 => ?_)
  obtain ⟨l2, f2, a2, y2⟩ := hw2
  have g2 : w2[0]? = some (a, .inr (6, [.ref x_1, .null, .null, .null, .null, .int 0])) := by rw [f2 0 (by decide)]; exact app_o (wset_get g1)
  have k2 : ∀ j, 0 < j → j < 27 → w2[j]? = w1[j]? := fun j b c => by rw [f2 j c, app_k (by simp [l1]; omega), List.getElem?_set_ne (by omega)]
  have z1 : STA E (adW w2) w2 1 ps0 := y1.mv (fun j b c => k2 j (by omega) (by omega))
  have b1 : adW w2 1 = x_1 := (adW_eq (k2 1 (by decide) (by decide))).trans a1
  refine ev_putF (fs' := [_, _, _, _, _, _]) DX6_init 11 GX6 rfl (k0 := 1) (Nat.le_of_ble_eq_true rfl) fX6_16 rfl rfl rfl ⟨rfl, rfl⟩ g2 (Nat.le_of_ble_eq_true rfl) rfl rfl ?_
  refine ev_ss DX6_init 2 12 (pc' := 29) (lv' := [(0, .ref _)]) (st' := [.int 6, .ref _]) rfl ?_
  refine ev_anew DX6_init 14 (k := 160) (n := 5168) (t0 := 5) rfl nX6_9 (Or.inr rfl) rfl (by decide) (N := 6) (by decide) (Nat.le_of_ble_eq_true rfl) (fun x_3 => ?_)
  refine ev_putF (fs' := [_, _, _, _, _, _]) DX6_init 15 GX6 rfl (k0 := 2) (Nat.le_of_ble_eq_true rfl) fX6_19 rfl rfl rfl ⟨rfl, rfl⟩ (app_o (wset_get g2)) (Nat.le_of_ble_eq_true rfl) rfl rfl ?_
  refine ev_ss DX6_init 1 16 (pc' := 36) (lv' := [(0, .ref _)]) (st' := [.ref _]) rfl ?_
  refine ev_new DX6_init 17 (k := 159) (n := 5166) (fs := [.null, .int 0]) GX0 rfl nX6_23 insX0 iniX0 (by decide) (fun x_4 => ?_)
  refine ev_ss DX6_init 1 18 (pc' := 40) (lv' := [(0, .ref _)]) (st' := [.ref _, .ref _, .ref _]) rfl ?_
  have hl3 : ((w2.set 0 (a, .inr (6, [.ref x_1, .ref x_2, .null, .null, .null, .int 0]))) ++ [(x_3, toS E (fun _ => none))]).length = 54 := by simp [l2]
  refine ev_rIN DX6_init 19 (k1 := 1) (n1 := 64) (k2 := 158) (n2 := 5102) (m_X0_init app_last) vX0_init rfl (by decide) rfl rfl rfl (hd_of rfl rfl rfl rfl) (by decide) (by decide) (fun w3 hw3 => ?_)
  obtain ⟨ar, hw3⟩ := hw3
  rw [List.length_set, hl3] at hw3
  have hl4 : (((w2.set 0 (a, .inr (6, [.ref x_1, .ref x_2, .null, .null, .null, .int 0]))) ++ [(x_3, toS E (fun _ => none))]).set 0 (a, .inr (6, [.ref x_1, .ref x_2, .ref x_3, .null, .null, .int 0]))).length = 54 := by rw [List.length_set, hl3]
  have l3 : w3.length = 56 := by rw [hw3]; simp [l2]
  have g3 : w3[0]? = some (a, .inr (6, [.ref x_1, .ref x_2, .ref x_3, .null, .null, .int 0])) := by rw [hw3]; exact wset_n (app_o (app_o (wset_get (app_o (wset_get g2))))) (by decide)
  have r3 : w3[53]? = some (x_3, toS E (fun _ => none)) := by rw [hw3]; exact wset_n (app_o (app_o (wset_n (app_at (by simp [l2])) (by decide)))) (by decide)
  have s3 : w3[54]? = some (x_4, lesC ar 0) := by rw [hw3]; exact wset_get (app_o (app_at hl4))
  have t3 : w3[55]? = some (ar, iaC E 64 (fun _ => 0)) := by rw [hw3]; exact wset_n (app_at (by simp [l2])) (by decide)
  have k3 : ∀ j, 0 < j → j < 53 → w3[j]? = w2[j]? := fun j b c => by rw [hw3, List.getElem?_set_ne (by omega), app_k (by simp [l2]; omega), app_k (by simp [l2]; omega), List.getElem?_set_ne (by omega), app_k (by simp [l2]; omega), List.getElem?_set_ne (by omega)]
  clear hw3 hl3 hl4
  refine ev_putF (fs' := [_, _, _, _, _, _]) DX6_init 20 GX6 rfl (k0 := 3) (Nat.le_of_ble_eq_true rfl) fX6_26 rfl rfl rfl ⟨rfl, rfl⟩ g3 (Nat.le_of_ble_eq_true rfl) rfl rfl ?_
  refine ev_ss DX6_init 1 21 (pc' := 47) (lv' := [(0, .ref _)]) (st' := [.ref _]) rfl ?_
  refine ev_new DX6_init 22 (k := 157) (n := 5100) (fs := [.null, .int 0]) GX2 rfl nX6_30 insX2 iniX2 (by decide) (fun x_5 => ?_)
  refine ev_ss DX6_init 1 23 (pc' := 51) (lv' := [(0, .ref _)]) (st' := [.ref _, .ref _, .ref _]) rfl ?_
  refine ev_rIN DX6_init 24 (k1 := 1) (n1 := 60) (k2 := 156) (n2 := 5040) (m_X2_init app_last) vX2_init rfl (by decide) rfl rfl rfl (hd_of rfl rfl rfl rfl) (by decide) (by decide) (fun w4 hw4 => ?_)
  obtain ⟨ac, hw4⟩ := hw4
  rw [List.length_set, l3] at hw4
  have hl4 : (w3.set 0 (a, .inr (6, [.ref x_1, .ref x_2, .ref x_3, .ref x_4, .null, .int 0]))).length = 56 := by rw [List.length_set, l3]
  have l4 : w4.length = 58 := by rw [hw4]; simp [l3]
  have g4 : w4[0]? = some (a, .inr (6, [.ref x_1, .ref x_2, .ref x_3, .ref x_4, .null, .int 0])) := by rw [hw4]; exact wset_n (app_o (app_o (wset_get g3))) (by decide)
  have s4 : w4[56]? = some (x_5, txC ac 0) := by rw [hw4]; exact wset_get (app_o (app_at hl4))
  have t4 : w4[57]? = some (ac, chA E (fun _ => 0)) := by rw [hw4]; exact wset_n (app_at (by simp [l3])) (by decide)
  have k4 : ∀ j, 0 < j → j < 56 → w4[j]? = w3[j]? := fun j b c => by rw [hw4, List.getElem?_set_ne (by omega), app_k (by simp [l3]; omega), app_k (by simp [l3]; omega), List.getElem?_set_ne (by omega)]
  clear hw4 hl4
  refine ev_putF (fs' := [_, _, _, _, _, _]) DX6_init 25 GX6 rfl (k0 := 4) (Nat.le_of_ble_eq_true rfl) fX6_33 rfl rfl rfl ⟨rfl, rfl⟩ g4 (Nat.le_of_ble_eq_true rfl) rfl rfl ?_
  refine ev_ss DX6_init 2 26 (pc' := 59) (lv' := [(1, .int 0), (0, .ref _)]) (st' := []) rfl ?_
  refine ev_room (k2 := 26 * k6) (n2 := 840 * k6) (by omega) (by omega) ?_
  refine ev_lvp (lv2 := [(0, .ref _), (1, .int _)]) [1, 0] rfl ?_
  have q0 : (w4.set 0 (a, obC x_1 x_2 x_3 x_4 x_5 0))[0]? = some (a, obC x_1 x_2 x_3 x_4 x_5 0) := wset_get g4
  have qk : ∀ j, 0 < j → (w4.set 0 (a, obC x_1 x_2 x_3 x_4 x_5 0))[j]? = w4[j]? := fun j b => List.getElem?_set_ne (by omega)
  have ql : (w4.set 0 (a, obC x_1 x_2 x_3 x_4 x_5 0)).length = 58 := by rw [List.length_set, l4]
  generalize w4.set 0 (a, obC x_1 x_2 x_3 x_4 x_5 0) = w5 at *
  have k5 : ∀ j, 0 < j → j < 53 → w5[j]? = w2[j]? := fun j b c => (qk j b).trans ((k4 j b (by omega)).trans (k3 j b c))
  have p54 : w5[54]? = some (x_4, lesC ar 0) := (qk _ (by decide)).trans ((k4 _ (by decide) (by decide)).trans s3)
  have p55 : w5[55]? = some (ar, iaC E 64 (fun _ => 0)) := (qk _ (by decide)).trans ((k4 _ (by decide) (by decide)).trans t3)
  have p57 : w5[57]? = some (ac, chA E (fun _ => 0)) := (qk _ (by decide)).trans t4
  exact make_loop (w5 := w5) (z1.mv (fun j b c => k5 j (by omega) (by omega))) (y2.mv (fun j b c => k5 j (by omega) (by omega))) ⟨by rw [adW_of p54, adW_of p55]; exact p54, _, by rw [adW_of p55]; exact p55, fun j hj => rfl⟩ ⟨by rw [adW_of p57]; exact (qk _ (by decide)).trans s4, by rw [adW_of p57]; exact p57⟩ ((adW_eq (k5 1 (by decide) (by decide))).trans b1) ((adW_eq (k5 27 (by decide) (by decide))).trans a2) (adW_of p54) k6 0 0 w5 (fun _ => none) (Nat.zero_add k6) nI_0.symm ql q0 ((qk _ (by decide)).trans ((k4 _ (by decide) (by decide)).trans r3)) (fun j b c d => rfl) (fun t ht => absurd ht (Nat.not_lt_zero t))
