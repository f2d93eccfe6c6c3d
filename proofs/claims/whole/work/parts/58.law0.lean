/-! the law from its first instruction -/
theorem MW.mv {E : gE} {ws w : va_W} {p : PS} {sv : Nat → PS} {sc r len : Nat} {ch : Nat → Int32} (h : MW E (adW ws) ws p sv sc r len ch) (hf : ∀ j, j < 214 → w[j]? = ws[j]?) : MW E (adW w) w p sv sc r len ch := by
  have ha : ∀ j, j < 214 → adW w j = adW ws j := fun j hj => adW_eq (hf j hj)
  obtain ⟨a, b, ⟨pt, c⟩, d, ⟨lb, sz, e⟩, ⟨f1, f2, g, f3, f4⟩, k⟩ := h
  have e0 : arS (adW w) r = arS (adW ws) r := funext fun k => by
    unfold arS
    by_cases hk : k < 6
    · rw [if_pos hk, if_pos hk, ha _ (by unfold plS; omega)]
    · rw [if_neg hk, if_neg hk]
  refine ⟨?_, b.mv (fun j x y => hf j (by omega)), ⟨pt, c.mv (fun j x y => hf j (by omega))⟩, ?_, ⟨lb, sz, e.mv (hf _ (by decide)) (hf _ (by decide))⟩, ⟨f1, ?_, g, ?_, f4⟩, fun k9 hk => (k k9 hk).mv (fun j x y => hf j (by unfold plS at x y; omega))⟩
  · rw [ha 0 (by decide), ha 1 (by decide), ha 27 (by decide), ha 53 (by decide), ha 54 (by decide), ha 56 (by decide)]
    exact (hf 0 (by decide)).trans a
  · rw [ha 53 (by decide), e0]
    exact (hf 53 (by decide)).trans d
  · rw [ha 56 (by decide), ha (56 + 1) (by decide)]
    exact (hf 56 (by decide)).trans f2
  · rw [ha (56 + 1) (by decide)]
    exact (hf (56 + 1) (by decide)).trans f3
theorem ZM.mv {E : gE} {ws w : va_W} {p : PS} {sv : Nat → PS} {sc len : Nat} {ch : Nat → Int32} {tw : Int32} {hh : Int64} (h : ZM E (adW ws) ws p sv sc len ch tw hh) (hf : ∀ j, 214 ≤ j → j < 223 → w[j]? = ws[j]?) : ZM E (adW w) w p sv sc len ch tw hh := by
  have ha : ∀ j, 214 ≤ j → j < 223 → adW w j = adW ws j := fun j h1 h2 => adW_eq (hf j h1 h2)
  obtain ⟨ea, iw, z, rw_, as, l, hs, hq, er, bf, ⟨a0, a1, a2, a3, a4⟩, ⟨a5, a6, a7, a8⟩, b⟩ := h
  refine ⟨ea, iw, z, rw_, as, l, hs, hq, er, bf, ⟨?_, ?_, ?_, ?_, ?_⟩, ⟨?_, ?_, ?_, ?_⟩, b⟩
  · show w[214]? = some (adW w 214, .inr (7, [.ref (adW w 215), .ref (adW w 216), .ref (adW w 217), .ref (adW w 218), .ref (adW w 219), .ref (adW w 220), .int (nI sc), .ref (adW w 221), .int (nI len), .int tw, .ref (adW w 222), .int ea, .int iw, .long hh]))
    rw [ha 214 (by decide) (by decide), ha 215 (by decide) (by decide), ha 216 (by decide) (by decide), ha 217 (by decide) (by decide), ha 218 (by decide) (by decide), ha 219 (by decide) (by decide), ha 220 (by decide) (by decide), ha 221 (by decide) (by decide), ha 222 (by decide) (by decide)]
    exact (hf 214 (by decide) (by decide)).trans a0
  · rw [ha 215 (by decide) (by decide)]
    exact (hf 215 (by decide) (by decide)).trans a1
  · rw [ha 216 (by decide) (by decide)]
    exact (hf 216 (by decide) (by decide)).trans a2
  · rw [ha 217 (by decide) (by decide)]
    exact (hf 217 (by decide) (by decide)).trans a3
  · rw [ha 218 (by decide) (by decide)]
    exact (hf 218 (by decide) (by decide)).trans a4
  · rw [ha 219 (by decide) (by decide)]
    exact (hf 219 (by decide) (by decide)).trans a5
  · rw [ha 220 (by decide) (by decide)]
    exact (hf 220 (by decide) (by decide)).trans a6
  · rw [ha 221 (by decide) (by decide)]
    exact (hf 221 (by decide) (by decide)).trans a7
  · rw [ha 222 (by decide) (by decide)]
    exact (hf 222 (by decide) (by decide)).trans a8
set_option maxRecDepth 100000 in
set_option maxHeartbeats 4000000 in
theorem law_start {E : gE} (hN : (gSc E).2.1 ≤ 2560) : Ev E YL_law (fun v _ => v = some (.int 1)) nX 737 16576 0 [(0, .ref (gSc E).1)] [] [] := by
  refine ev_new DL_law_0 0 (k := 736) (n := 16570) (fs := [.null, .null, .null, .null, .null, .int 0]) GX6 rfl nL_8 insX6 iniX6 (by decide) (fun a => ?_)
  refine ev_ss DL_law_0 1 1 (pc' := 4) (lv' := [(0, .ref _)]) (st' := [.ref _, .ref _]) rfl ?_
  refine ev_rI DL_law_0 2 (k1 := 213) (n1 := 6854) (k2 := 523) (n2 := 9716) m_X6_init vX6_init rfl qL_91 rfl rfl rfl (hd_of rfl rfl rfl rfl) (by decide) (by decide) (fun w1 hw1 => ?_)
  obtain ⟨l1, e1, M1⟩ := hw1
  refine ev_ss DL_law_0 1 3 (pc' := 8) (lv' := [(1, .ref _), (0, .ref _)]) (st' := []) rfl ?_
  refine ev_new DL_law_0 4 (k := 522) (n := 9702) (fs := [.null, .null, .null, .null, .null, .null, .int 0, .null, .int 0, .int 0, .null, .int 0, .int 0, .long 0]) GX7 rfl nL_92 insX7 iniX7 (by decide) (fun b => ?_)
  refine ev_ss DL_law_0 1 5 (pc' := 12) (lv' := [(1, .ref _), (0, .ref _)]) (st' := [.ref _, .ref _]) rfl ?_
  refine ev_rI DL_law_0 6 (k1 := 8) (n1 := 6628) (k2 := 514) (n2 := 3074) (m_X7_init (by simp [l1]) (app_at l1)) vX7_init rfl qL_94 rfl rfl rfl (hd_of rfl rfl rfl rfl) (by decide) (by decide) (fun w2 hw2 => ?_)
  obtain ⟨l2, k2, e2, M2⟩ := hw2
  refine ev_ss DL_law_0 2 7 (pc' := 17) (lv' := [(2, .ref _), (1, .ref _), (0, .ref _)]) (st' := [.int 1]) rfl ?_
  refine ev_newa DL_law_0 9 (k := 513) (n := 3073) (t0 := 1) (a0 := (1, .inr (.inl (fun _ => 0)))) rfl rfl arc_long rfl (fun _ _ h => h) (fun _ => rfl) (by decide) (N := 1) (by decide) (Nat.le_of_ble_eq_true rfl) (fun x3 => ?_)
  refine ev_ss DL_law_0 2 10 (pc' := 21) (lv' := [(3, .ref _), (2, .ref _), (1, .ref _), (0, .ref _)]) (st' := [.int 1]) rfl ?_
  refine ev_newa DL_law_0 12 (k := 512) (n := 3072) (t0 := 3) (a0 := (1, .inr (.inr (.inr (.inl (fun _ => 0)))))) rfl rfl arc_double rfl (fun _ _ h => h) (fun _ => rfl) (by decide) (N := 1) (by decide) (Nat.le_of_ble_eq_true rfl) (fun x4 => ?_)
  refine ev_ss DL_law_0 3 13 (pc' := 28) (lv' := [(5, .int 0), (4, .ref _), (3, .ref _), (2, .ref _), (1, .ref _), (0, .ref _)]) (st' := []) rfl ?_
  generalize hw4 : (w2 ++ [(x3, laC E 1 (fun _ => 0))]) ++ [(x4, daC E (fun _ => 0))] = w4
  have l3 : (w2 ++ [(x3, laC E 1 (fun _ => 0))]).length = 224 := by simp [l2]
  have k4 : ∀ j, j < 223 → w4[j]? = w2[j]? := fun j hj => by rw [← hw4, app_k (by rw [l3]; omega), app_k (by rw [l2]; exact hj)]
  have c3 : w4[223]? = some (x3, laC E 1 (fun _ => 0)) := by rw [← hw4]; exact app_o (app_at l2)
  have c4 : w4[224]? = some (x4, daC E (fun _ => 0)) := by rw [← hw4]; exact app_at l3
  have k1 : ∀ j, j < 214 → w4[j]? = w1[j]? := fun j hj => by rw [k4 j (by omega), k2 j hj, app_k (by rw [l1]; exact hj)]
  have r3 : adW w4 223 = x3 := adW_of c3
  have r4 : adW w4 224 = x4 := adW_of c4
  have r1 : adW w4 0 = a := (adW_eq (k1 0 (by decide))).trans e1
  have r2 : adW w4 214 = b := (adW_eq (k4 214 (by decide))).trans e2
  have hW : WD E (adW w4) w4 0 (fun _ => 0) (fun _ => 0) := ⟨ps0, fun _ => ps0, 0, 0, 0, fun _ => 0, 0, M1.mv k1, M2.mv (fun j _ h => k4 j h), ⟨by decide, GI_0, fun j hj => absurd hj (Nat.not_lt_zero j)⟩, by rw [r3]; exact c3, by rw [r4]; exact c4⟩
  have q : Ev E YL_law (fun v _ => v = some (.int 1)) nX 512 (6 * 512) 28 [(0, .ref (gSc E).1), (1, .ref (adW w4 0)), (2, .ref (adW w4 214)), (3, .ref (adW w4 223)), (4, .ref (adW w4 224)), (5, .int (nI 0))] [] w4 := law_loop hN 512 0 w4 0 _ _ hW (Nat.zero_le _) (by omega)
  rw [r1, r2, r3, r4, nI_0] at q
  exact ev_lvp [5, 4, 3, 2, 1, 0] rfl q
