theorem MW.mv {E : gE} {ws w : va_W} {p : PS} {sv : Nat → PS} {sc r len : Nat} {ch : Nat → Int32} (h : MW E (adW ws) ws p sv sc r len ch) (hf : ∀ j, j < 214 → w[j]? = ws[j]?) : MW E (adW w) w p sv sc r len ch := by
  have ha : ∀ j, j < 214 → adW w j = adW ws j := fun j hj => adW_eq (hf j hj)
  obtain ⟨a, b, ⟨pt, c⟩, d, ⟨lb, sz, e⟩, ⟨f1, f2, g, f3, f4⟩, k⟩ := h
  have e0 : arS (adW w) r = arS (adW ws) r := funext fun k => by
    unfold arS
    by_cases hk : k < 6
    · rw [if_pos hk, if_pos hk, ha _ (by unfold plS; omega)]
    · rw [if_neg hk, if_neg hk]
  refine ⟨?_, b.mv (fun j x y => hf j (by omega)), ⟨pt, c.mv (fun j x y => hf j (by omega))⟩, ?_, ⟨lb, sz, e.mv (hf _ (by decide)) (hf _ (by decide))⟩, ⟨f1, ?_, g, ?_, f4⟩, fun k9 hk => (k k9 hk).mv (fun j x y => hf j (by unfold plS at x y; omega))⟩
  · rw [ha 0 (by decide), ha 1 (by decide), ha 27 (by decide), ha 53 (by decide), ha 54 (by decide), ha 56 (by decide)]
    exact (hf 0 (by decide)).trans a
  · rw [ha 53 (by decide), e0]
    exact (hf 53 (by decide)).trans d
  · rw [ha 56 (by decide), ha (56 + 1) (by decide)]
    exact (hf 56 (by decide)).trans f2
  · rw [ha (56 + 1) (by decide)]
    exact (hf (56 + 1) (by decide)).trans f3
/-- the rows that the law fills at its start -/
def qI : Nat → Nat → Int32
  | 0 => fun _ => 0
  | i + 1 => upd (qI i) (4 * i) 64
def uI : Nat → Nat → Int32
  | 0 => fun _ => 0
  | i + 1 => upd (uI i) (4 * i + 3) (-1)
theorem qI_s {i : Nat} : qI (i + 1) = upd (qI i) (4 * i) 64 := rfl
theorem uI_s {i : Nat} : uI (i + 1) = upd (uI i) (4 * i + 3) (-1) := rfl
theorem qI_at : ∀ n m, qI n m = if m % 4 = 0 ∧ m < 4 * n then 64 else 0
  | 0, m => (if_neg (by omega)).symm
  | n + 1, m => by
    rw [qI_s]
    by_cases e : m = 4 * n
    · rw [e, upd_eq, if_pos (by omega)]
    · rw [upd_ne e, qI_at n m]
      by_cases h : m % 4 = 0 ∧ m < 4 * n
      · rw [if_pos h, if_pos (by omega)]
      · rw [if_neg h, if_neg (by omega)]
theorem uI_at : ∀ n m, uI n m = if m % 4 = 3 ∧ m < 4 * n then -1 else 0
  | 0, m => (if_neg (by omega)).symm
  | n + 1, m => by
    rw [uI_s]
    by_cases e : m = 4 * n + 3
    · rw [e, upd_eq, if_pos (by omega)]
    · rw [upd_ne e, uI_at n m]
      by_cases h : m % 4 = 3 ∧ m < 4 * n
      · rw [if_pos h, if_pos (by omega)]
      · rw [if_neg h, if_neg (by omega)]
theorem ps0_t {y k : Nat} : (pW ps0 y).1 k = nt0 := by rw [pW_0]; rfl
theorem LT_0 : LT (qI 16) (uI 16) (qI 16) (fun _ => 0) (fun _ => 0) ps0 := by
  refine ⟨fun y k j hy hk hj => ?_, fun y k j hy hk hj => ?_, fun y k j hy hk hj => ?_, fun y k j hy hk hj => ?_, fun y k j hy hk hj => ?_⟩
  · rw [qI_at, ps0_t]
    rcases (show j = 0 ∨ j = 1 ∨ j = 2 ∨ j = 3 by omega) with rfl | rfl | rfl | rfl
    · rw [if_pos (by omega)]; rfl
    · rw [if_neg (by omega)]; rfl
    · rw [if_neg (by omega)]; rfl
    · rw [if_neg (by omega)]; rfl
  · rw [uI_at, ps0_t]
    rcases (show j = 0 ∨ j = 1 ∨ j = 2 ∨ j = 3 by omega) with rfl | rfl | rfl | rfl
    · rw [if_neg (by omega)]; rfl
    · rw [if_neg (by omega)]; rfl
    · rw [if_neg (by omega)]; rfl
    · rw [if_pos (by omega)]; rfl
  · rw [qI_at, ps0_t]
    rcases (show j = 0 ∨ j = 1 ∨ j = 2 ∨ j = 3 by omega) with rfl | rfl | rfl | rfl
    · rw [if_pos (by omega)]; rfl
    · rw [if_neg (by omega)]; rfl
    · rw [if_neg (by omega)]; rfl
    · rw [if_neg (by omega)]; rfl
  · rw [ps0_t]
    rcases (show j = 0 ∨ j = 1 ∨ j = 2 ∨ j = 3 by omega) with rfl | rfl | rfl | rfl <;> rfl
  · rw [ps0_t]
    rcases (show j = 0 ∨ j = 1 by omega) with rfl | rfl <;> rfl
theorem LW_0 : LW (fun _ => 0) (upd (fun _ => 0) 1 1) (fun _ => 0) ps0 := by
  refine ⟨fun y i hy hi => ?_, fun y hy => ?_, upd_ne (by decide), upd_eq⟩
  · rw [pW_0] at hi
    exact absurd hi (Nat.not_lt_zero i)
  · rw [pW_0]
    exact ⟨by decide, (upd_ne (by omega)).trans nI_0.symm, upd_ne (by omega), upd_ne (by omega), rfl⟩
theorem LS_0 : LSe (upd (upd (upd (fun _ => 0) 0 8) 1 8) 2 3) ps0 := fun j hj => by
  rcases (show j = 0 ∨ j = 1 ∨ j = 2 by omega) with rfl | rfl | rfl <;> rfl
set_option maxRecDepth 100000 in
set_option maxHeartbeats 4000000 in
theorem law_init {E : gE} {ad : Nat → Nat} {ws : va_W} (hN : (gSc E).2.1 < 2 ^ 31) (hM : MW E ad ws ps0 (fun _ => ps0) 0 0 0 (fun _ => 0)) (hC : LC E ad ws (fun _ => 0) (fun _ => 0) (fun _ => 0) (fun _ => 0) (fun _ => 0) (fun _ => 0) (fun _ => 0) (fun _ => 0) (fun _ => 0) (fun _ => 0)) : Ev E YL_law (fun v _ => v = some (.int 1)) nX 0 0 64 [(0, .ref (gSc E).1), (1, .ref (ad 0)), (2, .ref (ad 214)), (3, .ref (ad 215)), (4, .ref (ad 216)), (5, .ref (ad 217)), (6, .ref (ad 218)), (7, .ref (ad 219)), (8, .ref (ad 220)), (9, .ref (ad 221)), (10, .ref (ad 222)), (11, .ref (ad 223))] [] ws := by
  suffices K : ∀ (m i : Nat) (x : Int32) (w : va_W), i + m = 16 → x = nI i → LC E ad w (qI i) (uI i) (qI i) (fun _ => 0) (fun _ => 0) (fun _ => 0) (fun _ => 0) (fun _ => 0) (fun _ => 0) (fun _ => 0) → MO ws w → Ev E YL_law (fun v _ => v = some (.int 1)) nX 0 0 67 [(0, .ref (gSc E).1), (1, .ref (ad 0)), (2, .ref (ad 214)), (3, .ref (ad 215)), (4, .ref (ad 216)), (5, .ref (ad 217)), (6, .ref (ad 218)), (7, .ref (ad 219)), (8, .ref (ad 220)), (9, .ref (ad 221)), (10, .ref (ad 222)), (11, .ref (ad 223)), (12, .int x)] [] w by
    refine ev_ss DL_law_0 2 34 (pc' := 67) (lv' := [(12, .int 0), (0, .ref _), (1, .ref _), (2, .ref _), (3, .ref _), (4, .ref _), (5, .ref _), (6, .ref _), (7, .ref _), (8, .ref _), (9, .ref _), (10, .ref _), (11, .ref _)]) (st' := []) rfl ?_
    refine ev_lvp (lv2 := [(0, .ref _), (1, .ref _), (2, .ref _), (3, .ref _), (4, .ref _), (5, .ref _), (6, .ref _), (7, .ref _), (8, .ref _), (9, .ref _), (10, .ref _), (11, .ref _), (12, .int _)]) [1, 2, 3, 4, 5, 6, 7, 8, 9, 10, 11, 12, 0] rfl ?_
    exact K 16 0 _ ws rfl nI_0.symm hC MO.rf
  intro m
  induction m with
  | zero =>
    intro i x w hm hx hC1 hO
    obtain rfl : i = 16 := by omega
    subst hx
    obtain ⟨hzq, hzu, hza, hzn, hzd, hzw, hzc, hzt, hze, hzh⟩ := id hC1
    refine ev_ss DL_law_0 2 36 (pc' := 71) (lv' := [(0, .ref _), (1, .ref _), (2, .ref _), (3, .ref _), (4, .ref _), (5, .ref _), (6, .ref _), (7, .ref _), (8, .ref _), (9, .ref _), (10, .ref _), (11, .ref _), (12, .int _)]) (st' := [.int 16, .int _]) rfl ?_
    refine ev_icge DL_law_0 38 rfl (tgt := 106) (by decide) (fun _ => ?_) (fun h => h.elim (by decide))
    refine ev_ss DL_law_0 3 61 (pc' := 110) (lv' := [(0, .ref _), (1, .ref _), (2, .ref _), (3, .ref _), (4, .ref _), (5, .ref _), (6, .ref _), (7, .ref _), (8, .ref _), (9, .ref _), (10, .ref _), (11, .ref _), (12, .int _)]) (st' := [.int 1, .int 1, .ref _]) rfl ?_
    refine ev_iastv DL_law_0 64 (k0 := 1) rfl hzc rfl (by omega) (by decide) rfl ?_
    refine ev_ss DL_law_0 3 65 (pc' := 116) (lv' := [(0, .ref _), (1, .ref _), (2, .ref _), (3, .ref _), (4, .ref _), (5, .ref _), (6, .ref _), (7, .ref _), (8, .ref _), (9, .ref _), (10, .ref _), (11, .ref _), (12, .int _)]) (st' := [.int 8, .int 0, .ref _]) rfl ?_
    refine ev_iastv DL_law_0 68 (k0 := 0) rfl (wset_n hzt (by decide)) rfl (by omega) (by decide) rfl ?_
    refine ev_ss DL_law_0 3 69 (pc' := 122) (lv' := [(0, .ref _), (1, .ref _), (2, .ref _), (3, .ref _), (4, .ref _), (5, .ref _), (6, .ref _), (7, .ref _), (8, .ref _), (9, .ref _), (10, .ref _), (11, .ref _), (12, .int _)]) (st' := [.int 8, .int 1, .ref _]) rfl ?_
    refine ev_iastv DL_law_0 72 (k0 := 1) rfl (wset_get (wset_n hzt (by decide))) rfl (by omega) (by decide) wset_set ?_
    refine ev_ss DL_law_0 3 73 (pc' := 127) (lv' := [(0, .ref _), (1, .ref _), (2, .ref _), (3, .ref _), (4, .ref _), (5, .ref _), (6, .ref _), (7, .ref _), (8, .ref _), (9, .ref _), (10, .ref _), (11, .ref _), (12, .int _)]) (st' := [.int 3, .int 2, .ref _]) rfl ?_
    refine ev_iastv DL_law_0 76 (k0 := 2) rfl (wset_get (wset_n hzt (by decide))) rfl (by omega) (by decide) wset_set ?_
    have hWD : WD E ad _ 0 0 := ⟨ps0, _, 0, 0, 0, _, _, hM.mo (hO.tr ((MO.rf.st (by decide) (by decide)).st (by decide) (by decide))), ⟨_, _, _, _, _, _, _, _, _, ⟨(wset_n (wset_n hzq (by decide)) (by decide)), (wset_n (wset_n hzu (by decide)) (by decide)), (wset_n (wset_n hza (by decide)) (by decide)), (wset_n (wset_n hzn (by decide)) (by decide)), (wset_n (wset_n hzd (by decide)) (by decide)), (wset_n (wset_n hzw (by decide)) (by decide)), (wset_n (wset_get hzc) (by decide)), (wset_get (wset_n hzt (by decide))), (wset_n (wset_n hze (by decide)) (by decide)), (wset_n (wset_n hzh (by decide)) (by decide))⟩, LT_0, LW_0, LS_0⟩, GI_0, ⟨1, by decide, rfl⟩, ⟨0, Nat.le_refl 0, rfl⟩, by decide, Nat.le_refl 0⟩
    refine ev_ss DL_law_0 10 77 (pc' := 145) (lv' := [(0, .ref _), (1, .ref _), (2, .ref _), (3, .ref _), (4, .ref _), (5, .ref _), (6, .ref _), (7, .ref _), (8, .ref _), (9, .ref _), (10, .ref _), (11, .ref _), (12, .int _)]) (st' := [.ref _, .ref _, .ref _, .ref _, .ref _, .ref _, .ref _, .ref _, .ref _, .ref _]) rfl ?_
    refine ev_cS DL_law_0 87 (m_L_toldW hWD) vL_told rfl qL_152 rfl (hd_of rfl rfl rfl rfl) ?_
    refine ev_ifne DL_law_0 88 rfl (tgt := 153) (by decide) (fun _ => ?_) (fun h => absurd h (by decide))
    refine ev_ss DL_law_0 2 91 (pc' := 156) (lv' := [(12, .int 0), (0, .ref _), (1, .ref _), (2, .ref _), (3, .ref _), (4, .ref _), (5, .ref _), (6, .ref _), (7, .ref _), (8, .ref _), (9, .ref _), (10, .ref _), (11, .ref _)]) (st' := []) rfl ?_
    refine ev_lvp (lv2 := [(0, .ref _), (1, .ref _), (2, .ref _), (3, .ref _), (4, .ref _), (5, .ref _), (6, .ref _), (7, .ref _), (8, .ref _), (9, .ref _), (10, .ref _), (11, .ref _), (12, .int _)]) [1, 2, 3, 4, 5, 6, 7, 8, 9, 10, 11, 12, 0] rfl ?_
    exact law_loop hN 40 0 _ _ rfl nI_0.symm (hWD.le (by decide) (by decide))
  | succ m ih =>
    intro i x w hm hx hC1 hO
    subst hx
    obtain ⟨hzq, hzu, hza, hzn, hzd, hzw, hzc, hzt, hze, hzh⟩ := id hC1
    refine ev_ss DL_law_0 2 36 (pc' := 71) (lv' := [(0, .ref _), (1, .ref _), (2, .ref _), (3, .ref _), (4, .ref _), (5, .ref _), (6, .ref _), (7, .ref _), (8, .ref _), (9, .ref _), (10, .ref _), (11, .ref _), (12, .int _)]) (st' := [.int 16, .int _]) rfl ?_
    refine ev_icge DL_law_0 38 rfl (tgt := 106) (by decide) (fun h => absurd h (nI_ge (b := 16) (by omega) (by decide))) (fun _ => ?_)
    refine ev_ss DL_law_0 5 39 (pc' := 81) (lv' := [(0, .ref _), (1, .ref _), (2, .ref _), (3, .ref _), (4, .ref _), (5, .ref _), (6, .ref _), (7, .ref _), (8, .ref _), (9, .ref _), (10, .ref _), (11, .ref _), (12, .int _)]) (st' := [.int 64, .int _, .ref _]) rfl ?_
    refine ev_iastv DL_law_0 44 (k0 := (4 * i)) rfl hzq (nx_mul (a := 4) (b := i) rfl rfl) (by omega) (by decide) rfl ?_
    refine ev_ss DL_law_0 5 45 (pc' := 90) (lv' := [(0, .ref _), (1, .ref _), (2, .ref _), (3, .ref _), (4, .ref _), (5, .ref _), (6, .ref _), (7, .ref _), (8, .ref _), (9, .ref _), (10, .ref _), (11, .ref _), (12, .int _)]) (st' := [.int 64, .int _, .ref _]) rfl ?_
    refine ev_iastv DL_law_0 50 (k0 := (4 * i)) rfl (wset_n hza (by decide)) (nx_mul (a := 4) (b := i) rfl rfl) (by omega) (by decide) rfl ?_
    refine ev_ss DL_law_0 7 51 (pc' := 99) (lv' := [(0, .ref _), (1, .ref _), (2, .ref _), (3, .ref _), (4, .ref _), (5, .ref _), (6, .ref _), (7, .ref _), (8, .ref _), (9, .ref _), (10, .ref _), (11, .ref _), (12, .int _)]) (st' := [.int (-1), .int _, .ref _]) rfl ?_
    refine ev_iastv DL_law_0 58 (k0 := ((4 * i) + 3)) rfl (wset_n (wset_n hzu (by decide)) (by decide)) (nx_add (a := (4 * i)) (b := 3) (nx_mul (a := 4) (b := i) rfl rfl) rfl) (by omega) (by decide) rfl ?_
    refine ev_ss DL_law_0 1 59 (pc' := 103) (lv' := [(12, .int _), (0, .ref _), (1, .ref _), (2, .ref _), (3, .ref _), (4, .ref _), (5, .ref _), (6, .ref _), (7, .ref _), (8, .ref _), (9, .ref _), (10, .ref _), (11, .ref _)]) (st' := []) rfl ?_
    refine ev_goto DL_law_0 60 rfl (tgt := 67) (by decide) ?_
    refine ev_lvp (lv2 := [(0, .ref _), (1, .ref _), (2, .ref _), (3, .ref _), (4, .ref _), (5, .ref _), (6, .ref _), (7, .ref _), (8, .ref _), (9, .ref _), (10, .ref _), (11, .ref _), (12, .int _)]) [1, 2, 3, 4, 5, 6, 7, 8, 9, 10, 11, 12, 0] rfl ?_
    exact ih (i + 1) _ _ (by omega) (nI_1 i) ⟨(wset_n (wset_n (wset_get hzq) (by decide)) (by decide)), (wset_get (wset_n (wset_n hzu (by decide)) (by decide))), (wset_n (wset_get (wset_n hza (by decide))) (by decide)), (wset_n (wset_n (wset_n hzn (by decide)) (by decide)) (by decide)), (wset_n (wset_n (wset_n hzd (by decide)) (by decide)) (by decide)), (wset_n (wset_n (wset_n hzw (by decide)) (by decide)) (by decide)), (wset_n (wset_n (wset_n hzc (by decide)) (by decide)) (by decide)), (wset_n (wset_n (wset_n hzt (by decide)) (by decide)) (by decide)), (wset_n (wset_n (wset_n hze (by decide)) (by decide)) (by decide)), (wset_n (wset_n (wset_n hzh (by decide)) (by decide)) (by decide))⟩ (hO.tr (((MO.rf.st (by decide) (by decide)).st (by decide) (by decide)).st (by decide) (by decide)))
set_option maxRecDepth 100000 in
set_option maxHeartbeats 4000000 in
theorem law_start {E : gE} (hN : (gSc E).2.1 ≤ 260) : Ev E YL_law (fun v _ => v = some (.int 1)) nX 224 7289 0 [(0, .ref (gSc E).1)] [] [] := by
  refine ev_new DL_law_0 0 (k := 223) (n := 7283) (fs := [.null, .null, .null, .null, .null, .int 0]) GX6 rfl nL_56 insX6 iniX6 (by decide) (fun a0 => ?_)
  refine ev_ss DL_law_0 1 1 (pc' := 4) (lv' := [(0, .ref _)]) (st' := [.ref _, .ref _]) rfl ?_
  refine ev_rI DL_law_0 2 (k1 := 213) (n1 := 6854) (k2 := 10) (n2 := 429) m_X6_init vX6_init rfl qL_151 rfl rfl rfl (hd_of rfl rfl rfl rfl) (by decide) (by decide) (fun w1 hw1 => ?_)
  obtain ⟨l1, e1, M1⟩ := hw1
  refine ev_ss DL_law_0 2 3 (pc' := 10) (lv' := [(1, .ref _), (0, .ref _)]) (st' := [.int 64]) rfl ?_
  refine ev_newa DL_law_0 5 (k := 9) (n := 365) (t0 := 0) (a0 := (64, .inl (fun _ => 0))) rfl rfl arc_int rfl (fun _ _ h => h) (fun _ => rfl) (by decide) (N := 64) (by decide) (Nat.le_of_ble_eq_true rfl) (fun x0 => ?_)
  refine ev_ss DL_law_0 2 6 (pc' := 15) (lv' := [(2, .ref _), (1, .ref _), (0, .ref _)]) (st' := [.int 64]) rfl ?_
  refine ev_newa DL_law_0 8 (k := 8) (n := 301) (t0 := 0) (a0 := (64, .inl (fun _ => 0))) rfl rfl arc_int rfl (fun _ _ h => h) (fun _ => rfl) (by decide) (N := 64) (by decide) (Nat.le_of_ble_eq_true rfl) (fun x1 => ?_)
  refine ev_ss DL_law_0 2 9 (pc' := 20) (lv' := [(3, .ref _), (2, .ref _), (1, .ref _), (0, .ref _)]) (st' := [.int 64]) rfl ?_
  refine ev_newa DL_law_0 11 (k := 7) (n := 237) (t0 := 0) (a0 := (64, .inl (fun _ => 0))) rfl rfl arc_int rfl (fun _ _ h => h) (fun _ => rfl) (by decide) (N := 64) (by decide) (Nat.le_of_ble_eq_true rfl) (fun x2 => ?_)
  refine ev_ss DL_law_0 2 12 (pc' := 26) (lv' := [(4, .ref _), (3, .ref _), (2, .ref _), (1, .ref _), (0, .ref _)]) (st' := [.int 64]) rfl ?_
  refine ev_newa DL_law_0 14 (k := 6) (n := 173) (t0 := 0) (a0 := (64, .inl (fun _ => 0))) rfl rfl arc_int rfl (fun _ _ h => h) (fun _ => rfl) (by decide) (N := 64) (by decide) (Nat.le_of_ble_eq_true rfl) (fun x3 => ?_)
  refine ev_ss DL_law_0 2 15 (pc' := 32) (lv' := [(5, .ref _), (4, .ref _), (3, .ref _), (2, .ref _), (1, .ref _), (0, .ref _)]) (st' := [.int 32]) rfl ?_
  refine ev_newa DL_law_0 17 (k := 5) (n := 141) (t0 := 0) (a0 := (32, .inl (fun _ => 0))) rfl rfl arc_int rfl (fun _ _ h => h) (fun _ => rfl) (by decide) (N := 32) (by decide) (Nat.le_of_ble_eq_true rfl) (fun x4 => ?_)
  refine ev_ss DL_law_0 2 18 (pc' := 38) (lv' := [(6, .ref _), (5, .ref _), (4, .ref _), (3, .ref _), (2, .ref _), (1, .ref _), (0, .ref _)]) (st' := [.int 64]) rfl ?_
  refine ev_newa DL_law_0 20 (k := 4) (n := 77) (t0 := 0) (a0 := (64, .inl (fun _ => 0))) rfl rfl arc_int rfl (fun _ _ h => h) (fun _ => rfl) (by decide) (N := 64) (by decide) (Nat.le_of_ble_eq_true rfl) (fun x5 => ?_)
  refine ev_ss DL_law_0 2 21 (pc' := 44) (lv' := [(7, .ref _), (6, .ref _), (5, .ref _), (4, .ref _), (3, .ref _), (2, .ref _), (1, .ref _), (0, .ref _)]) (st' := [.int 8]) rfl ?_
  refine ev_newa DL_law_0 23 (k := 3) (n := 69) (t0 := 0) (a0 := (8, .inl (fun _ => 0))) rfl rfl arc_int rfl (fun _ _ h => h) (fun _ => rfl) (by decide) (N := 8) (by decide) (Nat.le_of_ble_eq_true rfl) (fun x6 => ?_)
  refine ev_ss DL_law_0 2 24 (pc' := 49) (lv' := [(8, .ref _), (7, .ref _), (6, .ref _), (5, .ref _), (4, .ref _), (3, .ref _), (2, .ref _), (1, .ref _), (0, .ref _)]) (st' := [.int 3]) rfl ?_
  refine ev_newa DL_law_0 26 (k := 2) (n := 66) (t0 := 0) (a0 := (3, .inl (fun _ => 0))) rfl rfl arc_int rfl (fun _ _ h => h) (fun _ => rfl) (by decide) (N := 3) (by decide) (Nat.le_of_ble_eq_true rfl) (fun x7 => ?_)
  refine ev_ss DL_law_0 2 27 (pc' := 55) (lv' := [(9, .ref _), (8, .ref _), (7, .ref _), (6, .ref _), (5, .ref _), (4, .ref _), (3, .ref _), (2, .ref _), (1, .ref _), (0, .ref _)]) (st' := [.int 64]) rfl ?_
  refine ev_newa DL_law_0 29 (k := 1) (n := 2) (t0 := 0) (a0 := (64, .inl (fun _ => 0))) rfl rfl arc_int rfl (fun _ _ h => h) (fun _ => rfl) (by decide) (N := 64) (by decide) (Nat.le_of_ble_eq_true rfl) (fun x8 => ?_)
  refine ev_ss DL_law_0 2 30 (pc' := 60) (lv' := [(10, .ref _), (9, .ref _), (8, .ref _), (7, .ref _), (6, .ref _), (5, .ref _), (4, .ref _), (3, .ref _), (2, .ref _), (1, .ref _), (0, .ref _)]) (st' := [.int 2]) rfl ?_
  refine ev_newa DL_law_0 32 (k := 0) (n := 0) (t0 := 1) (a0 := (2, .inr (.inl (fun _ => 0)))) rfl rfl arc_long rfl (fun _ _ h => h) (fun _ => rfl) (by decide) (N := 2) (by decide) (Nat.le_of_ble_eq_true rfl) (fun x9 => ?_)
  refine ev_ss DL_law_0 1 33 (pc' := 64) (lv' := [(11, .ref _), (10, .ref _), (9, .ref _), (8, .ref _), (7, .ref _), (6, .ref _), (5, .ref _), (4, .ref _), (3, .ref _), (2, .ref _), (1, .ref _), (0, .ref _)]) (st' := []) rfl ?_
  generalize hwF : (((((((((w1 ++ [(x0, iaC E 64 (fun _ => 0))]) ++ [(x1, iaC E 64 (fun _ => 0))]) ++ [(x2, iaC E 64 (fun _ => 0))]) ++ [(x3, iaC E 64 (fun _ => 0))]) ++ [(x4, iaC E 32 (fun _ => 0))]) ++ [(x5, iaC E 64 (fun _ => 0))]) ++ [(x6, iaC E 8 (fun _ => 0))]) ++ [(x7, iaC E 3 (fun _ => 0))]) ++ [(x8, iaC E 64 (fun _ => 0))]) ++ [(x9, laC E 2 (fun _ => 0))] = wF
  have L0 : (w1).length = 214 := by simp [l1]
  have L1 : ((w1 ++ [(x0, iaC E 64 (fun _ => 0))])).length = 215 := by simp [l1]
  have L2 : (((w1 ++ [(x0, iaC E 64 (fun _ => 0))]) ++ [(x1, iaC E 64 (fun _ => 0))])).length = 216 := by simp [l1]
  have L3 : ((((w1 ++ [(x0, iaC E 64 (fun _ => 0))]) ++ [(x1, iaC E 64 (fun _ => 0))]) ++ [(x2, iaC E 64 (fun _ => 0))])).length = 217 := by simp [l1]
  have L4 : (((((w1 ++ [(x0, iaC E 64 (fun _ => 0))]) ++ [(x1, iaC E 64 (fun _ => 0))]) ++ [(x2, iaC E 64 (fun _ => 0))]) ++ [(x3, iaC E 64 (fun _ => 0))])).length = 218 := by simp [l1]
  have L5 : ((((((w1 ++ [(x0, iaC E 64 (fun _ => 0))]) ++ [(x1, iaC E 64 (fun _ => 0))]) ++ [(x2, iaC E 64 (fun _ => 0))]) ++ [(x3, iaC E 64 (fun _ => 0))]) ++ [(x4, iaC E 32 (fun _ => 0))])).length = 219 := by simp [l1]
  have L6 : (((((((w1 ++ [(x0, iaC E 64 (fun _ => 0))]) ++ [(x1, iaC E 64 (fun _ => 0))]) ++ [(x2, iaC E 64 (fun _ => 0))]) ++ [(x3, iaC E 64 (fun _ => 0))]) ++ [(x4, iaC E 32 (fun _ => 0))]) ++ [(x5, iaC E 64 (fun _ => 0))])).length = 220 := by simp [l1]
  have L7 : ((((((((w1 ++ [(x0, iaC E 64 (fun _ => 0))]) ++ [(x1, iaC E 64 (fun _ => 0))]) ++ [(x2, iaC E 64 (fun _ => 0))]) ++ [(x3, iaC E 64 (fun _ => 0))]) ++ [(x4, iaC E 32 (fun _ => 0))]) ++ [(x5, iaC E 64 (fun _ => 0))]) ++ [(x6, iaC E 8 (fun _ => 0))])).length = 221 := by simp [l1]
  have L8 : (((((((((w1 ++ [(x0, iaC E 64 (fun _ => 0))]) ++ [(x1, iaC E 64 (fun _ => 0))]) ++ [(x2, iaC E 64 (fun _ => 0))]) ++ [(x3, iaC E 64 (fun _ => 0))]) ++ [(x4, iaC E 32 (fun _ => 0))]) ++ [(x5, iaC E 64 (fun _ => 0))]) ++ [(x6, iaC E 8 (fun _ => 0))]) ++ [(x7, iaC E 3 (fun _ => 0))])).length = 222 := by simp [l1]
  have L9 : ((((((((((w1 ++ [(x0, iaC E 64 (fun _ => 0))]) ++ [(x1, iaC E 64 (fun _ => 0))]) ++ [(x2, iaC E 64 (fun _ => 0))]) ++ [(x3, iaC E 64 (fun _ => 0))]) ++ [(x4, iaC E 32 (fun _ => 0))]) ++ [(x5, iaC E 64 (fun _ => 0))]) ++ [(x6, iaC E 8 (fun _ => 0))]) ++ [(x7, iaC E 3 (fun _ => 0))]) ++ [(x8, iaC E 64 (fun _ => 0))])).length = 223 := by simp [l1]
  have c0 : wF[214]? = some (x0, iaC E 64 (fun _ => 0)) := by rw [← hwF]; exact (app_o (app_o (app_o (app_o (app_o (app_o (app_o (app_o (app_o (app_at L0))))))))))
  have c1 : wF[215]? = some (x1, iaC E 64 (fun _ => 0)) := by rw [← hwF]; exact (app_o (app_o (app_o (app_o (app_o (app_o (app_o (app_o (app_at L1)))))))))
  have c2 : wF[216]? = some (x2, iaC E 64 (fun _ => 0)) := by rw [← hwF]; exact (app_o (app_o (app_o (app_o (app_o (app_o (app_o (app_at L2))))))))
  have c3 : wF[217]? = some (x3, iaC E 64 (fun _ => 0)) := by rw [← hwF]; exact (app_o (app_o (app_o (app_o (app_o (app_o (app_at L3)))))))
  have c4 : wF[218]? = some (x4, iaC E 32 (fun _ => 0)) := by rw [← hwF]; exact (app_o (app_o (app_o (app_o (app_o (app_at L4))))))
  have c5 : wF[219]? = some (x5, iaC E 64 (fun _ => 0)) := by rw [← hwF]; exact (app_o (app_o (app_o (app_o (app_at L5)))))
  have c6 : wF[220]? = some (x6, iaC E 8 (fun _ => 0)) := by rw [← hwF]; exact (app_o (app_o (app_o (app_at L6))))
  have c7 : wF[221]? = some (x7, iaC E 3 (fun _ => 0)) := by rw [← hwF]; exact (app_o (app_o (app_at L7)))
  have c8 : wF[222]? = some (x8, iaC E 64 (fun _ => 0)) := by rw [← hwF]; exact (app_o (app_at L8))
  have c9 : wF[223]? = some (x9, laC E 2 (fun _ => 0)) := by rw [← hwF]; exact (app_at L9)
  have k1 : ∀ j, j < 214 → wF[j]? = w1[j]? := fun j hj => by rw [← hwF, app_k (by rw [L9]; omega), app_k (by rw [L8]; omega), app_k (by rw [L7]; omega), app_k (by rw [L6]; omega), app_k (by rw [L5]; omega), app_k (by rw [L4]; omega), app_k (by rw [L3]; omega), app_k (by rw [L2]; omega), app_k (by rw [L1]; omega), app_k (by rw [L0]; omega)]
  have r0 : adW wF 214 = x0 := adW_of c0
  have r1 : adW wF 215 = x1 := adW_of c1
  have r2 : adW wF 216 = x2 := adW_of c2
  have r3 : adW wF 217 = x3 := adW_of c3
  have r4 : adW wF 218 = x4 := adW_of c4
  have r5 : adW wF 219 = x5 := adW_of c5
  have r6 : adW wF 220 = x6 := adW_of c6
  have r7 : adW wF 221 = x7 := adW_of c7
  have r8 : adW wF 222 = x8 := adW_of c8
  have r9 : adW wF 223 = x9 := adW_of c9
  have ra : adW wF 0 = a0 := (adW_eq (k1 0 (by decide))).trans e1
  have q9 := law_init (E := E) (ad := adW wF) (ws := wF) (by omega) (M1.mv k1) ⟨(by rw [r0]; exact c0), (by rw [r1]; exact c1), (by rw [r2]; exact c2), (by rw [r3]; exact c3), (by rw [r4]; exact c4), (by rw [r5]; exact c5), (by rw [r6]; exact c6), (by rw [r7]; exact c7), (by rw [r8]; exact c8), (by rw [r9]; exact c9)⟩
  rw [ra, r0, r1, r2, r3, r4, r5, r6, r7, r8, r9] at q9
  exact ev_lvp [11, 10, 9, 8, 7, 6, 5, 4, 3, 2, 1, 0] rfl q9
