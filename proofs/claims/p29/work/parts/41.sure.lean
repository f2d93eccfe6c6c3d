def suQ (f : TF) : Nat → Int32
  | 0 => 0
  | b + 1 => if roomP (f 7) (nI (b + 1)) ≤ misP f (nI (b + 1)) + f 3 + 4 then suQ f b else nI (b + 1)
theorem suQ_s {f : TF} {b : Nat} : suQ f (b + 1) = if roomP (f 7) (nI (b + 1)) ≤ misP f (nI (b + 1)) + f 3 + 4 then suQ f b else nI (b + 1) := rfl
theorem suQ_4 {f : TF} : suQ f 4 = surP f := rfl
theorem mis_eq {f : TF} {m : Int32} : (absP (f 0 - f 7) * ((256 : Int32) - ((256 : Int32) >>> (m &&& 31))) + absP (f 1 - f 8) * 256 + absP (f 2 - f 9) * 256) / 64 + f 3 + 4 = misP f m + f 3 + 4 := by
  unfold misP
  rw [Int32.add_mul, Int32.add_assoc (absP (f 0 - f 7) * ((256 : Int32) - ((256 : Int32) >>> (m &&& 31))))]
set_option maxRecDepth 100000 in
set_option maxHeartbeats 4000000 in
theorem m_L_sure {E : gE} {ad : Nat → Nat} {ws : va_W} {zq za : Nat → Int32} (hzq : ws[214]? = some (ad 214, iaC E 64 zq)) (hza : ws[216]? = some (ad 216, iaC E 64 za)) {i : Nat} (hi : i < 16) {f : TF} (hQ : ∀ j, j < 4 → zq (4 * i + j) = f j) (hA : ∀ j, j < 4 → za (4 * i + j) = f (7 + j)) : CD E YL_sure 0 0 [.int (nI i), .ref (ad 214), .ref (ad 216)] ws (some (.int (surP f))) ws := by
  rw [← suQ_4]
  refine cdS vL_sure (Nat.le_of_ble_eq_true rfl) (lv0 := [(0, .int (nI i)), (1, .ref (ad 214)), (2, .ref (ad 216))]) rfl ?_
  suffices K : ∀ (m j : Nat) (x best : Int32), j + m = 4 → x = nI (j + 1) → best = suQ f j → Ev E YL_sure (fun v2 w2 => v2 = some (.int (suQ f 4)) ∧ w2 = ws) nX 0 0 10 [(0, .int (nI i)), (1, .ref (ad 214)), (2, .ref (ad 216)), (3, .int (nI (4 * i))), (4, .int best), (5, .int x)] [] ws by
    refine ev_ss DL_sure 3 0 (pc' := 3) (lv' := [(0, .int _), (1, .ref _), (2, .ref _)]) (st' := [.int _]) rfl ?_
    refine ev_topv (nx_mul (a := 4) (b := i) rfl rfl) ?_
    refine ev_ss DL_sure 5 3 (pc' := 10) (lv' := [(5, .int 1), (4, .int 0), (3, .int _), (0, .int _), (1, .ref _), (2, .ref _)]) (st' := []) rfl ?_
    refine ev_lvp (lv2 := [(0, .int _), (1, .ref _), (2, .ref _), (3, .int _), (4, .int _), (5, .int _)]) [3, 4, 5, 2, 1, 0] rfl ?_
    exact K 4 0 _ _ rfl rfl rfl
  intro m
  induction m with
  | zero =>
    intro j x best hm hx hq
    obtain rfl : j = 4 := by omega
    subst hx; subst hq
    refine ev_ss DL_sure 2 8 (pc' := 13) (lv' := [(0, .int _), (1, .ref _), (2, .ref _), (3, .int _), (4, .int _), (5, .int _)]) (st' := [.int 4, .int _]) rfl ?_
    refine ev_icgt DL_sure 10 rfl (tgt := 121) (by decide) (fun _ => ?_) (fun h => h.elim (by decide))
    refine ev_ss DL_sure 1 83 (pc' := 123) (lv' := [(0, .int _), (1, .ref _), (2, .ref _), (3, .int _), (4, .int _), (5, .int _)]) (st' := [.int _]) rfl ?_
    exact ev_iret DL_sure 84 rfl rfl ⟨rfl, rfl⟩
  | succ m ih =>
    intro j x best hm hx hq
    subst hx
    refine ev_ss DL_sure 2 8 (pc' := 13) (lv' := [(0, .int _), (1, .ref _), (2, .ref _), (3, .int _), (4, .int _), (5, .int _)]) (st' := [.int 4, .int _]) rfl ?_
    refine ev_icgt DL_sure 10 rfl (tgt := 121) (by decide) (fun h => absurd h (fun h => absurd (show nI (j + 1) ≤ nI 4 from nI_le (by omega) (by decide)) (Int32.not_le.mpr h))) (fun _ => ?_)
    refine ev_ss DL_sure 6 11 (pc' := 26) (lv' := [(6, .int _), (0, .int _), (1, .ref _), (2, .ref _), (3, .int _), (4, .int _), (5, .int _)]) (st' := [.int _, .ref _]) rfl ?_
    refine ev_ialdv DL_sure 17 (k0 := (4 * i)) rfl hzq rfl (by omega) (by decide) ((hQ 0 (by decide))) ?_
    refine ev_ss DL_sure 2 18 (pc' := 29) (lv' := [(6, .int _), (0, .int _), (1, .ref _), (2, .ref _), (3, .int _), (4, .int _), (5, .int _)]) (st' := [.int _, .ref _, .int _]) rfl ?_
    refine ev_ialdv DL_sure 20 (k0 := (4 * i)) rfl hza rfl (by omega) (by decide) ((hA 0 (by decide))) ?_
    refine ev_ss DL_sure 1 21 (pc' := 31) (lv' := [(6, .int _), (0, .int _), (1, .ref _), (2, .ref _), (3, .int _), (4, .int _), (5, .int _)]) (st' := [.int _]) rfl ?_
    refine ev_cS DL_sure 22 m_L_size vL_size rfl qL_29 rfl (hd_of rfl rfl rfl rfl) ?_
    refine ev_ss DL_sure 8 23 (pc' := 45) (lv' := [(6, .int _), (0, .int _), (1, .ref _), (2, .ref _), (3, .int _), (4, .int _), (5, .int _)]) (st' := [.int _, .ref _, .int _]) rfl ?_
    refine ev_ialdv DL_sure 31 (k0 := ((4 * i) + 1)) rfl hzq (nx_add (a := (4 * i)) (b := 1) rfl rfl) (by omega) (by decide) ((hQ 1 (by decide))) ?_
    refine ev_ss DL_sure 4 32 (pc' := 50) (lv' := [(6, .int _), (0, .int _), (1, .ref _), (2, .ref _), (3, .int _), (4, .int _), (5, .int _)]) (st' := [.int _, .ref _, .int _, .int _]) rfl ?_
    refine ev_ialdv DL_sure 36 (k0 := ((4 * i) + 1)) rfl hza (nx_add (a := (4 * i)) (b := 1) rfl rfl) (by omega) (by decide) ((hA 1 (by decide))) ?_
    refine ev_ss DL_sure 1 37 (pc' := 52) (lv' := [(6, .int _), (0, .int _), (1, .ref _), (2, .ref _), (3, .int _), (4, .int _), (5, .int _)]) (st' := [.int _, .int _]) rfl ?_
    refine ev_cS DL_sure 38 m_L_size vL_size rfl qL_29 rfl (hd_of rfl rfl rfl rfl) ?_
    refine ev_ss DL_sure 7 39 (pc' := 64) (lv' := [(6, .int _), (0, .int _), (1, .ref _), (2, .ref _), (3, .int _), (4, .int _), (5, .int _)]) (st' := [.int _, .ref _, .int _]) rfl ?_
    refine ev_ialdv DL_sure 46 (k0 := ((4 * i) + 2)) rfl hzq (nx_add (a := (4 * i)) (b := 2) rfl rfl) (by omega) (by decide) ((hQ 2 (by decide))) ?_
    refine ev_ss DL_sure 4 47 (pc' := 69) (lv' := [(6, .int _), (0, .int _), (1, .ref _), (2, .ref _), (3, .int _), (4, .int _), (5, .int _)]) (st' := [.int _, .ref _, .int _, .int _]) rfl ?_
    refine ev_ialdv DL_sure 51 (k0 := ((4 * i) + 2)) rfl hza (nx_add (a := (4 * i)) (b := 2) rfl rfl) (by omega) (by decide) ((hA 2 (by decide))) ?_
    refine ev_ss DL_sure 1 52 (pc' := 71) (lv' := [(6, .int _), (0, .int _), (1, .ref _), (2, .ref _), (3, .int _), (4, .int _), (5, .int _)]) (st' := [.int _, .int _]) rfl ?_
    refine ev_cS DL_sure 53 m_L_size vL_size rfl qL_29 rfl (hd_of rfl rfl rfl rfl) ?_
    refine ev_ss DL_sure 4 54 (pc' := 81) (lv' := [(6, .int _), (0, .int _), (1, .ref _), (2, .ref _), (3, .int _), (4, .int _), (5, .int _)]) (st' := [.int 64, .int _]) rfl ?_
    refine ev_idiv DL_sure 58 rfl (by decide) ?_
    refine ev_ss DL_sure 4 59 (pc' := 86) (lv' := [(6, .int _), (0, .int _), (1, .ref _), (2, .ref _), (3, .int _), (4, .int _), (5, .int _)]) (st' := [.int _, .ref _, .int _]) rfl ?_
    refine ev_ialdv DL_sure 63 (k0 := ((4 * i) + 3)) rfl hzq (nx_add (a := (4 * i)) (b := 3) rfl rfl) (by omega) (by decide) ((hQ 3 (by decide))) ?_
    refine ev_ss DL_sure 3 64 (pc' := 90) (lv' := [(6, .int _), (0, .int _), (1, .ref _), (2, .ref _), (3, .int _), (4, .int _), (5, .int _)]) (st' := [.int _]) rfl ?_
    refine ev_topv (mis_eq (f := f) (m := nI (j + 1))) ?_
    refine ev_ss DL_sure 5 67 (pc' := 98) (lv' := [(7, .int _), (6, .int _), (0, .int _), (1, .ref _), (2, .ref _), (3, .int _), (4, .int _), (5, .int _)]) (st' := [.int _, .ref _, .int _, .int _]) rfl ?_
    refine ev_ialdv DL_sure 72 (k0 := (4 * i)) rfl hza rfl (by omega) (by decide) ((hA 0 (by decide))) ?_
    refine ev_ss DL_sure 2 73 (pc' := 102) (lv' := [(7, .int _), (6, .int _), (0, .int _), (1, .ref _), (2, .ref _), (3, .int _), (4, .int _), (5, .int _)]) (st' := [.int 64, .int _, .int _]) rfl ?_
    refine ev_idiv DL_sure 75 rfl (by decide) ?_
    refine ev_icge DL_sure 76 rfl (tgt := 111) (by decide) (fun c_2 => ?_) (fun c_2 => ?_)
    · refine ev_ss DL_sure 3 79 (pc' := 118) (lv' := [(5, .int _), (4, .int _), (7, .int _), (6, .int _), (0, .int _), (1, .ref _), (2, .ref _), (3, .int _)]) (st' := []) rfl ?_
      refine ev_goto DL_sure 82 rfl (tgt := 10) (by decide) ?_
      refine ev_lvp (lv2 := [(0, .int _), (1, .ref _), (2, .ref _), (3, .int _), (4, .int _), (5, .int _)]) [4, 5, 6, 7, 1, 0] rfl ?_
      exact ih (j + 1) _ _ (by omega) (nI_1 (j + 1)) (by rw [suQ_s, ← hq]; exact (if_pos c_2).symm)
    · refine ev_ss DL_sure 1 77 (pc' := 108) (lv' := [(7, .int _), (6, .int _), (0, .int _), (1, .ref _), (2, .ref _), (3, .int _), (4, .int _), (5, .int _)]) (st' := [.int _]) rfl ?_
      refine ev_goto DL_sure 78 rfl (tgt := 113) (by decide) ?_
      refine ev_ss DL_sure 2 80 (pc' := 118) (lv' := [(5, .int _), (4, .int _), (7, .int _), (6, .int _), (0, .int _), (1, .ref _), (2, .ref _), (3, .int _)]) (st' := []) rfl ?_
      refine ev_goto DL_sure 82 rfl (tgt := 10) (by decide) ?_
      refine ev_lvp (lv2 := [(0, .int _), (1, .ref _), (2, .ref _), (3, .int _), (4, .int _), (5, .int _)]) [4, 5, 6, 7, 1, 0] rfl ?_
      exact ih (j + 1) _ _ (by omega) (nI_1 (j + 1)) (by rw [suQ_s, ← hq]; exact (if_neg c_2).symm)
set_option maxRecDepth 100000 in
set_option maxHeartbeats 4000000 in
theorem m_L_carried {E : gE} {ad : Nat → Nat} {ws : va_W} {za : Nat → Int32} (hza : ws[216]? = some (ad 216, iaC E 64 za)) {p : PS} {a : Nat} (ha : a < 2) (hA : A4 mA za p) : CD E YL_carried 0 0 [.int (nI a), .ref (ad 216)] ws (some (.int (sumN (fun t => (pW p a).1 t 10) 8))) ws := by
  refine cdS vL_carried (Nat.le_of_ble_eq_true rfl) (lv0 := [(0, .int (nI a)), (1, .ref (ad 216))]) rfl ?_
  suffices K : ∀ (m i : Nat) (x acc : Int32), i + m = 8 → x = nI i → acc = sumN (fun t => (pW p a).1 t 10) i → Ev E YL_carried (fun v2 w2 => v2 = some (.int (sumN (fun t => (pW p a).1 t 10) 8)) ∧ w2 = ws) nX 0 0 4 [(0, .int (nI a)), (1, .ref (ad 216)), (2, .int acc), (3, .int x)] [] ws by
    refine ev_ss DL_carried 4 0 (pc' := 4) (lv' := [(3, .int 0), (2, .int 0), (0, .int _), (1, .ref _)]) (st' := []) rfl ?_
    refine ev_lvp (lv2 := [(0, .int _), (1, .ref _), (2, .int _), (3, .int _)]) [2, 3, 1, 0] rfl ?_
    exact K 8 0 _ _ rfl nI_0.symm rfl
  intro m
  induction m with
  | zero =>
    intro i x acc hm hx hq
    obtain rfl : i = 8 := by omega
    subst hx; subst hq
    refine ev_ss DL_carried 2 4 (pc' := 7) (lv' := [(0, .int _), (1, .ref _), (2, .int _), (3, .int _)]) (st' := [.int 8, .int _]) rfl ?_
    refine ev_icge DL_carried 6 rfl (tgt := 31) (by decide) (fun _ => ?_) (fun h => h.elim (by decide))
    refine ev_ss DL_carried 1 23 (pc' := 32) (lv' := [(0, .int _), (1, .ref _), (2, .int _), (3, .int _)]) (st' := [.int _]) rfl ?_
    exact ev_iret DL_carried 24 rfl rfl ⟨rfl, rfl⟩
  | succ m ih =>
    intro i x acc hm hx hq
    subst hx
    refine ev_ss DL_carried 2 4 (pc' := 7) (lv' := [(0, .int _), (1, .ref _), (2, .int _), (3, .int _)]) (st' := [.int 8, .int _]) rfl ?_
    refine ev_icge DL_carried 6 rfl (tgt := 31) (by decide) (fun h => absurd h (nI_ge (b := 8) (by omega) (by decide))) (fun _ => ?_)
    refine ev_ss DL_carried 11 7 (pc' := 22) (lv' := [(0, .int _), (1, .ref _), (2, .int _), (3, .int _)]) (st' := [.int _, .ref _, .int _]) rfl ?_
    refine ev_ialdv DL_carried 18 (k0 := ((4 * ((8 * a) + i)) + 3)) rfl hza (nx_add (a := (4 * ((8 * a) + i))) (b := 3) (nx_mul (a := 4) (b := ((8 * a) + i)) rfl (nx_add (a := (8 * a)) (b := i) (nx_mul (a := 8) (b := a) rfl rfl) rfl)) rfl) (by omega) (by decide) ((hA a i 3 ha (by omega) (by decide))) ?_
    refine ev_ss DL_carried 3 19 (pc' := 28) (lv' := [(3, .int _), (2, .int _), (0, .int _), (1, .ref _)]) (st' := []) rfl ?_
    refine ev_goto DL_carried 22 rfl (tgt := 4) (by decide) ?_
    refine ev_lvp (lv2 := [(0, .int _), (1, .ref _), (2, .int _), (3, .int _)]) [2, 3, 1, 0] rfl ?_
    exact ih (i + 1) _ _ (by omega) (nI_1 i) (by show acc + (pW p a).1 i 10 = sumN (fun t => (pW p a).1 t 10) i + (pW p a).1 i 10; rw [hq])
