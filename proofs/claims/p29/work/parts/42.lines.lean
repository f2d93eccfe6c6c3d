set_option maxRecDepth 100000 in
set_option maxHeartbeats 4000000 in
theorem m_L_lines {E : gE} {ad : Nat → Nat} {ws : va_W} {zq zu za zn zd : Nat → Int32} {p : PS} {sv : Nat → PS} {sc r len : Nat} {ch : Nat → Int32} (h : MW E ad ws p sv sc r len ch) (hzq : ws[214]? = some (ad 214, iaC E 64 zq)) (hzu : ws[215]? = some (ad 215, iaC E 64 zu)) (hza : ws[216]? = some (ad 216, iaC E 64 za)) (hzn : ws[217]? = some (ad 217, iaC E 64 zn)) (hzd : ws[218]? = some (ad 218, iaC E 32 zd)) (hT : LT zq zu za zn zd p) : CD E YL_lines 0 0 [.ref (ad 0), .ref (ad 214), .ref (ad 215), .ref (ad 216), .ref (ad 217), .ref (ad 218)] ws (some (.int 1)) ws := by
  refine cdS vL_lines (Nat.le_of_ble_eq_true rfl) (lv0 := [(0, .ref (ad 0)), (1, .ref (ad 214)), (2, .ref (ad 215)), (3, .ref (ad 216)), (4, .ref (ad 217)), (5, .ref (ad 218))]) rfl ?_
  suffices K : ∀ (m i : Nat) (x : Int32), i + m = 16 → x = nI i → Ev E YL_lines (fun v2 w2 => v2 = some (.int 1) ∧ w2 = ws) nX 0 0 3 [(0, .ref (ad 0)), (1, .ref (ad 214)), (2, .ref (ad 215)), (3, .ref (ad 216)), (4, .ref (ad 217)), (5, .ref (ad 218)), (6, .int x)] [] ws by
    refine ev_ss DL_lines_0 2 0 (pc' := 3) (lv' := [(6, .int 0), (0, .ref _), (1, .ref _), (2, .ref _), (3, .ref _), (4, .ref _), (5, .ref _)]) (st' := []) rfl ?_
    refine ev_lvp (lv2 := [(0, .ref _), (1, .ref _), (2, .ref _), (3, .ref _), (4, .ref _), (5, .ref _), (6, .int _)]) [1, 2, 3, 4, 5, 6, 0] rfl ?_
    exact K 16 0 _ rfl nI_0.symm
  intro m
  induction m with
  | zero =>
    intro i x hm hx
    obtain rfl : i = 16 := by omega
    subst hx
    refine ev_ss DL_lines_0 2 2 (pc' := 7) (lv' := [(0, .ref _), (1, .ref _), (2, .ref _), (3, .ref _), (4, .ref _), (5, .ref _), (6, .int _)]) (st' := [.int 16, .int _]) rfl ?_
    refine ev_icge DL_lines_0 4 rfl (tgt := 256) (by decide) (fun _ => ?_) (fun h => h.elim (by decide))
    refine ev_ss DL_lines_1 1 26 (pc' := 257) (lv' := [(0, .ref _), (1, .ref _), (2, .ref _), (3, .ref _), (4, .ref _), (5, .ref _), (6, .int _)]) (st' := [.int 1]) rfl ?_
    exact ev_zret DL_lines_1 27 rfl rfl rfl ⟨rfl, rfl⟩
  | succ m ih =>
    intro i x hm hx
    subst hx
    have hi : i < 16 := by omega
    have e8 : 8 * (i / 8) + i % 8 = i := by omega
    obtain ⟨f, ef⟩ : ∃ f, f = (pW p (i / 8)).1 (i % 8) := ⟨_, rfl⟩
    have hQ : ∀ j, j < 4 → zq (4 * i + j) = f j := fun j hj => by
      have e := hT.1 (i / 8) (i % 8) j (by omega) (by omega) hj
      rw [e8, ← ef] at e
      exact e
    have hU : ∀ j, j < 4 → zu (4 * i + j) = f (mU j) := fun j hj => by
      have e := hT.2.1 (i / 8) (i % 8) j (by omega) (by omega) hj
      rw [e8, ← ef] at e
      exact e
    have hA : ∀ j, j < 4 → za (4 * i + j) = f (7 + j) := fun j hj => by
      have e := hT.2.2.1 (i / 8) (i % 8) j (by omega) (by omega) hj
      rw [e8, ← ef] at e
      exact e
    have hN : ∀ j, j < 4 → zn (4 * i + j) = f (12 + j) := fun j hj => by
      have e := hT.2.2.2.1 (i / 8) (i % 8) j (by omega) (by omega) hj
      rw [e8, ← ef] at e
      exact e
    have hD : ∀ j, j < 2 → zd (2 * i + j) = f (16 + j) := fun j hj => by
      have e := hT.2.2.2.2 (i / 8) (i % 8) j (by omega) (by omega) hj
      rw [e8, ← ef] at e
      exact e
    have hs : ∀ j, j < 7 → CD E YX6_street 0 0 [.ref (ad 0), .int (nI (i / 8)), .int (nI (i % 8)), .int (nI j)] ws (some (.int (f j))) ws := fun j hj => by rw [ef]; exact m_X6_street h (by omega) (by omega) hj
    have hc : ∀ j, j < 11 → CD E YX6_accent 0 0 [.ref (ad 0), .int (nI (i / 8)), .int (nI (i % 8)), .int (nI j)] ws (some (.int (f (7 + j)))) ws := fun j hj => by rw [ef]; exact m_X6_accent h (by omega) (by omega) hj
    have hr : CD E YX6_sure 0 0 [.ref (ad 0), .int (nI (i / 8)), .int (nI (i % 8))] ws (some (.int (surP f))) ws := by rw [ef]; exact m_X6_sure h (by omega) (by omega)
    refine ev_ss DL_lines_0 2 2 (pc' := 7) (lv' := [(0, .ref _), (1, .ref _), (2, .ref _), (3, .ref _), (4, .ref _), (5, .ref _), (6, .int _)]) (st' := [.int 16, .int _]) rfl ?_
    refine ev_icge DL_lines_0 4 rfl (tgt := 256) (by decide) (fun h => absurd h (nI_ge (b := 16) (by omega) (by decide))) (fun _ => ?_)
    refine ev_ss DL_lines_0 2 5 (pc' := 14) (lv' := [(0, .ref _), (1, .ref _), (2, .ref _), (3, .ref _), (4, .ref _), (5, .ref _), (6, .int _)]) (st' := [.int 8, .int _]) rfl ?_
    refine ev_idiv DL_lines_0 7 rfl (by decide) ?_
    refine ev_topv (nx_div (a := i) (d := 8) rfl rfl (by omega) (by decide) (by decide)) ?_
    refine ev_ss DL_lines_0 3 8 (pc' := 21) (lv' := [(7, .int _), (0, .ref _), (1, .ref _), (2, .ref _), (3, .ref _), (4, .ref _), (5, .ref _), (6, .int _)]) (st' := [.int 8, .int _]) rfl ?_
    refine ev_irem DL_lines_0 11 rfl (by decide) ?_
    refine ev_topv (nx_rem (a := i) (d := 8) rfl rfl (by omega) (by decide) (by decide)) ?_
    refine ev_ss DL_lines_0 5 12 (pc' := 30) (lv' := [(9, .int 0), (8, .int _), (7, .int _), (0, .ref _), (1, .ref _), (2, .ref _), (3, .ref _), (4, .ref _), (5, .ref _), (6, .int _)]) (st' := [.int 4, .int 0]) rfl ?_
    refine ev_icge DL_lines_0 17 rfl (tgt := 85) (by decide) (fun h => absurd h (by decide)) (fun _ => ?_)
    refine ev_ss DL_lines_0 4 18 (pc' := 40) (lv' := [(9, .int 0), (8, .int _), (7, .int _), (0, .ref _), (1, .ref _), (2, .ref _), (3, .ref _), (4, .ref _), (5, .ref _), (6, .int _)]) (st' := [.int 0, .int _, .int _, .ref _]) rfl ?_
    refine ev_cV DL_lines_0 22 (hs 0 (by decide)) vX6_street rfl qL_55 rfl h.1 rfl (hd_of rfl rfl rfl rfl) ?_
    refine ev_ss DL_lines_0 6 23 (pc' := 51) (lv' := [(9, .int 0), (8, .int _), (7, .int _), (0, .ref _), (1, .ref _), (2, .ref _), (3, .ref _), (4, .ref _), (5, .ref _), (6, .int _)]) (st' := [.int _, .ref _, .int _]) rfl ?_
    refine ev_ialdv DL_lines_0 29 (k0 := ((4 * i) + 0)) rfl hzq (nx_add (a := (4 * i)) (b := 0) (nx_mul (a := 4) (b := i) rfl rfl) rfl) (by omega) (by decide) ((hQ 0 (by decide))) ?_
    refine ev_icne DL_lines_0 30 rfl (tgt := 77) (by decide) (fun h => h.elim rfl) (fun _ => ?_)
    refine ev_ss DL_lines_0 4 31 (pc' := 62) (lv' := [(9, .int 0), (8, .int _), (7, .int _), (0, .ref _), (1, .ref _), (2, .ref _), (3, .ref _), (4, .ref _), (5, .ref _), (6, .int _)]) (st' := [.int 0, .int _, .int _, .ref _]) rfl ?_
    refine ev_cV DL_lines_0 35 (hc 0 (by decide)) vX6_accent rfl qL_60 rfl h.1 rfl (hd_of rfl rfl rfl rfl) ?_
    refine ev_ss DL_lines_0 6 36 (pc' := 73) (lv' := [(9, .int 0), (8, .int _), (7, .int _), (0, .ref _), (1, .ref _), (2, .ref _), (3, .ref _), (4, .ref _), (5, .ref _), (6, .int _)]) (st' := [.int _, .ref _, .int _]) rfl ?_
    refine ev_ialdv DL_lines_0 42 (k0 := ((4 * i) + 0)) rfl hza (nx_add (a := (4 * i)) (b := 0) (nx_mul (a := 4) (b := i) rfl rfl) rfl) (by omega) (by decide) ((hA 0 (by decide))) ?_
    refine ev_iceq DL_lines_0 43 rfl (tgt := 79) (by decide) (fun _ => ?_) (fun h => h.elim rfl)
    refine ev_ss DL_lines_0 1 46 (pc' := 82) (lv' := [(9, .int 1), (8, .int _), (7, .int _), (0, .ref _), (1, .ref _), (2, .ref _), (3, .ref _), (4, .ref _), (5, .ref _), (6, .int _)]) (st' := []) rfl ?_
    refine ev_goto DL_lines_0 47 rfl (tgt := 27) (by decide) ?_
    refine ev_ss DL_lines_0 2 15 (pc' := 30) (lv' := [(9, .int 1), (8, .int _), (7, .int _), (0, .ref _), (1, .ref _), (2, .ref _), (3, .ref _), (4, .ref _), (5, .ref _), (6, .int _)]) (st' := [.int 4, .int 1]) rfl ?_
    refine ev_icge DL_lines_0 17 rfl (tgt := 85) (by decide) (fun h => absurd h (by decide)) (fun _ => ?_)
    refine ev_ss DL_lines_0 4 18 (pc' := 40) (lv' := [(9, .int 1), (8, .int _), (7, .int _), (0, .ref _), (1, .ref _), (2, .ref _), (3, .ref _), (4, .ref _), (5, .ref _), (6, .int _)]) (st' := [.int 1, .int _, .int _, .ref _]) rfl ?_
    refine ev_cV DL_lines_0 22 (hs 1 (by decide)) vX6_street rfl qL_55 rfl h.1 rfl (hd_of rfl rfl rfl rfl) ?_
    refine ev_ss DL_lines_0 6 23 (pc' := 51) (lv' := [(9, .int 1), (8, .int _), (7, .int _), (0, .ref _), (1, .ref _), (2, .ref _), (3, .ref _), (4, .ref _), (5, .ref _), (6, .int _)]) (st' := [.int _, .ref _, .int _]) rfl ?_
    refine ev_ialdv DL_lines_0 29 (k0 := ((4 * i) + 1)) rfl hzq (nx_add (a := (4 * i)) (b := 1) (nx_mul (a := 4) (b := i) rfl rfl) rfl) (by omega) (by decide) ((hQ 1 (by decide))) ?_
    refine ev_icne DL_lines_0 30 rfl (tgt := 77) (by decide) (fun h => h.elim rfl) (fun _ => ?_)
    refine ev_ss DL_lines_0 4 31 (pc' := 62) (lv' := [(9, .int 1), (8, .int _), (7, .int _), (0, .ref _), (1, .ref _), (2, .ref _), (3, .ref _), (4, .ref _), (5, .ref _), (6, .int _)]) (st' := [.int 1, .int _, .int _, .ref _]) rfl ?_
    refine ev_cV DL_lines_0 35 (hc 1 (by decide)) vX6_accent rfl qL_60 rfl h.1 rfl (hd_of rfl rfl rfl rfl) ?_
    refine ev_ss DL_lines_0 6 36 (pc' := 73) (lv' := [(9, .int 1), (8, .int _), (7, .int _), (0, .ref _), (1, .ref _), (2, .ref _), (3, .ref _), (4, .ref _), (5, .ref _), (6, .int _)]) (st' := [.int _, .ref _, .int _]) rfl ?_
    refine ev_ialdv DL_lines_0 42 (k0 := ((4 * i) + 1)) rfl hza (nx_add (a := (4 * i)) (b := 1) (nx_mul (a := 4) (b := i) rfl rfl) rfl) (by omega) (by decide) ((hA 1 (by decide))) ?_
    refine ev_iceq DL_lines_0 43 rfl (tgt := 79) (by decide) (fun _ => ?_) (fun h => h.elim rfl)
    refine ev_ss DL_lines_0 1 46 (pc' := 82) (lv' := [(9, .int 2), (8, .int _), (7, .int _), (0, .ref _), (1, .ref _), (2, .ref _), (3, .ref _), (4, .ref _), (5, .ref _), (6, .int _)]) (st' := []) rfl ?_
    refine ev_goto DL_lines_0 47 rfl (tgt := 27) (by decide) ?_
    refine ev_ss DL_lines_0 2 15 (pc' := 30) (lv' := [(9, .int 2), (8, .int _), (7, .int _), (0, .ref _), (1, .ref _), (2, .ref _), (3, .ref _), (4, .ref _), (5, .ref _), (6, .int _)]) (st' := [.int 4, .int 2]) rfl ?_
    refine ev_icge DL_lines_0 17 rfl (tgt := 85) (by decide) (fun h => absurd h (by decide)) (fun _ => ?_)
    refine ev_ss DL_lines_0 4 18 (pc' := 40) (lv' := [(9, .int 2), (8, .int _), (7, .int _), (0, .ref _), (1, .ref _), (2, .ref _), (3, .ref _), (4, .ref _), (5, .ref _), (6, .int _)]) (st' := [.int 2, .int _, .int _, .ref _]) rfl ?_
    refine ev_cV DL_lines_0 22 (hs 2 (by decide)) vX6_street rfl qL_55 rfl h.1 rfl (hd_of rfl rfl rfl rfl) ?_
    refine ev_ss DL_lines_0 6 23 (pc' := 51) (lv' := [(9, .int 2), (8, .int _), (7, .int _), (0, .ref _), (1, .ref _), (2, .ref _), (3, .ref _), (4, .ref _), (5, .ref _), (6, .int _)]) (st' := [.int _, .ref _, .int _]) rfl ?_
    refine ev_ialdv DL_lines_0 29 (k0 := ((4 * i) + 2)) rfl hzq (nx_add (a := (4 * i)) (b := 2) (nx_mul (a := 4) (b := i) rfl rfl) rfl) (by omega) (by decide) ((hQ 2 (by decide))) ?_
    refine ev_icne DL_lines_0 30 rfl (tgt := 77) (by decide) (fun h => h.elim rfl) (fun _ => ?_)
    refine ev_ss DL_lines_0 4 31 (pc' := 62) (lv' := [(9, .int 2), (8, .int _), (7, .int _), (0, .ref _), (1, .ref _), (2, .ref _), (3, .ref _), (4, .ref _), (5, .ref _), (6, .int _)]) (st' := [.int 2, .int _, .int _, .ref _]) rfl ?_
    refine ev_cV DL_lines_0 35 (hc 2 (by decide)) vX6_accent rfl qL_60 rfl h.1 rfl (hd_of rfl rfl rfl rfl) ?_
    refine ev_ss DL_lines_0 6 36 (pc' := 73) (lv' := [(9, .int 2), (8, .int _), (7, .int _), (0, .ref _), (1, .ref _), (2, .ref _), (3, .ref _), (4, .ref _), (5, .ref _), (6, .int _)]) (st' := [.int _, .ref _, .int _]) rfl ?_
    refine ev_ialdv DL_lines_0 42 (k0 := ((4 * i) + 2)) rfl hza (nx_add (a := (4 * i)) (b := 2) (nx_mul (a := 4) (b := i) rfl rfl) rfl) (by omega) (by decide) ((hA 2 (by decide))) ?_
    refine ev_iceq DL_lines_0 43 rfl (tgt := 79) (by decide) (fun _ => ?_) (fun h => h.elim rfl)
    refine ev_ss DL_lines_0 1 46 (pc' := 82) (lv' := [(9, .int 3), (8, .int _), (7, .int _), (0, .ref _), (1, .ref _), (2, .ref _), (3, .ref _), (4, .ref _), (5, .ref _), (6, .int _)]) (st' := []) rfl ?_
    refine ev_goto DL_lines_0 47 rfl (tgt := 27) (by decide) ?_
    refine ev_ss DL_lines_0 2 15 (pc' := 30) (lv' := [(9, .int 3), (8, .int _), (7, .int _), (0, .ref _), (1, .ref _), (2, .ref _), (3, .ref _), (4, .ref _), (5, .ref _), (6, .int _)]) (st' := [.int 4, .int 3]) rfl ?_
    refine ev_icge DL_lines_0 17 rfl (tgt := 85) (by decide) (fun h => absurd h (by decide)) (fun _ => ?_)
    refine ev_ss DL_lines_0 4 18 (pc' := 40) (lv' := [(9, .int 3), (8, .int _), (7, .int _), (0, .ref _), (1, .ref _), (2, .ref _), (3, .ref _), (4, .ref _), (5, .ref _), (6, .int _)]) (st' := [.int 3, .int _, .int _, .ref _]) rfl ?_
    refine ev_cV DL_lines_0 22 (hs 3 (by decide)) vX6_street rfl qL_55 rfl h.1 rfl (hd_of rfl rfl rfl rfl) ?_
    refine ev_ss DL_lines_0 6 23 (pc' := 51) (lv' := [(9, .int 3), (8, .int _), (7, .int _), (0, .ref _), (1, .ref _), (2, .ref _), (3, .ref _), (4, .ref _), (5, .ref _), (6, .int _)]) (st' := [.int _, .ref _, .int _]) rfl ?_
    refine ev_ialdv DL_lines_0 29 (k0 := ((4 * i) + 3)) rfl hzq (nx_add (a := (4 * i)) (b := 3) (nx_mul (a := 4) (b := i) rfl rfl) rfl) (by omega) (by decide) ((hQ 3 (by decide))) ?_
    refine ev_icne DL_lines_0 30 rfl (tgt := 77) (by decide) (fun h => h.elim rfl) (fun _ => ?_)
    refine ev_ss DL_lines_0 4 31 (pc' := 62) (lv' := [(9, .int 3), (8, .int _), (7, .int _), (0, .ref _), (1, .ref _), (2, .ref _), (3, .ref _), (4, .ref _), (5, .ref _), (6, .int _)]) (st' := [.int 3, .int _, .int _, .ref _]) rfl ?_
    refine ev_cV DL_lines_0 35 (hc 3 (by decide)) vX6_accent rfl qL_60 rfl h.1 rfl (hd_of rfl rfl rfl rfl) ?_
    refine ev_ss DL_lines_0 6 36 (pc' := 73) (lv' := [(9, .int 3), (8, .int _), (7, .int _), (0, .ref _), (1, .ref _), (2, .ref _), (3, .ref _), (4, .ref _), (5, .ref _), (6, .int _)]) (st' := [.int _, .ref _, .int _]) rfl ?_
    refine ev_ialdv DL_lines_0 42 (k0 := ((4 * i) + 3)) rfl hza (nx_add (a := (4 * i)) (b := 3) (nx_mul (a := 4) (b := i) rfl rfl) rfl) (by omega) (by decide) ((hA 3 (by decide))) ?_
    refine ev_iceq DL_lines_0 43 rfl (tgt := 79) (by decide) (fun _ => ?_) (fun h => h.elim rfl)
    refine ev_ss DL_lines_0 1 46 (pc' := 82) (lv' := [(9, .int 4), (8, .int _), (7, .int _), (0, .ref _), (1, .ref _), (2, .ref _), (3, .ref _), (4, .ref _), (5, .ref _), (6, .int _)]) (st' := []) rfl ?_
    refine ev_goto DL_lines_0 47 rfl (tgt := 27) (by decide) ?_
    refine ev_ss DL_lines_0 2 15 (pc' := 30) (lv' := [(9, .int 4), (8, .int _), (7, .int _), (0, .ref _), (1, .ref _), (2, .ref _), (3, .ref _), (4, .ref _), (5, .ref _), (6, .int _)]) (st' := [.int 4, .int 4]) rfl ?_
    refine ev_icge DL_lines_0 17 rfl (tgt := 85) (by decide) (fun _ => ?_) (fun h => h.elim (by decide))
    refine ev_ss DL_lines_0 4 48 (pc' := 91) (lv' := [(9, .int 0), (8, .int _), (7, .int _), (0, .ref _), (1, .ref _), (2, .ref _), (3, .ref _), (4, .ref _), (5, .ref _), (6, .int _)]) (st' := [.int 3, .int 0]) rfl ?_
    refine ev_icge DL_lines_0 52 rfl (tgt := 126) (by decide) (fun h => absurd h (by decide)) (fun _ => ?_)
    refine ev_ss DL_lines_0 6 53 (pc' := 103) (lv' := [(9, .int 0), (8, .int _), (7, .int _), (0, .ref _), (1, .ref _), (2, .ref _), (3, .ref _), (4, .ref _), (5, .ref _), (6, .int _)]) (st' := [.int 4, .int _, .int _, .ref _]) rfl ?_
    refine ev_cV DL_lines_0 59 (hs 4 (by decide)) vX6_street rfl qL_55 rfl h.1 rfl (hd_of rfl rfl rfl rfl) ?_
    refine ev_ss DL_lines_0 6 60 (pc' := 114) (lv' := [(9, .int 0), (8, .int _), (7, .int _), (0, .ref _), (1, .ref _), (2, .ref _), (3, .ref _), (4, .ref _), (5, .ref _), (6, .int _)]) (st' := [.int _, .ref _, .int _]) rfl ?_
    refine ev_ialdv DL_lines_0 66 (k0 := ((4 * i) + 0)) rfl hzu (nx_add (a := (4 * i)) (b := 0) (nx_mul (a := 4) (b := i) rfl rfl) rfl) (by omega) (by decide) ((hU 0 (by decide))) ?_
    refine ev_iceq DL_lines_0 67 rfl (tgt := 120) (by decide) (fun _ => ?_) (fun h => h.elim rfl)
    refine ev_ss DL_lines_0 1 70 (pc' := 123) (lv' := [(9, .int 1), (8, .int _), (7, .int _), (0, .ref _), (1, .ref _), (2, .ref _), (3, .ref _), (4, .ref _), (5, .ref _), (6, .int _)]) (st' := []) rfl ?_
    refine ev_goto DL_lines_0 71 rfl (tgt := 88) (by decide) ?_
    refine ev_ss DL_lines_0 2 50 (pc' := 91) (lv' := [(9, .int 1), (8, .int _), (7, .int _), (0, .ref _), (1, .ref _), (2, .ref _), (3, .ref _), (4, .ref _), (5, .ref _), (6, .int _)]) (st' := [.int 3, .int 1]) rfl ?_
    refine ev_icge DL_lines_0 52 rfl (tgt := 126) (by decide) (fun h => absurd h (by decide)) (fun _ => ?_)
    refine ev_ss DL_lines_0 6 53 (pc' := 103) (lv' := [(9, .int 1), (8, .int _), (7, .int _), (0, .ref _), (1, .ref _), (2, .ref _), (3, .ref _), (4, .ref _), (5, .ref _), (6, .int _)]) (st' := [.int 5, .int _, .int _, .ref _]) rfl ?_
    refine ev_cV DL_lines_0 59 (hs 5 (by decide)) vX6_street rfl qL_55 rfl h.1 rfl (hd_of rfl rfl rfl rfl) ?_
    refine ev_ss DL_lines_0 6 60 (pc' := 114) (lv' := [(9, .int 1), (8, .int _), (7, .int _), (0, .ref _), (1, .ref _), (2, .ref _), (3, .ref _), (4, .ref _), (5, .ref _), (6, .int _)]) (st' := [.int _, .ref _, .int _]) rfl ?_
    refine ev_ialdv DL_lines_0 66 (k0 := ((4 * i) + 1)) rfl hzu (nx_add (a := (4 * i)) (b := 1) (nx_mul (a := 4) (b := i) rfl rfl) rfl) (by omega) (by decide) ((hU 1 (by decide))) ?_
    refine ev_iceq DL_lines_0 67 rfl (tgt := 120) (by decide) (fun _ => ?_) (fun h => h.elim rfl)
    refine ev_ss DL_lines_0 1 70 (pc' := 123) (lv' := [(9, .int 2), (8, .int _), (7, .int _), (0, .ref _), (1, .ref _), (2, .ref _), (3, .ref _), (4, .ref _), (5, .ref _), (6, .int _)]) (st' := []) rfl ?_
    refine ev_goto DL_lines_0 71 rfl (tgt := 88) (by decide) ?_
    refine ev_ss DL_lines_0 2 50 (pc' := 91) (lv' := [(9, .int 2), (8, .int _), (7, .int _), (0, .ref _), (1, .ref _), (2, .ref _), (3, .ref _), (4, .ref _), (5, .ref _), (6, .int _)]) (st' := [.int 3, .int 2]) rfl ?_
    refine ev_icge DL_lines_0 52 rfl (tgt := 126) (by decide) (fun h => absurd h (by decide)) (fun _ => ?_)
    refine ev_ss DL_lines_0 6 53 (pc' := 103) (lv' := [(9, .int 2), (8, .int _), (7, .int _), (0, .ref _), (1, .ref _), (2, .ref _), (3, .ref _), (4, .ref _), (5, .ref _), (6, .int _)]) (st' := [.int 6, .int _, .int _, .ref _]) rfl ?_
    refine ev_cV DL_lines_0 59 (hs 6 (by decide)) vX6_street rfl qL_55 rfl h.1 rfl (hd_of rfl rfl rfl rfl) ?_
    refine ev_ss DL_lines_0 6 60 (pc' := 114) (lv' := [(9, .int 2), (8, .int _), (7, .int _), (0, .ref _), (1, .ref _), (2, .ref _), (3, .ref _), (4, .ref _), (5, .ref _), (6, .int _)]) (st' := [.int _, .ref _, .int _]) rfl ?_
    refine ev_ialdv DL_lines_0 66 (k0 := ((4 * i) + 2)) rfl hzu (nx_add (a := (4 * i)) (b := 2) (nx_mul (a := 4) (b := i) rfl rfl) rfl) (by omega) (by decide) ((hU 2 (by decide))) ?_
    refine ev_iceq DL_lines_0 67 rfl (tgt := 120) (by decide) (fun _ => ?_) (fun h => h.elim rfl)
    refine ev_ss DL_lines_0 1 70 (pc' := 123) (lv' := [(9, .int 3), (8, .int _), (7, .int _), (0, .ref _), (1, .ref _), (2, .ref _), (3, .ref _), (4, .ref _), (5, .ref _), (6, .int _)]) (st' := []) rfl ?_
    refine ev_goto DL_lines_0 71 rfl (tgt := 88) (by decide) ?_
    refine ev_ss DL_lines_0 2 50 (pc' := 91) (lv' := [(9, .int 3), (8, .int _), (7, .int _), (0, .ref _), (1, .ref _), (2, .ref _), (3, .ref _), (4, .ref _), (5, .ref _), (6, .int _)]) (st' := [.int 3, .int 3]) rfl ?_
    refine ev_icge DL_lines_0 52 rfl (tgt := 126) (by decide) (fun _ => ?_) (fun h => h.elim (by decide))
    refine ev_ss DL_lines_0 4 72 (pc' := 132) (lv' := [(9, .int 0), (8, .int _), (7, .int _), (0, .ref _), (1, .ref _), (2, .ref _), (3, .ref _), (4, .ref _), (5, .ref _), (6, .int _)]) (st' := [.int 4, .int 0]) rfl ?_
    refine ev_icge DL_lines_0 76 rfl (tgt := 168) (by decide) (fun h => absurd h (by decide)) (fun _ => ?_)
    refine ev_ss DL_lines_0 6 77 (pc' := 144) (lv' := [(9, .int 0), (8, .int _), (7, .int _), (0, .ref _), (1, .ref _), (2, .ref _), (3, .ref _), (4, .ref _), (5, .ref _), (6, .int _)]) (st' := [.int 5, .int _, .int _, .ref _]) rfl ?_
    refine ev_cV DL_lines_0 83 (hc 5 (by decide)) vX6_accent rfl qL_60 rfl h.1 rfl (hd_of rfl rfl rfl rfl) ?_
    refine ev_ss DL_lines_0 6 84 (pc' := 156) (lv' := [(9, .int 0), (8, .int _), (7, .int _), (0, .ref _), (1, .ref _), (2, .ref _), (3, .ref _), (4, .ref _), (5, .ref _), (6, .int _)]) (st' := [.int _, .ref _, .int _]) rfl ?_
    refine ev_ialdv DL_lines_0 90 (k0 := ((4 * i) + 0)) rfl hzn (nx_add (a := (4 * i)) (b := 0) (nx_mul (a := 4) (b := i) rfl rfl) rfl) (by omega) (by decide) ((hN 0 (by decide))) ?_
    refine ev_iceq DL_lines_0 91 rfl (tgt := 162) (by decide) (fun _ => ?_) (fun h => h.elim rfl)
    refine ev_ss DL_lines_0 1 94 (pc' := 165) (lv' := [(9, .int 1), (8, .int _), (7, .int _), (0, .ref _), (1, .ref _), (2, .ref _), (3, .ref _), (4, .ref _), (5, .ref _), (6, .int _)]) (st' := []) rfl ?_
    refine ev_goto DL_lines_0 95 rfl (tgt := 129) (by decide) ?_
    refine ev_ss DL_lines_0 2 74 (pc' := 132) (lv' := [(9, .int 1), (8, .int _), (7, .int _), (0, .ref _), (1, .ref _), (2, .ref _), (3, .ref _), (4, .ref _), (5, .ref _), (6, .int _)]) (st' := [.int 4, .int 1]) rfl ?_
    refine ev_icge DL_lines_0 76 rfl (tgt := 168) (by decide) (fun h => absurd h (by decide)) (fun _ => ?_)
    refine ev_ss DL_lines_0 6 77 (pc' := 144) (lv' := [(9, .int 1), (8, .int _), (7, .int _), (0, .ref _), (1, .ref _), (2, .ref _), (3, .ref _), (4, .ref _), (5, .ref _), (6, .int _)]) (st' := [.int 6, .int _, .int _, .ref _]) rfl ?_
    refine ev_cV DL_lines_0 83 (hc 6 (by decide)) vX6_accent rfl qL_60 rfl h.1 rfl (hd_of rfl rfl rfl rfl) ?_
    refine ev_ss DL_lines_0 6 84 (pc' := 156) (lv' := [(9, .int 1), (8, .int _), (7, .int _), (0, .ref _), (1, .ref _), (2, .ref _), (3, .ref _), (4, .ref _), (5, .ref _), (6, .int _)]) (st' := [.int _, .ref _, .int _]) rfl ?_
    refine ev_ialdv DL_lines_0 90 (k0 := ((4 * i) + 1)) rfl hzn (nx_add (a := (4 * i)) (b := 1) (nx_mul (a := 4) (b := i) rfl rfl) rfl) (by omega) (by decide) ((hN 1 (by decide))) ?_
    refine ev_iceq DL_lines_0 91 rfl (tgt := 162) (by decide) (fun _ => ?_) (fun h => h.elim rfl)
    refine ev_ss DL_lines_0 1 94 (pc' := 165) (lv' := [(9, .int 2), (8, .int _), (7, .int _), (0, .ref _), (1, .ref _), (2, .ref _), (3, .ref _), (4, .ref _), (5, .ref _), (6, .int _)]) (st' := []) rfl ?_
    refine ev_goto DL_lines_0 95 rfl (tgt := 129) (by decide) ?_
    refine ev_ss DL_lines_0 2 74 (pc' := 132) (lv' := [(9, .int 2), (8, .int _), (7, .int _), (0, .ref _), (1, .ref _), (2, .ref _), (3, .ref _), (4, .ref _), (5, .ref _), (6, .int _)]) (st' := [.int 4, .int 2]) rfl ?_
    refine ev_icge DL_lines_0 76 rfl (tgt := 168) (by decide) (fun h => absurd h (by decide)) (fun _ => ?_)
    refine ev_ss DL_lines_0 6 77 (pc' := 144) (lv' := [(9, .int 2), (8, .int _), (7, .int _), (0, .ref _), (1, .ref _), (2, .ref _), (3, .ref _), (4, .ref _), (5, .ref _), (6, .int _)]) (st' := [.int 7, .int _, .int _, .ref _]) rfl ?_
    refine ev_cV DL_lines_0 83 (hc 7 (by decide)) vX6_accent rfl qL_60 rfl h.1 rfl (hd_of rfl rfl rfl rfl) ?_
    refine ev_ss DL_lines_0 6 84 (pc' := 156) (lv' := [(9, .int 2), (8, .int _), (7, .int _), (0, .ref _), (1, .ref _), (2, .ref _), (3, .ref _), (4, .ref _), (5, .ref _), (6, .int _)]) (st' := [.int _, .ref _, .int _]) rfl ?_
    refine ev_ialdv DL_lines_0 90 (k0 := ((4 * i) + 2)) rfl hzn (nx_add (a := (4 * i)) (b := 2) (nx_mul (a := 4) (b := i) rfl rfl) rfl) (by omega) (by decide) ((hN 2 (by decide))) ?_
    refine ev_iceq DL_lines_0 91 rfl (tgt := 162) (by decide) (fun _ => ?_) (fun h => h.elim rfl)
    refine ev_ss DL_lines_0 1 94 (pc' := 165) (lv' := [(9, .int 3), (8, .int _), (7, .int _), (0, .ref _), (1, .ref _), (2, .ref _), (3, .ref _), (4, .ref _), (5, .ref _), (6, .int _)]) (st' := []) rfl ?_
    refine ev_goto DL_lines_0 95 rfl (tgt := 129) (by decide) ?_
    refine ev_ss DL_lines_0 2 74 (pc' := 132) (lv' := [(9, .int 3), (8, .int _), (7, .int _), (0, .ref _), (1, .ref _), (2, .ref _), (3, .ref _), (4, .ref _), (5, .ref _), (6, .int _)]) (st' := [.int 4, .int 3]) rfl ?_
    refine ev_icge DL_lines_0 76 rfl (tgt := 168) (by decide) (fun h => absurd h (by decide)) (fun _ => ?_)
    refine ev_ss DL_lines_0 6 77 (pc' := 144) (lv' := [(9, .int 3), (8, .int _), (7, .int _), (0, .ref _), (1, .ref _), (2, .ref _), (3, .ref _), (4, .ref _), (5, .ref _), (6, .int _)]) (st' := [.int 8, .int _, .int _, .ref _]) rfl ?_
    refine ev_cV DL_lines_0 83 (hc 8 (by decide)) vX6_accent rfl qL_60 rfl h.1 rfl (hd_of rfl rfl rfl rfl) ?_
    refine ev_ss DL_lines_0 6 84 (pc' := 156) (lv' := [(9, .int 3), (8, .int _), (7, .int _), (0, .ref _), (1, .ref _), (2, .ref _), (3, .ref _), (4, .ref _), (5, .ref _), (6, .int _)]) (st' := [.int _, .ref _, .int _]) rfl ?_
    refine ev_ialdv DL_lines_0 90 (k0 := ((4 * i) + 3)) rfl hzn (nx_add (a := (4 * i)) (b := 3) (nx_mul (a := 4) (b := i) rfl rfl) rfl) (by omega) (by decide) ((hN 3 (by decide))) ?_
    refine ev_iceq DL_lines_0 91 rfl (tgt := 162) (by decide) (fun _ => ?_) (fun h => h.elim rfl)
    refine ev_ss DL_lines_0 1 94 (pc' := 165) (lv' := [(9, .int 4), (8, .int _), (7, .int _), (0, .ref _), (1, .ref _), (2, .ref _), (3, .ref _), (4, .ref _), (5, .ref _), (6, .int _)]) (st' := []) rfl ?_
    refine ev_goto DL_lines_0 95 rfl (tgt := 129) (by decide) ?_
    refine ev_ss DL_lines_0 2 74 (pc' := 132) (lv' := [(9, .int 4), (8, .int _), (7, .int _), (0, .ref _), (1, .ref _), (2, .ref _), (3, .ref _), (4, .ref _), (5, .ref _), (6, .int _)]) (st' := [.int 4, .int 4]) rfl ?_
    refine ev_icge DL_lines_0 76 rfl (tgt := 168) (by decide) (fun _ => ?_) (fun h => h.elim (by decide))
    refine ev_ss DL_lines_0 4 96 (pc' := 174) (lv' := [(9, .int 4), (8, .int _), (7, .int _), (0, .ref _), (1, .ref _), (2, .ref _), (3, .ref _), (4, .ref _), (5, .ref _), (6, .int _)]) (st' := [.int 4, .int _, .int _, .ref _]) rfl ?_
    refine ev_cV DL_lines_0 100 (hc 4 (by decide)) vX6_accent rfl qL_60 rfl h.1 rfl (hd_of rfl rfl rfl rfl) ?_
    refine ev_ss DL_lines_0 6 101 (pc' := 184) (lv' := [(9, .int 4), (8, .int _), (7, .int _), (0, .ref _), (1, .ref _), (2, .ref _), (3, .ref _), (4, .ref _), (5, .ref _), (6, .int _)]) (st' := [.int _, .ref _, .int _]) rfl ?_
    refine ev_ialdv DL_lines_0 107 (k0 := ((4 * i) + 3)) rfl hzu (nx_add (a := (4 * i)) (b := 3) (nx_mul (a := 4) (b := i) rfl rfl) rfl) (by omega) (by decide) ((hU 3 (by decide))) ?_
    refine ev_icne DL_lines_0 108 rfl (tgt := 248) (by decide) (fun h => h.elim rfl) (fun _ => ?_)
    refine ev_ss DL_lines_0 4 109 (pc' := 195) (lv' := [(9, .int 4), (8, .int _), (7, .int _), (0, .ref _), (1, .ref _), (2, .ref _), (3, .ref _), (4, .ref _), (5, .ref _), (6, .int _)]) (st' := [.int 9, .int _, .int _, .ref _]) rfl ?_
    refine ev_cV DL_lines_0 113 (hc 9 (by decide)) vX6_accent rfl qL_60 rfl h.1 rfl (hd_of rfl rfl rfl rfl) ?_
    refine ev_ss DL_lines_0 4 114 (pc' := 204) (lv' := [(9, .int 4), (8, .int _), (7, .int _), (0, .ref _), (1, .ref _), (2, .ref _), (3, .ref _), (4, .ref _), (5, .ref _), (6, .int _)]) (st' := [.int _, .ref _, .int _]) rfl ?_
    refine ev_ialdv DL_lines_0 118 (k0 := (2 * i)) rfl hzd (nx_mul (a := 2) (b := i) rfl rfl) (by omega) (by decide) ((hD 0 (by decide))) ?_
    refine ev_icne DL_lines_0 119 rfl (tgt := 248) (by decide) (fun h => h.elim rfl) (fun _ => ?_)
    refine ev_ss DL_lines_1 4 0 (pc' := 215) (lv' := [(9, .int 4), (8, .int _), (7, .int _), (0, .ref _), (1, .ref _), (2, .ref _), (3, .ref _), (4, .ref _), (5, .ref _), (6, .int _)]) (st' := [.int 10, .int _, .int _, .ref _]) rfl ?_
    refine ev_cV DL_lines_1 4 (hc 10 (by decide)) vX6_accent rfl qL_60 rfl h.1 rfl (hd_of rfl rfl rfl rfl) ?_
    refine ev_ss DL_lines_1 6 5 (pc' := 226) (lv' := [(9, .int 4), (8, .int _), (7, .int _), (0, .ref _), (1, .ref _), (2, .ref _), (3, .ref _), (4, .ref _), (5, .ref _), (6, .int _)]) (st' := [.int _, .ref _, .int _]) rfl ?_
    refine ev_ialdv DL_lines_1 11 (k0 := ((2 * i) + 1)) rfl hzd (nx_add (a := (2 * i)) (b := 1) (nx_mul (a := 2) (b := i) rfl rfl) rfl) (by omega) (by decide) ((hD 1 (by decide))) ?_
    refine ev_icne DL_lines_1 12 rfl (tgt := 248) (by decide) (fun h => h.elim rfl) (fun _ => ?_)
    refine ev_ss DL_lines_1 3 13 (pc' := 235) (lv' := [(9, .int 4), (8, .int _), (7, .int _), (0, .ref _), (1, .ref _), (2, .ref _), (3, .ref _), (4, .ref _), (5, .ref _), (6, .int _)]) (st' := [.int _, .int _, .ref _]) rfl ?_
    refine ev_cV DL_lines_1 16 hr vX6_sure rfl qL_63 rfl h.1 rfl (hd_of rfl rfl rfl rfl) ?_
    refine ev_ss DL_lines_1 3 17 (pc' := 242) (lv' := [(9, .int 4), (8, .int _), (7, .int _), (0, .ref _), (1, .ref _), (2, .ref _), (3, .ref _), (4, .ref _), (5, .ref _), (6, .int _)]) (st' := [.ref _, .ref _, .int _, .int _]) rfl ?_
    refine ev_cS DL_lines_1 20 (m_L_sure hzq hza hi hQ hA) vL_sure rfl qL_66 rfl (hd_of rfl rfl rfl rfl) ?_
    refine ev_iceq DL_lines_1 21 rfl (tgt := 250) (by decide) (fun _ => ?_) (fun h => h.elim rfl)
    refine ev_ss DL_lines_1 1 24 (pc' := 253) (lv' := [(6, .int _), (9, .int 4), (8, .int _), (7, .int _), (0, .ref _), (1, .ref _), (2, .ref _), (3, .ref _), (4, .ref _), (5, .ref _)]) (st' := []) rfl ?_
    refine ev_goto DL_lines_1 25 rfl (tgt := 3) (by decide) ?_
    refine ev_lvp (lv2 := [(0, .ref _), (1, .ref _), (2, .ref _), (3, .ref _), (4, .ref _), (5, .ref _), (6, .int _)]) [4, 5, 6, 7, 8, 9, 0] rfl ?_
    exact ih (i + 1) _ (by omega) (nI_1 i)
