/-- without an error: what begins a message, what is a digit -/
theorem tb_59 {ch : Nat → Int32} {len n : Nat} (h : tzP ch len = 3) (hn : n + 1 ≤ len) : (ch n = 59 → tzP ch (n + 1) = 0) ∧ (¬ ch n = 59 → ¬ tzP ch (n + 1) = 0) := by
  have e0 := tz_ne h n (by omega)
  have e1 := tz_ne h (n + 1) hn
  rw [tzP_s] at e1 ⊢
  rcases tz_03 e0 with e | e | e | e
  · rw [e] at e1 ⊢
    show (ch n = 59 → nx0 (ch n) = 0) ∧ (¬ ch n = 59 → ¬ nx0 (ch n) = 0)
    have e2 : ¬ nx0 (ch n) = 4 := e1
    refine ⟨fun q => absurd (by rw [q]; decide) e2, fun _ => ?_⟩
    unfold nx0
    split
    · decide
    · split <;> decide
  · rw [e] at e1 ⊢
    show (ch n = 59 → nx1 (ch n) = 0) ∧ (¬ ch n = 59 → ¬ nx1 (ch n) = 0)
    have e2 : ¬ nx1 (ch n) = 4 := e1
    refine ⟨fun q => absurd (by rw [q]; decide) e2, fun _ => ?_⟩
    unfold nx1
    split <;> decide
  · rw [e] at e1 ⊢
    show (ch n = 59 → bhP (ch n) = 0) ∧ (¬ ch n = 59 → ¬ bhP (ch n) = 0)
    have e2 : ¬ bhP (ch n) = 4 := e1
    refine ⟨fun q => absurd (by rw [q]; decide) e2, fun _ => ?_⟩
    unfold bhP
    split <;> decide
  · rw [e]
    show (ch n = 59 → nx3 (ch n) = 0) ∧ (¬ ch n = 59 → ¬ nx3 (ch n) = 0)
    unfold nx3
    refine ⟨fun q => if_pos q, fun q => ?_⟩
    rw [if_neg q]
    unfold bhP
    split <;> decide
theorem tb_dg {ch : Nat → Int32} {len n : Nat} (h : tzP ch len = 3) (hn : n + 1 ≤ len) : (tzP ch n = 0 → ¬ tzP ch (n + 1) = 3) ∧ (¬ tzP ch n = 0 → dgP (ch n) = -1 → ¬ tzP ch (n + 1) = 3) ∧ (¬ tzP ch n = 0 → ¬ dgP (ch n) = -1 → tzP ch (n + 1) = 3) := by
  have e0 := tz_ne h n (by omega)
  have e1 := tz_ne h (n + 1) hn
  rw [tzP_s] at e1 ⊢
  rcases tz_03 e0 with e | e | e | e
  · rw [e]
    refine ⟨fun _ => ?_, fun q => absurd rfl q, fun q => absurd rfl q⟩
    show ¬ nx0 (ch n) = 3
    unfold nx0
    split
    · decide
    · split <;> decide
  · rw [e] at e1 ⊢
    refine ⟨fun q => absurd q (by decide), fun _ _ => ?_, fun _ q => ?_⟩
    · show ¬ nx1 (ch n) = 3
      unfold nx1
      split <;> decide
    · have e2 : ¬ nx1 (ch n) = 4 := e1
      exact absurd (if_neg (dg_58 q)) e2
  · rw [e] at e1 ⊢
    refine ⟨fun q => absurd q (by decide), fun _ q => ?_, fun _ q => ?_⟩
    · have e2 : ¬ bhP (ch n) = 4 := e1
      exact absurd (if_pos q) e2
    · show bhP (ch n) = 3
      exact if_neg q
  · rw [e] at e1 ⊢
    refine ⟨fun q => absurd q (by decide), fun _ q => ?_, fun _ q => ?_⟩
    · have e2 : ¬ nx3 (ch n) = 4 := e1
      show ¬ nx3 (ch n) = 3
      unfold nx3 at e2 ⊢
      by_cases q2 : ch n = 59
      · rw [if_pos q2]; decide
      · rw [if_neg q2] at e2
        exact absurd (if_pos q) e2
    · show nx3 (ch n) = 3
      unfold nx3
      rw [if_neg (dg_59 q)]
      exact if_neg q
set_option maxRecDepth 100000 in
set_option maxHeartbeats 4000000 in
theorem m_X7_saidOn {E : gE} {ad : Nat → Nat} {ws : va_W} {sm tw ea iw : Int32} {hh : Int64} {len : Nat} {ch bf : Nat → Int32} (h : ws[214]? = some (ad 214, moC ad sm (nI len) tw ea iw hh)) (hbf : ws[221]? = some (ad 221, iaC E 60 bf)) (hlen : len ≤ 60) (hch : ∀ j, j < len → bf j = ch j) {wy : Int32} (hc : tzP ch len = 3) : CD E YX7_saidOn 0 0 [.ref (ad 214), .int wy] ws (some (.int (bfT ch wy len))) ws := by
  refine cdV vX7_saidOn (Nat.le_of_ble_eq_true rfl) (lv0 := [(0, .ref (ad 214)), (1, .int wy)]) rfl ?_
  suffices K : ∀ (m i : Nat) (x b n : Int32), i + m = len → x = nI i → b = bfT ch wy i → n = wnP ch i → Ev E YX7_saidOn (fun v2 w2 => v2 = some (.int (bfT ch wy len)) ∧ w2 = ws) nX 0 0 7 [(0, .ref (ad 214)), (1, .int wy), (2, .int b), (3, .int n), (4, .int x)] [] ws by
    refine ev_ss DX7_saidOn 6 0 (pc' := 7) (lv' := [(4, .int 0), (3, .int 0), (2, .int 0), (0, .ref _), (1, .int _)]) (st' := []) rfl ?_
    refine ev_lvp (lv2 := [(0, .ref _), (1, .int _), (2, .int _), (3, .int _), (4, .int _)]) [3, 4, 2, 1, 0] rfl ?_
    exact K len 0 _ _ _ (Nat.zero_add _) nI_0.symm rfl rfl
  intro m
  induction m with
  | zero =>
    intro i x b n hm hx hb hn
    obtain rfl : i = len := by omega
    subst hx; subst hb
    refine ev_ss DX7_saidOn 2 6 (pc' := 10) (lv' := [(0, .ref _), (1, .int _), (2, .int _), (3, .int _), (4, .int _)]) (st' := [.ref _, .int _]) rfl ?_
    refine ev_get DX7_saidOn 8 GX7 rfl (k0 := 8) (Nat.le_of_ble_eq_true rfl) fX7_140 h rfl ?_
    refine ev_icge DX7_saidOn 9 rfl (tgt := 112) (by decide) (fun _ => ?_) (fun h => h.elim (nI_le (Nat.le_refl _) (by omega)))
    refine ev_ss DX7_saidOn 1 61 (pc' := 113) (lv' := [(0, .ref _), (1, .int _), (2, .int _), (3, .int _), (4, .int _)]) (st' := [.int _]) rfl ?_
    exact ev_iret DX7_saidOn 62 rfl rfl ⟨rfl, rfl⟩
  | succ m ih =>
    intro i x b n hm hx hb hn
    subst hx; subst hb; subst hn
    have t1 := tb_dg hc (n := i) (by omega)
    have hbs := bfT_s (ch := ch) (w := wy) (n := i)
    have hws := wnP_s (ch := ch) (n := i)
    have t2 : i ≠ 0 → (bf (i - 1) = 59 → tzP ch i = 0) ∧ (¬ bf (i - 1) = 59 → ¬ tzP ch i = 0) := fun h0 => by
      have e := tb_59 hc (n := i - 1) (by omega)
      rw [show i - 1 + 1 = i by omega] at e
      rw [hch (i - 1) (by omega)]
      exact e
    by_cases q1 : tzP ch i = 0
    · by_cases q0 : i = 0
      · refine ev_ss DX7_saidOn 2 6 (pc' := 10) (lv' := [(0, .ref _), (1, .int _), (2, .int _), (3, .int _), (4, .int _)]) (st' := [.ref _, .int _]) rfl ?_
        refine ev_get DX7_saidOn 8 GX7 rfl (k0 := 8) (Nat.le_of_ble_eq_true rfl) fX7_140 h rfl ?_
        refine ev_icge DX7_saidOn 9 rfl (tgt := 112) (by decide) (fun h => absurd h (nI_ge (b := len) (by omega) (by omega))) (fun _ => ?_)
        refine ev_ss DX7_saidOn 1 10 (pc' := 18) (lv' := [(0, .ref _), (1, .int _), (2, .int _), (3, .int _), (4, .int _)]) (st' := [.int _]) rfl ?_
        refine ev_ifeq DX7_saidOn 11 rfl (tgt := 35) (by decide) (fun _ => ?_) (fun h => h.elim (by rw [q0]; rfl))
        refine ev_ss DX7_saidOn 1 20 (pc' := 36) (lv' := [(0, .ref _), (1, .int _), (2, .int _), (3, .int _), (4, .int _)]) (st' := [.int 1]) rfl ?_
        refine ev_goto DX7_saidOn 21 rfl (tgt := 40) (by decide) ?_
        refine ev_ss DX7_saidOn 2 23 (pc' := 44) (lv' := [(5, .int 1), (0, .ref _), (1, .int _), (2, .int _), (3, .int _), (4, .int _)]) (st' := [.int 1]) rfl ?_
        refine ev_ifeq DX7_saidOn 25 rfl (tgt := 60) (by decide) (fun h => absurd h (by decide)) (fun _ => ?_)
        refine ev_ss DX7_saidOn 1 26 (pc' := 48) (lv' := [(5, .int 1), (0, .ref _), (1, .int _), (2, .int _), (3, .int _), (4, .int _)]) (st' := [.ref _]) rfl ?_
        refine ev_get DX7_saidOn 27 GX7 rfl (k0 := 7) (Nat.le_of_ble_eq_true rfl) fX7_29 h rfl ?_
        refine ev_ss DX7_saidOn 1 28 (pc' := 53) (lv' := [(5, .int 1), (0, .ref _), (1, .int _), (2, .int _), (3, .int _), (4, .int _)]) (st' := [.int _, .ref _]) rfl ?_
        refine ev_ialdv DX7_saidOn 29 (k0 := i) rfl hbf rfl (by omega) (by decide) ((hch i (by omega))) ?_
        refine ev_ss DX7_saidOn 2 30 (pc' := 57) (lv' := [(5, .int 1), (0, .ref _), (1, .int _), (2, .int _), (3, .int _), (4, .int _)]) (st' := [.int _]) rfl ?_
        refine ev_goto DX7_saidOn 32 rfl (tgt := 61) (by decide) ?_
        refine ev_ss DX7_saidOn 2 34 (pc' := 64) (lv' := [(3, .int _), (5, .int 1), (0, .ref _), (1, .int _), (2, .int _), (4, .int _)]) (st' := [.int 1]) rfl ?_
        refine ev_ifne DX7_saidOn 36 rfl (tgt := 85) (by decide) (fun _ => ?_) (fun h => absurd h (by decide))
        refine ev_ss DX7_saidOn 4 46 (pc' := 91) (lv' := [(6, .int 0), (3, .int _), (5, .int 1), (0, .ref _), (1, .int _), (2, .int _), (4, .int _)]) (st' := [.int 0, .int _]) rfl ?_
        refine ev_ifeq DX7_saidOn 50 rfl (tgt := 103) (by decide) (fun _ => ?_) (fun h => h.elim (by decide))
        refine ev_ss DX7_saidOn 4 56 (pc' := 109) (lv' := [(4, .int _), (2, .int _), (6, .int 0), (3, .int _), (5, .int 1), (0, .ref _), (1, .int _)]) (st' := []) rfl ?_
        refine ev_goto DX7_saidOn 60 rfl (tgt := 7) (by decide) ?_
        refine ev_lvp (lv2 := [(0, .ref _), (1, .int _), (2, .int _), (3, .int _), (4, .int _)]) [5, 6, 1, 3, 0] rfl ?_
        exact ih (i + 1) _ _ _ (by omega) (nI_1 i) (by rw [hbs, if_neg (t1.1 q1), Int32.add_zero]; exact Int32.add_zero _) (by rw [hws, if_pos q1] <;> rfl)
      · have q3 : bf (i - 1) = 59 := Decidable.byContradiction (fun e => (t2 q0).2 e q1)
        refine ev_ss DX7_saidOn 2 6 (pc' := 10) (lv' := [(0, .ref _), (1, .int _), (2, .int _), (3, .int _), (4, .int _)]) (st' := [.ref _, .int _]) rfl ?_
        refine ev_get DX7_saidOn 8 GX7 rfl (k0 := 8) (Nat.le_of_ble_eq_true rfl) fX7_140 h rfl ?_
        refine ev_icge DX7_saidOn 9 rfl (tgt := 112) (by decide) (fun h => absurd h (nI_ge (b := len) (by omega) (by omega))) (fun _ => ?_)
        refine ev_ss DX7_saidOn 1 10 (pc' := 18) (lv' := [(0, .ref _), (1, .int _), (2, .int _), (3, .int _), (4, .int _)]) (st' := [.int _]) rfl ?_
        refine ev_ifeq DX7_saidOn 11 rfl (tgt := 35) (by decide) (fun h => absurd h (nI_ne0 (by omega) (by omega))) (fun _ => ?_)
        refine ev_ss DX7_saidOn 1 12 (pc' := 22) (lv' := [(0, .ref _), (1, .int _), (2, .int _), (3, .int _), (4, .int _)]) (st' := [.ref _]) rfl ?_
        refine ev_get DX7_saidOn 13 GX7 rfl (k0 := 7) (Nat.le_of_ble_eq_true rfl) fX7_29 h rfl ?_
        refine ev_ss DX7_saidOn 3 14 (pc' := 29) (lv' := [(0, .ref _), (1, .int _), (2, .int _), (3, .int _), (4, .int _)]) (st' := [.int _, .ref _]) rfl ?_
        refine ev_ialdv DX7_saidOn 17 (k0 := (i - 1)) rfl hbf (nx_sub (a := i) (b := 1) rfl rfl (by omega)) (by omega) (by decide) (rfl) ?_
        refine ev_ss DX7_saidOn 1 18 (pc' := 32) (lv' := [(0, .ref _), (1, .int _), (2, .int _), (3, .int _), (4, .int _)]) (st' := [.int 59, .int _]) rfl ?_
        refine ev_icne DX7_saidOn 19 rfl (tgt := 39) (by decide) (fun h => h.elim q3) (fun _ => ?_)
        refine ev_ss DX7_saidOn 1 20 (pc' := 36) (lv' := [(0, .ref _), (1, .int _), (2, .int _), (3, .int _), (4, .int _)]) (st' := [.int 1]) rfl ?_
        refine ev_goto DX7_saidOn 21 rfl (tgt := 40) (by decide) ?_
        refine ev_ss DX7_saidOn 2 23 (pc' := 44) (lv' := [(5, .int 1), (0, .ref _), (1, .int _), (2, .int _), (3, .int _), (4, .int _)]) (st' := [.int 1]) rfl ?_
        refine ev_ifeq DX7_saidOn 25 rfl (tgt := 60) (by decide) (fun h => absurd h (by decide)) (fun _ => ?_)
        refine ev_ss DX7_saidOn 1 26 (pc' := 48) (lv' := [(5, .int 1), (0, .ref _), (1, .int _), (2, .int _), (3, .int _), (4, .int _)]) (st' := [.ref _]) rfl ?_
        refine ev_get DX7_saidOn 27 GX7 rfl (k0 := 7) (Nat.le_of_ble_eq_true rfl) fX7_29 h rfl ?_
        refine ev_ss DX7_saidOn 1 28 (pc' := 53) (lv' := [(5, .int 1), (0, .ref _), (1, .int _), (2, .int _), (3, .int _), (4, .int _)]) (st' := [.int _, .ref _]) rfl ?_
        refine ev_ialdv DX7_saidOn 29 (k0 := i) rfl hbf rfl (by omega) (by decide) ((hch i (by omega))) ?_
        refine ev_ss DX7_saidOn 2 30 (pc' := 57) (lv' := [(5, .int 1), (0, .ref _), (1, .int _), (2, .int _), (3, .int _), (4, .int _)]) (st' := [.int _]) rfl ?_
        refine ev_goto DX7_saidOn 32 rfl (tgt := 61) (by decide) ?_
        refine ev_ss DX7_saidOn 2 34 (pc' := 64) (lv' := [(3, .int _), (5, .int 1), (0, .ref _), (1, .int _), (2, .int _), (4, .int _)]) (st' := [.int 1]) rfl ?_
        refine ev_ifne DX7_saidOn 36 rfl (tgt := 85) (by decide) (fun _ => ?_) (fun h => absurd h (by decide))
        refine ev_ss DX7_saidOn 4 46 (pc' := 91) (lv' := [(6, .int 0), (3, .int _), (5, .int 1), (0, .ref _), (1, .int _), (2, .int _), (4, .int _)]) (st' := [.int 0, .int _]) rfl ?_
        refine ev_ifeq DX7_saidOn 50 rfl (tgt := 103) (by decide) (fun _ => ?_) (fun h => h.elim (by decide))
        refine ev_ss DX7_saidOn 4 56 (pc' := 109) (lv' := [(4, .int _), (2, .int _), (6, .int 0), (3, .int _), (5, .int 1), (0, .ref _), (1, .int _)]) (st' := []) rfl ?_
        refine ev_goto DX7_saidOn 60 rfl (tgt := 7) (by decide) ?_
        refine ev_lvp (lv2 := [(0, .ref _), (1, .int _), (2, .int _), (3, .int _), (4, .int _)]) [5, 6, 1, 3, 0] rfl ?_
        exact ih (i + 1) _ _ _ (by omega) (nI_1 i) (by rw [hbs, if_neg (t1.1 q1), Int32.add_zero]; exact Int32.add_zero _) (by rw [hws, if_pos q1] <;> rfl)
    · have q0 : i ≠ 0 := fun e => q1 (by rw [e]; rfl)
      have q3 : ¬ bf (i - 1) = 59 := fun e => q1 ((t2 q0).1 e)
      by_cases q4 : dgP (ch i) = -1
      · refine ev_ss DX7_saidOn 2 6 (pc' := 10) (lv' := [(0, .ref _), (1, .int _), (2, .int _), (3, .int _), (4, .int _)]) (st' := [.ref _, .int _]) rfl ?_
        refine ev_get DX7_saidOn 8 GX7 rfl (k0 := 8) (Nat.le_of_ble_eq_true rfl) fX7_140 h rfl ?_
        refine ev_icge DX7_saidOn 9 rfl (tgt := 112) (by decide) (fun h => absurd h (nI_ge (b := len) (by omega) (by omega))) (fun _ => ?_)
        refine ev_ss DX7_saidOn 1 10 (pc' := 18) (lv' := [(0, .ref _), (1, .int _), (2, .int _), (3, .int _), (4, .int _)]) (st' := [.int _]) rfl ?_
        refine ev_ifeq DX7_saidOn 11 rfl (tgt := 35) (by decide) (fun h => absurd h (nI_ne0 (by omega) (by omega))) (fun _ => ?_)
        refine ev_ss DX7_saidOn 1 12 (pc' := 22) (lv' := [(0, .ref _), (1, .int _), (2, .int _), (3, .int _), (4, .int _)]) (st' := [.ref _]) rfl ?_
        refine ev_get DX7_saidOn 13 GX7 rfl (k0 := 7) (Nat.le_of_ble_eq_true rfl) fX7_29 h rfl ?_
        refine ev_ss DX7_saidOn 3 14 (pc' := 29) (lv' := [(0, .ref _), (1, .int _), (2, .int _), (3, .int _), (4, .int _)]) (st' := [.int _, .ref _]) rfl ?_
        refine ev_ialdv DX7_saidOn 17 (k0 := (i - 1)) rfl hbf (nx_sub (a := i) (b := 1) rfl rfl (by omega)) (by omega) (by decide) (rfl) ?_
        refine ev_ss DX7_saidOn 1 18 (pc' := 32) (lv' := [(0, .ref _), (1, .int _), (2, .int _), (3, .int _), (4, .int _)]) (st' := [.int 59, .int _]) rfl ?_
        refine ev_icne DX7_saidOn 19 rfl (tgt := 39) (by decide) (fun _ => ?_) (fun h => absurd h q3)
        refine ev_ss DX7_saidOn 3 22 (pc' := 44) (lv' := [(5, .int 0), (0, .ref _), (1, .int _), (2, .int _), (3, .int _), (4, .int _)]) (st' := [.int 0]) rfl ?_
        refine ev_ifeq DX7_saidOn 25 rfl (tgt := 60) (by decide) (fun _ => ?_) (fun h => h.elim (by decide))
        refine ev_ss DX7_saidOn 3 33 (pc' := 64) (lv' := [(3, .int _), (5, .int 0), (0, .ref _), (1, .int _), (2, .int _), (4, .int _)]) (st' := [.int 0]) rfl ?_
        refine ev_ifne DX7_saidOn 36 rfl (tgt := 85) (by decide) (fun h => h.elim (by decide)) (fun _ => ?_)
        refine ev_ss DX7_saidOn 1 37 (pc' := 68) (lv' := [(3, .int _), (5, .int 0), (0, .ref _), (1, .int _), (2, .int _), (4, .int _)]) (st' := [.ref _]) rfl ?_
        refine ev_get DX7_saidOn 38 GX7 rfl (k0 := 7) (Nat.le_of_ble_eq_true rfl) fX7_29 h rfl ?_
        refine ev_ss DX7_saidOn 1 39 (pc' := 73) (lv' := [(3, .int _), (5, .int 0), (0, .ref _), (1, .int _), (2, .int _), (4, .int _)]) (st' := [.int _, .ref _]) rfl ?_
        refine ev_ialdv DX7_saidOn 40 (k0 := i) rfl hbf rfl (by omega) (by decide) ((hch i (by omega))) ?_
        refine ev_cS DX7_saidOn 41 m_X7_digit vX7_digit rfl qX7_143 rfl (hd_of rfl rfl rfl rfl) ?_
        refine ev_ss DX7_saidOn 1 42 (pc' := 78) (lv' := [(3, .int _), (5, .int 0), (0, .ref _), (1, .int _), (2, .int _), (4, .int _)]) (st' := [.int (-1), .int _]) rfl ?_
        refine ev_iceq DX7_saidOn 43 rfl (tgt := 85) (by decide) (fun _ => ?_) (fun h => h.elim q4)
        refine ev_ss DX7_saidOn 4 46 (pc' := 91) (lv' := [(6, .int 0), (3, .int _), (5, .int 0), (0, .ref _), (1, .int _), (2, .int _), (4, .int _)]) (st' := [.int 0, .int _]) rfl ?_
        refine ev_ifeq DX7_saidOn 50 rfl (tgt := 103) (by decide) (fun _ => ?_) (fun h => h.elim (by decide))
        refine ev_ss DX7_saidOn 4 56 (pc' := 109) (lv' := [(4, .int _), (2, .int _), (6, .int 0), (3, .int _), (5, .int 0), (0, .ref _), (1, .int _)]) (st' := []) rfl ?_
        refine ev_goto DX7_saidOn 60 rfl (tgt := 7) (by decide) ?_
        refine ev_lvp (lv2 := [(0, .ref _), (1, .int _), (2, .int _), (3, .int _), (4, .int _)]) [5, 6, 1, 3, 0] rfl ?_
        exact ih (i + 1) _ _ _ (by omega) (nI_1 i) (by rw [hbs, if_neg (t1.2.1 q1 q4)] <;> rfl) (by rw [hws, if_neg q1])
      · by_cases q5 : wnP ch i = wy
        · refine ev_ss DX7_saidOn 2 6 (pc' := 10) (lv' := [(0, .ref _), (1, .int _), (2, .int _), (3, .int _), (4, .int _)]) (st' := [.ref _, .int _]) rfl ?_
          refine ev_get DX7_saidOn 8 GX7 rfl (k0 := 8) (Nat.le_of_ble_eq_true rfl) fX7_140 h rfl ?_
          refine ev_icge DX7_saidOn 9 rfl (tgt := 112) (by decide) (fun h => absurd h (nI_ge (b := len) (by omega) (by omega))) (fun _ => ?_)
          refine ev_ss DX7_saidOn 1 10 (pc' := 18) (lv' := [(0, .ref _), (1, .int _), (2, .int _), (3, .int _), (4, .int _)]) (st' := [.int _]) rfl ?_
          refine ev_ifeq DX7_saidOn 11 rfl (tgt := 35) (by decide) (fun h => absurd h (nI_ne0 (by omega) (by omega))) (fun _ => ?_)
          refine ev_ss DX7_saidOn 1 12 (pc' := 22) (lv' := [(0, .ref _), (1, .int _), (2, .int _), (3, .int _), (4, .int _)]) (st' := [.ref _]) rfl ?_
          refine ev_get DX7_saidOn 13 GX7 rfl (k0 := 7) (Nat.le_of_ble_eq_true rfl) fX7_29 h rfl ?_
          refine ev_ss DX7_saidOn 3 14 (pc' := 29) (lv' := [(0, .ref _), (1, .int _), (2, .int _), (3, .int _), (4, .int _)]) (st' := [.int _, .ref _]) rfl ?_
          refine ev_ialdv DX7_saidOn 17 (k0 := (i - 1)) rfl hbf (nx_sub (a := i) (b := 1) rfl rfl (by omega)) (by omega) (by decide) (rfl) ?_
          refine ev_ss DX7_saidOn 1 18 (pc' := 32) (lv' := [(0, .ref _), (1, .int _), (2, .int _), (3, .int _), (4, .int _)]) (st' := [.int 59, .int _]) rfl ?_
          refine ev_icne DX7_saidOn 19 rfl (tgt := 39) (by decide) (fun _ => ?_) (fun h => absurd h q3)
          refine ev_ss DX7_saidOn 3 22 (pc' := 44) (lv' := [(5, .int 0), (0, .ref _), (1, .int _), (2, .int _), (3, .int _), (4, .int _)]) (st' := [.int 0]) rfl ?_
          refine ev_ifeq DX7_saidOn 25 rfl (tgt := 60) (by decide) (fun _ => ?_) (fun h => h.elim (by decide))
          refine ev_ss DX7_saidOn 3 33 (pc' := 64) (lv' := [(3, .int _), (5, .int 0), (0, .ref _), (1, .int _), (2, .int _), (4, .int _)]) (st' := [.int 0]) rfl ?_
          refine ev_ifne DX7_saidOn 36 rfl (tgt := 85) (by decide) (fun h => h.elim (by decide)) (fun _ => ?_)
          refine ev_ss DX7_saidOn 1 37 (pc' := 68) (lv' := [(3, .int _), (5, .int 0), (0, .ref _), (1, .int _), (2, .int _), (4, .int _)]) (st' := [.ref _]) rfl ?_
          refine ev_get DX7_saidOn 38 GX7 rfl (k0 := 7) (Nat.le_of_ble_eq_true rfl) fX7_29 h rfl ?_
          refine ev_ss DX7_saidOn 1 39 (pc' := 73) (lv' := [(3, .int _), (5, .int 0), (0, .ref _), (1, .int _), (2, .int _), (4, .int _)]) (st' := [.int _, .ref _]) rfl ?_
          refine ev_ialdv DX7_saidOn 40 (k0 := i) rfl hbf rfl (by omega) (by decide) ((hch i (by omega))) ?_
          refine ev_cS DX7_saidOn 41 m_X7_digit vX7_digit rfl qX7_143 rfl (hd_of rfl rfl rfl rfl) ?_
          refine ev_ss DX7_saidOn 1 42 (pc' := 78) (lv' := [(3, .int _), (5, .int 0), (0, .ref _), (1, .int _), (2, .int _), (4, .int _)]) (st' := [.int (-1), .int _]) rfl ?_
          refine ev_iceq DX7_saidOn 43 rfl (tgt := 85) (by decide) (fun h => absurd h q4) (fun _ => ?_)
          refine ev_ss DX7_saidOn 1 44 (pc' := 82) (lv' := [(3, .int _), (5, .int 0), (0, .ref _), (1, .int _), (2, .int _), (4, .int _)]) (st' := [.int 1]) rfl ?_
          refine ev_goto DX7_saidOn 45 rfl (tgt := 86) (by decide) ?_
          refine ev_ss DX7_saidOn 3 47 (pc' := 91) (lv' := [(6, .int 1), (3, .int _), (5, .int 0), (0, .ref _), (1, .int _), (2, .int _), (4, .int _)]) (st' := [.int 1, .int _]) rfl ?_
          refine ev_ifeq DX7_saidOn 50 rfl (tgt := 103) (by decide) (fun h => absurd h (by decide)) (fun _ => ?_)
          refine ev_ss DX7_saidOn 2 51 (pc' := 96) (lv' := [(6, .int 1), (3, .int _), (5, .int 0), (0, .ref _), (1, .int _), (2, .int _), (4, .int _)]) (st' := [.int _, .int _, .int _]) rfl ?_
          refine ev_icne DX7_saidOn 53 rfl (tgt := 103) (by decide) (fun h => h.elim q5) (fun _ => ?_)
          refine ev_ss DX7_saidOn 1 54 (pc' := 100) (lv' := [(6, .int 1), (3, .int _), (5, .int 0), (0, .ref _), (1, .int _), (2, .int _), (4, .int _)]) (st' := [.int 4, .int _]) rfl ?_
          refine ev_goto DX7_saidOn 55 rfl (tgt := 104) (by decide) ?_
          refine ev_ss DX7_saidOn 3 57 (pc' := 109) (lv' := [(4, .int _), (2, .int _), (6, .int 1), (3, .int _), (5, .int 0), (0, .ref _), (1, .int _)]) (st' := []) rfl ?_
          refine ev_goto DX7_saidOn 60 rfl (tgt := 7) (by decide) ?_
          refine ev_lvp (lv2 := [(0, .ref _), (1, .int _), (2, .int _), (3, .int _), (4, .int _)]) [5, 6, 1, 3, 0] rfl ?_
          exact ih (i + 1) _ _ _ (by omega) (nI_1 i) (by rw [hbs, if_pos (t1.2.2 q1 q4), hws, if_neg q1, if_pos q5] <;> rfl) (by rw [hws, if_neg q1])
        · refine ev_ss DX7_saidOn 2 6 (pc' := 10) (lv' := [(0, .ref _), (1, .int _), (2, .int _), (3, .int _), (4, .int _)]) (st' := [.ref _, .int _]) rfl ?_
          refine ev_get DX7_saidOn 8 GX7 rfl (k0 := 8) (Nat.le_of_ble_eq_true rfl) fX7_140 h rfl ?_
          refine ev_icge DX7_saidOn 9 rfl (tgt := 112) (by decide) (fun h => absurd h (nI_ge (b := len) (by omega) (by omega))) (fun _ => ?_)
          refine ev_ss DX7_saidOn 1 10 (pc' := 18) (lv' := [(0, .ref _), (1, .int _), (2, .int _), (3, .int _), (4, .int _)]) (st' := [.int _]) rfl ?_
          refine ev_ifeq DX7_saidOn 11 rfl (tgt := 35) (by decide) (fun h => absurd h (nI_ne0 (by omega) (by omega))) (fun _ => ?_)
          refine ev_ss DX7_saidOn 1 12 (pc' := 22) (lv' := [(0, .ref _), (1, .int _), (2, .int _), (3, .int _), (4, .int _)]) (st' := [.ref _]) rfl ?_
          refine ev_get DX7_saidOn 13 GX7 rfl (k0 := 7) (Nat.le_of_ble_eq_true rfl) fX7_29 h rfl ?_
          refine ev_ss DX7_saidOn 3 14 (pc' := 29) (lv' := [(0, .ref _), (1, .int _), (2, .int _), (3, .int _), (4, .int _)]) (st' := [.int _, .ref _]) rfl ?_
          refine ev_ialdv DX7_saidOn 17 (k0 := (i - 1)) rfl hbf (nx_sub (a := i) (b := 1) rfl rfl (by omega)) (by omega) (by decide) (rfl) ?_
          refine ev_ss DX7_saidOn 1 18 (pc' := 32) (lv' := [(0, .ref _), (1, .int _), (2, .int _), (3, .int _), (4, .int _)]) (st' := [.int 59, .int _]) rfl ?_
          refine ev_icne DX7_saidOn 19 rfl (tgt := 39) (by decide) (fun _ => ?_) (fun h => absurd h q3)
          refine ev_ss DX7_saidOn 3 22 (pc' := 44) (lv' := [(5, .int 0), (0, .ref _), (1, .int _), (2, .int _), (3, .int _), (4, .int _)]) (st' := [.int 0]) rfl ?_
          refine ev_ifeq DX7_saidOn 25 rfl (tgt := 60) (by decide) (fun _ => ?_) (fun h => h.elim (by decide))
          refine ev_ss DX7_saidOn 3 33 (pc' := 64) (lv' := [(3, .int _), (5, .int 0), (0, .ref _), (1, .int _), (2, .int _), (4, .int _)]) (st' := [.int 0]) rfl ?_
          refine ev_ifne DX7_saidOn 36 rfl (tgt := 85) (by decide) (fun h => h.elim (by decide)) (fun _ => ?_)
          refine ev_ss DX7_saidOn 1 37 (pc' := 68) (lv' := [(3, .int _), (5, .int 0), (0, .ref _), (1, .int _), (2, .int _), (4, .int _)]) (st' := [.ref _]) rfl ?_
          refine ev_get DX7_saidOn 38 GX7 rfl (k0 := 7) (Nat.le_of_ble_eq_true rfl) fX7_29 h rfl ?_
          refine ev_ss DX7_saidOn 1 39 (pc' := 73) (lv' := [(3, .int _), (5, .int 0), (0, .ref _), (1, .int _), (2, .int _), (4, .int _)]) (st' := [.int _, .ref _]) rfl ?_
          refine ev_ialdv DX7_saidOn 40 (k0 := i) rfl hbf rfl (by omega) (by decide) ((hch i (by omega))) ?_
          refine ev_cS DX7_saidOn 41 m_X7_digit vX7_digit rfl qX7_143 rfl (hd_of rfl rfl rfl rfl) ?_
          refine ev_ss DX7_saidOn 1 42 (pc' := 78) (lv' := [(3, .int _), (5, .int 0), (0, .ref _), (1, .int _), (2, .int _), (4, .int _)]) (st' := [.int (-1), .int _]) rfl ?_
          refine ev_iceq DX7_saidOn 43 rfl (tgt := 85) (by decide) (fun h => absurd h q4) (fun _ => ?_)
          refine ev_ss DX7_saidOn 1 44 (pc' := 82) (lv' := [(3, .int _), (5, .int 0), (0, .ref _), (1, .int _), (2, .int _), (4, .int _)]) (st' := [.int 1]) rfl ?_
          refine ev_goto DX7_saidOn 45 rfl (tgt := 86) (by decide) ?_
          refine ev_ss DX7_saidOn 3 47 (pc' := 91) (lv' := [(6, .int 1), (3, .int _), (5, .int 0), (0, .ref _), (1, .int _), (2, .int _), (4, .int _)]) (st' := [.int 1, .int _]) rfl ?_
          refine ev_ifeq DX7_saidOn 50 rfl (tgt := 103) (by decide) (fun h => absurd h (by decide)) (fun _ => ?_)
          refine ev_ss DX7_saidOn 2 51 (pc' := 96) (lv' := [(6, .int 1), (3, .int _), (5, .int 0), (0, .ref _), (1, .int _), (2, .int _), (4, .int _)]) (st' := [.int _, .int _, .int _]) rfl ?_
          refine ev_icne DX7_saidOn 53 rfl (tgt := 103) (by decide) (fun _ => ?_) (fun h => absurd h q5)
          refine ev_ss DX7_saidOn 4 56 (pc' := 109) (lv' := [(4, .int _), (2, .int _), (6, .int 1), (3, .int _), (5, .int 0), (0, .ref _), (1, .int _)]) (st' := []) rfl ?_
          refine ev_goto DX7_saidOn 60 rfl (tgt := 7) (by decide) ?_
          refine ev_lvp (lv2 := [(0, .ref _), (1, .int _), (2, .int _), (3, .int _), (4, .int _)]) [5, 6, 1, 3, 0] rfl ?_
          exact ih (i + 1) _ _ _ (by omega) (nI_1 i) (by rw [hbs, if_pos (t1.2.2 q1 q4), hws, if_neg q1, if_neg q5] <;> rfl) (by rw [hws, if_neg q1])
/-- one more bit waits -/
theorem ZG.put {z : Nat → Int32} {p : PS} {a : Nat} {b : Int32} (h : ZG z p) (ha : a < 2) (hl : (pW p a).2.1.length < 256) : ZG (upd (upd z (288 + 256 * a + (pW p a).2.1.length) b) (800 + a) (nI ((pW p a).2.1.length + 1))) (pBits p a ((pW p a).2.1 ++ [b])) := by
  obtain ⟨h1, h2, h3, h4, h5, h6, h7⟩ := h
  have e1 : ∀ c, c < 2 → (pW (pBits p a ((pW p a).2.1 ++ [b])) c).1 = (pW p c).1 := fun c hc => by
    unfold pBits
    by_cases e : c = a
    · subst e; rw [pW_set]
    · rw [pW_other ha hc e]
  have e2 : ∀ c, c < 2 → (pW (pBits p a ((pW p a).2.1 ++ [b])) c).2.2 = (pW p c).2.2 := fun c hc => by
    unfold pBits
    by_cases e : c = a
    · subst e; rw [pW_set]
    · rw [pW_other ha hc e]
  have e3 : ∀ c, c < 2 → c ≠ a → pW (pBits p a ((pW p a).2.1 ++ [b])) c = pW p c := fun c hc e => pW_other ha hc e
  refine ⟨fun c u i hc hu hi => ?_, fun c u i hc hu hi => ?_, fun c i hc hi => ?_, fun c hc => ?_, ?_, ?_, fun i hi => ?_⟩
  · rw [upd_ne (by unfold stA; omega), upd_ne (by unfold stA; omega), e1 c hc]; exact h1 c u i hc hu hi
  · rw [upd_ne (by unfold acA; omega), upd_ne (by unfold acA; omega), e1 c hc]; exact h2 c u i hc hu hi
  · have g1 := (h4 c hc).1
    by_cases e : c = a
    · subst e
      rw [pBits_W] at hi ⊢
      rw [List.length_append] at hi
      have hi2 : i < (pW p c).2.1.length + 1 := hi
      rw [upd_ne (by omega)]
      by_cases e4 : i = (pW p c).2.1.length
      · rw [e4, upd_eq]
        simp
      · rw [upd_ne (by omega), h3 c i hc (by omega)]
        simp only [List.getD_eq_getElem?_getD]
        rw [List.getElem?_append_left (by omega)]
    · rw [e3 c hc e] at hi ⊢
      rw [upd_ne (by omega), upd_ne (by omega)]
      exact h3 c i hc hi
  · obtain ⟨g1, g2, g3, g4⟩ := h4 c hc
    by_cases e : c = a
    · subst e
      rw [pBits_W, e2 c hc, List.length_append]
      refine ⟨by show _ + 1 ≤ _; omega, upd_eq, ?_, ?_⟩
      · rw [upd_ne (by omega), upd_ne (by omega)]; exact g3
      · rw [upd_ne (by omega), upd_ne (by omega)]; exact g4
    · rw [e3 c hc e]
      refine ⟨g1, ?_, ?_, ?_⟩
      · rw [upd_ne (by omega), upd_ne (by omega)]; exact g2
      · rw [upd_ne (by omega), upd_ne (by omega)]; exact g3
      · rw [upd_ne (by omega), upd_ne (by omega)]; exact g4
  · rw [upd_ne (by omega), upd_ne (by omega)]; exact h5
  · rw [upd_ne (by omega), upd_ne (by omega)]; exact h6
  · rw [upd_ne (by omega), upd_ne (by omega)]; exact h7 i hi
set_option maxRecDepth 100000 in
set_option maxHeartbeats 4000000 in
theorem sy_bit {E : gE} {ad : Nat → Nat} {ws : va_W} {sm bm tw ea iw : Int32} {hh : Int64} {z : Nat → Int32} (h : ws[214]? = some (ad 214, moC ad sm bm tw ea iw hh)) (hz : ws[215]? = some (ad 215, iaC E 811 z)) {Pr : Option Value → va_W → Prop} {q : PS} {a : Nat} {f1 f2 x4 dg x7 : Int32} (ha : a < 2) (hG : ZG z q) (hl : (pW q a).2.1.length < 256) (kt : ∀ z2, ZG z2 (pBits q a ((pW q a).2.1 ++ [(dg >>> (x7 &&& 31)) &&& 1])) → Ev E YX7_say Pr nX 0 0 217 [(0, .ref (ad 214)), (1, .int f1), (2, .int f2), (3, .int (nI a)), (4, .int x4), (6, .int dg), (7, .int x7)] [] (ws.set 215 (ad 215, iaC E 811 z2))) : Ev E YX7_say Pr nX 0 0 171 [(0, .ref (ad 214)), (1, .int f1), (2, .int f2), (3, .int (nI a)), (4, .int x4), (6, .int dg), (7, .int x7)] [] ws := by
  have hlz := (hG.2.2.2.1 a ha).2.1
  refine ev_ss DX7_say_0 1 92 (pc' := 172) (lv' := [(0, .ref _), (1, .int _), (2, .int _), (3, .int _), (4, .int _), (6, .int _), (7, .int _)]) (st' := [.ref _]) rfl ?_
  refine ev_get DX7_say_0 93 GX7 rfl (k0 := 0) (Nat.le_of_ble_eq_true rfl) fX7_7 h rfl ?_
  refine ev_ss DX7_say_0 6 94 (pc' := 185) (lv' := [(0, .ref _), (1, .int _), (2, .int _), (3, .int _), (4, .int _), (6, .int _), (7, .int _)]) (st' := [.ref _, .int _, .ref _]) rfl ?_
  refine ev_get DX7_say_0 100 GX7 rfl (k0 := 0) (Nat.le_of_ble_eq_true rfl) fX7_7 h rfl ?_
  refine ev_ss DX7_say_0 3 101 (pc' := 193) (lv' := [(0, .ref _), (1, .int _), (2, .int _), (3, .int _), (4, .int _), (6, .int _), (7, .int _)]) (st' := [.int _, .ref _, .int _, .ref _]) rfl ?_
  refine ev_ialdv DX7_say_0 104 (k0 := (800 + a)) rfl hz (nx_add (a := 800) (b := a) rfl rfl) (by omega) (by decide) (hlz) ?_
  refine ev_ss DX7_say_0 6 105 (pc' := 202) (lv' := [(0, .ref _), (1, .int _), (2, .int _), (3, .int _), (4, .int _), (6, .int _), (7, .int _)]) (st' := [.int _, .int _, .ref _]) rfl ?_
  refine ev_iastv DX7_say_0 111 (k0 := ((288 + (256 * a)) + (pW q a).2.1.length)) rfl hz (nx_add (a := (288 + (256 * a))) (b := (pW q a).2.1.length) (nx_add (a := 288) (b := (256 * a)) rfl (nx_mul (a := 256) (b := a) rfl rfl)) rfl) (by omega) (by decide) rfl ?_
  refine ev_ss DX7_say_0 1 112 (pc' := 204) (lv' := [(0, .ref _), (1, .int _), (2, .int _), (3, .int _), (4, .int _), (6, .int _), (7, .int _)]) (st' := [.ref _]) rfl ?_
  refine ev_get DX7_say_0 113 GX7 rfl (k0 := 0) (Nat.le_of_ble_eq_true rfl) fX7_7 (wset_o h hz rfl) rfl ?_
  refine ev_ss DX7_say_0 4 114 (pc' := 213) (lv' := [(0, .ref _), (1, .int _), (2, .int _), (3, .int _), (4, .int _), (6, .int _), (7, .int _)]) (st' := [.int _, .ref _, .int _, .ref _]) rfl ?_
  refine ev_ialdv DX7_say_0 118 (k0 := (800 + a)) rfl (wset_get hz) (nx_add (a := 800) (b := a) rfl rfl) (by omega) (by decide) ((upd_ne (by omega)).trans (hlz)) ?_
  refine ev_ss DX7_say_0 1 119 (pc' := 215) (lv' := [(0, .ref _), (1, .int _), (2, .int _), (3, .int _), (4, .int _), (6, .int _), (7, .int _)]) (st' := [.int 1, .int _, .int _, .ref _]) rfl ?_
  refine ev_ss DX7_say_1 1 0 (pc' := 216) (lv' := [(0, .ref _), (1, .int _), (2, .int _), (3, .int _), (4, .int _), (6, .int _), (7, .int _)]) (st' := [.int _, .int _, .ref _]) rfl ?_
  refine ev_iastv DX7_say_1 1 (k0 := (800 + a)) rfl (wset_get hz) (nx_add (a := 800) (b := a) rfl rfl) (by omega) (by decide) wset_set ?_
  have e := hG.put ha hl (b := (dg >>> (x7 &&& 31)) &&& 1)
  rw [← nI_1] at e
  exact kt _ e
set_option maxRecDepth 100000 in
set_option maxHeartbeats 4000000 in
theorem sy_dig {E : gE} {ad : Nat → Nat} {ws : va_W} {sm bm tw ea iw : Int32} {hh : Int64} {z : Nat → Int32} (h : ws[214]? = some (ad 214, moC ad sm bm tw ea iw hh)) (hz : ws[215]? = some (ad 215, iaC E 811 z)) {Pr : Option Value → va_W → Prop} {q : PS} {a : Nat} {f1 f2 x4 dg : Int32} (ha : a < 2) (hG : ZG z q) (hl : (pW q a).2.1.length + 4 ≤ 256) (hd : ¬ dg = -1) (kt : ∀ z2, ZG z2 (pBits q a ((pW q a).2.1 ++ dg4 dg)) → Ev E YX7_say Pr nX 0 0 223 [(0, .ref (ad 214)), (1, .int f1), (2, .int f2), (3, .int (nI a)), (4, .int x4)] [] (ws.set 215 (ad 215, iaC E 811 z2))) : Ev E YX7_say Pr nX 0 0 157 [(0, .ref (ad 214)), (1, .int f1), (2, .int f2), (3, .int (nI a)), (4, .int x4), (6, .int dg)] [] ws := by
  refine ev_ss DX7_say_0 3 85 (pc' := 162) (lv' := [(7, .int 3), (0, .ref _), (1, .int _), (2, .int _), (3, .int _), (4, .int _), (6, .int _)]) (st' := [.int 3]) rfl ?_
  refine ev_iflt DX7_say_0 88 rfl (tgt := 223) (by decide) (fun h => absurd h (by decide)) (fun _ => ?_)
  refine ev_ss DX7_say_0 2 89 (pc' := 168) (lv' := [(7, .int 3), (0, .ref _), (1, .int _), (2, .int _), (3, .int _), (4, .int _), (6, .int _)]) (st' := [.int (-1), .int _]) rfl ?_
  refine ev_iceq DX7_say_0 91 rfl (tgt := 223) (by decide) (fun h => absurd h hd) (fun _ => ?_)
  refine ev_lvp (lv2 := [(0, .ref _), (1, .int _), (2, .int _), (3, .int _), (4, .int _), (6, .int _), (7, .int 3)]) [1, 2, 3, 4, 5, 6, 0] rfl ?_
  refine sy_bit h hz ha hG (by omega) (fun z1 hG1 => ?_)
  obtain ⟨q1, eq1⟩ : ∃ y, y = pBits q a ((pW q a).2.1 ++ [(dg >>> ((3 : Int32) &&& 31)) &&& 1]) := ⟨_, rfl⟩
  rw [← eq1] at hG1
  have hL1 : (pW q1 a).2.1.length = (pW q a).2.1.length + 1 := by rw [eq1, pBits_W, List.length_append]; rfl
  refine ev_ss DX7_say_1 1 2 (pc' := 220) (lv' := [(7, .int 2), (0, .ref _), (1, .int _), (2, .int _), (3, .int _), (4, .int _), (6, .int _)]) (st' := []) rfl ?_
  refine ev_goto DX7_say_1 3 rfl (tgt := 160) (by decide) ?_
  refine ev_ss DX7_say_0 1 87 (pc' := 162) (lv' := [(7, .int 2), (0, .ref _), (1, .int _), (2, .int _), (3, .int _), (4, .int _), (6, .int _)]) (st' := [.int 2]) rfl ?_
  refine ev_iflt DX7_say_0 88 rfl (tgt := 223) (by decide) (fun h => absurd h (by decide)) (fun _ => ?_)
  refine ev_ss DX7_say_0 2 89 (pc' := 168) (lv' := [(7, .int 2), (0, .ref _), (1, .int _), (2, .int _), (3, .int _), (4, .int _), (6, .int _)]) (st' := [.int (-1), .int _]) rfl ?_
  refine ev_iceq DX7_say_0 91 rfl (tgt := 223) (by decide) (fun h => absurd h hd) (fun _ => ?_)
  refine ev_lvp (lv2 := [(0, .ref _), (1, .int _), (2, .int _), (3, .int _), (4, .int _), (6, .int _), (7, .int 2)]) [1, 2, 3, 4, 5, 6, 0] rfl ?_
  refine sy_bit (wset_n h (by decide)) (wset_get hz) ha hG1 (by rw [hL1]; omega) (fun z2 hG2 => ?_)
  rw [wset_set]
  obtain ⟨q2, eq2⟩ : ∃ y, y = pBits q1 a ((pW q1 a).2.1 ++ [(dg >>> ((2 : Int32) &&& 31)) &&& 1]) := ⟨_, rfl⟩
  rw [← eq2] at hG2
  have hL2 : (pW q2 a).2.1.length = (pW q a).2.1.length + 2 := by rw [eq2, pBits_W, List.length_append, hL1]; rfl
  refine ev_ss DX7_say_1 1 2 (pc' := 220) (lv' := [(7, .int 1), (0, .ref _), (1, .int _), (2, .int _), (3, .int _), (4, .int _), (6, .int _)]) (st' := []) rfl ?_
  refine ev_goto DX7_say_1 3 rfl (tgt := 160) (by decide) ?_
  refine ev_ss DX7_say_0 1 87 (pc' := 162) (lv' := [(7, .int 1), (0, .ref _), (1, .int _), (2, .int _), (3, .int _), (4, .int _), (6, .int _)]) (st' := [.int 1]) rfl ?_
  refine ev_iflt DX7_say_0 88 rfl (tgt := 223) (by decide) (fun h => absurd h (by decide)) (fun _ => ?_)
  refine ev_ss DX7_say_0 2 89 (pc' := 168) (lv' := [(7, .int 1), (0, .ref _), (1, .int _), (2, .int _), (3, .int _), (4, .int _), (6, .int _)]) (st' := [.int (-1), .int _]) rfl ?_
  refine ev_iceq DX7_say_0 91 rfl (tgt := 223) (by decide) (fun h => absurd h hd) (fun _ => ?_)
  refine ev_lvp (lv2 := [(0, .ref _), (1, .int _), (2, .int _), (3, .int _), (4, .int _), (6, .int _), (7, .int 1)]) [1, 2, 3, 4, 5, 6, 0] rfl ?_
  refine sy_bit (wset_n h (by decide)) (wset_get hz) ha hG2 (by rw [hL2]; omega) (fun z3 hG3 => ?_)
  rw [wset_set]
  obtain ⟨q3, eq3⟩ : ∃ y, y = pBits q2 a ((pW q2 a).2.1 ++ [(dg >>> ((1 : Int32) &&& 31)) &&& 1]) := ⟨_, rfl⟩
  rw [← eq3] at hG3
  have hL3 : (pW q3 a).2.1.length = (pW q a).2.1.length + 3 := by rw [eq3, pBits_W, List.length_append, hL2]; rfl
  refine ev_ss DX7_say_1 1 2 (pc' := 220) (lv' := [(7, .int 0), (0, .ref _), (1, .int _), (2, .int _), (3, .int _), (4, .int _), (6, .int _)]) (st' := []) rfl ?_
  refine ev_goto DX7_say_1 3 rfl (tgt := 160) (by decide) ?_
  refine ev_ss DX7_say_0 1 87 (pc' := 162) (lv' := [(7, .int 0), (0, .ref _), (1, .int _), (2, .int _), (3, .int _), (4, .int _), (6, .int _)]) (st' := [.int 0]) rfl ?_
  refine ev_iflt DX7_say_0 88 rfl (tgt := 223) (by decide) (fun h => absurd h (by decide)) (fun _ => ?_)
  refine ev_ss DX7_say_0 2 89 (pc' := 168) (lv' := [(7, .int 0), (0, .ref _), (1, .int _), (2, .int _), (3, .int _), (4, .int _), (6, .int _)]) (st' := [.int (-1), .int _]) rfl ?_
  refine ev_iceq DX7_say_0 91 rfl (tgt := 223) (by decide) (fun h => absurd h hd) (fun _ => ?_)
  refine ev_lvp (lv2 := [(0, .ref _), (1, .int _), (2, .int _), (3, .int _), (4, .int _), (6, .int _), (7, .int 0)]) [1, 2, 3, 4, 5, 6, 0] rfl ?_
  refine sy_bit (wset_n h (by decide)) (wset_get hz) ha hG3 (by rw [hL3]; omega) (fun z4 hG4 => ?_)
  rw [wset_set]
  obtain ⟨q4, eq4⟩ : ∃ y, y = pBits q3 a ((pW q3 a).2.1 ++ [(dg >>> ((0 : Int32) &&& 31)) &&& 1]) := ⟨_, rfl⟩
  rw [← eq4] at hG4
  have hL4 : (pW q4 a).2.1.length = (pW q a).2.1.length + 4 := by rw [eq4, pBits_W, List.length_append, hL3]; rfl
  refine ev_ss DX7_say_1 1 2 (pc' := 220) (lv' := [(7, .int (-1)), (0, .ref _), (1, .int _), (2, .int _), (3, .int _), (4, .int _), (6, .int _)]) (st' := []) rfl ?_
  refine ev_goto DX7_say_1 3 rfl (tgt := 160) (by decide) ?_
  refine ev_ss DX7_say_0 1 87 (pc' := 162) (lv' := [(7, .int (-1)), (0, .ref _), (1, .int _), (2, .int _), (3, .int _), (4, .int _), (6, .int _)]) (st' := [.int (-1)]) rfl ?_
  refine ev_iflt DX7_say_0 88 rfl (tgt := 223) (by decide) (fun _ => ?_) (fun h => h.elim (by decide))
  refine ev_lvp (lv2 := [(0, .ref _), (1, .int _), (2, .int _), (3, .int _), (4, .int _)]) [1, 2, 3, 4, 5] rfl ?_
  refine kt z4 ?_
  have e : q4 = pBits q a ((pW q a).2.1 ++ dg4 dg) := by
    rw [eq4, eq3, pBits_W, pBits_2, eq2, pBits_W, pBits_2, eq1, pBits_W, pBits_2]
    unfold dg4
    rw [List.append_assoc, List.append_assoc, List.append_assoc]
    rfl
  rw [← e]
  exact hG4
set_option maxRecDepth 100000 in
set_option maxHeartbeats 4000000 in
theorem m_X7_say_1 {E : gE} {ad : Nat → Nat} {ws : va_W} {p : PS} {sv : Nat → PS} {sc len : Nat} {ch : Nat → Int32} {tw : Int32} {hh : Int64} (hM : ZM E ad ws p sv sc len ch tw hh) (hc : ¬ tzP ch len = 3) : C0 E YX7_say 0 0 [.ref (ad 214)] ws (fun v9 w9 => v9 = some (.int 0) ∧ ZM E ad w9 p sv sc len ch 1 hh ∧ MO ws w9) := by
  obtain ⟨ea, iw, z, rw, as, l, hs, hq, er, bf, ⟨h, hz, hr, has, hl⟩, ⟨hhs, hha, hbf, he⟩, ⟨hG, hLG⟩, hsv, hlen, hch⟩ := id hM
  refine c0V vX7_say (Nat.le_of_ble_eq_true rfl) (lv0 := [(0, .ref (ad 214))]) rfl ?_
  refine ev_ss DX7_say_0 2 0 (pc' := 2) (lv' := [(0, .ref _)]) (st' := [.int 0, .ref _]) rfl ?_
  refine ev_put (fs' := [_, _, _, _, _, _, _, _, _, _, _, _, _, _]) DX7_say_0 2 GX7 rfl (k0 := 9) (Nat.le_of_ble_eq_true rfl) fX7_35 rfl ⟨rfl, rfl⟩ h (Nat.le_of_ble_eq_true rfl) rfl rfl ?_
  refine ev_ss DX7_say_0 1 3 (pc' := 6) (lv' := [(0, .ref _)]) (st' := [.ref _]) rfl ?_
  refine ev_cV DX7_say_0 4 (cd_hs (m_X7_read (wset_get h) (wset_o hbf h rfl) hlen hch) wset_set) vX7_read rfl qX7_156 rfl (wset_get h) rfl (hd_of rfl rfl rfl rfl) ?_
  refine ev_ss DX7_say_0 1 5 (pc' := 10) (lv' := [(0, .ref _)]) (st' := [.ref _]) rfl ?_
  refine ev_get DX7_say_0 6 GX7 rfl (k0 := 12) (Nat.le_of_ble_eq_true rfl) fX7_152 (wset_get h) rfl ?_
  refine ev_ifne DX7_say_0 7 rfl (tgt := 22) (by decide) (fun h => h.elim (if_neg hc)) (fun _ => ?_)
  refine ev_ss DX7_say_0 2 8 (pc' := 18) (lv' := [(0, .ref _)]) (st' := [.int 1, .ref _]) rfl ?_
  refine ev_cV DX7_say_0 10 (cd_hs (m_X7_fails (wset_get h) (wset_o hz h rfl)) wset_set) vX7_fails rfl qX7_53 rfl (wset_get h) rfl (hd_of rfl rfl rfl rfl) ?_
  exact ev_iret DX7_say_0 11 rfl rfl ⟨rfl, hM.ob (wset_get h) (fun j a b => List.getElem?_set_ne (by omega)), MO.set (by decide) (by decide)⟩
set_option maxRecDepth 100000 in
set_option maxHeartbeats 4000000 in
theorem m_X7_say_2 {E : gE} {ad : Nat → Nat} {ws : va_W} {p : PS} {sv : Nat → PS} {sc len : Nat} {ch : Nat → Int32} {tw : Int32} {hh : Int64} (hM : ZM E ad ws p sv sc len ch tw hh) (hc : tzP ch len = 3) (hb : bSy p len ch) : C0 E YX7_say 0 0 [.ref (ad 214)] ws (fun v9 w9 => v9 = some (.int 0) ∧ ZM E ad w9 p sv sc len ch 2 hh ∧ MO ws w9) := by
  obtain ⟨ea, iw, z, rw, as, l, hs, hq, er, bf, ⟨h, hz, hr, has, hl⟩, ⟨hhs, hha, hbf, he⟩, ⟨hG, hLG⟩, hsv, hlen, hch⟩ := id hM
  refine c0V vX7_say (Nat.le_of_ble_eq_true rfl) (lv0 := [(0, .ref (ad 214))]) rfl ?_
  by_cases q1 : 256 < nI p.2.2.2.1.2.1.length + bfT ch 0 len
  · refine ev_ss DX7_say_0 2 0 (pc' := 2) (lv' := [(0, .ref _)]) (st' := [.int 0, .ref _]) rfl ?_
    refine ev_put (fs' := [_, _, _, _, _, _, _, _, _, _, _, _, _, _]) DX7_say_0 2 GX7 rfl (k0 := 9) (Nat.le_of_ble_eq_true rfl) fX7_35 rfl ⟨rfl, rfl⟩ h (Nat.le_of_ble_eq_true rfl) rfl rfl ?_
    refine ev_ss DX7_say_0 1 3 (pc' := 6) (lv' := [(0, .ref _)]) (st' := [.ref _]) rfl ?_
    refine ev_cV DX7_say_0 4 (cd_hs (m_X7_read (wset_get h) (wset_o hbf h rfl) hlen hch) wset_set) vX7_read rfl qX7_156 rfl (wset_get h) rfl (hd_of rfl rfl rfl rfl) ?_
    refine ev_ss DX7_say_0 1 5 (pc' := 10) (lv' := [(0, .ref _)]) (st' := [.ref _]) rfl ?_
    refine ev_get DX7_say_0 6 GX7 rfl (k0 := 12) (Nat.le_of_ble_eq_true rfl) fX7_152 (wset_get h) rfl ?_
    refine ev_ifne DX7_say_0 7 rfl (tgt := 22) (by decide) (fun _ => ?_) (fun h => absurd h (by rw [if_pos hc]; decide))
    refine ev_ss DX7_say_0 2 12 (pc' := 24) (lv' := [(0, .ref _)]) (st' := [.int 0, .ref _]) rfl ?_
    refine ev_cV DX7_say_0 14 (m_X7_saidOn (wset_get h) (wset_o hbf h rfl) hlen hch hc) vX7_saidOn rfl qX7_159 rfl (wset_get h) rfl (hd_of rfl rfl rfl rfl) ?_
    refine ev_ss DX7_say_0 3 15 (pc' := 30) (lv' := [(1, .int _), (0, .ref _)]) (st' := [.int 1, .ref _]) rfl ?_
    refine ev_cV DX7_say_0 18 (m_X7_saidOn (wset_get h) (wset_o hbf h rfl) hlen hch hc) vX7_saidOn rfl qX7_159 rfl (wset_get h) rfl (hd_of rfl rfl rfl rfl) ?_
    refine ev_ss DX7_say_0 2 19 (pc' := 35) (lv' := [(2, .int _), (1, .int _), (0, .ref _)]) (st' := [.ref _]) rfl ?_
    refine ev_get DX7_say_0 21 GX7 rfl (k0 := 0) (Nat.le_of_ble_eq_true rfl) fX7_7 (wset_get h) rfl ?_
    refine ev_ss DX7_say_0 1 22 (pc' := 41) (lv' := [(2, .int _), (1, .int _), (0, .ref _)]) (st' := [.int 800, .ref _]) rfl ?_
    refine ev_ialdv DX7_say_0 23 (k0 := 800) rfl (wset_o hz h rfl) rfl (by omega) (by decide) ((hG.2.2.2.1 0 (by decide)).2.1) ?_
    refine ev_ss DX7_say_0 3 24 (pc' := 47) (lv' := [(2, .int _), (1, .int _), (0, .ref _)]) (st' := [.int 256, .int _]) rfl ?_
    refine ev_icgt DX7_say_0 27 rfl (tgt := 66) (by decide) (fun _ => ?_) (fun h => h.elim q1)
    refine ev_ss DX7_say_0 2 36 (pc' := 68) (lv' := [(2, .int _), (1, .int _), (0, .ref _)]) (st' := [.int 2, .ref _]) rfl ?_
    refine ev_cV DX7_say_0 38 (cd_hs (m_X7_fails (wset_get h) (wset_o hz h rfl)) wset_set) vX7_fails rfl qX7_53 rfl (wset_get h) rfl (hd_of rfl rfl rfl rfl) ?_
    exact ev_iret DX7_say_0 39 rfl rfl ⟨rfl, hM.ob (wset_get h) (fun j a b => List.getElem?_set_ne (by omega)), MO.set (by decide) (by decide)⟩
  · refine ev_ss DX7_say_0 2 0 (pc' := 2) (lv' := [(0, .ref _)]) (st' := [.int 0, .ref _]) rfl ?_
    refine ev_put (fs' := [_, _, _, _, _, _, _, _, _, _, _, _, _, _]) DX7_say_0 2 GX7 rfl (k0 := 9) (Nat.le_of_ble_eq_true rfl) fX7_35 rfl ⟨rfl, rfl⟩ h (Nat.le_of_ble_eq_true rfl) rfl rfl ?_
    refine ev_ss DX7_say_0 1 3 (pc' := 6) (lv' := [(0, .ref _)]) (st' := [.ref _]) rfl ?_
    refine ev_cV DX7_say_0 4 (cd_hs (m_X7_read (wset_get h) (wset_o hbf h rfl) hlen hch) wset_set) vX7_read rfl qX7_156 rfl (wset_get h) rfl (hd_of rfl rfl rfl rfl) ?_
    refine ev_ss DX7_say_0 1 5 (pc' := 10) (lv' := [(0, .ref _)]) (st' := [.ref _]) rfl ?_
    refine ev_get DX7_say_0 6 GX7 rfl (k0 := 12) (Nat.le_of_ble_eq_true rfl) fX7_152 (wset_get h) rfl ?_
    refine ev_ifne DX7_say_0 7 rfl (tgt := 22) (by decide) (fun _ => ?_) (fun h => absurd h (by rw [if_pos hc]; decide))
    refine ev_ss DX7_say_0 2 12 (pc' := 24) (lv' := [(0, .ref _)]) (st' := [.int 0, .ref _]) rfl ?_
    refine ev_cV DX7_say_0 14 (m_X7_saidOn (wset_get h) (wset_o hbf h rfl) hlen hch hc) vX7_saidOn rfl qX7_159 rfl (wset_get h) rfl (hd_of rfl rfl rfl rfl) ?_
    refine ev_ss DX7_say_0 3 15 (pc' := 30) (lv' := [(1, .int _), (0, .ref _)]) (st' := [.int 1, .ref _]) rfl ?_
    refine ev_cV DX7_say_0 18 (m_X7_saidOn (wset_get h) (wset_o hbf h rfl) hlen hch hc) vX7_saidOn rfl qX7_159 rfl (wset_get h) rfl (hd_of rfl rfl rfl rfl) ?_
    refine ev_ss DX7_say_0 2 19 (pc' := 35) (lv' := [(2, .int _), (1, .int _), (0, .ref _)]) (st' := [.ref _]) rfl ?_
    refine ev_get DX7_say_0 21 GX7 rfl (k0 := 0) (Nat.le_of_ble_eq_true rfl) fX7_7 (wset_get h) rfl ?_
    refine ev_ss DX7_say_0 1 22 (pc' := 41) (lv' := [(2, .int _), (1, .int _), (0, .ref _)]) (st' := [.int 800, .ref _]) rfl ?_
    refine ev_ialdv DX7_say_0 23 (k0 := 800) rfl (wset_o hz h rfl) rfl (by omega) (by decide) ((hG.2.2.2.1 0 (by decide)).2.1) ?_
    refine ev_ss DX7_say_0 3 24 (pc' := 47) (lv' := [(2, .int _), (1, .int _), (0, .ref _)]) (st' := [.int 256, .int _]) rfl ?_
    refine ev_icgt DX7_say_0 27 rfl (tgt := 66) (by decide) (fun h => absurd h q1) (fun _ => ?_)
    refine ev_ss DX7_say_0 1 28 (pc' := 51) (lv' := [(2, .int _), (1, .int _), (0, .ref _)]) (st' := [.ref _]) rfl ?_
    refine ev_get DX7_say_0 29 GX7 rfl (k0 := 0) (Nat.le_of_ble_eq_true rfl) fX7_7 (wset_get h) rfl ?_
    refine ev_ss DX7_say_0 1 30 (pc' := 57) (lv' := [(2, .int _), (1, .int _), (0, .ref _)]) (st' := [.int 801, .ref _]) rfl ?_
    refine ev_ialdv DX7_say_0 31 (k0 := 801) rfl (wset_o hz h rfl) rfl (by omega) (by decide) ((hG.2.2.2.1 1 (by decide)).2.1) ?_
    refine ev_ss DX7_say_0 3 32 (pc' := 63) (lv' := [(2, .int _), (1, .int _), (0, .ref _)]) (st' := [.int 256, .int _]) rfl ?_
    refine ev_icle DX7_say_0 35 rfl (tgt := 72) (by decide) (fun h => absurd h (Int32.not_le.mpr (hb.resolve_left q1))) (fun _ => ?_)
    refine ev_ss DX7_say_0 2 36 (pc' := 68) (lv' := [(2, .int _), (1, .int _), (0, .ref _)]) (st' := [.int 2, .ref _]) rfl ?_
    refine ev_cV DX7_say_0 38 (cd_hs (m_X7_fails (wset_get h) (wset_o hz h rfl)) wset_set) vX7_fails rfl qX7_53 rfl (wset_get h) rfl (hd_of rfl rfl rfl rfl) ?_
    exact ev_iret DX7_say_0 39 rfl rfl ⟨rfl, hM.ob (wset_get h) (fun j a b => List.getElem?_set_ne (by omega)), MO.set (by decide) (by decide)⟩
theorem pSay_s {p : PS} {i a : Nat} {ch : Nat → Int32} (ha : a < 2) (ht : tzP ch (i + 1) = 3) (hw : wnP ch (i + 1) = nI a) : pSay p (i + 1) ch = pBits (pSay p i ch) a ((pW (pSay p i ch) a).2.1 ++ dg4 (dgP (ch i))) := by
  unfold pSay
  rw [pbP_s, if_pos ht, hw]
  rcases (show a = 0 ∨ a = 1 by omega) with rfl | rfl
  · rw [if_pos nI_0]
    rfl
  · rw [if_neg (nI_ne0 (by decide) (by decide))]
    rfl
theorem pSay_k {p : PS} {i : Nat} {ch : Nat → Int32} (ht : ¬ tzP ch (i + 1) = 3) : pSay p (i + 1) ch = pSay p i ch := by
  unfold pSay
  rw [pbP_s, if_neg ht]
theorem LG.say {l : Nat → Int64} {p : PS} {i : Nat} {ch : Nat → Int32} (h : LG l p) : LG l (pSay p i ch) := fun b hb => by
  rcases (show b = 0 ∨ b = 1 by omega) with rfl | rfl
  · exact h 0 hb
  · exact h 1 hb
set_option maxRecDepth 100000 in
set_option maxHeartbeats 4000000 in
theorem m_X7_say_ok {E : gE} {ad : Nat → Nat} {ws : va_W} {p : PS} {sv : Nat → PS} {sc len : Nat} {ch : Nat → Int32} {tw : Int32} {hh : Int64} (hM : ZM E ad ws p sv sc len ch tw hh) (hc : tzP ch len = 3) (hb : ¬ bSy p len ch) (hsc : sc ≤ 6) : C0 E YX7_say 0 0 [.ref (ad 214)] ws (fun v9 w9 => v9 = some (.int (bfT ch 0 len + bfT ch 1 len)) ∧ ZM E ad w9 (pSay p len ch) (svN p sv sc) (scN sc) 0 ch 0 hh ∧ MO ws w9) := by
  obtain ⟨ea, iw, z, rw, as, l, hs, hq, er, bf, ⟨h, hz, hr, has, hl⟩, ⟨hhs, hha, hbf, he⟩, ⟨hG, hLG⟩, hsv, hlen, hch⟩ := id hM
  have hb0 : ¬ 256 < nI p.2.2.2.1.2.1.length + bfT ch 0 len := fun e => hb (Or.inl e)
  have hb1 : ¬ 256 < nI p.2.2.2.2.2.1.length + bfT ch 1 len := fun e => hb (Or.inr e)
  have hcap := pb_cap hlen (hG.2.2.2.1 0 (by decide)).1 (hG.2.2.2.1 1 (by decide)).1 hb0 hb1
  refine c0V vX7_say (Nat.le_of_ble_eq_true rfl) (lv0 := [(0, .ref (ad 214))]) rfl ?_
  refine ev_ss DX7_say_0 2 0 (pc' := 2) (lv' := [(0, .ref _)]) (st' := [.int 0, .ref _]) rfl ?_
  refine ev_put (fs' := [_, _, _, _, _, _, _, _, _, _, _, _, _, _]) DX7_say_0 2 GX7 rfl (k0 := 9) (Nat.le_of_ble_eq_true rfl) fX7_35 rfl ⟨rfl, rfl⟩ h (Nat.le_of_ble_eq_true rfl) rfl rfl ?_
  refine ev_ss DX7_say_0 1 3 (pc' := 6) (lv' := [(0, .ref _)]) (st' := [.ref _]) rfl ?_
  refine ev_cV DX7_say_0 4 (cd_hs (m_X7_read (wset_get h) (wset_o hbf h rfl) hlen hch) wset_set) vX7_read rfl qX7_156 rfl (wset_get h) rfl (hd_of rfl rfl rfl rfl) ?_
  refine ev_ss DX7_say_0 1 5 (pc' := 10) (lv' := [(0, .ref _)]) (st' := [.ref _]) rfl ?_
  refine ev_get DX7_say_0 6 GX7 rfl (k0 := 12) (Nat.le_of_ble_eq_true rfl) fX7_152 (wset_get h) rfl ?_
  refine ev_ifne DX7_say_0 7 rfl (tgt := 22) (by decide) (fun _ => ?_) (fun h => absurd h (by rw [if_pos hc]; decide))
  refine ev_ss DX7_say_0 2 12 (pc' := 24) (lv' := [(0, .ref _)]) (st' := [.int 0, .ref _]) rfl ?_
  refine ev_cV DX7_say_0 14 (m_X7_saidOn (wset_get h) (wset_o hbf h rfl) hlen hch hc) vX7_saidOn rfl qX7_159 rfl (wset_get h) rfl (hd_of rfl rfl rfl rfl) ?_
  refine ev_ss DX7_say_0 3 15 (pc' := 30) (lv' := [(1, .int _), (0, .ref _)]) (st' := [.int 1, .ref _]) rfl ?_
  refine ev_cV DX7_say_0 18 (m_X7_saidOn (wset_get h) (wset_o hbf h rfl) hlen hch hc) vX7_saidOn rfl qX7_159 rfl (wset_get h) rfl (hd_of rfl rfl rfl rfl) ?_
  refine ev_ss DX7_say_0 2 19 (pc' := 35) (lv' := [(2, .int _), (1, .int _), (0, .ref _)]) (st' := [.ref _]) rfl ?_
  refine ev_get DX7_say_0 21 GX7 rfl (k0 := 0) (Nat.le_of_ble_eq_true rfl) fX7_7 (wset_get h) rfl ?_
  refine ev_ss DX7_say_0 1 22 (pc' := 41) (lv' := [(2, .int _), (1, .int _), (0, .ref _)]) (st' := [.int 800, .ref _]) rfl ?_
  refine ev_ialdv DX7_say_0 23 (k0 := 800) rfl (wset_o hz h rfl) rfl (by omega) (by decide) ((hG.2.2.2.1 0 (by decide)).2.1) ?_
  refine ev_ss DX7_say_0 3 24 (pc' := 47) (lv' := [(2, .int _), (1, .int _), (0, .ref _)]) (st' := [.int 256, .int _]) rfl ?_
  refine ev_icgt DX7_say_0 27 rfl (tgt := 66) (by decide) (fun h => absurd h hb0) (fun _ => ?_)
  refine ev_ss DX7_say_0 1 28 (pc' := 51) (lv' := [(2, .int _), (1, .int _), (0, .ref _)]) (st' := [.ref _]) rfl ?_
  refine ev_get DX7_say_0 29 GX7 rfl (k0 := 0) (Nat.le_of_ble_eq_true rfl) fX7_7 (wset_get h) rfl ?_
  refine ev_ss DX7_say_0 1 30 (pc' := 57) (lv' := [(2, .int _), (1, .int _), (0, .ref _)]) (st' := [.int 801, .ref _]) rfl ?_
  refine ev_ialdv DX7_say_0 31 (k0 := 801) rfl (wset_o hz h rfl) rfl (by omega) (by decide) ((hG.2.2.2.1 1 (by decide)).2.1) ?_
  refine ev_ss DX7_say_0 3 32 (pc' := 63) (lv' := [(2, .int _), (1, .int _), (0, .ref _)]) (st' := [.int 256, .int _]) rfl ?_
  refine ev_icle DX7_say_0 35 rfl (tgt := 72) (by decide) (fun _ => ?_) (fun h => h.elim (Int32.not_lt.mp hb1))
  refine ev_ss DX7_say_0 1 40 (pc' := 73) (lv' := [(2, .int _), (1, .int _), (0, .ref _)]) (st' := [.ref _]) rfl ?_
  refine ev_rV DX7_say_0 41 (m_X7_save (hM.ob (wset_get h) (fun j a b => List.getElem?_set_ne (by omega))) hsc) vX7_save rfl qX7_61 rfl (wset_get h) rfl (hd_of rfl rfl rfl rfl) (fun v w hvw => ?_)
  obtain ⟨rfl, hM2, hO2⟩ := hvw
  obtain ⟨ea2, iw2, z2, rw2, as2, l2, hs2, hq2, er2, bf2, ⟨h2, hz2, hr2, has2, hl2⟩, ⟨hhs2, hha2, hbf2, he2⟩, ⟨hG2, hLG2⟩, hsv2, hlen2, hch2⟩ := id hM2
  refine ev_ss DX7_say_0 4 42 (pc' := 81) (lv' := [(4, .int 0), (3, .int 0), (2, .int _), (1, .int _), (0, .ref _)]) (st' := []) rfl ?_
  refine ev_lvp (lv2 := [(0, .ref _), (1, .int _), (2, .int _), (3, .int _), (4, .int _)]) [4, 3, 2, 1, 0] rfl ?_
  suffices K : ∀ (m i : Nat) (x : Int32) (w1 : va_W) (z1 : Nat → Int32), i + m = len → x = nI i → w1[215]? = some (ad 215, iaC E 811 z1) → ZG z1 (pSay p i ch) → (∀ j, j ≠ 215 → w1[j]? = w[j]?) → Ev E YX7_say (fun v9 w9 => v9 = some (.int (bfT ch 0 len + bfT ch 1 len)) ∧ ZM E ad w9 (pSay p len ch) (svN p sv sc) (scN sc) 0 ch 0 hh ∧ MO ws w9) nX 0 0 81 [(0, .ref (ad 214)), (1, .int (bfT ch 0 len)), (2, .int (bfT ch 1 len)), (3, .int (wnP ch i)), (4, .int x)] [] w1 by
    exact K len 0 _ w z2 (Nat.zero_add _) nI_0.symm hz2 hG2 (fun _ _ => rfl)
  intro m
  induction m with
  | zero =>
    intro i x w1 z1 hm hx hz1 hg1 hO1
    obtain rfl : i = len := by omega
    subst hx
    have h1 := (hO1 214 (by decide)).trans h2
    refine ev_ss DX7_say_0 2 46 (pc' := 84) (lv' := [(0, .ref _), (1, .int _), (2, .int _), (3, .int _), (4, .int _)]) (st' := [.ref _, .int _]) rfl ?_
    refine ev_get DX7_say_0 48 GX7 rfl (k0 := 8) (Nat.le_of_ble_eq_true rfl) fX7_140 h1 rfl ?_
    refine ev_icge DX7_say_0 49 rfl (tgt := 229) (by decide) (fun _ => ?_) (fun h => h.elim (nI_le (Nat.le_refl _) (by omega)))
    refine ev_ss DX7_say_1 2 6 (pc' := 231) (lv' := [(0, .ref _), (1, .int _), (2, .int _), (3, .int _), (4, .int _)]) (st' := [.int 0, .ref _]) rfl ?_
    refine ev_put (fs' := [_, _, _, _, _, _, _, _, _, _, _, _, _, _]) DX7_say_1 8 GX7 rfl (k0 := 8) (Nat.le_of_ble_eq_true rfl) fX7_140 rfl ⟨rfl, rfl⟩ h1 (Nat.le_of_ble_eq_true rfl) rfl rfl ?_
    refine ev_ss DX7_say_1 3 9 (pc' := 237) (lv' := [(0, .ref _), (1, .int _), (2, .int _), (3, .int _), (4, .int _)]) (st' := [.int _]) rfl ?_
    exact ev_iret DX7_say_1 12 rfl rfl ⟨rfl, ⟨ea2, iw2, z1, rw2, as2, l2, hs2, hq2, er2, bf2, ⟨wset_get h1, (List.getElem?_set_ne (by decide)).trans hz1, (List.getElem?_set_ne (by decide)).trans ((hO1 216 (by decide)).trans hr2), (List.getElem?_set_ne (by decide)).trans ((hO1 217 (by decide)).trans has2), (List.getElem?_set_ne (by decide)).trans ((hO1 218 (by decide)).trans hl2)⟩, ⟨(List.getElem?_set_ne (by decide)).trans ((hO1 219 (by decide)).trans hhs2), (List.getElem?_set_ne (by decide)).trans ((hO1 220 (by decide)).trans hha2), (List.getElem?_set_ne (by decide)).trans ((hO1 221 (by decide)).trans hbf2), (List.getElem?_set_ne (by decide)).trans ((hO1 222 (by decide)).trans he2)⟩, ⟨hg1, hLG2.say⟩, hsv2, Nat.zero_le _, fun j hj => absurd hj (Nat.not_lt_zero j)⟩, fun j hj => (List.getElem?_set_ne (by omega)).trans ((hO1 j (by omega)).trans ((hO2 j hj).trans (List.getElem?_set_ne (by omega))))⟩
  | succ m ih =>
    intro i x w1 z1 hm hx hz1 hg1 hO1
    subst hx
    have h1 := (hO1 214 (by decide)).trans h2
    have hbb := (hO1 221 (by decide)).trans hbf2
    have t1 := tb_dg hc (n := i) (by omega)
    have hws := wnP_s (ch := ch) (n := i)
    have t2 : i ≠ 0 → (bf2 (i - 1) = 59 → tzP ch i = 0) ∧ (¬ bf2 (i - 1) = 59 → ¬ tzP ch i = 0) := fun h0 => by
      have e := tb_59 hc (n := i - 1) (by omega)
      rw [show i - 1 + 1 = i by omega] at e
      rw [hch2 (i - 1) (by omega)]
      exact e
    by_cases q1 : tzP ch i = 0
    · by_cases q0 : i = 0
      · refine ev_ss DX7_say_0 2 46 (pc' := 84) (lv' := [(0, .ref _), (1, .int _), (2, .int _), (3, .int _), (4, .int _)]) (st' := [.ref _, .int _]) rfl ?_
        refine ev_get DX7_say_0 48 GX7 rfl (k0 := 8) (Nat.le_of_ble_eq_true rfl) fX7_140 h1 rfl ?_
        refine ev_icge DX7_say_0 49 rfl (tgt := 229) (by decide) (fun h => absurd h (nI_ge (b := len) (by omega) (by omega))) (fun _ => ?_)
        refine ev_ss DX7_say_0 1 50 (pc' := 92) (lv' := [(0, .ref _), (1, .int _), (2, .int _), (3, .int _), (4, .int _)]) (st' := [.int _]) rfl ?_
        refine ev_ifeq DX7_say_0 51 rfl (tgt := 109) (by decide) (fun _ => ?_) (fun h => h.elim (by rw [q0]; rfl))
        refine ev_ss DX7_say_0 1 60 (pc' := 110) (lv' := [(0, .ref _), (1, .int _), (2, .int _), (3, .int _), (4, .int _)]) (st' := [.int 1]) rfl ?_
        refine ev_goto DX7_say_0 61 rfl (tgt := 114) (by decide) ?_
        refine ev_ss DX7_say_0 2 63 (pc' := 118) (lv' := [(5, .int 1), (0, .ref _), (1, .int _), (2, .int _), (3, .int _), (4, .int _)]) (st' := [.int 1]) rfl ?_
        refine ev_ifeq DX7_say_0 65 rfl (tgt := 134) (by decide) (fun h => absurd h (by decide)) (fun _ => ?_)
        refine ev_ss DX7_say_0 1 66 (pc' := 122) (lv' := [(5, .int 1), (0, .ref _), (1, .int _), (2, .int _), (3, .int _), (4, .int _)]) (st' := [.ref _]) rfl ?_
        refine ev_get DX7_say_0 67 GX7 rfl (k0 := 7) (Nat.le_of_ble_eq_true rfl) fX7_29 h1 rfl ?_
        refine ev_ss DX7_say_0 1 68 (pc' := 127) (lv' := [(5, .int 1), (0, .ref _), (1, .int _), (2, .int _), (3, .int _), (4, .int _)]) (st' := [.int _, .ref _]) rfl ?_
        refine ev_ialdv DX7_say_0 69 (k0 := i) rfl hbb rfl (by omega) (by decide) ((hch2 i (by omega))) ?_
        refine ev_ss DX7_say_0 2 70 (pc' := 131) (lv' := [(5, .int 1), (0, .ref _), (1, .int _), (2, .int _), (3, .int _), (4, .int _)]) (st' := [.int _]) rfl ?_
        refine ev_goto DX7_say_0 72 rfl (tgt := 135) (by decide) ?_
        refine ev_ss DX7_say_0 2 74 (pc' := 138) (lv' := [(3, .int _), (5, .int 1), (0, .ref _), (1, .int _), (2, .int _), (4, .int _)]) (st' := [.int 1]) rfl ?_
        refine ev_ifeq DX7_say_0 76 rfl (tgt := 145) (by decide) (fun h => absurd h (by decide)) (fun _ => ?_)
        refine ev_ss DX7_say_0 1 77 (pc' := 142) (lv' := [(3, .int _), (5, .int 1), (0, .ref _), (1, .int _), (2, .int _), (4, .int _)]) (st' := [.int (-1)]) rfl ?_
        refine ev_goto DX7_say_0 78 rfl (tgt := 155) (by decide) ?_
        refine ev_ss DX7_say_0 4 84 (pc' := 162) (lv' := [(7, .int 3), (6, .int (-1)), (3, .int _), (5, .int 1), (0, .ref _), (1, .int _), (2, .int _), (4, .int _)]) (st' := [.int 3]) rfl ?_
        refine ev_iflt DX7_say_0 88 rfl (tgt := 223) (by decide) (fun h => absurd h (by decide)) (fun _ => ?_)
        refine ev_ss DX7_say_0 2 89 (pc' := 168) (lv' := [(7, .int 3), (6, .int (-1)), (3, .int _), (5, .int 1), (0, .ref _), (1, .int _), (2, .int _), (4, .int _)]) (st' := [.int (-1), .int (-1)]) rfl ?_
        refine ev_iceq DX7_say_0 91 rfl (tgt := 223) (by decide) (fun _ => ?_) (fun h => h.elim (by decide))
        refine ev_ss DX7_say_1 1 4 (pc' := 226) (lv' := [(4, .int _), (7, .int 3), (6, .int (-1)), (3, .int _), (5, .int 1), (0, .ref _), (1, .int _), (2, .int _)]) (st' := []) rfl ?_
        refine ev_goto DX7_say_1 5 rfl (tgt := 81) (by decide) ?_
        refine ev_lvp (lv2 := [(0, .ref _), (1, .int _), (2, .int _), (3, .int _), (4, .int _)]) [5, 6, 7, 3, 0] rfl ?_
        have e9 := ih (i + 1) _ w1 z1 (by omega) (nI_1 i) hz1 (by rw [pSay_k (t1.1 q1)]; exact hg1) hO1
        rw [hws, if_pos q1] at e9
        exact e9
      · have q3 : bf2 (i - 1) = 59 := Decidable.byContradiction (fun e => (t2 q0).2 e q1)
        refine ev_ss DX7_say_0 2 46 (pc' := 84) (lv' := [(0, .ref _), (1, .int _), (2, .int _), (3, .int _), (4, .int _)]) (st' := [.ref _, .int _]) rfl ?_
        refine ev_get DX7_say_0 48 GX7 rfl (k0 := 8) (Nat.le_of_ble_eq_true rfl) fX7_140 h1 rfl ?_
        refine ev_icge DX7_say_0 49 rfl (tgt := 229) (by decide) (fun h => absurd h (nI_ge (b := len) (by omega) (by omega))) (fun _ => ?_)
        refine ev_ss DX7_say_0 1 50 (pc' := 92) (lv' := [(0, .ref _), (1, .int _), (2, .int _), (3, .int _), (4, .int _)]) (st' := [.int _]) rfl ?_
        refine ev_ifeq DX7_say_0 51 rfl (tgt := 109) (by decide) (fun h => absurd h (nI_ne0 (by omega) (by omega))) (fun _ => ?_)
        refine ev_ss DX7_say_0 1 52 (pc' := 96) (lv' := [(0, .ref _), (1, .int _), (2, .int _), (3, .int _), (4, .int _)]) (st' := [.ref _]) rfl ?_
        refine ev_get DX7_say_0 53 GX7 rfl (k0 := 7) (Nat.le_of_ble_eq_true rfl) fX7_29 h1 rfl ?_
        refine ev_ss DX7_say_0 3 54 (pc' := 103) (lv' := [(0, .ref _), (1, .int _), (2, .int _), (3, .int _), (4, .int _)]) (st' := [.int _, .ref _]) rfl ?_
        refine ev_ialdv DX7_say_0 57 (k0 := (i - 1)) rfl hbb (nx_sub (a := i) (b := 1) rfl rfl (by omega)) (by omega) (by decide) (rfl) ?_
        refine ev_ss DX7_say_0 1 58 (pc' := 106) (lv' := [(0, .ref _), (1, .int _), (2, .int _), (3, .int _), (4, .int _)]) (st' := [.int 59, .int _]) rfl ?_
        refine ev_icne DX7_say_0 59 rfl (tgt := 113) (by decide) (fun h => h.elim q3) (fun _ => ?_)
        refine ev_ss DX7_say_0 1 60 (pc' := 110) (lv' := [(0, .ref _), (1, .int _), (2, .int _), (3, .int _), (4, .int _)]) (st' := [.int 1]) rfl ?_
        refine ev_goto DX7_say_0 61 rfl (tgt := 114) (by decide) ?_
        refine ev_ss DX7_say_0 2 63 (pc' := 118) (lv' := [(5, .int 1), (0, .ref _), (1, .int _), (2, .int _), (3, .int _), (4, .int _)]) (st' := [.int 1]) rfl ?_
        refine ev_ifeq DX7_say_0 65 rfl (tgt := 134) (by decide) (fun h => absurd h (by decide)) (fun _ => ?_)
        refine ev_ss DX7_say_0 1 66 (pc' := 122) (lv' := [(5, .int 1), (0, .ref _), (1, .int _), (2, .int _), (3, .int _), (4, .int _)]) (st' := [.ref _]) rfl ?_
        refine ev_get DX7_say_0 67 GX7 rfl (k0 := 7) (Nat.le_of_ble_eq_true rfl) fX7_29 h1 rfl ?_
        refine ev_ss DX7_say_0 1 68 (pc' := 127) (lv' := [(5, .int 1), (0, .ref _), (1, .int _), (2, .int _), (3, .int _), (4, .int _)]) (st' := [.int _, .ref _]) rfl ?_
        refine ev_ialdv DX7_say_0 69 (k0 := i) rfl hbb rfl (by omega) (by decide) ((hch2 i (by omega))) ?_
        refine ev_ss DX7_say_0 2 70 (pc' := 131) (lv' := [(5, .int 1), (0, .ref _), (1, .int _), (2, .int _), (3, .int _), (4, .int _)]) (st' := [.int _]) rfl ?_
        refine ev_goto DX7_say_0 72 rfl (tgt := 135) (by decide) ?_
        refine ev_ss DX7_say_0 2 74 (pc' := 138) (lv' := [(3, .int _), (5, .int 1), (0, .ref _), (1, .int _), (2, .int _), (4, .int _)]) (st' := [.int 1]) rfl ?_
        refine ev_ifeq DX7_say_0 76 rfl (tgt := 145) (by decide) (fun h => absurd h (by decide)) (fun _ => ?_)
        refine ev_ss DX7_say_0 1 77 (pc' := 142) (lv' := [(3, .int _), (5, .int 1), (0, .ref _), (1, .int _), (2, .int _), (4, .int _)]) (st' := [.int (-1)]) rfl ?_
        refine ev_goto DX7_say_0 78 rfl (tgt := 155) (by decide) ?_
        refine ev_ss DX7_say_0 4 84 (pc' := 162) (lv' := [(7, .int 3), (6, .int (-1)), (3, .int _), (5, .int 1), (0, .ref _), (1, .int _), (2, .int _), (4, .int _)]) (st' := [.int 3]) rfl ?_
        refine ev_iflt DX7_say_0 88 rfl (tgt := 223) (by decide) (fun h => absurd h (by decide)) (fun _ => ?_)
        refine ev_ss DX7_say_0 2 89 (pc' := 168) (lv' := [(7, .int 3), (6, .int (-1)), (3, .int _), (5, .int 1), (0, .ref _), (1, .int _), (2, .int _), (4, .int _)]) (st' := [.int (-1), .int (-1)]) rfl ?_
        refine ev_iceq DX7_say_0 91 rfl (tgt := 223) (by decide) (fun _ => ?_) (fun h => h.elim (by decide))
        refine ev_ss DX7_say_1 1 4 (pc' := 226) (lv' := [(4, .int _), (7, .int 3), (6, .int (-1)), (3, .int _), (5, .int 1), (0, .ref _), (1, .int _), (2, .int _)]) (st' := []) rfl ?_
        refine ev_goto DX7_say_1 5 rfl (tgt := 81) (by decide) ?_
        refine ev_lvp (lv2 := [(0, .ref _), (1, .int _), (2, .int _), (3, .int _), (4, .int _)]) [5, 6, 7, 3, 0] rfl ?_
        have e9 := ih (i + 1) _ w1 z1 (by omega) (nI_1 i) hz1 (by rw [pSay_k (t1.1 q1)]; exact hg1) hO1
        rw [hws, if_pos q1] at e9
        exact e9
    · have q0 : i ≠ 0 := fun e => q1 (by rw [e]; rfl)
      have q3 : ¬ bf2 (i - 1) = 59 := fun e => q1 ((t2 q0).1 e)
      by_cases q4 : dgP (ch i) = -1
      · refine ev_ss DX7_say_0 2 46 (pc' := 84) (lv' := [(0, .ref _), (1, .int _), (2, .int _), (3, .int _), (4, .int _)]) (st' := [.ref _, .int _]) rfl ?_
        refine ev_get DX7_say_0 48 GX7 rfl (k0 := 8) (Nat.le_of_ble_eq_true rfl) fX7_140 h1 rfl ?_
        refine ev_icge DX7_say_0 49 rfl (tgt := 229) (by decide) (fun h => absurd h (nI_ge (b := len) (by omega) (by omega))) (fun _ => ?_)
        refine ev_ss DX7_say_0 1 50 (pc' := 92) (lv' := [(0, .ref _), (1, .int _), (2, .int _), (3, .int _), (4, .int _)]) (st' := [.int _]) rfl ?_
        refine ev_ifeq DX7_say_0 51 rfl (tgt := 109) (by decide) (fun h => absurd h (nI_ne0 (by omega) (by omega))) (fun _ => ?_)
        refine ev_ss DX7_say_0 1 52 (pc' := 96) (lv' := [(0, .ref _), (1, .int _), (2, .int _), (3, .int _), (4, .int _)]) (st' := [.ref _]) rfl ?_
        refine ev_get DX7_say_0 53 GX7 rfl (k0 := 7) (Nat.le_of_ble_eq_true rfl) fX7_29 h1 rfl ?_
        refine ev_ss DX7_say_0 3 54 (pc' := 103) (lv' := [(0, .ref _), (1, .int _), (2, .int _), (3, .int _), (4, .int _)]) (st' := [.int _, .ref _]) rfl ?_
        refine ev_ialdv DX7_say_0 57 (k0 := (i - 1)) rfl hbb (nx_sub (a := i) (b := 1) rfl rfl (by omega)) (by omega) (by decide) (rfl) ?_
        refine ev_ss DX7_say_0 1 58 (pc' := 106) (lv' := [(0, .ref _), (1, .int _), (2, .int _), (3, .int _), (4, .int _)]) (st' := [.int 59, .int _]) rfl ?_
        refine ev_icne DX7_say_0 59 rfl (tgt := 113) (by decide) (fun _ => ?_) (fun h => absurd h q3)
        refine ev_ss DX7_say_0 3 62 (pc' := 118) (lv' := [(5, .int 0), (0, .ref _), (1, .int _), (2, .int _), (3, .int _), (4, .int _)]) (st' := [.int 0]) rfl ?_
        refine ev_ifeq DX7_say_0 65 rfl (tgt := 134) (by decide) (fun _ => ?_) (fun h => h.elim (by decide))
        refine ev_ss DX7_say_0 3 73 (pc' := 138) (lv' := [(3, .int _), (5, .int 0), (0, .ref _), (1, .int _), (2, .int _), (4, .int _)]) (st' := [.int 0]) rfl ?_
        refine ev_ifeq DX7_say_0 76 rfl (tgt := 145) (by decide) (fun _ => ?_) (fun h => h.elim (by decide))
        refine ev_ss DX7_say_0 1 79 (pc' := 146) (lv' := [(3, .int _), (5, .int 0), (0, .ref _), (1, .int _), (2, .int _), (4, .int _)]) (st' := [.ref _]) rfl ?_
        refine ev_get DX7_say_0 80 GX7 rfl (k0 := 7) (Nat.le_of_ble_eq_true rfl) fX7_29 h1 rfl ?_
        refine ev_ss DX7_say_0 1 81 (pc' := 151) (lv' := [(3, .int _), (5, .int 0), (0, .ref _), (1, .int _), (2, .int _), (4, .int _)]) (st' := [.int _, .ref _]) rfl ?_
        refine ev_ialdv DX7_say_0 82 (k0 := i) rfl hbb rfl (by omega) (by decide) ((hch2 i (by omega))) ?_
        refine ev_cS DX7_say_0 83 m_X7_digit vX7_digit rfl qX7_143 rfl (hd_of rfl rfl rfl rfl) ?_
        refine ev_ss DX7_say_0 4 84 (pc' := 162) (lv' := [(7, .int 3), (6, .int _), (3, .int _), (5, .int 0), (0, .ref _), (1, .int _), (2, .int _), (4, .int _)]) (st' := [.int 3]) rfl ?_
        refine ev_iflt DX7_say_0 88 rfl (tgt := 223) (by decide) (fun h => absurd h (by decide)) (fun _ => ?_)
        refine ev_ss DX7_say_0 2 89 (pc' := 168) (lv' := [(7, .int 3), (6, .int _), (3, .int _), (5, .int 0), (0, .ref _), (1, .int _), (2, .int _), (4, .int _)]) (st' := [.int (-1), .int _]) rfl ?_
        refine ev_iceq DX7_say_0 91 rfl (tgt := 223) (by decide) (fun _ => ?_) (fun h => h.elim q4)
        refine ev_ss DX7_say_1 1 4 (pc' := 226) (lv' := [(4, .int _), (7, .int 3), (6, .int _), (3, .int _), (5, .int 0), (0, .ref _), (1, .int _), (2, .int _)]) (st' := []) rfl ?_
        refine ev_goto DX7_say_1 5 rfl (tgt := 81) (by decide) ?_
        refine ev_lvp (lv2 := [(0, .ref _), (1, .int _), (2, .int _), (3, .int _), (4, .int _)]) [5, 6, 7, 3, 0] rfl ?_
        have e9 := ih (i + 1) _ w1 z1 (by omega) (nI_1 i) hz1 (by rw [pSay_k (t1.2.1 q1 q4)]; exact hg1) hO1
        rw [hws, if_neg q1] at e9
        exact e9
      · refine ev_ss DX7_say_0 2 46 (pc' := 84) (lv' := [(0, .ref _), (1, .int _), (2, .int _), (3, .int _), (4, .int _)]) (st' := [.ref _, .int _]) rfl ?_
        refine ev_get DX7_say_0 48 GX7 rfl (k0 := 8) (Nat.le_of_ble_eq_true rfl) fX7_140 h1 rfl ?_
        refine ev_icge DX7_say_0 49 rfl (tgt := 229) (by decide) (fun h => absurd h (nI_ge (b := len) (by omega) (by omega))) (fun _ => ?_)
        refine ev_ss DX7_say_0 1 50 (pc' := 92) (lv' := [(0, .ref _), (1, .int _), (2, .int _), (3, .int _), (4, .int _)]) (st' := [.int _]) rfl ?_
        refine ev_ifeq DX7_say_0 51 rfl (tgt := 109) (by decide) (fun h => absurd h (nI_ne0 (by omega) (by omega))) (fun _ => ?_)
        refine ev_ss DX7_say_0 1 52 (pc' := 96) (lv' := [(0, .ref _), (1, .int _), (2, .int _), (3, .int _), (4, .int _)]) (st' := [.ref _]) rfl ?_
        refine ev_get DX7_say_0 53 GX7 rfl (k0 := 7) (Nat.le_of_ble_eq_true rfl) fX7_29 h1 rfl ?_
        refine ev_ss DX7_say_0 3 54 (pc' := 103) (lv' := [(0, .ref _), (1, .int _), (2, .int _), (3, .int _), (4, .int _)]) (st' := [.int _, .ref _]) rfl ?_
        refine ev_ialdv DX7_say_0 57 (k0 := (i - 1)) rfl hbb (nx_sub (a := i) (b := 1) rfl rfl (by omega)) (by omega) (by decide) (rfl) ?_
        refine ev_ss DX7_say_0 1 58 (pc' := 106) (lv' := [(0, .ref _), (1, .int _), (2, .int _), (3, .int _), (4, .int _)]) (st' := [.int 59, .int _]) rfl ?_
        refine ev_icne DX7_say_0 59 rfl (tgt := 113) (by decide) (fun _ => ?_) (fun h => absurd h q3)
        refine ev_ss DX7_say_0 3 62 (pc' := 118) (lv' := [(5, .int 0), (0, .ref _), (1, .int _), (2, .int _), (3, .int _), (4, .int _)]) (st' := [.int 0]) rfl ?_
        refine ev_ifeq DX7_say_0 65 rfl (tgt := 134) (by decide) (fun _ => ?_) (fun h => h.elim (by decide))
        refine ev_ss DX7_say_0 3 73 (pc' := 138) (lv' := [(3, .int _), (5, .int 0), (0, .ref _), (1, .int _), (2, .int _), (4, .int _)]) (st' := [.int 0]) rfl ?_
        refine ev_ifeq DX7_say_0 76 rfl (tgt := 145) (by decide) (fun _ => ?_) (fun h => h.elim (by decide))
        refine ev_ss DX7_say_0 1 79 (pc' := 146) (lv' := [(3, .int _), (5, .int 0), (0, .ref _), (1, .int _), (2, .int _), (4, .int _)]) (st' := [.ref _]) rfl ?_
        refine ev_get DX7_say_0 80 GX7 rfl (k0 := 7) (Nat.le_of_ble_eq_true rfl) fX7_29 h1 rfl ?_
        refine ev_ss DX7_say_0 1 81 (pc' := 151) (lv' := [(3, .int _), (5, .int 0), (0, .ref _), (1, .int _), (2, .int _), (4, .int _)]) (st' := [.int _, .ref _]) rfl ?_
        refine ev_ialdv DX7_say_0 82 (k0 := i) rfl hbb rfl (by omega) (by decide) ((hch2 i (by omega))) ?_
        refine ev_cS DX7_say_0 83 m_X7_digit vX7_digit rfl qX7_143 rfl (hd_of rfl rfl rfl rfl) ?_
        refine ev_ss DX7_say_0 1 84 (pc' := 157) (lv' := [(6, .int _), (3, .int _), (5, .int 0), (0, .ref _), (1, .int _), (2, .int _), (4, .int _)]) (st' := []) rfl ?_
        refine ev_lvp (lv2 := [(0, .ref _), (1, .int _), (2, .int _), (3, .int _), (4, .int _), (6, .int _)]) [3, 4, 5, 1, 6, 0] rfl ?_
        have e3 := t1.2.2 q1 q4
        obtain ⟨a, ha, ew⟩ : ∃ a, a < 2 ∧ wnP ch (i + 1) = nI a := (wnP_01 ch (i + 1) (by rw [e3]; decide) (by rw [e3]; decide)).elim (fun e => ⟨0, by decide, e⟩) (fun e => ⟨1, by decide, e⟩)
        have ew2 : wnP ch i = nI a := by rw [← ew, hws, if_neg q1]
        have es := pSay_s (p := p) ha e3 ew
        have hcp : (pW (pSay p (i + 1) ch) a).2.1.length ≤ 256 := by
          rcases (show a = 0 ∨ a = 1 by omega) with rfl | rfl
          · exact (hcap (i + 1) (by omega)).1
          · exact (hcap (i + 1) (by omega)).2
        rw [es, pBits_W, List.length_append] at hcp
        rw [ew2]
        refine sy_dig h1 hz1 ha hg1 hcp q4 (fun z3 hG3 => ?_)
        rw [← es] at hG3
        refine ev_ss DX7_say_1 1 4 (pc' := 226) (lv' := [(4, .int _), (0, .ref _), (1, .int _), (2, .int _), (3, .int _)]) (st' := []) rfl ?_
        refine ev_goto DX7_say_1 5 rfl (tgt := 81) (by decide) ?_
        refine ev_lvp (lv2 := [(0, .ref _), (1, .int _), (2, .int _), (3, .int _), (4, .int _)]) [1, 2, 3, 4, 0] rfl ?_
        have e9 := ih (i + 1) _ _ z3 (by omega) (nI_1 i) (wset_get hz1) hG3 (fun j b => (List.getElem?_set_ne (Ne.symm b)).trans (hO1 j b))
        rw [ew] at e9
        exact e9
