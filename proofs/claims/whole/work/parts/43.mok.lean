theorem sumN_ext {f g : Nat → Int32} : ∀ n, (∀ k, k < n → f k = g k) → sumN f n = sumN g n
  | 0, _ => rfl
  | n + 1, h => by
    show sumN f n + f n = sumN g n + g n
    rw [sumN_ext n (fun k hk => h k (by omega)), h n (by omega)]
theorem shA {g : Nat → Nat → Int32} : sumN (fun k => g (k / 8) (k % 8)) 16 = sumN (g 0) 8 + sumN (g 1) 8 := by
  rw [sum16]
  refine congr (congrArg _ (sumN_ext 8 (fun k hk => ?_))) (sumN_ext 8 (fun k hk => ?_))
  · show g (k / 8) (k % 8) = g 0 k
    rw [show k / 8 = 0 by omega, show k % 8 = k by omega]
  · show g ((8 + k) / 8) ((8 + k) % 8) = g 1 k
    rw [show (8 + k) / 8 = 1 by omega, show (8 + k) % 8 = k by omega]
theorem inL_g {i n : Nat} (h : i < n) (hn : n ≤ 256) : ¬ inP (nI i) 0 (nI n - 1) = 0 := by
  rw [show nI n - 1 = nI (n - 1) from pk_sub (b := 1) (by omega)]
  exact in_g (fun e => e.elim (nI_pos (by omega)) (nI_nlt (by omega) (by omega)))
set_option maxRecDepth 100000 in
set_option maxHeartbeats 4000000 in
theorem m_X7_shyAll {E : gE} {ad : Nat → Nat} {ws : va_W} {sm bm tw ea iw : Int32} {hh : Int64} {z : Nat → Int32} (h : ws[214]? = some (ad 214, moC ad sm bm tw ea iw hh)) (hz : ws[215]? = some (ad 215, iaC E 811 z)) {p : PS} (hG : ZG z p) : CD E YX7_shyAll 0 0 [.ref (ad 214)] ws (some (.int (sumN (fun t => (pW p 0).1 t 13) 8 + sumN (fun t => (pW p 1).1 t 13) 8))) ws := by
  have eK := kOe 16
  rw [show (sumN (fun t => (pW p 0).1 t 13) 8 + sumN (fun t => (pW p 1).1 t 13) 8 : Int32) = sumN (fun k => (pW p (k / 8)).1 (k % 8) 13) (kO 16) from by rw [eK]; exact (shA (g := fun a t => (pW p a).1 t 13)).symm]
  refine cdV vX7_shyAll (Nat.le_of_ble_eq_true rfl) (lv0 := [(0, .ref (ad 214))]) rfl ?_
  suffices K : ∀ (m i : Nat) (x acc : Int32), i + m = kO 16 → x = nI i → acc = sumN (fun k => (pW p (k / 8)).1 (k % 8) 13) i → Ev E YX7_shyAll (fun v2 w2 => v2 = some (.int (sumN (fun k => (pW p (k / 8)).1 (k % 8) 13) (kO 16))) ∧ w2 = ws) nX 0 0 4 [(0, .ref (ad 214)), (1, .int acc), (2, .int x)] [] ws by
    refine ev_ss DX7_shyAll 4 0 (pc' := 4) (lv' := [(2, .int 0), (1, .int 0), (0, .ref _)]) (st' := []) rfl ?_
    refine ev_lvp (lv2 := [(0, .ref _), (1, .int _), (2, .int _)]) [2, 1, 0] rfl ?_
    exact K (kO 16) 0 _ _ (Nat.zero_add _) nI_0.symm rfl
  intro m
  induction m with
  | zero =>
    intro i x acc hm hx hq
    obtain rfl : i = kO 16 := by omega
    subst hx; subst hq
    refine ev_ss DX7_shyAll 2 4 (pc' := 7) (lv' := [(0, .ref _), (1, .int _), (2, .int _)]) (st' := [.int 16, .int _]) rfl ?_
    refine ev_icge DX7_shyAll 6 rfl (tgt := 34) (by decide) (fun _ => ?_) (fun h => h.elim (by rw [eK]; decide))
    refine ev_ss DX7_shyAll 1 22 (pc' := 35) (lv' := [(0, .ref _), (1, .int _), (2, .int _)]) (st' := [.int _]) rfl ?_
    exact ev_iret DX7_shyAll 23 rfl rfl ⟨rfl, rfl⟩
  | succ m ih =>
    intro i x acc hm hx hq
    subst hx; subst hq
    refine ev_ss DX7_shyAll 2 4 (pc' := 7) (lv' := [(0, .ref _), (1, .int _), (2, .int _)]) (st' := [.int 16, .int _]) rfl ?_
    refine ev_icge DX7_shyAll 6 rfl (tgt := 34) (by decide) (fun h => absurd h (nI_ge (b := 16) (by omega) (by decide))) (fun _ => ?_)
    refine ev_ss DX7_shyAll 2 7 (pc' := 12) (lv' := [(0, .ref _), (1, .int _), (2, .int _)]) (st' := [.ref _, .int _]) rfl ?_
    refine ev_get DX7_shyAll 9 GX7 rfl (k0 := 0) (Nat.le_of_ble_eq_true rfl) fX7_7 h rfl ?_
    refine ev_ss DX7_shyAll 7 10 (pc' := 25) (lv' := [(0, .ref _), (1, .int _), (2, .int _)]) (st' := [.int _, .ref _, .int _]) rfl ?_
    refine ev_ialdv DX7_shyAll 17 (k0 := ((112 + (11 * i)) + 6)) rfl hz (nx_add (a := (112 + (11 * i))) (b := 6) (nx_add (a := 112) (b := (11 * i)) rfl (nx_mul (a := 11) (b := i) rfl rfl)) rfl) (by omega) (by decide) ((zlA hG (i := i) (j := 6) (by omega) (by decide))) ?_
    refine ev_ss DX7_shyAll 3 18 (pc' := 31) (lv' := [(2, .int _), (1, .int _), (0, .ref _)]) (st' := []) rfl ?_
    refine ev_goto DX7_shyAll 21 rfl (tgt := 4) (by decide) ?_
    refine ev_lvp (lv2 := [(0, .ref _), (1, .int _), (2, .int _)]) [2, 1, 0] rfl ?_
    exact ih (i + 1) _ _ (by omega) (nI_1 i) rfl
set_option maxRecDepth 100000 in
set_option maxHeartbeats 4000000 in
theorem m_X7_insults {E : gE} {ad : Nat → Nat} {ws : va_W} {sm bm tw ea iw : Int32} {hh : Int64} {z : Nat → Int32} (h : ws[214]? = some (ad 214, moC ad sm bm tw ea iw hh)) (hz : ws[215]? = some (ad 215, iaC E 811 z)) {p : PS} (hG : ZG z p) : CD E YX7_insults 0 0 [.ref (ad 214)] ws (some (.int (sumN (insP (pW p 0).1) 8 + sumN (insP (pW p 1).1) 8))) ws := by
  have eK := kOe 16
  rw [show (sumN (insP (pW p 0).1) 8 + sumN (insP (pW p 1).1) 8 : Int32) = sumN (fun k => insP (pW p (k / 8)).1 (k % 8)) (kO 16) from by rw [eK]; exact (shA (g := fun a t => insP (pW p a).1 t)).symm]
  refine cdV vX7_insults (Nat.le_of_ble_eq_true rfl) (lv0 := [(0, .ref (ad 214))]) rfl ?_
  suffices K : ∀ (m i : Nat) (x acc : Int32), i + m = kO 16 → x = nI i → acc = sumN (fun k => insP (pW p (k / 8)).1 (k % 8)) i → Ev E YX7_insults (fun v2 w2 => v2 = some (.int (sumN (fun k => insP (pW p (k / 8)).1 (k % 8)) (kO 16))) ∧ w2 = ws) nX 0 0 4 [(0, .ref (ad 214)), (1, .int acc), (2, .int x)] [] ws by
    refine ev_ss DX7_insults 4 0 (pc' := 4) (lv' := [(2, .int 0), (1, .int 0), (0, .ref _)]) (st' := []) rfl ?_
    refine ev_lvp (lv2 := [(0, .ref _), (1, .int _), (2, .int _)]) [2, 1, 0] rfl ?_
    exact K (kO 16) 0 _ _ (Nat.zero_add _) nI_0.symm rfl
  intro m
  induction m with
  | zero =>
    intro i x acc hm hx hq
    obtain rfl : i = kO 16 := by omega
    subst hx; subst hq
    refine ev_ss DX7_insults 2 4 (pc' := 7) (lv' := [(0, .ref _), (1, .int _), (2, .int _)]) (st' := [.int 16, .int _]) rfl ?_
    refine ev_icge DX7_insults 6 rfl (tgt := 38) (by decide) (fun _ => ?_) (fun h => h.elim (by rw [eK]; decide))
    refine ev_ss DX7_insults 1 24 (pc' := 39) (lv' := [(0, .ref _), (1, .int _), (2, .int _)]) (st' := [.int _]) rfl ?_
    exact ev_iret DX7_insults 25 rfl rfl ⟨rfl, rfl⟩
  | succ m ih =>
    intro i x acc hm hx hq
    subst hx; subst hq
    by_cases q1 : (pW p (i / 8)).1 (i % 8) 4 = 0
    · refine ev_ss DX7_insults 2 4 (pc' := 7) (lv' := [(0, .ref _), (1, .int _), (2, .int _)]) (st' := [.int 16, .int _]) rfl ?_
      refine ev_icge DX7_insults 6 rfl (tgt := 38) (by decide) (fun h => absurd h (nI_ge (b := 16) (by omega) (by decide))) (fun _ => ?_)
      refine ev_ss DX7_insults 2 7 (pc' := 12) (lv' := [(0, .ref _), (1, .int _), (2, .int _)]) (st' := [.ref _, .int _]) rfl ?_
      refine ev_get DX7_insults 9 GX7 rfl (k0 := 0) (Nat.le_of_ble_eq_true rfl) fX7_7 h rfl ?_
      refine ev_ss DX7_insults 5 10 (pc' := 21) (lv' := [(0, .ref _), (1, .int _), (2, .int _)]) (st' := [.int _, .ref _, .int _]) rfl ?_
      refine ev_ialdv DX7_insults 15 (k0 := ((7 * i) + 4)) rfl hz (nx_add (a := (7 * i)) (b := 4) (nx_mul (a := 7) (b := i) rfl rfl) rfl) (by omega) (by decide) ((zlS hG (i := i) (j := 4) (by omega) (by decide))) ?_
      refine ev_ifeq DX7_insults 16 rfl (tgt := 29) (by decide) (fun _ => ?_) (fun h => h.elim q1)
      refine ev_ss DX7_insults 4 19 (pc' := 35) (lv' := [(2, .int _), (1, .int _), (0, .ref _)]) (st' := []) rfl ?_
      refine ev_goto DX7_insults 23 rfl (tgt := 4) (by decide) ?_
      refine ev_lvp (lv2 := [(0, .ref _), (1, .int _), (2, .int _)]) [2, 1, 0] rfl ?_
      exact ih (i + 1) _ _ (by omega) (nI_1 i) (congrArg _ (if_pos q1).symm)
    · refine ev_ss DX7_insults 2 4 (pc' := 7) (lv' := [(0, .ref _), (1, .int _), (2, .int _)]) (st' := [.int 16, .int _]) rfl ?_
      refine ev_icge DX7_insults 6 rfl (tgt := 38) (by decide) (fun h => absurd h (nI_ge (b := 16) (by omega) (by decide))) (fun _ => ?_)
      refine ev_ss DX7_insults 2 7 (pc' := 12) (lv' := [(0, .ref _), (1, .int _), (2, .int _)]) (st' := [.ref _, .int _]) rfl ?_
      refine ev_get DX7_insults 9 GX7 rfl (k0 := 0) (Nat.le_of_ble_eq_true rfl) fX7_7 h rfl ?_
      refine ev_ss DX7_insults 5 10 (pc' := 21) (lv' := [(0, .ref _), (1, .int _), (2, .int _)]) (st' := [.int _, .ref _, .int _]) rfl ?_
      refine ev_ialdv DX7_insults 15 (k0 := ((7 * i) + 4)) rfl hz (nx_add (a := (7 * i)) (b := 4) (nx_mul (a := 7) (b := i) rfl rfl) rfl) (by omega) (by decide) ((zlS hG (i := i) (j := 4) (by omega) (by decide))) ?_
      refine ev_ifeq DX7_insults 16 rfl (tgt := 29) (by decide) (fun h => absurd h q1) (fun _ => ?_)
      refine ev_ss DX7_insults 1 17 (pc' := 26) (lv' := [(0, .ref _), (1, .int _), (2, .int _)]) (st' := [.int 1, .int _]) rfl ?_
      refine ev_goto DX7_insults 18 rfl (tgt := 30) (by decide) ?_
      refine ev_ss DX7_insults 3 20 (pc' := 35) (lv' := [(2, .int _), (1, .int _), (0, .ref _)]) (st' := []) rfl ?_
      refine ev_goto DX7_insults 23 rfl (tgt := 4) (by decide) ?_
      refine ev_lvp (lv2 := [(0, .ref _), (1, .int _), (2, .int _)]) [2, 1, 0] rfl ?_
      exact ih (i + 1) _ _ (by omega) (nI_1 i) (congrArg _ (if_neg q1).symm)
set_option maxRecDepth 100000 in
set_option maxHeartbeats 4000000 in
theorem m_X7_counted_0 {E : gE} {ad : Nat → Nat} {ws : va_W} {sc : Nat} {bm tw ea iw : Int32} {hh : Int64} {z : Nat → Int32} (h : ws[214]? = some (ad 214, moC ad (nI sc) bm tw ea iw hh)) (hz : ws[215]? = some (ad 215, iaC E 811 z)) {p : PS} (hG : ZG z p) : CD E YX7_counted 0 0 [.ref (ad 214), .int 0] ws (some (.int (cntV p sc 0))) ws := by
  refine cdV vX7_counted (Nat.le_of_ble_eq_true rfl) (lv0 := [(0, .ref (ad 214)), (1, .int 0)]) rfl ?_
  refine ev_ss DX7_counted 1 0 (pc' := 1) (lv' := [(0, .ref _), (1, .int 0)]) (st' := [.int 0]) rfl ?_
  refine ev_swin DX7_counted 1 rfl (by decide) (by decide) (off := 63) (by decide) (tgt := 64) (by decide) ?_
  refine ev_ss DX7_counted 1 2 (pc' := 65) (lv' := [(0, .ref _), (1, .int 0)]) (st' := [.ref _]) rfl ?_
  refine ev_get DX7_counted 3 GX7 rfl (k0 := 0) (Nat.le_of_ble_eq_true rfl) fX7_7 h rfl ?_
  refine ev_ss DX7_counted 1 4 (pc' := 71) (lv' := [(0, .ref _), (1, .int 0)]) (st' := [.int 806, .ref _]) rfl ?_
  refine ev_ialdv DX7_counted 5 (k0 := 806) rfl hz rfl (by omega) (by decide) (hG.2.2.2.2.1) ?_
  exact ev_iret DX7_counted 6 rfl rfl ⟨rfl, rfl⟩
set_option maxRecDepth 100000 in
set_option maxHeartbeats 4000000 in
theorem m_X7_counted_1 {E : gE} {ad : Nat → Nat} {ws : va_W} {sc : Nat} {bm tw ea iw : Int32} {hh : Int64} {z : Nat → Int32} (h : ws[214]? = some (ad 214, moC ad (nI sc) bm tw ea iw hh)) (hz : ws[215]? = some (ad 215, iaC E 811 z)) {p : PS} (hG : ZG z p) : CD E YX7_counted 0 0 [.ref (ad 214), .int 1] ws (some (.int (cntV p sc 1))) ws := by
  refine cdV vX7_counted (Nat.le_of_ble_eq_true rfl) (lv0 := [(0, .ref (ad 214)), (1, .int 1)]) rfl ?_
  refine ev_ss DX7_counted 1 0 (pc' := 1) (lv' := [(0, .ref _), (1, .int 1)]) (st' := [.int 1]) rfl ?_
  refine ev_swin DX7_counted 1 rfl (by decide) (by decide) (off := 72) (by decide) (tgt := 73) (by decide) ?_
  refine ev_ss DX7_counted 1 7 (pc' := 74) (lv' := [(0, .ref _), (1, .int 1)]) (st' := [.ref _]) rfl ?_
  refine ev_get DX7_counted 8 GX7 rfl (k0 := 0) (Nat.le_of_ble_eq_true rfl) fX7_7 h rfl ?_
  refine ev_ss DX7_counted 1 9 (pc' := 80) (lv' := [(0, .ref _), (1, .int 1)]) (st' := [.int 807, .ref _]) rfl ?_
  refine ev_ialdv DX7_counted 10 (k0 := 807) rfl hz rfl (by omega) (by decide) (hG.2.2.2.2.2.1) ?_
  exact ev_iret DX7_counted 11 rfl rfl ⟨rfl, rfl⟩
set_option maxRecDepth 100000 in
set_option maxHeartbeats 4000000 in
theorem m_X7_counted_2 {E : gE} {ad : Nat → Nat} {ws : va_W} {sc : Nat} {bm tw ea iw : Int32} {hh : Int64} {z : Nat → Int32} (h : ws[214]? = some (ad 214, moC ad (nI sc) bm tw ea iw hh)) (hz : ws[215]? = some (ad 215, iaC E 811 z)) {p : PS} (hG : ZG z p) : CD E YX7_counted 0 0 [.ref (ad 214), .int 2] ws (some (.int (cntV p sc 2))) ws := by
  refine cdV vX7_counted (Nat.le_of_ble_eq_true rfl) (lv0 := [(0, .ref (ad 214)), (1, .int 2)]) rfl ?_
  refine ev_ss DX7_counted 1 0 (pc' := 1) (lv' := [(0, .ref _), (1, .int 2)]) (st' := [.int 2]) rfl ?_
  refine ev_swin DX7_counted 1 rfl (by decide) (by decide) (off := 81) (by decide) (tgt := 82) (by decide) ?_
  refine ev_ss DX7_counted 1 12 (pc' := 83) (lv' := [(0, .ref _), (1, .int 2)]) (st' := [.ref _]) rfl ?_
  refine ev_get DX7_counted 13 GX7 rfl (k0 := 0) (Nat.le_of_ble_eq_true rfl) fX7_7 h rfl ?_
  refine ev_ss DX7_counted 5 14 (pc' := 93) (lv' := [(0, .ref _), (1, .int 2)]) (st' := [.int 800, .ref _]) rfl ?_
  refine ev_ialdv DX7_counted 19 (k0 := 800) rfl hz rfl (by omega) (by decide) ((hG.2.2.2.1 0 (by decide)).2.1) ?_
  exact ev_iret DX7_counted 20 rfl rfl ⟨rfl, rfl⟩
set_option maxRecDepth 100000 in
set_option maxHeartbeats 4000000 in
theorem m_X7_counted_3 {E : gE} {ad : Nat → Nat} {ws : va_W} {sc : Nat} {bm tw ea iw : Int32} {hh : Int64} {z : Nat → Int32} (h : ws[214]? = some (ad 214, moC ad (nI sc) bm tw ea iw hh)) (hz : ws[215]? = some (ad 215, iaC E 811 z)) {p : PS} (hG : ZG z p) : CD E YX7_counted 0 0 [.ref (ad 214), .int 3] ws (some (.int (cntV p sc 3))) ws := by
  refine cdV vX7_counted (Nat.le_of_ble_eq_true rfl) (lv0 := [(0, .ref (ad 214)), (1, .int 3)]) rfl ?_
  refine ev_ss DX7_counted 1 0 (pc' := 1) (lv' := [(0, .ref _), (1, .int 3)]) (st' := [.int 3]) rfl ?_
  refine ev_swin DX7_counted 1 rfl (by decide) (by decide) (off := 81) (by decide) (tgt := 82) (by decide) ?_
  refine ev_ss DX7_counted 1 12 (pc' := 83) (lv' := [(0, .ref _), (1, .int 3)]) (st' := [.ref _]) rfl ?_
  refine ev_get DX7_counted 13 GX7 rfl (k0 := 0) (Nat.le_of_ble_eq_true rfl) fX7_7 h rfl ?_
  refine ev_ss DX7_counted 5 14 (pc' := 93) (lv' := [(0, .ref _), (1, .int 3)]) (st' := [.int 801, .ref _]) rfl ?_
  refine ev_ialdv DX7_counted 19 (k0 := 801) rfl hz rfl (by omega) (by decide) ((hG.2.2.2.1 1 (by decide)).2.1) ?_
  exact ev_iret DX7_counted 20 rfl rfl ⟨rfl, rfl⟩
set_option maxRecDepth 100000 in
set_option maxHeartbeats 4000000 in
theorem m_X7_counted_4 {E : gE} {ad : Nat → Nat} {ws : va_W} {sc : Nat} {bm tw ea iw : Int32} {hh : Int64} {z : Nat → Int32} (h : ws[214]? = some (ad 214, moC ad (nI sc) bm tw ea iw hh)) (hz : ws[215]? = some (ad 215, iaC E 811 z)) {p : PS} (hG : ZG z p) : CD E YX7_counted 0 0 [.ref (ad 214), .int 4] ws (some (.int (cntV p sc 4))) ws := by
  refine cdV vX7_counted (Nat.le_of_ble_eq_true rfl) (lv0 := [(0, .ref (ad 214)), (1, .int 4)]) rfl ?_
  refine ev_ss DX7_counted 1 0 (pc' := 1) (lv' := [(0, .ref _), (1, .int 4)]) (st' := [.int 4]) rfl ?_
  refine ev_swin DX7_counted 1 rfl (by decide) (by decide) (off := 94) (by decide) (tgt := 95) (by decide) ?_
  refine ev_ss DX7_counted 1 21 (pc' := 96) (lv' := [(0, .ref _), (1, .int 4)]) (st' := [.ref _]) rfl ?_
  refine ev_get DX7_counted 22 GX7 rfl (k0 := 0) (Nat.le_of_ble_eq_true rfl) fX7_7 h rfl ?_
  refine ev_ss DX7_counted 5 23 (pc' := 106) (lv' := [(0, .ref _), (1, .int 4)]) (st' := [.int 802, .ref _]) rfl ?_
  refine ev_ialdv DX7_counted 28 (k0 := 802) rfl hz rfl (by omega) (by decide) ((hG.2.2.2.1 0 (by decide)).2.2.1) ?_
  exact ev_iret DX7_counted 29 rfl rfl ⟨rfl, rfl⟩
set_option maxRecDepth 100000 in
set_option maxHeartbeats 4000000 in
theorem m_X7_counted_5 {E : gE} {ad : Nat → Nat} {ws : va_W} {sc : Nat} {bm tw ea iw : Int32} {hh : Int64} {z : Nat → Int32} (h : ws[214]? = some (ad 214, moC ad (nI sc) bm tw ea iw hh)) (hz : ws[215]? = some (ad 215, iaC E 811 z)) {p : PS} (hG : ZG z p) : CD E YX7_counted 0 0 [.ref (ad 214), .int 5] ws (some (.int (cntV p sc 5))) ws := by
  refine cdV vX7_counted (Nat.le_of_ble_eq_true rfl) (lv0 := [(0, .ref (ad 214)), (1, .int 5)]) rfl ?_
  refine ev_ss DX7_counted 1 0 (pc' := 1) (lv' := [(0, .ref _), (1, .int 5)]) (st' := [.int 5]) rfl ?_
  refine ev_swin DX7_counted 1 rfl (by decide) (by decide) (off := 94) (by decide) (tgt := 95) (by decide) ?_
  refine ev_ss DX7_counted 1 21 (pc' := 96) (lv' := [(0, .ref _), (1, .int 5)]) (st' := [.ref _]) rfl ?_
  refine ev_get DX7_counted 22 GX7 rfl (k0 := 0) (Nat.le_of_ble_eq_true rfl) fX7_7 h rfl ?_
  refine ev_ss DX7_counted 5 23 (pc' := 106) (lv' := [(0, .ref _), (1, .int 5)]) (st' := [.int 803, .ref _]) rfl ?_
  refine ev_ialdv DX7_counted 28 (k0 := 803) rfl hz rfl (by omega) (by decide) ((hG.2.2.2.1 1 (by decide)).2.2.1) ?_
  exact ev_iret DX7_counted 29 rfl rfl ⟨rfl, rfl⟩
set_option maxRecDepth 100000 in
set_option maxHeartbeats 4000000 in
theorem m_X7_counted_6 {E : gE} {ad : Nat → Nat} {ws : va_W} {sc : Nat} {bm tw ea iw : Int32} {hh : Int64} {z : Nat → Int32} (h : ws[214]? = some (ad 214, moC ad (nI sc) bm tw ea iw hh)) (hz : ws[215]? = some (ad 215, iaC E 811 z)) {p : PS} (hG : ZG z p) : CD E YX7_counted 0 0 [.ref (ad 214), .int 6] ws (some (.int (cntV p sc 6))) ws := by
  refine cdV vX7_counted (Nat.le_of_ble_eq_true rfl) (lv0 := [(0, .ref (ad 214)), (1, .int 6)]) rfl ?_
  refine ev_ss DX7_counted 1 0 (pc' := 1) (lv' := [(0, .ref _), (1, .int 6)]) (st' := [.int 6]) rfl ?_
  refine ev_swin DX7_counted 1 rfl (by decide) (by decide) (off := 107) (by decide) (tgt := 108) (by decide) ?_
  refine ev_ss DX7_counted 1 30 (pc' := 109) (lv' := [(0, .ref _), (1, .int 6)]) (st' := [.ref _]) rfl ?_
  refine ev_get DX7_counted 31 GX7 rfl (k0 := 0) (Nat.le_of_ble_eq_true rfl) fX7_7 h rfl ?_
  refine ev_ss DX7_counted 5 32 (pc' := 120) (lv' := [(0, .ref _), (1, .int 6)]) (st' := [.int 804, .ref _]) rfl ?_
  refine ev_ialdv DX7_counted 37 (k0 := 804) rfl hz rfl (by omega) (by decide) ((hG.2.2.2.1 0 (by decide)).2.2.2) ?_
  exact ev_iret DX7_counted 38 rfl rfl ⟨rfl, rfl⟩
set_option maxRecDepth 100000 in
set_option maxHeartbeats 4000000 in
theorem m_X7_counted_7 {E : gE} {ad : Nat → Nat} {ws : va_W} {sc : Nat} {bm tw ea iw : Int32} {hh : Int64} {z : Nat → Int32} (h : ws[214]? = some (ad 214, moC ad (nI sc) bm tw ea iw hh)) (hz : ws[215]? = some (ad 215, iaC E 811 z)) {p : PS} (hG : ZG z p) : CD E YX7_counted 0 0 [.ref (ad 214), .int 7] ws (some (.int (cntV p sc 7))) ws := by
  refine cdV vX7_counted (Nat.le_of_ble_eq_true rfl) (lv0 := [(0, .ref (ad 214)), (1, .int 7)]) rfl ?_
  refine ev_ss DX7_counted 1 0 (pc' := 1) (lv' := [(0, .ref _), (1, .int 7)]) (st' := [.int 7]) rfl ?_
  refine ev_swin DX7_counted 1 rfl (by decide) (by decide) (off := 107) (by decide) (tgt := 108) (by decide) ?_
  refine ev_ss DX7_counted 1 30 (pc' := 109) (lv' := [(0, .ref _), (1, .int 7)]) (st' := [.ref _]) rfl ?_
  refine ev_get DX7_counted 31 GX7 rfl (k0 := 0) (Nat.le_of_ble_eq_true rfl) fX7_7 h rfl ?_
  refine ev_ss DX7_counted 5 32 (pc' := 120) (lv' := [(0, .ref _), (1, .int 7)]) (st' := [.int 805, .ref _]) rfl ?_
  refine ev_ialdv DX7_counted 37 (k0 := 805) rfl hz rfl (by omega) (by decide) ((hG.2.2.2.1 1 (by decide)).2.2.2) ?_
  exact ev_iret DX7_counted 38 rfl rfl ⟨rfl, rfl⟩
set_option maxRecDepth 100000 in
set_option maxHeartbeats 4000000 in
theorem m_X7_counted_8 {E : gE} {ad : Nat → Nat} {ws : va_W} {sc : Nat} {bm tw ea iw : Int32} {hh : Int64} {z : Nat → Int32} (h : ws[214]? = some (ad 214, moC ad (nI sc) bm tw ea iw hh)) (hz : ws[215]? = some (ad 215, iaC E 811 z)) {p : PS} (hG : ZG z p) : CD E YX7_counted 0 0 [.ref (ad 214), .int 8] ws (some (.int (cntV p sc 8))) ws := by
  refine cdV vX7_counted (Nat.le_of_ble_eq_true rfl) (lv0 := [(0, .ref (ad 214)), (1, .int 8)]) rfl ?_
  refine ev_ss DX7_counted 1 0 (pc' := 1) (lv' := [(0, .ref _), (1, .int 8)]) (st' := [.int 8]) rfl ?_
  refine ev_swin DX7_counted 1 rfl (by decide) (by decide) (off := 121) (by decide) (tgt := 122) (by decide) ?_
  refine ev_ss DX7_counted 4 39 (pc' := 127) (lv' := [(0, .ref _), (1, .int 8)]) (st' := [.int 0, .ref _]) rfl ?_
  refine ev_cV DX7_counted 43 (m_X7_carried h hz (a := 0) (by decide) hG) vX7_carried rfl qX7_108 rfl h rfl (hd_of rfl rfl rfl rfl) ?_
  exact ev_iret DX7_counted 44 rfl rfl ⟨rfl, rfl⟩
set_option maxRecDepth 100000 in
set_option maxHeartbeats 4000000 in
theorem m_X7_counted_9 {E : gE} {ad : Nat → Nat} {ws : va_W} {sc : Nat} {bm tw ea iw : Int32} {hh : Int64} {z : Nat → Int32} (h : ws[214]? = some (ad 214, moC ad (nI sc) bm tw ea iw hh)) (hz : ws[215]? = some (ad 215, iaC E 811 z)) {p : PS} (hG : ZG z p) : CD E YX7_counted 0 0 [.ref (ad 214), .int 9] ws (some (.int (cntV p sc 9))) ws := by
  refine cdV vX7_counted (Nat.le_of_ble_eq_true rfl) (lv0 := [(0, .ref (ad 214)), (1, .int 9)]) rfl ?_
  refine ev_ss DX7_counted 1 0 (pc' := 1) (lv' := [(0, .ref _), (1, .int 9)]) (st' := [.int 9]) rfl ?_
  refine ev_swin DX7_counted 1 rfl (by decide) (by decide) (off := 121) (by decide) (tgt := 122) (by decide) ?_
  refine ev_ss DX7_counted 4 39 (pc' := 127) (lv' := [(0, .ref _), (1, .int 9)]) (st' := [.int 1, .ref _]) rfl ?_
  refine ev_cV DX7_counted 43 (m_X7_carried h hz (a := 1) (by decide) hG) vX7_carried rfl qX7_108 rfl h rfl (hd_of rfl rfl rfl rfl) ?_
  exact ev_iret DX7_counted 44 rfl rfl ⟨rfl, rfl⟩
set_option maxRecDepth 100000 in
set_option maxHeartbeats 4000000 in
theorem m_X7_counted_10 {E : gE} {ad : Nat → Nat} {ws : va_W} {sc : Nat} {bm tw ea iw : Int32} {hh : Int64} {z : Nat → Int32} (h : ws[214]? = some (ad 214, moC ad (nI sc) bm tw ea iw hh)) (hz : ws[215]? = some (ad 215, iaC E 811 z)) {p : PS} (hG : ZG z p) : CD E YX7_counted 0 0 [.ref (ad 214), .int 10] ws (some (.int (cntV p sc 10))) ws := by
  refine cdV vX7_counted (Nat.le_of_ble_eq_true rfl) (lv0 := [(0, .ref (ad 214)), (1, .int 10)]) rfl ?_
  refine ev_ss DX7_counted 1 0 (pc' := 1) (lv' := [(0, .ref _), (1, .int 10)]) (st' := [.int 10]) rfl ?_
  refine ev_swin DX7_counted 1 rfl (by decide) (by decide) (off := 130) (by decide) (tgt := 131) (by decide) ?_
  refine ev_ss DX7_counted 1 45 (pc' := 132) (lv' := [(0, .ref _), (1, .int 10)]) (st' := [.ref _]) rfl ?_
  refine ev_cV DX7_counted 46 (m_X7_shyAll h hz hG) vX7_shyAll rfl qX7_162 rfl h rfl (hd_of rfl rfl rfl rfl) ?_
  exact ev_iret DX7_counted 47 rfl rfl ⟨rfl, rfl⟩
set_option maxRecDepth 100000 in
set_option maxHeartbeats 4000000 in
theorem m_X7_counted_11 {E : gE} {ad : Nat → Nat} {ws : va_W} {sc : Nat} {bm tw ea iw : Int32} {hh : Int64} {z : Nat → Int32} (h : ws[214]? = some (ad 214, moC ad (nI sc) bm tw ea iw hh)) (hz : ws[215]? = some (ad 215, iaC E 811 z)) {p : PS} (hG : ZG z p) : CD E YX7_counted 0 0 [.ref (ad 214), .int 11] ws (some (.int (cntV p sc 11))) ws := by
  refine cdV vX7_counted (Nat.le_of_ble_eq_true rfl) (lv0 := [(0, .ref (ad 214)), (1, .int 11)]) rfl ?_
  refine ev_ss DX7_counted 1 0 (pc' := 1) (lv' := [(0, .ref _), (1, .int 11)]) (st' := [.int 11]) rfl ?_
  refine ev_swin DX7_counted 1 rfl (by decide) (by decide) (off := 135) (by decide) (tgt := 136) (by decide) ?_
  refine ev_ss DX7_counted 1 48 (pc' := 137) (lv' := [(0, .ref _), (1, .int 11)]) (st' := [.ref _]) rfl ?_
  refine ev_cV DX7_counted 49 (m_X7_insults h hz hG) vX7_insults rfl qX7_166 rfl h rfl (hd_of rfl rfl rfl rfl) ?_
  exact ev_iret DX7_counted 50 rfl rfl ⟨rfl, rfl⟩
set_option maxRecDepth 100000 in
set_option maxHeartbeats 4000000 in
theorem m_X7_counted_12 {E : gE} {ad : Nat → Nat} {ws : va_W} {sc : Nat} {bm tw ea iw : Int32} {hh : Int64} {z : Nat → Int32} (h : ws[214]? = some (ad 214, moC ad (nI sc) bm tw ea iw hh)) (hz : ws[215]? = some (ad 215, iaC E 811 z)) {p : PS} (hG : ZG z p) : CD E YX7_counted 0 0 [.ref (ad 214), .int 12] ws (some (.int (cntV p sc 12))) ws := by
  refine cdV vX7_counted (Nat.le_of_ble_eq_true rfl) (lv0 := [(0, .ref (ad 214)), (1, .int 12)]) rfl ?_
  refine ev_ss DX7_counted 1 0 (pc' := 1) (lv' := [(0, .ref _), (1, .int 12)]) (st' := [.int 12]) rfl ?_
  refine ev_swout DX7_counted 1 rfl (by decide) (tgt := 141) (by decide) ?_
  refine ev_ss DX7_counted 1 51 (pc' := 142) (lv' := [(0, .ref _), (1, .int 12)]) (st' := [.ref _]) rfl ?_
  refine ev_get DX7_counted 52 GX7 rfl (k0 := 6) (Nat.le_of_ble_eq_true rfl) fX7_43 h rfl ?_
  exact ev_iret DX7_counted 53 rfl rfl ⟨rfl, rfl⟩
set_option maxRecDepth 100000 in
set_option maxHeartbeats 4000000 in
theorem m_X7_counted {E : gE} {ad : Nat → Nat} {ws : va_W} {sc : Nat} {bm tw ea iw : Int32} {hh : Int64} {z : Nat → Int32} (h : ws[214]? = some (ad 214, moC ad (nI sc) bm tw ea iw hh)) (hz : ws[215]? = some (ad 215, iaC E 811 z)) {p : PS} (hG : ZG z p) {j : Nat} (hj : j < 13) : CD E YX7_counted 0 0 [.ref (ad 214), .int (nI j)] ws (some (.int (cntV p sc j))) ws := by
  rcases (show j = 0 ∨ j = 1 ∨ j = 2 ∨ j = 3 ∨ j = 4 ∨ j = 5 ∨ j = 6 ∨ j = 7 ∨ j = 8 ∨ j = 9 ∨ j = 10 ∨ j = 11 ∨ j = 12 by omega) with rfl | rfl | rfl | rfl | rfl | rfl | rfl | rfl | rfl | rfl | rfl | rfl | rfl
  · exact m_X7_counted_0 h hz hG
  · exact m_X7_counted_1 h hz hG
  · exact m_X7_counted_2 h hz hG
  · exact m_X7_counted_3 h hz hG
  · exact m_X7_counted_4 h hz hG
  · exact m_X7_counted_5 h hz hG
  · exact m_X7_counted_6 h hz hG
  · exact m_X7_counted_7 h hz hG
  · exact m_X7_counted_8 h hz hG
  · exact m_X7_counted_9 h hz hG
  · exact m_X7_counted_10 h hz hG
  · exact m_X7_counted_11 h hz hG
  · exact m_X7_counted_12 h hz hG
def misQ (f : TF) (m : Int32) : Int32 := (absP (f 0 - f 7) * ((256 : Int32) - ((256 : Int32) >>> (m &&& 31))) + 256 * (absP (f 1 - f 8) + absP (f 2 - f 9))) / 64
theorem misQ_P {f : TF} {m : Int32} : misQ f m = misP f m := by
  unfold misQ misP
  rw [Int32.mul_comm 256]
def surQ (f : TF) : Int32 := if roomP (f 7) 4 ≤ misQ f 4 + f 3 + 4 then (if roomP (f 7) 3 ≤ misQ f 3 + f 3 + 4 then (if roomP (f 7) 2 ≤ misQ f 2 + f 3 + 4 then (if roomP (f 7) 1 ≤ misQ f 1 + f 3 + 4 then 0 else 1) else 2) else 3) else 4
theorem surQ_P {f : TF} : surQ f = surP f := by
  unfold surQ surP
  rw [misQ_P, misQ_P, misQ_P, misQ_P]
set_option maxRecDepth 100000 in
set_option maxHeartbeats 4000000 in
theorem m_X7_sureOf {E : gE} {ad : Nat → Nat} {ws : va_W} {sm bm tw ea iw : Int32} {hh : Int64} {z : Nat → Int32} (h : ws[214]? = some (ad 214, moC ad sm bm tw ea iw hh)) (hz : ws[215]? = some (ad 215, iaC E 811 z)) {p : PS} (hG : ZG z p) {a t : Nat} (ha : a < 2) (ht : t < 8) : CD E YX7_sureOf 0 0 [.ref (ad 214), .int (nI a), .int (nI t)] ws (some (.int (surP ((pW p a).1 t)))) ws := by
  have hs1 : stA a t + 7 ≤ 112 := by unfold stA; omega
  have hc1 : acA a t + 11 ≤ 288 := by unfold acA; omega
  rw [← surQ_P]
  refine cdV vX7_sureOf (Nat.le_of_ble_eq_true rfl) (lv0 := [(0, .ref (ad 214)), (1, .int (nI a)), (2, .int (nI t))]) rfl ?_
  refine ev_ss DX7_sureOf 3 0 (pc' := 3) (lv' := [(0, .ref _), (1, .int _), (2, .int _)]) (st' := [.int _, .int _, .ref _]) rfl ?_
  refine ev_cV DX7_sureOf 3 (m_X7_streetAt h) vX7_streetAt rfl qX7_64 rfl h rfl (hd_of rfl rfl rfl rfl) ?_
  refine ev_ss DX7_sureOf 4 4 (pc' := 10) (lv' := [(3, .int _), (0, .ref _), (1, .int _), (2, .int _)]) (st' := [.int _, .int _, .ref _]) rfl ?_
  refine ev_cV DX7_sureOf 8 (m_X7_accentAt h) vX7_accentAt rfl qX7_68 rfl h rfl (hd_of rfl rfl rfl rfl) ?_
  refine ev_ss DX7_sureOf 2 9 (pc' := 16) (lv' := [(4, .int _), (3, .int _), (0, .ref _), (1, .int _), (2, .int _)]) (st' := [.ref _]) rfl ?_
  refine ev_get DX7_sureOf 11 GX7 rfl (k0 := 0) (Nat.le_of_ble_eq_true rfl) fX7_7 h rfl ?_
  refine ev_ss DX7_sureOf 3 12 (pc' := 22) (lv' := [(4, .int _), (3, .int _), (0, .ref _), (1, .int _), (2, .int _)]) (st' := [.int _, .ref _]) rfl ?_
  refine ev_ialdv DX7_sureOf 15 (k0 := (stA a t + 0)) rfl hz (nx_add (a := stA a t) (b := 0) rfl rfl) (by omega) (by decide) ((hG.1 a t 0 ha ht (by decide))) ?_
  refine ev_ss DX7_sureOf 1 16 (pc' := 24) (lv' := [(4, .int _), (3, .int _), (0, .ref _), (1, .int _), (2, .int _)]) (st' := [.ref _, .int _]) rfl ?_
  refine ev_get DX7_sureOf 17 GX7 rfl (k0 := 0) (Nat.le_of_ble_eq_true rfl) fX7_7 h rfl ?_
  refine ev_ss DX7_sureOf 3 18 (pc' := 31) (lv' := [(4, .int _), (3, .int _), (0, .ref _), (1, .int _), (2, .int _)]) (st' := [.int _, .ref _, .int _]) rfl ?_
  refine ev_ialdv DX7_sureOf 21 (k0 := (acA a t + 0)) rfl hz (nx_add (a := acA a t) (b := 0) rfl rfl) (by omega) (by decide) ((hG.2.1 a t 0 ha ht (by decide))) ?_
  refine ev_ss DX7_sureOf 1 22 (pc' := 33) (lv' := [(4, .int _), (3, .int _), (0, .ref _), (1, .int _), (2, .int _)]) (st' := [.int _]) rfl ?_
  refine ev_cS DX7_sureOf 23 m_X7_size vX7_size rfl qX7_91 rfl (hd_of rfl rfl rfl rfl) ?_
  refine ev_ss DX7_sureOf 3 24 (pc' := 42) (lv' := [(5, .int _), (4, .int _), (3, .int _), (0, .ref _), (1, .int _), (2, .int _)]) (st' := [.ref _, .int 256]) rfl ?_
  refine ev_get DX7_sureOf 27 GX7 rfl (k0 := 0) (Nat.le_of_ble_eq_true rfl) fX7_7 h rfl ?_
  refine ev_ss DX7_sureOf 3 28 (pc' := 48) (lv' := [(5, .int _), (4, .int _), (3, .int _), (0, .ref _), (1, .int _), (2, .int _)]) (st' := [.int _, .ref _, .int 256]) rfl ?_
  refine ev_ialdv DX7_sureOf 31 (k0 := (stA a t + 1)) rfl hz (nx_add (a := stA a t) (b := 1) rfl rfl) (by omega) (by decide) ((hG.1 a t 1 ha ht (by decide))) ?_
  refine ev_ss DX7_sureOf 1 32 (pc' := 50) (lv' := [(5, .int _), (4, .int _), (3, .int _), (0, .ref _), (1, .int _), (2, .int _)]) (st' := [.ref _, .int _, .int 256]) rfl ?_
  refine ev_get DX7_sureOf 33 GX7 rfl (k0 := 0) (Nat.le_of_ble_eq_true rfl) fX7_7 h rfl ?_
  refine ev_ss DX7_sureOf 3 34 (pc' := 57) (lv' := [(5, .int _), (4, .int _), (3, .int _), (0, .ref _), (1, .int _), (2, .int _)]) (st' := [.int _, .ref _, .int _, .int 256]) rfl ?_
  refine ev_ialdv DX7_sureOf 37 (k0 := (acA a t + 1)) rfl hz (nx_add (a := acA a t) (b := 1) rfl rfl) (by omega) (by decide) ((hG.2.1 a t 1 ha ht (by decide))) ?_
  refine ev_ss DX7_sureOf 1 38 (pc' := 59) (lv' := [(5, .int _), (4, .int _), (3, .int _), (0, .ref _), (1, .int _), (2, .int _)]) (st' := [.int _, .int 256]) rfl ?_
  refine ev_cS DX7_sureOf 39 m_X7_size vX7_size rfl qX7_91 rfl (hd_of rfl rfl rfl rfl) ?_
  refine ev_ss DX7_sureOf 1 40 (pc' := 63) (lv' := [(5, .int _), (4, .int _), (3, .int _), (0, .ref _), (1, .int _), (2, .int _)]) (st' := [.ref _, .int _, .int 256]) rfl ?_
  refine ev_get DX7_sureOf 41 GX7 rfl (k0 := 0) (Nat.le_of_ble_eq_true rfl) fX7_7 h rfl ?_
  refine ev_ss DX7_sureOf 3 42 (pc' := 69) (lv' := [(5, .int _), (4, .int _), (3, .int _), (0, .ref _), (1, .int _), (2, .int _)]) (st' := [.int _, .ref _, .int _, .int 256]) rfl ?_
  refine ev_ialdv DX7_sureOf 45 (k0 := (stA a t + 2)) rfl hz (nx_add (a := stA a t) (b := 2) rfl rfl) (by omega) (by decide) ((hG.1 a t 2 ha ht (by decide))) ?_
  refine ev_ss DX7_sureOf 1 46 (pc' := 71) (lv' := [(5, .int _), (4, .int _), (3, .int _), (0, .ref _), (1, .int _), (2, .int _)]) (st' := [.ref _, .int _, .int _, .int 256]) rfl ?_
  refine ev_get DX7_sureOf 47 GX7 rfl (k0 := 0) (Nat.le_of_ble_eq_true rfl) fX7_7 h rfl ?_
  refine ev_ss DX7_sureOf 3 48 (pc' := 78) (lv' := [(5, .int _), (4, .int _), (3, .int _), (0, .ref _), (1, .int _), (2, .int _)]) (st' := [.int _, .ref _, .int _, .int _, .int 256]) rfl ?_
  refine ev_ialdv DX7_sureOf 51 (k0 := (acA a t + 2)) rfl hz (nx_add (a := acA a t) (b := 2) rfl rfl) (by omega) (by decide) ((hG.2.1 a t 2 ha ht (by decide))) ?_
  refine ev_ss DX7_sureOf 1 52 (pc' := 80) (lv' := [(5, .int _), (4, .int _), (3, .int _), (0, .ref _), (1, .int _), (2, .int _)]) (st' := [.int _, .int _, .int 256]) rfl ?_
  refine ev_cS DX7_sureOf 53 m_X7_size vX7_size rfl qX7_91 rfl (hd_of rfl rfl rfl rfl) ?_
  refine ev_ss DX7_sureOf 8 54 (pc' := 95) (lv' := [(8, .int 0), (7, .int 4), (6, .int _), (5, .int _), (4, .int _), (3, .int _), (0, .ref _), (1, .int _), (2, .int _)]) (st' := [.int 4]) rfl ?_
  refine ev_ifle DX7_sureOf 62 rfl (tgt := 180) (by decide) (fun h => absurd h (by decide)) (fun _ => ?_)
  refine ev_ss DX7_sureOf 1 63 (pc' := 100) (lv' := [(8, .int 0), (7, .int 4), (6, .int _), (5, .int _), (4, .int _), (3, .int _), (0, .ref _), (1, .int _), (2, .int _)]) (st' := [.int 0]) rfl ?_
  refine ev_ifne DX7_sureOf 64 rfl (tgt := 180) (by decide) (fun h => h.elim (by decide)) (fun _ => ?_)
  refine ev_ss DX7_sureOf 12 65 (pc' := 125) (lv' := [(9, .int _), (8, .int 0), (7, .int 4), (6, .int _), (5, .int _), (4, .int _), (3, .int _), (0, .ref _), (1, .int _), (2, .int _)]) (st' := [.int 64, .int _]) rfl ?_
  refine ev_idiv DX7_sureOf 77 rfl (by decide) ?_
  refine ev_ss DX7_sureOf 1 78 (pc' := 127) (lv' := [(9, .int _), (8, .int 0), (7, .int 4), (6, .int _), (5, .int _), (4, .int _), (3, .int _), (0, .ref _), (1, .int _), (2, .int _)]) (st' := [.ref _, .int _]) rfl ?_
  refine ev_get DX7_sureOf 79 GX7 rfl (k0 := 0) (Nat.le_of_ble_eq_true rfl) fX7_7 h rfl ?_
  refine ev_ss DX7_sureOf 3 80 (pc' := 133) (lv' := [(9, .int _), (8, .int 0), (7, .int 4), (6, .int _), (5, .int _), (4, .int _), (3, .int _), (0, .ref _), (1, .int _), (2, .int _)]) (st' := [.int _, .ref _, .int _]) rfl ?_
  refine ev_ialdv DX7_sureOf 83 (k0 := (stA a t + 3)) rfl hz (nx_add (a := stA a t) (b := 3) rfl rfl) (by omega) (by decide) ((hG.1 a t 3 ha ht (by decide))) ?_
  refine ev_ss DX7_sureOf 5 84 (pc' := 140) (lv' := [(9, .int _), (8, .int 0), (7, .int 4), (6, .int _), (5, .int _), (4, .int _), (3, .int _), (0, .ref _), (1, .int _), (2, .int _)]) (st' := [.ref _, .int _, .int _]) rfl ?_
  refine ev_get DX7_sureOf 89 GX7 rfl (k0 := 0) (Nat.le_of_ble_eq_true rfl) fX7_7 h rfl ?_
  refine ev_ss DX7_sureOf 3 90 (pc' := 147) (lv' := [(9, .int _), (8, .int 0), (7, .int 4), (6, .int _), (5, .int _), (4, .int _), (3, .int _), (0, .ref _), (1, .int _), (2, .int _)]) (st' := [.int _, .ref _, .int _, .int _]) rfl ?_
  refine ev_ialdv DX7_sureOf 93 (k0 := (acA a t + 0)) rfl hz (nx_add (a := acA a t) (b := 0) rfl rfl) (by omega) (by decide) ((hG.2.1 a t 0 ha ht (by decide))) ?_
  refine ev_ss DX7_sureOf 2 94 (pc' := 151) (lv' := [(9, .int _), (8, .int 0), (7, .int 4), (6, .int _), (5, .int _), (4, .int _), (3, .int _), (0, .ref _), (1, .int _), (2, .int _)]) (st' := [.int 64, .int _, .int _]) rfl ?_
  refine ev_idiv DX7_sureOf 96 rfl (by decide) ?_
  refine ev_icge DX7_sureOf 97 rfl (tgt := 159) (by decide) (fun c_3 => ?_) (fun c_3 => ?_)
  · refine ev_ss DX7_sureOf 4 100 (pc' := 166) (lv' := [(8, .int 0), (9, .int _), (7, .int 4), (6, .int _), (5, .int _), (4, .int _), (3, .int _), (0, .ref _), (1, .int _), (2, .int _)]) (st' := [.int 0, .int 4]) rfl ?_
    refine ev_ifeq DX7_sureOf 104 rfl (tgt := 173) (by decide) (fun _ => ?_) (fun h => h.elim (by decide))
    refine ev_ss DX7_sureOf 3 107 (pc' := 177) (lv' := [(7, .int 3), (8, .int 0), (9, .int _), (6, .int _), (5, .int _), (4, .int _), (3, .int _), (0, .ref _), (1, .int _), (2, .int _)]) (st' := []) rfl ?_
    refine ev_goto DX7_sureOf 110 rfl (tgt := 93) (by decide) ?_
    refine ev_ss DX7_sureOf 1 61 (pc' := 95) (lv' := [(7, .int 3), (8, .int 0), (9, .int _), (6, .int _), (5, .int _), (4, .int _), (3, .int _), (0, .ref _), (1, .int _), (2, .int _)]) (st' := [.int 3]) rfl ?_
    refine ev_ifle DX7_sureOf 62 rfl (tgt := 180) (by decide) (fun h => absurd h (by decide)) (fun _ => ?_)
    refine ev_ss DX7_sureOf 1 63 (pc' := 100) (lv' := [(7, .int 3), (8, .int 0), (9, .int _), (6, .int _), (5, .int _), (4, .int _), (3, .int _), (0, .ref _), (1, .int _), (2, .int _)]) (st' := [.int 0]) rfl ?_
    refine ev_ifne DX7_sureOf 64 rfl (tgt := 180) (by decide) (fun h => h.elim (by decide)) (fun _ => ?_)
    refine ev_ss DX7_sureOf 12 65 (pc' := 125) (lv' := [(9, .int _), (7, .int 3), (8, .int 0), (6, .int _), (5, .int _), (4, .int _), (3, .int _), (0, .ref _), (1, .int _), (2, .int _)]) (st' := [.int 64, .int _]) rfl ?_
    refine ev_idiv DX7_sureOf 77 rfl (by decide) ?_
    refine ev_ss DX7_sureOf 1 78 (pc' := 127) (lv' := [(9, .int _), (7, .int 3), (8, .int 0), (6, .int _), (5, .int _), (4, .int _), (3, .int _), (0, .ref _), (1, .int _), (2, .int _)]) (st' := [.ref _, .int _]) rfl ?_
    refine ev_get DX7_sureOf 79 GX7 rfl (k0 := 0) (Nat.le_of_ble_eq_true rfl) fX7_7 h rfl ?_
    refine ev_ss DX7_sureOf 3 80 (pc' := 133) (lv' := [(9, .int _), (7, .int 3), (8, .int 0), (6, .int _), (5, .int _), (4, .int _), (3, .int _), (0, .ref _), (1, .int _), (2, .int _)]) (st' := [.int _, .ref _, .int _]) rfl ?_
    refine ev_ialdv DX7_sureOf 83 (k0 := (stA a t + 3)) rfl hz (nx_add (a := stA a t) (b := 3) rfl rfl) (by omega) (by decide) ((hG.1 a t 3 ha ht (by decide))) ?_
    refine ev_ss DX7_sureOf 5 84 (pc' := 140) (lv' := [(9, .int _), (7, .int 3), (8, .int 0), (6, .int _), (5, .int _), (4, .int _), (3, .int _), (0, .ref _), (1, .int _), (2, .int _)]) (st' := [.ref _, .int _, .int _]) rfl ?_
    refine ev_get DX7_sureOf 89 GX7 rfl (k0 := 0) (Nat.le_of_ble_eq_true rfl) fX7_7 h rfl ?_
    refine ev_ss DX7_sureOf 3 90 (pc' := 147) (lv' := [(9, .int _), (7, .int 3), (8, .int 0), (6, .int _), (5, .int _), (4, .int _), (3, .int _), (0, .ref _), (1, .int _), (2, .int _)]) (st' := [.int _, .ref _, .int _, .int _]) rfl ?_
    refine ev_ialdv DX7_sureOf 93 (k0 := (acA a t + 0)) rfl hz (nx_add (a := acA a t) (b := 0) rfl rfl) (by omega) (by decide) ((hG.2.1 a t 0 ha ht (by decide))) ?_
    refine ev_ss DX7_sureOf 2 94 (pc' := 151) (lv' := [(9, .int _), (7, .int 3), (8, .int 0), (6, .int _), (5, .int _), (4, .int _), (3, .int _), (0, .ref _), (1, .int _), (2, .int _)]) (st' := [.int 64, .int _, .int _]) rfl ?_
    refine ev_idiv DX7_sureOf 96 rfl (by decide) ?_
    refine ev_icge DX7_sureOf 97 rfl (tgt := 159) (by decide) (fun c_7 => ?_) (fun c_7 => ?_)
    · refine ev_ss DX7_sureOf 4 100 (pc' := 166) (lv' := [(8, .int 0), (9, .int _), (7, .int 3), (6, .int _), (5, .int _), (4, .int _), (3, .int _), (0, .ref _), (1, .int _), (2, .int _)]) (st' := [.int 0, .int 3]) rfl ?_
      refine ev_ifeq DX7_sureOf 104 rfl (tgt := 173) (by decide) (fun _ => ?_) (fun h => h.elim (by decide))
      refine ev_ss DX7_sureOf 3 107 (pc' := 177) (lv' := [(7, .int 2), (8, .int 0), (9, .int _), (6, .int _), (5, .int _), (4, .int _), (3, .int _), (0, .ref _), (1, .int _), (2, .int _)]) (st' := []) rfl ?_
      refine ev_goto DX7_sureOf 110 rfl (tgt := 93) (by decide) ?_
      refine ev_ss DX7_sureOf 1 61 (pc' := 95) (lv' := [(7, .int 2), (8, .int 0), (9, .int _), (6, .int _), (5, .int _), (4, .int _), (3, .int _), (0, .ref _), (1, .int _), (2, .int _)]) (st' := [.int 2]) rfl ?_
      refine ev_ifle DX7_sureOf 62 rfl (tgt := 180) (by decide) (fun h => absurd h (by decide)) (fun _ => ?_)
      refine ev_ss DX7_sureOf 1 63 (pc' := 100) (lv' := [(7, .int 2), (8, .int 0), (9, .int _), (6, .int _), (5, .int _), (4, .int _), (3, .int _), (0, .ref _), (1, .int _), (2, .int _)]) (st' := [.int 0]) rfl ?_
      refine ev_ifne DX7_sureOf 64 rfl (tgt := 180) (by decide) (fun h => h.elim (by decide)) (fun _ => ?_)
      refine ev_ss DX7_sureOf 12 65 (pc' := 125) (lv' := [(9, .int _), (7, .int 2), (8, .int 0), (6, .int _), (5, .int _), (4, .int _), (3, .int _), (0, .ref _), (1, .int _), (2, .int _)]) (st' := [.int 64, .int _]) rfl ?_
      refine ev_idiv DX7_sureOf 77 rfl (by decide) ?_
      refine ev_ss DX7_sureOf 1 78 (pc' := 127) (lv' := [(9, .int _), (7, .int 2), (8, .int 0), (6, .int _), (5, .int _), (4, .int _), (3, .int _), (0, .ref _), (1, .int _), (2, .int _)]) (st' := [.ref _, .int _]) rfl ?_
      refine ev_get DX7_sureOf 79 GX7 rfl (k0 := 0) (Nat.le_of_ble_eq_true rfl) fX7_7 h rfl ?_
      refine ev_ss DX7_sureOf 3 80 (pc' := 133) (lv' := [(9, .int _), (7, .int 2), (8, .int 0), (6, .int _), (5, .int _), (4, .int _), (3, .int _), (0, .ref _), (1, .int _), (2, .int _)]) (st' := [.int _, .ref _, .int _]) rfl ?_
      refine ev_ialdv DX7_sureOf 83 (k0 := (stA a t + 3)) rfl hz (nx_add (a := stA a t) (b := 3) rfl rfl) (by omega) (by decide) ((hG.1 a t 3 ha ht (by decide))) ?_
      refine ev_ss DX7_sureOf 5 84 (pc' := 140) (lv' := [(9, .int _), (7, .int 2), (8, .int 0), (6, .int _), (5, .int _), (4, .int _), (3, .int _), (0, .ref _), (1, .int _), (2, .int _)]) (st' := [.ref _, .int _, .int _]) rfl ?_
      refine ev_get DX7_sureOf 89 GX7 rfl (k0 := 0) (Nat.le_of_ble_eq_true rfl) fX7_7 h rfl ?_
      refine ev_ss DX7_sureOf 3 90 (pc' := 147) (lv' := [(9, .int _), (7, .int 2), (8, .int 0), (6, .int _), (5, .int _), (4, .int _), (3, .int _), (0, .ref _), (1, .int _), (2, .int _)]) (st' := [.int _, .ref _, .int _, .int _]) rfl ?_
      refine ev_ialdv DX7_sureOf 93 (k0 := (acA a t + 0)) rfl hz (nx_add (a := acA a t) (b := 0) rfl rfl) (by omega) (by decide) ((hG.2.1 a t 0 ha ht (by decide))) ?_
      refine ev_ss DX7_sureOf 2 94 (pc' := 151) (lv' := [(9, .int _), (7, .int 2), (8, .int 0), (6, .int _), (5, .int _), (4, .int _), (3, .int _), (0, .ref _), (1, .int _), (2, .int _)]) (st' := [.int 64, .int _, .int _]) rfl ?_
      refine ev_idiv DX7_sureOf 96 rfl (by decide) ?_
      refine ev_icge DX7_sureOf 97 rfl (tgt := 159) (by decide) (fun c_11 => ?_) (fun c_11 => ?_)
      · refine ev_ss DX7_sureOf 4 100 (pc' := 166) (lv' := [(8, .int 0), (9, .int _), (7, .int 2), (6, .int _), (5, .int _), (4, .int _), (3, .int _), (0, .ref _), (1, .int _), (2, .int _)]) (st' := [.int 0, .int 2]) rfl ?_
        refine ev_ifeq DX7_sureOf 104 rfl (tgt := 173) (by decide) (fun _ => ?_) (fun h => h.elim (by decide))
        refine ev_ss DX7_sureOf 3 107 (pc' := 177) (lv' := [(7, .int 1), (8, .int 0), (9, .int _), (6, .int _), (5, .int _), (4, .int _), (3, .int _), (0, .ref _), (1, .int _), (2, .int _)]) (st' := []) rfl ?_
        refine ev_goto DX7_sureOf 110 rfl (tgt := 93) (by decide) ?_
        refine ev_ss DX7_sureOf 1 61 (pc' := 95) (lv' := [(7, .int 1), (8, .int 0), (9, .int _), (6, .int _), (5, .int _), (4, .int _), (3, .int _), (0, .ref _), (1, .int _), (2, .int _)]) (st' := [.int 1]) rfl ?_
        refine ev_ifle DX7_sureOf 62 rfl (tgt := 180) (by decide) (fun h => absurd h (by decide)) (fun _ => ?_)
        refine ev_ss DX7_sureOf 1 63 (pc' := 100) (lv' := [(7, .int 1), (8, .int 0), (9, .int _), (6, .int _), (5, .int _), (4, .int _), (3, .int _), (0, .ref _), (1, .int _), (2, .int _)]) (st' := [.int 0]) rfl ?_
        refine ev_ifne DX7_sureOf 64 rfl (tgt := 180) (by decide) (fun h => h.elim (by decide)) (fun _ => ?_)
        refine ev_ss DX7_sureOf 12 65 (pc' := 125) (lv' := [(9, .int _), (7, .int 1), (8, .int 0), (6, .int _), (5, .int _), (4, .int _), (3, .int _), (0, .ref _), (1, .int _), (2, .int _)]) (st' := [.int 64, .int _]) rfl ?_
        refine ev_idiv DX7_sureOf 77 rfl (by decide) ?_
        refine ev_ss DX7_sureOf 1 78 (pc' := 127) (lv' := [(9, .int _), (7, .int 1), (8, .int 0), (6, .int _), (5, .int _), (4, .int _), (3, .int _), (0, .ref _), (1, .int _), (2, .int _)]) (st' := [.ref _, .int _]) rfl ?_
        refine ev_get DX7_sureOf 79 GX7 rfl (k0 := 0) (Nat.le_of_ble_eq_true rfl) fX7_7 h rfl ?_
        refine ev_ss DX7_sureOf 3 80 (pc' := 133) (lv' := [(9, .int _), (7, .int 1), (8, .int 0), (6, .int _), (5, .int _), (4, .int _), (3, .int _), (0, .ref _), (1, .int _), (2, .int _)]) (st' := [.int _, .ref _, .int _]) rfl ?_
        refine ev_ialdv DX7_sureOf 83 (k0 := (stA a t + 3)) rfl hz (nx_add (a := stA a t) (b := 3) rfl rfl) (by omega) (by decide) ((hG.1 a t 3 ha ht (by decide))) ?_
        refine ev_ss DX7_sureOf 5 84 (pc' := 140) (lv' := [(9, .int _), (7, .int 1), (8, .int 0), (6, .int _), (5, .int _), (4, .int _), (3, .int _), (0, .ref _), (1, .int _), (2, .int _)]) (st' := [.ref _, .int _, .int _]) rfl ?_
        refine ev_get DX7_sureOf 89 GX7 rfl (k0 := 0) (Nat.le_of_ble_eq_true rfl) fX7_7 h rfl ?_
        refine ev_ss DX7_sureOf 3 90 (pc' := 147) (lv' := [(9, .int _), (7, .int 1), (8, .int 0), (6, .int _), (5, .int _), (4, .int _), (3, .int _), (0, .ref _), (1, .int _), (2, .int _)]) (st' := [.int _, .ref _, .int _, .int _]) rfl ?_
        refine ev_ialdv DX7_sureOf 93 (k0 := (acA a t + 0)) rfl hz (nx_add (a := acA a t) (b := 0) rfl rfl) (by omega) (by decide) ((hG.2.1 a t 0 ha ht (by decide))) ?_
        refine ev_ss DX7_sureOf 2 94 (pc' := 151) (lv' := [(9, .int _), (7, .int 1), (8, .int 0), (6, .int _), (5, .int _), (4, .int _), (3, .int _), (0, .ref _), (1, .int _), (2, .int _)]) (st' := [.int 64, .int _, .int _]) rfl ?_
        refine ev_idiv DX7_sureOf 96 rfl (by decide) ?_
        refine ev_icge DX7_sureOf 97 rfl (tgt := 159) (by decide) (fun c_15 => ?_) (fun c_15 => ?_)
        · refine ev_ss DX7_sureOf 4 100 (pc' := 166) (lv' := [(8, .int 0), (9, .int _), (7, .int 1), (6, .int _), (5, .int _), (4, .int _), (3, .int _), (0, .ref _), (1, .int _), (2, .int _)]) (st' := [.int 0, .int 1]) rfl ?_
          refine ev_ifeq DX7_sureOf 104 rfl (tgt := 173) (by decide) (fun _ => ?_) (fun h => h.elim (by decide))
          refine ev_ss DX7_sureOf 3 107 (pc' := 177) (lv' := [(7, .int 0), (8, .int 0), (9, .int _), (6, .int _), (5, .int _), (4, .int _), (3, .int _), (0, .ref _), (1, .int _), (2, .int _)]) (st' := []) rfl ?_
          refine ev_goto DX7_sureOf 110 rfl (tgt := 93) (by decide) ?_
          refine ev_ss DX7_sureOf 1 61 (pc' := 95) (lv' := [(7, .int 0), (8, .int 0), (9, .int _), (6, .int _), (5, .int _), (4, .int _), (3, .int _), (0, .ref _), (1, .int _), (2, .int _)]) (st' := [.int 0]) rfl ?_
          refine ev_ifle DX7_sureOf 62 rfl (tgt := 180) (by decide) (fun _ => ?_) (fun h => h.elim (by decide))
          refine ev_ss DX7_sureOf 1 111 (pc' := 182) (lv' := [(7, .int 0), (8, .int 0), (9, .int _), (6, .int _), (5, .int _), (4, .int _), (3, .int _), (0, .ref _), (1, .int _), (2, .int _)]) (st' := [.int 0]) rfl ?_
          exact ev_iret DX7_sureOf 112 rfl rfl ⟨congrArg (fun z => some (Value.int z)) (Eq.symm ((if_pos c_3).trans ((if_pos c_7).trans ((if_pos c_11).trans (if_pos c_15))))), rfl⟩
        · refine ev_ss DX7_sureOf 1 98 (pc' := 156) (lv' := [(9, .int _), (7, .int 1), (8, .int 0), (6, .int _), (5, .int _), (4, .int _), (3, .int _), (0, .ref _), (1, .int _), (2, .int _)]) (st' := [.int 1]) rfl ?_
          refine ev_goto DX7_sureOf 99 rfl (tgt := 160) (by decide) ?_
          refine ev_ss DX7_sureOf 3 101 (pc' := 166) (lv' := [(8, .int 1), (9, .int _), (7, .int 1), (6, .int _), (5, .int _), (4, .int _), (3, .int _), (0, .ref _), (1, .int _), (2, .int _)]) (st' := [.int 1, .int 1]) rfl ?_
          refine ev_ifeq DX7_sureOf 104 rfl (tgt := 173) (by decide) (fun h => absurd h (by decide)) (fun _ => ?_)
          refine ev_ss DX7_sureOf 1 105 (pc' := 170) (lv' := [(8, .int 1), (9, .int _), (7, .int 1), (6, .int _), (5, .int _), (4, .int _), (3, .int _), (0, .ref _), (1, .int _), (2, .int _)]) (st' := [.int 0, .int 1]) rfl ?_
          refine ev_goto DX7_sureOf 106 rfl (tgt := 174) (by decide) ?_
          refine ev_ss DX7_sureOf 2 108 (pc' := 177) (lv' := [(7, .int 1), (8, .int 1), (9, .int _), (6, .int _), (5, .int _), (4, .int _), (3, .int _), (0, .ref _), (1, .int _), (2, .int _)]) (st' := []) rfl ?_
          refine ev_goto DX7_sureOf 110 rfl (tgt := 93) (by decide) ?_
          refine ev_ss DX7_sureOf 1 61 (pc' := 95) (lv' := [(7, .int 1), (8, .int 1), (9, .int _), (6, .int _), (5, .int _), (4, .int _), (3, .int _), (0, .ref _), (1, .int _), (2, .int _)]) (st' := [.int 1]) rfl ?_
          refine ev_ifle DX7_sureOf 62 rfl (tgt := 180) (by decide) (fun h => absurd h (by decide)) (fun _ => ?_)
          refine ev_ss DX7_sureOf 1 63 (pc' := 100) (lv' := [(7, .int 1), (8, .int 1), (9, .int _), (6, .int _), (5, .int _), (4, .int _), (3, .int _), (0, .ref _), (1, .int _), (2, .int _)]) (st' := [.int 1]) rfl ?_
          refine ev_ifne DX7_sureOf 64 rfl (tgt := 180) (by decide) (fun _ => ?_) (fun h => absurd h (by decide))
          refine ev_ss DX7_sureOf 1 111 (pc' := 182) (lv' := [(7, .int 1), (8, .int 1), (9, .int _), (6, .int _), (5, .int _), (4, .int _), (3, .int _), (0, .ref _), (1, .int _), (2, .int _)]) (st' := [.int 1]) rfl ?_
          exact ev_iret DX7_sureOf 112 rfl rfl ⟨congrArg (fun z => some (Value.int z)) (Eq.symm ((if_pos c_3).trans ((if_pos c_7).trans ((if_pos c_11).trans (if_neg c_15))))), rfl⟩
      · refine ev_ss DX7_sureOf 1 98 (pc' := 156) (lv' := [(9, .int _), (7, .int 2), (8, .int 0), (6, .int _), (5, .int _), (4, .int _), (3, .int _), (0, .ref _), (1, .int _), (2, .int _)]) (st' := [.int 1]) rfl ?_
        refine ev_goto DX7_sureOf 99 rfl (tgt := 160) (by decide) ?_
        refine ev_ss DX7_sureOf 3 101 (pc' := 166) (lv' := [(8, .int 1), (9, .int _), (7, .int 2), (6, .int _), (5, .int _), (4, .int _), (3, .int _), (0, .ref _), (1, .int _), (2, .int _)]) (st' := [.int 1, .int 2]) rfl ?_
        refine ev_ifeq DX7_sureOf 104 rfl (tgt := 173) (by decide) (fun h => absurd h (by decide)) (fun _ => ?_)
        refine ev_ss DX7_sureOf 1 105 (pc' := 170) (lv' := [(8, .int 1), (9, .int _), (7, .int 2), (6, .int _), (5, .int _), (4, .int _), (3, .int _), (0, .ref _), (1, .int _), (2, .int _)]) (st' := [.int 0, .int 2]) rfl ?_
        refine ev_goto DX7_sureOf 106 rfl (tgt := 174) (by decide) ?_
        refine ev_ss DX7_sureOf 2 108 (pc' := 177) (lv' := [(7, .int 2), (8, .int 1), (9, .int _), (6, .int _), (5, .int _), (4, .int _), (3, .int _), (0, .ref _), (1, .int _), (2, .int _)]) (st' := []) rfl ?_
        refine ev_goto DX7_sureOf 110 rfl (tgt := 93) (by decide) ?_
        refine ev_ss DX7_sureOf 1 61 (pc' := 95) (lv' := [(7, .int 2), (8, .int 1), (9, .int _), (6, .int _), (5, .int _), (4, .int _), (3, .int _), (0, .ref _), (1, .int _), (2, .int _)]) (st' := [.int 2]) rfl ?_
        refine ev_ifle DX7_sureOf 62 rfl (tgt := 180) (by decide) (fun h => absurd h (by decide)) (fun _ => ?_)
        refine ev_ss DX7_sureOf 1 63 (pc' := 100) (lv' := [(7, .int 2), (8, .int 1), (9, .int _), (6, .int _), (5, .int _), (4, .int _), (3, .int _), (0, .ref _), (1, .int _), (2, .int _)]) (st' := [.int 1]) rfl ?_
        refine ev_ifne DX7_sureOf 64 rfl (tgt := 180) (by decide) (fun _ => ?_) (fun h => absurd h (by decide))
        refine ev_ss DX7_sureOf 1 111 (pc' := 182) (lv' := [(7, .int 2), (8, .int 1), (9, .int _), (6, .int _), (5, .int _), (4, .int _), (3, .int _), (0, .ref _), (1, .int _), (2, .int _)]) (st' := [.int 2]) rfl ?_
        exact ev_iret DX7_sureOf 112 rfl rfl ⟨congrArg (fun z => some (Value.int z)) (Eq.symm ((if_pos c_3).trans ((if_pos c_7).trans (if_neg c_11)))), rfl⟩
    · refine ev_ss DX7_sureOf 1 98 (pc' := 156) (lv' := [(9, .int _), (7, .int 3), (8, .int 0), (6, .int _), (5, .int _), (4, .int _), (3, .int _), (0, .ref _), (1, .int _), (2, .int _)]) (st' := [.int 1]) rfl ?_
      refine ev_goto DX7_sureOf 99 rfl (tgt := 160) (by decide) ?_
      refine ev_ss DX7_sureOf 3 101 (pc' := 166) (lv' := [(8, .int 1), (9, .int _), (7, .int 3), (6, .int _), (5, .int _), (4, .int _), (3, .int _), (0, .ref _), (1, .int _), (2, .int _)]) (st' := [.int 1, .int 3]) rfl ?_
      refine ev_ifeq DX7_sureOf 104 rfl (tgt := 173) (by decide) (fun h => absurd h (by decide)) (fun _ => ?_)
      refine ev_ss DX7_sureOf 1 105 (pc' := 170) (lv' := [(8, .int 1), (9, .int _), (7, .int 3), (6, .int _), (5, .int _), (4, .int _), (3, .int _), (0, .ref _), (1, .int _), (2, .int _)]) (st' := [.int 0, .int 3]) rfl ?_
      refine ev_goto DX7_sureOf 106 rfl (tgt := 174) (by decide) ?_
      refine ev_ss DX7_sureOf 2 108 (pc' := 177) (lv' := [(7, .int 3), (8, .int 1), (9, .int _), (6, .int _), (5, .int _), (4, .int _), (3, .int _), (0, .ref _), (1, .int _), (2, .int _)]) (st' := []) rfl ?_
      refine ev_goto DX7_sureOf 110 rfl (tgt := 93) (by decide) ?_
      refine ev_ss DX7_sureOf 1 61 (pc' := 95) (lv' := [(7, .int 3), (8, .int 1), (9, .int _), (6, .int _), (5, .int _), (4, .int _), (3, .int _), (0, .ref _), (1, .int _), (2, .int _)]) (st' := [.int 3]) rfl ?_
      refine ev_ifle DX7_sureOf 62 rfl (tgt := 180) (by decide) (fun h => absurd h (by decide)) (fun _ => ?_)
      refine ev_ss DX7_sureOf 1 63 (pc' := 100) (lv' := [(7, .int 3), (8, .int 1), (9, .int _), (6, .int _), (5, .int _), (4, .int _), (3, .int _), (0, .ref _), (1, .int _), (2, .int _)]) (st' := [.int 1]) rfl ?_
      refine ev_ifne DX7_sureOf 64 rfl (tgt := 180) (by decide) (fun _ => ?_) (fun h => absurd h (by decide))
      refine ev_ss DX7_sureOf 1 111 (pc' := 182) (lv' := [(7, .int 3), (8, .int 1), (9, .int _), (6, .int _), (5, .int _), (4, .int _), (3, .int _), (0, .ref _), (1, .int _), (2, .int _)]) (st' := [.int 3]) rfl ?_
      exact ev_iret DX7_sureOf 112 rfl rfl ⟨congrArg (fun z => some (Value.int z)) (Eq.symm ((if_pos c_3).trans (if_neg c_7))), rfl⟩
  · refine ev_ss DX7_sureOf 1 98 (pc' := 156) (lv' := [(9, .int _), (8, .int 0), (7, .int 4), (6, .int _), (5, .int _), (4, .int _), (3, .int _), (0, .ref _), (1, .int _), (2, .int _)]) (st' := [.int 1]) rfl ?_
    refine ev_goto DX7_sureOf 99 rfl (tgt := 160) (by decide) ?_
    refine ev_ss DX7_sureOf 3 101 (pc' := 166) (lv' := [(8, .int 1), (9, .int _), (7, .int 4), (6, .int _), (5, .int _), (4, .int _), (3, .int _), (0, .ref _), (1, .int _), (2, .int _)]) (st' := [.int 1, .int 4]) rfl ?_
    refine ev_ifeq DX7_sureOf 104 rfl (tgt := 173) (by decide) (fun h => absurd h (by decide)) (fun _ => ?_)
    refine ev_ss DX7_sureOf 1 105 (pc' := 170) (lv' := [(8, .int 1), (9, .int _), (7, .int 4), (6, .int _), (5, .int _), (4, .int _), (3, .int _), (0, .ref _), (1, .int _), (2, .int _)]) (st' := [.int 0, .int 4]) rfl ?_
    refine ev_goto DX7_sureOf 106 rfl (tgt := 174) (by decide) ?_
    refine ev_ss DX7_sureOf 2 108 (pc' := 177) (lv' := [(7, .int 4), (8, .int 1), (9, .int _), (6, .int _), (5, .int _), (4, .int _), (3, .int _), (0, .ref _), (1, .int _), (2, .int _)]) (st' := []) rfl ?_
    refine ev_goto DX7_sureOf 110 rfl (tgt := 93) (by decide) ?_
    refine ev_ss DX7_sureOf 1 61 (pc' := 95) (lv' := [(7, .int 4), (8, .int 1), (9, .int _), (6, .int _), (5, .int _), (4, .int _), (3, .int _), (0, .ref _), (1, .int _), (2, .int _)]) (st' := [.int 4]) rfl ?_
    refine ev_ifle DX7_sureOf 62 rfl (tgt := 180) (by decide) (fun h => absurd h (by decide)) (fun _ => ?_)
    refine ev_ss DX7_sureOf 1 63 (pc' := 100) (lv' := [(7, .int 4), (8, .int 1), (9, .int _), (6, .int _), (5, .int _), (4, .int _), (3, .int _), (0, .ref _), (1, .int _), (2, .int _)]) (st' := [.int 1]) rfl ?_
    refine ev_ifne DX7_sureOf 64 rfl (tgt := 180) (by decide) (fun _ => ?_) (fun h => absurd h (by decide))
    refine ev_ss DX7_sureOf 1 111 (pc' := 182) (lv' := [(7, .int 4), (8, .int 1), (9, .int _), (6, .int _), (5, .int _), (4, .int _), (3, .int _), (0, .ref _), (1, .int _), (2, .int _)]) (st' := [.int 4]) rfl ?_
    exact ev_iret DX7_sureOf 112 rfl rfl ⟨congrArg (fun z => some (Value.int z)) (Eq.symm (if_neg c_3)), rfl⟩
set_option maxRecDepth 100000 in
set_option maxHeartbeats 4000000 in
theorem m_X7_build_ok {E : gE} {ad : Nat → Nat} {ws : va_W} {p : PS} {sv : Nat → PS} {sc len : Nat} {ch : Nat → Int32} {tw : Int32} {hh : Int64} (hM : ZM E ad ws p sv sc len ch tw hh) {v : Int32} {a t : Nat} (ha : a < 2) (ht : t < 8) {j : Nat} (hj : j < 4) (h4 : ¬ inP v (gSv [16, -32, -32, 0] j) (gSv [96, 32, 32, 60] j) = 0) (hsc : sc ≤ 6) : C0 E YX7_build 0 0 [.ref (ad 214), .int (nI a), .int (nI t), .int (nI j), .int v] ws (fun v9 w9 => v9 = some (.int ((pW p a).1 t j)) ∧ ZM E ad w9 (pTone p a t (upd ((pW p a).1 t) j v)) (svN p sv sc) (scN sc) len ch 0 hh ∧ MO ws w9) := by
  obtain ⟨ea, iw, z, rw, as, l, hs, hq, er, bf, ⟨h, hz, hr, has, hl⟩, ⟨hhs, hha, hbf, he⟩, ⟨hG, hLG⟩, hsv, hlen, hch⟩ := id hM
  have hs1 : stA a t + 7 ≤ 112 := by unfold stA; omega
  have hc1 : acA a t + 11 ≤ 288 := by unfold acA; omega
  refine c0V vX7_build (Nat.le_of_ble_eq_true rfl) (lv0 := [(0, .ref (ad 214)), (1, .int (nI a)), (2, .int (nI t)), (3, .int (nI j)), (4, .int v)]) rfl ?_
  refine ev_ss DX7_build 2 0 (pc' := 2) (lv' := [(0, .ref _), (1, .int _), (2, .int _), (3, .int _), (4, .int _)]) (st' := [.int 0, .ref _]) rfl ?_
  refine ev_put (fs' := [_, _, _, _, _, _, _, _, _, _, _, _, _, _]) DX7_build 2 GX7 rfl (k0 := 9) (Nat.le_of_ble_eq_true rfl) fX7_35 rfl ⟨rfl, rfl⟩ h (Nat.le_of_ble_eq_true rfl) rfl rfl ?_
  refine ev_ss DX7_build 1 3 (pc' := 6) (lv' := [(0, .ref _), (1, .int _), (2, .int _), (3, .int _), (4, .int _)]) (st' := [.int _]) rfl ?_
  refine ev_cS DX7_build 4 m_X7_isWay vX7_isWay rfl qX7_46 rfl (hd_of rfl rfl rfl rfl) ?_
  refine ev_ifeq DX7_build 5 rfl (tgt := 19) (by decide) (fun h => absurd h (inW_g ha)) (fun _ => ?_)
  refine ev_ss DX7_build 1 6 (pc' := 13) (lv' := [(0, .ref _), (1, .int _), (2, .int _), (3, .int _), (4, .int _)]) (st' := [.int _]) rfl ?_
  refine ev_cS DX7_build 7 m_X7_isTone vX7_isTone rfl qX7_50 rfl (hd_of rfl rfl rfl rfl) ?_
  refine ev_ifne DX7_build 8 rfl (tgt := 25) (by decide) (fun _ => ?_) (fun h => absurd h (inT_g ht))
  refine ev_ss DX7_build 3 13 (pc' := 28) (lv' := [(0, .ref _), (1, .int _), (2, .int _), (3, .int _), (4, .int _)]) (st' := [.int 3, .int 0, .int _]) rfl ?_
  refine ev_cS DX7_build 16 m_X7_in vX7_in rfl qX7_39 rfl (hd_of rfl rfl rfl rfl) ?_
  refine ev_ifeq DX7_build 17 rfl (tgt := 43) (by decide) (fun h => absurd h (in_nI 3 (by decide) j hj)) (fun _ => ?_)
  refine ev_ss DX7_build 2 18 (pc' := 37) (lv' := [(0, .ref _), (1, .int _), (2, .int _), (3, .int _), (4, .int _)]) (st' := [.int _, .int _]) rfl ?_
  refine ev_cS DX7_build 20 (m_X7_mayBuild hj) vX7_mayBuild rfl qX7_57 rfl (hd_of rfl rfl rfl rfl) ?_
  refine ev_ifne DX7_build 21 rfl (tgt := 49) (by decide) (fun _ => ?_) (fun h => absurd h h4)
  refine ev_ss DX7_build 1 26 (pc' := 50) (lv' := [(0, .ref _), (1, .int _), (2, .int _), (3, .int _), (4, .int _)]) (st' := [.ref _]) rfl ?_
  refine ev_rV DX7_build 27 (m_X7_save (hM.t0 h (tw := 0)) hsc) vX7_save rfl qX7_61 rfl (wset_get h) rfl (hd_of rfl rfl rfl rfl) (fun v w hvw => ?_)
  obtain ⟨rfl, hM2, hO2⟩ := hvw
  obtain ⟨ea2, iw2, z2, rw2, as2, l2, hs2, hq2, er2, bf2, ⟨h2, hz2, hr2, has2, hl2⟩, ⟨hhs2, hha2, hbf2, he2⟩, ⟨hG2, hLG2⟩, hsv2, hlen2, hch2⟩ := id hM2
  refine ev_ss DX7_build 3 28 (pc' := 56) (lv' := [(0, .ref _), (1, .int _), (2, .int _), (3, .int _), (4, .int _)]) (st' := [.int _, .int _, .ref _]) rfl ?_
  refine ev_cV DX7_build 31 (m_X7_streetAt h2) vX7_streetAt rfl qX7_64 rfl h2 rfl (hd_of rfl rfl rfl rfl) ?_
  refine ev_ss DX7_build 4 32 (pc' := 64) (lv' := [(5, .int _), (0, .ref _), (1, .int _), (2, .int _), (3, .int _), (4, .int _)]) (st' := [.ref _]) rfl ?_
  refine ev_get DX7_build 36 GX7 rfl (k0 := 0) (Nat.le_of_ble_eq_true rfl) fX7_7 h2 rfl ?_
  refine ev_ss DX7_build 1 37 (pc' := 69) (lv' := [(5, .int _), (0, .ref _), (1, .int _), (2, .int _), (3, .int _), (4, .int _)]) (st' := [.int _, .ref _]) rfl ?_
  refine ev_ialdv DX7_build 38 (k0 := (stA a t + j)) rfl hz2 (nx_add (a := stA a t) (b := j) rfl rfl) (by omega) (by decide) ((hG2.1 a t j ha ht (by omega))) ?_
  refine ev_ss DX7_build 2 39 (pc' := 73) (lv' := [(6, .int _), (5, .int _), (0, .ref _), (1, .int _), (2, .int _), (3, .int _), (4, .int _)]) (st' := [.ref _]) rfl ?_
  refine ev_get DX7_build 41 GX7 rfl (k0 := 0) (Nat.le_of_ble_eq_true rfl) fX7_7 h2 rfl ?_
  refine ev_ss DX7_build 2 42 (pc' := 80) (lv' := [(6, .int _), (5, .int _), (0, .ref _), (1, .int _), (2, .int _), (3, .int _), (4, .int _)]) (st' := [.int _, .int _, .ref _]) rfl ?_
  refine ev_iastv DX7_build 44 (k0 := (stA a t + j)) rfl hz2 (nx_add (a := stA a t) (b := j) rfl rfl) (by omega) (by decide) rfl ?_
  refine ev_ss DX7_build 1 45 (pc' := 83) (lv' := [(6, .int _), (5, .int _), (0, .ref _), (1, .int _), (2, .int _), (3, .int _), (4, .int _)]) (st' := [.int _]) rfl ?_
  exact ev_iret DX7_build 46 rfl rfl ⟨rfl, hM2.zz ((show ZG z2 (pTone p a t ((pW p a).1 t)) from by rw [pT_id]; exact hG2).st ha ht (by omega)) (fun l hl => hl.tone ha), ((MO.set (by decide) (by decide)).tr hO2).tr (MO.set (by decide) (by decide))⟩
set_option maxRecDepth 100000 in
set_option maxHeartbeats 4000000 in
theorem m_X7_carry_ok {E : gE} {ad : Nat → Nat} {ws : va_W} {p : PS} {sv : Nat → PS} {sc len : Nat} {ch : Nat → Int32} {tw : Int32} {hh : Int64} (hM : ZM E ad ws p sv sc len ch tw hh) {v : Int32} {a t : Nat} (ha : a < 2) (ht : t < 8) (h4 : ¬ inP v 0 4 = 0) (hsc : sc ≤ 6) : C0 E YX7_carry 0 0 [.ref (ad 214), .int (nI a), .int (nI t), .int v] ws (fun v9 w9 => v9 = some (.int ((pW p a).1 t 10)) ∧ ZM E ad w9 (pTone p a t (upd ((pW p a).1 t) 10 v)) (svN p sv sc) (scN sc) len ch 0 hh ∧ MO ws w9) := by
  obtain ⟨ea, iw, z, rw, as, l, hs, hq, er, bf, ⟨h, hz, hr, has, hl⟩, ⟨hhs, hha, hbf, he⟩, ⟨hG, hLG⟩, hsv, hlen, hch⟩ := id hM
  have hs1 : stA a t + 7 ≤ 112 := by unfold stA; omega
  have hc1 : acA a t + 11 ≤ 288 := by unfold acA; omega
  refine c0V vX7_carry (Nat.le_of_ble_eq_true rfl) (lv0 := [(0, .ref (ad 214)), (1, .int (nI a)), (2, .int (nI t)), (3, .int v)]) rfl ?_
  refine ev_ss DX7_carry 2 0 (pc' := 2) (lv' := [(0, .ref _), (1, .int _), (2, .int _), (3, .int _)]) (st' := [.int 0, .ref _]) rfl ?_
  refine ev_put (fs' := [_, _, _, _, _, _, _, _, _, _, _, _, _, _]) DX7_carry 2 GX7 rfl (k0 := 9) (Nat.le_of_ble_eq_true rfl) fX7_35 rfl ⟨rfl, rfl⟩ h (Nat.le_of_ble_eq_true rfl) rfl rfl ?_
  refine ev_ss DX7_carry 1 3 (pc' := 6) (lv' := [(0, .ref _), (1, .int _), (2, .int _), (3, .int _)]) (st' := [.int _]) rfl ?_
  refine ev_cS DX7_carry 4 m_X7_isWay vX7_isWay rfl qX7_46 rfl (hd_of rfl rfl rfl rfl) ?_
  refine ev_ifeq DX7_carry 5 rfl (tgt := 19) (by decide) (fun h => absurd h (inW_g ha)) (fun _ => ?_)
  refine ev_ss DX7_carry 1 6 (pc' := 13) (lv' := [(0, .ref _), (1, .int _), (2, .int _), (3, .int _)]) (st' := [.int _]) rfl ?_
  refine ev_cS DX7_carry 7 m_X7_isTone vX7_isTone rfl qX7_50 rfl (hd_of rfl rfl rfl rfl) ?_
  refine ev_ifne DX7_carry 8 rfl (tgt := 25) (by decide) (fun _ => ?_) (fun h => absurd h (inT_g ht))
  refine ev_ss DX7_carry 3 13 (pc' := 28) (lv' := [(0, .ref _), (1, .int _), (2, .int _), (3, .int _)]) (st' := [.int 4, .int 0, .int _]) rfl ?_
  refine ev_cS DX7_carry 16 m_X7_in vX7_in rfl qX7_39 rfl (hd_of rfl rfl rfl rfl) ?_
  refine ev_ifne DX7_carry 17 rfl (tgt := 40) (by decide) (fun _ => ?_) (fun h => absurd h h4)
  refine ev_ss DX7_carry 1 22 (pc' := 41) (lv' := [(0, .ref _), (1, .int _), (2, .int _), (3, .int _)]) (st' := [.ref _]) rfl ?_
  refine ev_rV DX7_carry 23 (m_X7_save (hM.t0 h (tw := 0)) hsc) vX7_save rfl qX7_61 rfl (wset_get h) rfl (hd_of rfl rfl rfl rfl) (fun v w hvw => ?_)
  obtain ⟨rfl, hM2, hO2⟩ := hvw
  obtain ⟨ea2, iw2, z2, rw2, as2, l2, hs2, hq2, er2, bf2, ⟨h2, hz2, hr2, has2, hl2⟩, ⟨hhs2, hha2, hbf2, he2⟩, ⟨hG2, hLG2⟩, hsv2, hlen2, hch2⟩ := id hM2
  refine ev_ss DX7_carry 3 24 (pc' := 47) (lv' := [(0, .ref _), (1, .int _), (2, .int _), (3, .int _)]) (st' := [.int _, .int _, .ref _]) rfl ?_
  refine ev_cV DX7_carry 27 (m_X7_accentAt h2) vX7_accentAt rfl qX7_68 rfl h2 rfl (hd_of rfl rfl rfl rfl) ?_
  refine ev_ss DX7_carry 4 28 (pc' := 55) (lv' := [(4, .int _), (0, .ref _), (1, .int _), (2, .int _), (3, .int _)]) (st' := [.ref _]) rfl ?_
  refine ev_get DX7_carry 32 GX7 rfl (k0 := 0) (Nat.le_of_ble_eq_true rfl) fX7_7 h2 rfl ?_
  refine ev_ss DX7_carry 1 33 (pc' := 60) (lv' := [(4, .int _), (0, .ref _), (1, .int _), (2, .int _), (3, .int _)]) (st' := [.int _, .ref _]) rfl ?_
  refine ev_ialdv DX7_carry 34 (k0 := (acA a t + 3)) rfl hz2 (nx_add (a := acA a t) (b := 3) rfl rfl) (by omega) (by decide) ((hG2.2.1 a t 3 ha ht (by decide))) ?_
  refine ev_ss DX7_carry 2 35 (pc' := 64) (lv' := [(5, .int _), (4, .int _), (0, .ref _), (1, .int _), (2, .int _), (3, .int _)]) (st' := [.ref _]) rfl ?_
  refine ev_get DX7_carry 37 GX7 rfl (k0 := 0) (Nat.le_of_ble_eq_true rfl) fX7_7 h2 rfl ?_
  refine ev_ss DX7_carry 2 38 (pc' := 70) (lv' := [(5, .int _), (4, .int _), (0, .ref _), (1, .int _), (2, .int _), (3, .int _)]) (st' := [.int _, .int _, .ref _]) rfl ?_
  refine ev_iastv DX7_carry 40 (k0 := (acA a t + 3)) rfl hz2 (nx_add (a := acA a t) (b := 3) rfl rfl) (by omega) (by decide) rfl ?_
  refine ev_ss DX7_carry 1 41 (pc' := 73) (lv' := [(5, .int _), (4, .int _), (0, .ref _), (1, .int _), (2, .int _), (3, .int _)]) (st' := [.int _]) rfl ?_
  exact ev_iret DX7_carry 42 rfl rfl ⟨rfl, hM2.zz ((show ZG z2 (pTone p a t ((pW p a).1 t)) from by rw [pT_id]; exact hG2).ac ha ht (j := 3) (by decide)) (fun l hl => hl.tone ha), ((MO.set (by decide) (by decide)).tr hO2).tr (MO.set (by decide) (by decide))⟩
set_option maxRecDepth 100000 in
set_option maxHeartbeats 4000000 in
theorem m_X7_insult_ok {E : gE} {ad : Nat → Nat} {ws : va_W} {p : PS} {sv : Nat → PS} {sc len : Nat} {ch : Nat → Int32} {tw : Int32} {hh : Int64} (hM : ZM E ad ws p sv sc len ch tw hh) {v : Int32} {a t : Nat} (ha : a < 2) (ht : t < 8) (h4 : ¬ inP v (-300) 300 = 0) (h5 : ¬ inP ((pW p a).1 t 4 + v) (-1000) 1000 = 0) (hsc : sc ≤ 6) : C0 E YX7_insult 0 0 [.ref (ad 214), .int (nI a), .int (nI t), .int v] ws (fun v9 w9 => v9 = some (.int ((pW p a).1 t 4 + v)) ∧ ZM E ad w9 (pTone p a t (upd ((pW p a).1 t) 4 ((pW p a).1 t 4 + v))) (svN p sv sc) (scN sc) len ch 0 hh ∧ MO ws w9) := by
  obtain ⟨ea, iw, z, rw, as, l, hs, hq, er, bf, ⟨h, hz, hr, has, hl⟩, ⟨hhs, hha, hbf, he⟩, ⟨hG, hLG⟩, hsv, hlen, hch⟩ := id hM
  have hs1 : stA a t + 7 ≤ 112 := by unfold stA; omega
  have hc1 : acA a t + 11 ≤ 288 := by unfold acA; omega
  refine c0V vX7_insult (Nat.le_of_ble_eq_true rfl) (lv0 := [(0, .ref (ad 214)), (1, .int (nI a)), (2, .int (nI t)), (3, .int v)]) rfl ?_
  refine ev_ss DX7_insult 2 0 (pc' := 2) (lv' := [(0, .ref _), (1, .int _), (2, .int _), (3, .int _)]) (st' := [.int 0, .ref _]) rfl ?_
  refine ev_put (fs' := [_, _, _, _, _, _, _, _, _, _, _, _, _, _]) DX7_insult 2 GX7 rfl (k0 := 9) (Nat.le_of_ble_eq_true rfl) fX7_35 rfl ⟨rfl, rfl⟩ h (Nat.le_of_ble_eq_true rfl) rfl rfl ?_
  refine ev_ss DX7_insult 1 3 (pc' := 6) (lv' := [(0, .ref _), (1, .int _), (2, .int _), (3, .int _)]) (st' := [.int _]) rfl ?_
  refine ev_cS DX7_insult 4 m_X7_isWay vX7_isWay rfl qX7_46 rfl (hd_of rfl rfl rfl rfl) ?_
  refine ev_ifeq DX7_insult 5 rfl (tgt := 19) (by decide) (fun h => absurd h (inW_g ha)) (fun _ => ?_)
  refine ev_ss DX7_insult 1 6 (pc' := 13) (lv' := [(0, .ref _), (1, .int _), (2, .int _), (3, .int _)]) (st' := [.int _]) rfl ?_
  refine ev_cS DX7_insult 7 m_X7_isTone vX7_isTone rfl qX7_50 rfl (hd_of rfl rfl rfl rfl) ?_
  refine ev_ifne DX7_insult 8 rfl (tgt := 25) (by decide) (fun _ => ?_) (fun h => absurd h (inT_g ht))
  refine ev_ss DX7_insult 3 13 (pc' := 32) (lv' := [(0, .ref _), (1, .int _), (2, .int _), (3, .int _)]) (st' := [.int 300, .int (-300), .int _]) rfl ?_
  refine ev_cS DX7_insult 16 m_X7_in vX7_in rfl qX7_39 rfl (hd_of rfl rfl rfl rfl) ?_
  refine ev_ifne DX7_insult 17 rfl (tgt := 44) (by decide) (fun _ => ?_) (fun h => absurd h h4)
  refine ev_ss DX7_insult 3 22 (pc' := 47) (lv' := [(0, .ref _), (1, .int _), (2, .int _), (3, .int _)]) (st' := [.int _, .int _, .ref _]) rfl ?_
  refine ev_cV DX7_insult 25 (m_X7_streetAt (wset_get h)) vX7_streetAt rfl qX7_64 rfl (wset_get h) rfl (hd_of rfl rfl rfl rfl) ?_
  refine ev_ss DX7_insult 4 26 (pc' := 55) (lv' := [(4, .int _), (0, .ref _), (1, .int _), (2, .int _), (3, .int _)]) (st' := [.ref _]) rfl ?_
  refine ev_get DX7_insult 30 GX7 rfl (k0 := 0) (Nat.le_of_ble_eq_true rfl) fX7_7 (wset_get h) rfl ?_
  refine ev_ss DX7_insult 1 31 (pc' := 60) (lv' := [(4, .int _), (0, .ref _), (1, .int _), (2, .int _), (3, .int _)]) (st' := [.int _, .ref _]) rfl ?_
  refine ev_ialdv DX7_insult 32 (k0 := (stA a t + 4)) rfl (wset_o hz h rfl) (nx_add (a := stA a t) (b := 4) rfl rfl) (by omega) (by decide) ((hG.1 a t 4 ha ht (by decide))) ?_
  refine ev_ss DX7_insult 4 33 (pc' := 69) (lv' := [(4, .int _), (0, .ref _), (1, .int _), (2, .int _), (3, .int _)]) (st' := [.int 1000, .int (-1000), .int _]) rfl ?_
  refine ev_cS DX7_insult 37 m_X7_in vX7_in rfl qX7_39 rfl (hd_of rfl rfl rfl rfl) ?_
  refine ev_ifne DX7_insult 38 rfl (tgt := 81) (by decide) (fun _ => ?_) (fun h => absurd h h5)
  refine ev_ss DX7_insult 1 43 (pc' := 82) (lv' := [(4, .int _), (0, .ref _), (1, .int _), (2, .int _), (3, .int _)]) (st' := [.ref _]) rfl ?_
  refine ev_rV DX7_insult 44 (m_X7_save (hM.t0 h (tw := 0)) hsc) vX7_save rfl qX7_61 rfl (wset_get h) rfl (hd_of rfl rfl rfl rfl) (fun v w hvw => ?_)
  obtain ⟨rfl, hM2, hO2⟩ := hvw
  obtain ⟨ea2, iw2, z2, rw2, as2, l2, hs2, hq2, er2, bf2, ⟨h2, hz2, hr2, has2, hl2⟩, ⟨hhs2, hha2, hbf2, he2⟩, ⟨hG2, hLG2⟩, hsv2, hlen2, hch2⟩ := id hM2
  refine ev_ss DX7_insult 1 45 (pc' := 86) (lv' := [(4, .int _), (0, .ref _), (1, .int _), (2, .int _), (3, .int _)]) (st' := [.ref _]) rfl ?_
  refine ev_get DX7_insult 46 GX7 rfl (k0 := 0) (Nat.le_of_ble_eq_true rfl) fX7_7 h2 rfl ?_
  refine ev_ss DX7_insult 2 47 (pc' := 92) (lv' := [(4, .int _), (0, .ref _), (1, .int _), (2, .int _), (3, .int _)]) (st' := [.int _, .ref _, .int _, .ref _]) rfl ?_
  refine ev_ialdv DX7_insult 49 (k0 := (stA a t + 4)) rfl hz2 (nx_add (a := stA a t) (b := 4) rfl rfl) (by omega) (by decide) ((hG2.1 a t 4 ha ht (by decide))) ?_
  refine ev_ss DX7_insult 2 50 (pc' := 95) (lv' := [(4, .int _), (0, .ref _), (1, .int _), (2, .int _), (3, .int _)]) (st' := [.int _, .int _, .ref _]) rfl ?_
  refine ev_iastv DX7_insult 52 (k0 := (stA a t + 4)) rfl hz2 (nx_add (a := stA a t) (b := 4) rfl rfl) (by omega) (by decide) rfl ?_
  refine ev_ss DX7_insult 1 53 (pc' := 97) (lv' := [(4, .int _), (0, .ref _), (1, .int _), (2, .int _), (3, .int _)]) (st' := [.ref _]) rfl ?_
  refine ev_get DX7_insult 54 GX7 rfl (k0 := 0) (Nat.le_of_ble_eq_true rfl) fX7_7 (wset_o h2 hz2 rfl) rfl ?_
  refine ev_ss DX7_insult 1 55 (pc' := 102) (lv' := [(4, .int _), (0, .ref _), (1, .int _), (2, .int _), (3, .int _)]) (st' := [.int _, .ref _]) rfl ?_
  refine ev_ialdv DX7_insult 56 (k0 := (stA a t + 4)) rfl (wset_get hz2) (nx_add (a := stA a t) (b := 4) rfl rfl) (by omega) (by decide) (upd_eq) ?_
  exact ev_iret DX7_insult 57 rfl rfl ⟨rfl, hM2.zz ((show ZG z2 (pTone p a t ((pW p a).1 t)) from by rw [pT_id]; exact hG2).st ha ht (j := 4) (by decide)) (fun l hl => hl.tone ha), ((MO.set (by decide) (by decide)).tr hO2).tr (MO.set (by decide) (by decide))⟩
set_option maxRecDepth 100000 in
set_option maxHeartbeats 4000000 in
theorem m_X7_set_ok {E : gE} {ad : Nat → Nat} {ws : va_W} {p : PS} {sv : Nat → PS} {sc len : Nat} {ch : Nat → Int32} {tw : Int32} {hh : Int64} (hM : ZM E ad ws p sv sc len ch tw hh) {v : Int32} {j : Nat} (hj : j < 3) (h4 : ¬ inP v (gSv [1, 4, 1] j) (gSv [64, 40, 50] j) = 0) (hsc : sc ≤ 6) : C0 E YX7_set 0 0 [.ref (ad 214), .int (nI j), .int v] ws (fun v9 w9 => v9 = some (.int (p.2.2.1 j)) ∧ ZM E ad w9 (pSett p j v) (svN p sv sc) (scN sc) len ch 0 hh ∧ MO ws w9) := by
  obtain ⟨ea, iw, z, rw, as, l, hs, hq, er, bf, ⟨h, hz, hr, has, hl⟩, ⟨hhs, hha, hbf, he⟩, ⟨hG, hLG⟩, hsv, hlen, hch⟩ := id hM
  refine c0V vX7_set (Nat.le_of_ble_eq_true rfl) (lv0 := [(0, .ref (ad 214)), (1, .int (nI j)), (2, .int v)]) rfl ?_
  refine ev_ss DX7_set 2 0 (pc' := 2) (lv' := [(0, .ref _), (1, .int _), (2, .int _)]) (st' := [.int 0, .ref _]) rfl ?_
  refine ev_put (fs' := [_, _, _, _, _, _, _, _, _, _, _, _, _, _]) DX7_set 2 GX7 rfl (k0 := 9) (Nat.le_of_ble_eq_true rfl) fX7_35 rfl ⟨rfl, rfl⟩ h (Nat.le_of_ble_eq_true rfl) rfl rfl ?_
  refine ev_ss DX7_set 3 3 (pc' := 8) (lv' := [(0, .ref _), (1, .int _), (2, .int _)]) (st' := [.int 2, .int 0, .int _]) rfl ?_
  refine ev_cS DX7_set 6 m_X7_in vX7_in rfl qX7_39 rfl (hd_of rfl rfl rfl rfl) ?_
  refine ev_ifne DX7_set 7 rfl (tgt := 20) (by decide) (fun _ => ?_) (fun h => absurd h (in_nI 2 (by decide) j hj))
  refine ev_ss DX7_set 2 12 (pc' := 22) (lv' := [(0, .ref _), (1, .int _), (2, .int _)]) (st' := [.int _, .int _]) rfl ?_
  refine ev_cS DX7_set 14 (m_X7_maySet hj) vX7_maySet rfl qX7_71 rfl (hd_of rfl rfl rfl rfl) ?_
  refine ev_ifne DX7_set 15 rfl (tgt := 34) (by decide) (fun _ => ?_) (fun h => absurd h h4)
  refine ev_ss DX7_set 1 20 (pc' := 35) (lv' := [(0, .ref _), (1, .int _), (2, .int _)]) (st' := [.ref _]) rfl ?_
  refine ev_rV DX7_set 21 (m_X7_save (hM.t0 h (tw := 0)) hsc) vX7_save rfl qX7_61 rfl (wset_get h) rfl (hd_of rfl rfl rfl rfl) (fun v w hvw => ?_)
  obtain ⟨rfl, hM2, hO2⟩ := hvw
  obtain ⟨ea2, iw2, z2, rw2, as2, l2, hs2, hq2, er2, bf2, ⟨h2, hz2, hr2, has2, hl2⟩, ⟨hhs2, hha2, hbf2, he2⟩, ⟨hG2, hLG2⟩, hsv2, hlen2, hch2⟩ := id hM2
  refine ev_ss DX7_set 1 22 (pc' := 39) (lv' := [(0, .ref _), (1, .int _), (2, .int _)]) (st' := [.ref _]) rfl ?_
  refine ev_get DX7_set 23 GX7 rfl (k0 := 0) (Nat.le_of_ble_eq_true rfl) fX7_7 h2 rfl ?_
  refine ev_ss DX7_set 3 24 (pc' := 47) (lv' := [(0, .ref _), (1, .int _), (2, .int _)]) (st' := [.int _, .ref _]) rfl ?_
  refine ev_ialdv DX7_set 27 (k0 := (808 + j)) rfl hz2 (nx_add (a := 808) (b := j) rfl rfl) (by omega) (by decide) ((hG2.2.2.2.2.2.2 j hj)) ?_
  refine ev_ss DX7_set 2 28 (pc' := 50) (lv' := [(3, .int _), (0, .ref _), (1, .int _), (2, .int _)]) (st' := [.ref _]) rfl ?_
  refine ev_get DX7_set 30 GX7 rfl (k0 := 0) (Nat.le_of_ble_eq_true rfl) fX7_7 h2 rfl ?_
  refine ev_ss DX7_set 4 31 (pc' := 59) (lv' := [(3, .int _), (0, .ref _), (1, .int _), (2, .int _)]) (st' := [.int _, .int _, .ref _]) rfl ?_
  refine ev_iastv DX7_set 35 (k0 := (808 + j)) rfl hz2 (nx_add (a := 808) (b := j) rfl rfl) (by omega) (by decide) rfl ?_
  refine ev_ss DX7_set 1 36 (pc' := 61) (lv' := [(3, .int _), (0, .ref _), (1, .int _), (2, .int _)]) (st' := [.int _]) rfl ?_
  exact ev_iret DX7_set 37 rfl rfl ⟨rfl, hM2.zz (hG2.sett hj) (fun l hl => hl.sett), ((MO.set (by decide) (by decide)).tr hO2).tr (MO.set (by decide) (by decide))⟩
set_option maxRecDepth 100000 in
set_option maxHeartbeats 4000000 in
theorem m_X7_street_ok {E : gE} {ad : Nat → Nat} {ws : va_W} {p : PS} {sv : Nat → PS} {sc len : Nat} {ch : Nat → Int32} {tw : Int32} {hh : Int64} (hM : ZM E ad ws p sv sc len ch tw hh) {a t : Nat} (ha : a < 2) (ht : t < 8) {j : Nat} (hj : j < 7) : C0 E YX7_street 0 0 [.ref (ad 214), .int (nI a), .int (nI t), .int (nI j)] ws (fun v9 w9 => v9 = some (.int ((pW p a).1 t j)) ∧ ZM E ad w9 p sv sc len ch 0 hh ∧ MO ws w9) := by
  obtain ⟨ea, iw, z, rw, as, l, hs, hq, er, bf, ⟨h, hz, hr, has, hl⟩, ⟨hhs, hha, hbf, he⟩, ⟨hG, hLG⟩, hsv, hlen, hch⟩ := id hM
  have hs1 : stA a t + 7 ≤ 112 := by unfold stA; omega
  have hc1 : acA a t + 11 ≤ 288 := by unfold acA; omega
  refine c0V vX7_street (Nat.le_of_ble_eq_true rfl) (lv0 := [(0, .ref (ad 214)), (1, .int (nI a)), (2, .int (nI t)), (3, .int (nI j))]) rfl ?_
  refine ev_ss DX7_street 2 0 (pc' := 2) (lv' := [(0, .ref _), (1, .int _), (2, .int _), (3, .int _)]) (st' := [.int 0, .ref _]) rfl ?_
  refine ev_put (fs' := [_, _, _, _, _, _, _, _, _, _, _, _, _, _]) DX7_street 2 GX7 rfl (k0 := 9) (Nat.le_of_ble_eq_true rfl) fX7_35 rfl ⟨rfl, rfl⟩ h (Nat.le_of_ble_eq_true rfl) rfl rfl ?_
  refine ev_ss DX7_street 1 3 (pc' := 6) (lv' := [(0, .ref _), (1, .int _), (2, .int _), (3, .int _)]) (st' := [.int _]) rfl ?_
  refine ev_cS DX7_street 4 m_X7_isWay vX7_isWay rfl qX7_46 rfl (hd_of rfl rfl rfl rfl) ?_
  refine ev_ifeq DX7_street 5 rfl (tgt := 19) (by decide) (fun h => absurd h (inW_g ha)) (fun _ => ?_)
  refine ev_ss DX7_street 1 6 (pc' := 13) (lv' := [(0, .ref _), (1, .int _), (2, .int _), (3, .int _)]) (st' := [.int _]) rfl ?_
  refine ev_cS DX7_street 7 m_X7_isTone vX7_isTone rfl qX7_50 rfl (hd_of rfl rfl rfl rfl) ?_
  refine ev_ifne DX7_street 8 rfl (tgt := 25) (by decide) (fun _ => ?_) (fun h => absurd h (inT_g ht))
  refine ev_ss DX7_street 3 13 (pc' := 29) (lv' := [(0, .ref _), (1, .int _), (2, .int _), (3, .int _)]) (st' := [.int 6, .int 0, .int _]) rfl ?_
  refine ev_cS DX7_street 16 m_X7_in vX7_in rfl qX7_39 rfl (hd_of rfl rfl rfl rfl) ?_
  refine ev_ifeq DX7_street 17 rfl (tgt := 51) (by decide) (fun h => absurd h (in_nI 6 (by decide) j hj)) (fun _ => ?_)
  refine ev_ss DX7_street 1 18 (pc' := 36) (lv' := [(0, .ref _), (1, .int _), (2, .int _), (3, .int _)]) (st' := [.ref _]) rfl ?_
  refine ev_get DX7_street 19 GX7 rfl (k0 := 0) (Nat.le_of_ble_eq_true rfl) fX7_7 (wset_get h) rfl ?_
  refine ev_ss DX7_street 3 20 (pc' := 42) (lv' := [(0, .ref _), (1, .int _), (2, .int _), (3, .int _)]) (st' := [.int _, .int _, .ref _, .ref _]) rfl ?_
  refine ev_cV DX7_street 23 (m_X7_streetAt (wset_get h)) vX7_streetAt rfl qX7_64 rfl (wset_get h) rfl (hd_of rfl rfl rfl rfl) ?_
  refine ev_ss DX7_street 2 24 (pc' := 47) (lv' := [(0, .ref _), (1, .int _), (2, .int _), (3, .int _)]) (st' := [.int _, .ref _]) rfl ?_
  refine ev_ialdv DX7_street 26 (k0 := (stA a t + j)) rfl (wset_o hz h rfl) (nx_add (a := stA a t) (b := j) rfl rfl) (by omega) (by decide) ((hG.1 a t j ha ht hj)) ?_
  refine ev_goto DX7_street 27 rfl (tgt := 56) (by decide) ?_
  exact ev_iret DX7_street 31 rfl rfl ⟨rfl, hM.t0 h, MO.set (by decide) (by decide)⟩
set_option maxRecDepth 100000 in
set_option maxHeartbeats 4000000 in
theorem m_X7_accent_ok {E : gE} {ad : Nat → Nat} {ws : va_W} {p : PS} {sv : Nat → PS} {sc len : Nat} {ch : Nat → Int32} {tw : Int32} {hh : Int64} (hM : ZM E ad ws p sv sc len ch tw hh) {a t : Nat} (ha : a < 2) (ht : t < 8) {j : Nat} (hj : j < 11) : C0 E YX7_accent 0 0 [.ref (ad 214), .int (nI a), .int (nI t), .int (nI j)] ws (fun v9 w9 => v9 = some (.int ((pW p a).1 t (7 + j))) ∧ ZM E ad w9 p sv sc len ch 0 hh ∧ MO ws w9) := by
  obtain ⟨ea, iw, z, rw, as, l, hs, hq, er, bf, ⟨h, hz, hr, has, hl⟩, ⟨hhs, hha, hbf, he⟩, ⟨hG, hLG⟩, hsv, hlen, hch⟩ := id hM
  have hs1 : stA a t + 7 ≤ 112 := by unfold stA; omega
  have hc1 : acA a t + 11 ≤ 288 := by unfold acA; omega
  refine c0V vX7_accent (Nat.le_of_ble_eq_true rfl) (lv0 := [(0, .ref (ad 214)), (1, .int (nI a)), (2, .int (nI t)), (3, .int (nI j))]) rfl ?_
  refine ev_ss DX7_accent 2 0 (pc' := 2) (lv' := [(0, .ref _), (1, .int _), (2, .int _), (3, .int _)]) (st' := [.int 0, .ref _]) rfl ?_
  refine ev_put (fs' := [_, _, _, _, _, _, _, _, _, _, _, _, _, _]) DX7_accent 2 GX7 rfl (k0 := 9) (Nat.le_of_ble_eq_true rfl) fX7_35 rfl ⟨rfl, rfl⟩ h (Nat.le_of_ble_eq_true rfl) rfl rfl ?_
  refine ev_ss DX7_accent 1 3 (pc' := 6) (lv' := [(0, .ref _), (1, .int _), (2, .int _), (3, .int _)]) (st' := [.int _]) rfl ?_
  refine ev_cS DX7_accent 4 m_X7_isWay vX7_isWay rfl qX7_46 rfl (hd_of rfl rfl rfl rfl) ?_
  refine ev_ifeq DX7_accent 5 rfl (tgt := 19) (by decide) (fun h => absurd h (inW_g ha)) (fun _ => ?_)
  refine ev_ss DX7_accent 1 6 (pc' := 13) (lv' := [(0, .ref _), (1, .int _), (2, .int _), (3, .int _)]) (st' := [.int _]) rfl ?_
  refine ev_cS DX7_accent 7 m_X7_isTone vX7_isTone rfl qX7_50 rfl (hd_of rfl rfl rfl rfl) ?_
  refine ev_ifne DX7_accent 8 rfl (tgt := 25) (by decide) (fun _ => ?_) (fun h => absurd h (inT_g ht))
  refine ev_ss DX7_accent 3 13 (pc' := 29) (lv' := [(0, .ref _), (1, .int _), (2, .int _), (3, .int _)]) (st' := [.int 10, .int 0, .int _]) rfl ?_
  refine ev_cS DX7_accent 16 m_X7_in vX7_in rfl qX7_39 rfl (hd_of rfl rfl rfl rfl) ?_
  refine ev_ifeq DX7_accent 17 rfl (tgt := 51) (by decide) (fun h => absurd h (in_nI 10 (by decide) j hj)) (fun _ => ?_)
  refine ev_ss DX7_accent 1 18 (pc' := 36) (lv' := [(0, .ref _), (1, .int _), (2, .int _), (3, .int _)]) (st' := [.ref _]) rfl ?_
  refine ev_get DX7_accent 19 GX7 rfl (k0 := 0) (Nat.le_of_ble_eq_true rfl) fX7_7 (wset_get h) rfl ?_
  refine ev_ss DX7_accent 3 20 (pc' := 42) (lv' := [(0, .ref _), (1, .int _), (2, .int _), (3, .int _)]) (st' := [.int _, .int _, .ref _, .ref _]) rfl ?_
  refine ev_cV DX7_accent 23 (m_X7_accentAt (wset_get h)) vX7_accentAt rfl qX7_68 rfl (wset_get h) rfl (hd_of rfl rfl rfl rfl) ?_
  refine ev_ss DX7_accent 2 24 (pc' := 47) (lv' := [(0, .ref _), (1, .int _), (2, .int _), (3, .int _)]) (st' := [.int _, .ref _]) rfl ?_
  refine ev_ialdv DX7_accent 26 (k0 := (acA a t + j)) rfl (wset_o hz h rfl) (nx_add (a := acA a t) (b := j) rfl rfl) (by omega) (by decide) ((hG.2.1 a t j ha ht hj)) ?_
  refine ev_goto DX7_accent 27 rfl (tgt := 56) (by decide) ?_
  exact ev_iret DX7_accent 31 rfl rfl ⟨rfl, hM.t0 h, MO.set (by decide) (by decide)⟩
set_option maxRecDepth 100000 in
set_option maxHeartbeats 4000000 in
theorem m_X7_waits_ok {E : gE} {ad : Nat → Nat} {ws : va_W} {p : PS} {sv : Nat → PS} {sc len : Nat} {ch : Nat → Int32} {tw : Int32} {hh : Int64} (hM : ZM E ad ws p sv sc len ch tw hh) {a : Nat} (ha : a < 2) {i : Nat} (hi : i < (pW p a).2.1.length) : C0 E YX7_waits 0 0 [.ref (ad 214), .int (nI a), .int (nI i)] ws (fun v9 w9 => v9 = some (.int ((pW p a).2.1.getD i 0)) ∧ ZM E ad w9 p sv sc len ch 0 hh ∧ MO ws w9) := by
  obtain ⟨ea, iw, z, rw, as, l, hs, hq, er, bf, ⟨h, hz, hr, has, hl⟩, ⟨hhs, hha, hbf, he⟩, ⟨hG, hLG⟩, hsv, hlen, hch⟩ := id hM
  have hL := (hG.2.2.2.1 a ha).1
  refine c0V vX7_waits (Nat.le_of_ble_eq_true rfl) (lv0 := [(0, .ref (ad 214)), (1, .int (nI a)), (2, .int (nI i))]) rfl ?_
  refine ev_ss DX7_waits 2 0 (pc' := 2) (lv' := [(0, .ref _), (1, .int _), (2, .int _)]) (st' := [.int 0, .ref _]) rfl ?_
  refine ev_put (fs' := [_, _, _, _, _, _, _, _, _, _, _, _, _, _]) DX7_waits 2 GX7 rfl (k0 := 9) (Nat.le_of_ble_eq_true rfl) fX7_35 rfl ⟨rfl, rfl⟩ h (Nat.le_of_ble_eq_true rfl) rfl rfl ?_
  refine ev_ss DX7_waits 1 3 (pc' := 6) (lv' := [(0, .ref _), (1, .int _), (2, .int _)]) (st' := [.int _]) rfl ?_
  refine ev_cS DX7_waits 4 m_X7_isWay vX7_isWay rfl qX7_46 rfl (hd_of rfl rfl rfl rfl) ?_
  refine ev_ifeq DX7_waits 5 rfl (tgt := 32) (by decide) (fun h => absurd h (inW_g ha)) (fun _ => ?_)
  refine ev_ss DX7_waits 3 6 (pc' := 15) (lv' := [(0, .ref _), (1, .int _), (2, .int _)]) (st' := [.ref _, .int 0, .int _]) rfl ?_
  refine ev_get DX7_waits 9 GX7 rfl (k0 := 0) (Nat.le_of_ble_eq_true rfl) fX7_7 (wset_get h) rfl ?_
  refine ev_ss DX7_waits 3 10 (pc' := 23) (lv' := [(0, .ref _), (1, .int _), (2, .int _)]) (st' := [.int _, .ref _, .int 0, .int _]) rfl ?_
  refine ev_ialdv DX7_waits 13 (k0 := (800 + a)) rfl (wset_o hz h rfl) (nx_add (a := 800) (b := a) rfl rfl) (by omega) (by decide) ((hG.2.2.2.1 a ha).2.1) ?_
  refine ev_ss DX7_waits 2 14 (pc' := 26) (lv' := [(0, .ref _), (1, .int _), (2, .int _)]) (st' := [.int _, .int 0, .int _]) rfl ?_
  refine ev_cS DX7_waits 16 m_X7_in vX7_in rfl qX7_39 rfl (hd_of rfl rfl rfl rfl) ?_
  refine ev_ifne DX7_waits 17 rfl (tgt := 38) (by decide) (fun _ => ?_) (fun h => absurd h (inL_g hi hL))
  refine ev_ss DX7_waits 1 22 (pc' := 39) (lv' := [(0, .ref _), (1, .int _), (2, .int _)]) (st' := [.ref _]) rfl ?_
  refine ev_get DX7_waits 23 GX7 rfl (k0 := 0) (Nat.le_of_ble_eq_true rfl) fX7_7 (wset_get h) rfl ?_
  refine ev_ss DX7_waits 7 24 (pc' := 53) (lv' := [(0, .ref _), (1, .int _), (2, .int _)]) (st' := [.int _, .ref _]) rfl ?_
  refine ev_ialdv DX7_waits 31 (k0 := ((288 + (256 * a)) + i)) rfl (wset_o hz h rfl) (nx_add (a := (288 + (256 * a))) (b := i) (nx_add (a := 288) (b := (256 * a)) rfl (nx_mul (a := 256) (b := a) rfl rfl)) rfl) (by omega) (by decide) ((hG.2.2.1 a i ha hi)) ?_
  exact ev_iret DX7_waits 32 rfl rfl ⟨rfl, hM.t0 h, MO.set (by decide) (by decide)⟩
set_option maxRecDepth 100000 in
set_option maxHeartbeats 4000000 in
theorem m_X7_had_ok {E : gE} {ad : Nat → Nat} {ws : va_W} {p : PS} {sv : Nat → PS} {sc len : Nat} {ch : Nat → Int32} {tw : Int32} {hh : Int64} (hM : ZM E ad ws p sv sc len ch tw hh) {a : Nat} (ha : a < 2) : C0 E YX7_had 0 0 [.ref (ad 214), .int (nI a)] ws (fun v9 w9 => v9 = some (.long (pW p a).2.2.1) ∧ ZM E ad w9 p sv sc len ch 0 hh ∧ MO ws w9) := by
  obtain ⟨ea, iw, z, rw, as, l, hs, hq, er, bf, ⟨h, hz, hr, has, hl⟩, ⟨hhs, hha, hbf, he⟩, ⟨hG, hLG⟩, hsv, hlen, hch⟩ := id hM
  refine c0V vX7_had (Nat.le_of_ble_eq_true rfl) (lv0 := [(0, .ref (ad 214)), (1, .int (nI a))]) rfl ?_
  refine ev_ss DX7_had 2 0 (pc' := 2) (lv' := [(0, .ref _), (1, .int _)]) (st' := [.int 0, .ref _]) rfl ?_
  refine ev_put (fs' := [_, _, _, _, _, _, _, _, _, _, _, _, _, _]) DX7_had 2 GX7 rfl (k0 := 9) (Nat.le_of_ble_eq_true rfl) fX7_35 rfl ⟨rfl, rfl⟩ h (Nat.le_of_ble_eq_true rfl) rfl rfl ?_
  refine ev_ss DX7_had 1 3 (pc' := 6) (lv' := [(0, .ref _), (1, .int _)]) (st' := [.int _]) rfl ?_
  refine ev_cS DX7_had 4 m_X7_isWay vX7_isWay rfl qX7_46 rfl (hd_of rfl rfl rfl rfl) ?_
  refine ev_ifeq DX7_had 5 rfl (tgt := 21) (by decide) (fun h => absurd h (inW_g ha)) (fun _ => ?_)
  refine ev_ss DX7_had 1 6 (pc' := 13) (lv' := [(0, .ref _), (1, .int _)]) (st' := [.ref _]) rfl ?_
  refine ev_get DX7_had 7 GX7 rfl (k0 := 3) (Nat.le_of_ble_eq_true rfl) fX7_19 (wset_get h) rfl ?_
  refine ev_ss DX7_had 1 8 (pc' := 17) (lv' := [(0, .ref _), (1, .int _)]) (st' := [.int _, .ref _]) rfl ?_
  refine ev_laldv DX7_had 9 (k0 := a) rfl (wset_o hl h rfl) rfl (by omega) (by decide) ((hLG a ha)) ?_
  refine ev_goto DX7_had 10 rfl (tgt := 27) (by decide) ?_
  exact ev_lret DX7_had 15 rfl rfl ⟨rfl, hM.t0 h, MO.set (by decide) (by decide)⟩
set_option maxRecDepth 100000 in
set_option maxHeartbeats 4000000 in
theorem m_X7_count_ok {E : gE} {ad : Nat → Nat} {ws : va_W} {p : PS} {sv : Nat → PS} {sc len : Nat} {ch : Nat → Int32} {tw : Int32} {hh : Int64} (hM : ZM E ad ws p sv sc len ch tw hh) {j : Nat} (hj : j < 13) : C0 E YX7_count 0 0 [.ref (ad 214), .int (nI j)] ws (fun v9 w9 => v9 = some (.int (cntV p sc j)) ∧ ZM E ad w9 p sv sc len ch 0 hh ∧ MO ws w9) := by
  obtain ⟨ea, iw, z, rw, as, l, hs, hq, er, bf, ⟨h, hz, hr, has, hl⟩, ⟨hhs, hha, hbf, he⟩, ⟨hG, hLG⟩, hsv, hlen, hch⟩ := id hM
  refine c0V vX7_count (Nat.le_of_ble_eq_true rfl) (lv0 := [(0, .ref (ad 214)), (1, .int (nI j))]) rfl ?_
  refine ev_ss DX7_count 2 0 (pc' := 2) (lv' := [(0, .ref _), (1, .int _)]) (st' := [.int 0, .ref _]) rfl ?_
  refine ev_put (fs' := [_, _, _, _, _, _, _, _, _, _, _, _, _, _]) DX7_count 2 GX7 rfl (k0 := 9) (Nat.le_of_ble_eq_true rfl) fX7_35 rfl ⟨rfl, rfl⟩ h (Nat.le_of_ble_eq_true rfl) rfl rfl ?_
  refine ev_ss DX7_count 3 3 (pc' := 9) (lv' := [(0, .ref _), (1, .int _)]) (st' := [.int 12, .int 0, .int _]) rfl ?_
  refine ev_cS DX7_count 6 m_X7_in vX7_in rfl qX7_39 rfl (hd_of rfl rfl rfl rfl) ?_
  refine ev_ifeq DX7_count 7 rfl (tgt := 23) (by decide) (fun h => absurd h (in_nI 12 (by decide) j hj)) (fun _ => ?_)
  refine ev_ss DX7_count 2 8 (pc' := 17) (lv' := [(0, .ref _), (1, .int _)]) (st' := [.int _, .ref _]) rfl ?_
  refine ev_cV DX7_count 10 (m_X7_counted (wset_get h) (wset_o hz h rfl) hG hj) vX7_counted rfl qX7_169 rfl (wset_get h) rfl (hd_of rfl rfl rfl rfl) ?_
  refine ev_goto DX7_count 11 rfl (tgt := 28) (by decide) ?_
  exact ev_iret DX7_count 15 rfl rfl ⟨rfl, hM.t0 h, MO.set (by decide) (by decide)⟩
set_option maxRecDepth 100000 in
set_option maxHeartbeats 4000000 in
theorem m_X7_setting_ok {E : gE} {ad : Nat → Nat} {ws : va_W} {p : PS} {sv : Nat → PS} {sc len : Nat} {ch : Nat → Int32} {tw : Int32} {hh : Int64} (hM : ZM E ad ws p sv sc len ch tw hh) {j : Nat} (hj : j < 3) : C0 E YX7_setting 0 0 [.ref (ad 214), .int (nI j)] ws (fun v9 w9 => v9 = some (.int (p.2.2.1 j)) ∧ ZM E ad w9 p sv sc len ch 0 hh ∧ MO ws w9) := by
  obtain ⟨ea, iw, z, rw, as, l, hs, hq, er, bf, ⟨h, hz, hr, has, hl⟩, ⟨hhs, hha, hbf, he⟩, ⟨hG, hLG⟩, hsv, hlen, hch⟩ := id hM
  refine c0V vX7_setting (Nat.le_of_ble_eq_true rfl) (lv0 := [(0, .ref (ad 214)), (1, .int (nI j))]) rfl ?_
  refine ev_ss DX7_setting 2 0 (pc' := 2) (lv' := [(0, .ref _), (1, .int _)]) (st' := [.int 0, .ref _]) rfl ?_
  refine ev_put (fs' := [_, _, _, _, _, _, _, _, _, _, _, _, _, _]) DX7_setting 2 GX7 rfl (k0 := 9) (Nat.le_of_ble_eq_true rfl) fX7_35 rfl ⟨rfl, rfl⟩ h (Nat.le_of_ble_eq_true rfl) rfl rfl ?_
  refine ev_ss DX7_setting 3 3 (pc' := 8) (lv' := [(0, .ref _), (1, .int _)]) (st' := [.int 2, .int 0, .int _]) rfl ?_
  refine ev_cS DX7_setting 6 m_X7_in vX7_in rfl qX7_39 rfl (hd_of rfl rfl rfl rfl) ?_
  refine ev_ifeq DX7_setting 7 rfl (tgt := 27) (by decide) (fun h => absurd h (in_nI 2 (by decide) j hj)) (fun _ => ?_)
  refine ev_ss DX7_setting 1 8 (pc' := 15) (lv' := [(0, .ref _), (1, .int _)]) (st' := [.ref _]) rfl ?_
  refine ev_get DX7_setting 9 GX7 rfl (k0 := 0) (Nat.le_of_ble_eq_true rfl) fX7_7 (wset_get h) rfl ?_
  refine ev_ss DX7_setting 3 10 (pc' := 23) (lv' := [(0, .ref _), (1, .int _)]) (st' := [.int _, .ref _]) rfl ?_
  refine ev_ialdv DX7_setting 13 (k0 := (808 + j)) rfl (wset_o hz h rfl) (nx_add (a := 808) (b := j) rfl rfl) (by omega) (by decide) ((hG.2.2.2.2.2.2 j hj)) ?_
  refine ev_goto DX7_setting 14 rfl (tgt := 32) (by decide) ?_
  exact ev_iret DX7_setting 18 rfl rfl ⟨rfl, hM.t0 h, MO.set (by decide) (by decide)⟩
set_option maxRecDepth 100000 in
set_option maxHeartbeats 4000000 in
theorem m_X7_sure_ok {E : gE} {ad : Nat → Nat} {ws : va_W} {p : PS} {sv : Nat → PS} {sc len : Nat} {ch : Nat → Int32} {tw : Int32} {hh : Int64} (hM : ZM E ad ws p sv sc len ch tw hh) {a t : Nat} (ha : a < 2) (ht : t < 8) : C0 E YX7_sure 0 0 [.ref (ad 214), .int (nI a), .int (nI t)] ws (fun v9 w9 => v9 = some (.int (surP ((pW p a).1 t))) ∧ ZM E ad w9 p sv sc len ch 0 hh ∧ MO ws w9) := by
  obtain ⟨ea, iw, z, rw, as, l, hs, hq, er, bf, ⟨h, hz, hr, has, hl⟩, ⟨hhs, hha, hbf, he⟩, ⟨hG, hLG⟩, hsv, hlen, hch⟩ := id hM
  have hs1 : stA a t + 7 ≤ 112 := by unfold stA; omega
  have hc1 : acA a t + 11 ≤ 288 := by unfold acA; omega
  refine c0V vX7_sure (Nat.le_of_ble_eq_true rfl) (lv0 := [(0, .ref (ad 214)), (1, .int (nI a)), (2, .int (nI t))]) rfl ?_
  refine ev_ss DX7_sure 2 0 (pc' := 2) (lv' := [(0, .ref _), (1, .int _), (2, .int _)]) (st' := [.int 0, .ref _]) rfl ?_
  refine ev_put (fs' := [_, _, _, _, _, _, _, _, _, _, _, _, _, _]) DX7_sure 2 GX7 rfl (k0 := 9) (Nat.le_of_ble_eq_true rfl) fX7_35 rfl ⟨rfl, rfl⟩ h (Nat.le_of_ble_eq_true rfl) rfl rfl ?_
  refine ev_ss DX7_sure 1 3 (pc' := 6) (lv' := [(0, .ref _), (1, .int _), (2, .int _)]) (st' := [.int _]) rfl ?_
  refine ev_cS DX7_sure 4 m_X7_isWay vX7_isWay rfl qX7_46 rfl (hd_of rfl rfl rfl rfl) ?_
  refine ev_ifeq DX7_sure 5 rfl (tgt := 28) (by decide) (fun h => absurd h (inW_g ha)) (fun _ => ?_)
  refine ev_ss DX7_sure 1 6 (pc' := 13) (lv' := [(0, .ref _), (1, .int _), (2, .int _)]) (st' := [.int _]) rfl ?_
  refine ev_cS DX7_sure 7 m_X7_isTone vX7_isTone rfl qX7_50 rfl (hd_of rfl rfl rfl rfl) ?_
  refine ev_ifeq DX7_sure 8 rfl (tgt := 28) (by decide) (fun h => absurd h (inT_g ht)) (fun _ => ?_)
  refine ev_ss DX7_sure 3 9 (pc' := 22) (lv' := [(0, .ref _), (1, .int _), (2, .int _)]) (st' := [.int _, .int _, .ref _]) rfl ?_
  refine ev_cV DX7_sure 12 (m_X7_sureOf (wset_get h) (wset_o hz h rfl) hG ha ht) vX7_sureOf rfl qX7_172 rfl (wset_get h) rfl (hd_of rfl rfl rfl rfl) ?_
  refine ev_goto DX7_sure 13 rfl (tgt := 33) (by decide) ?_
  exact ev_iret DX7_sure 17 rfl rfl ⟨rfl, hM.t0 h, MO.set (by decide) (by decide)⟩
set_option maxRecDepth 100000 in
set_option maxHeartbeats 4000000 in
theorem m_X7_append_ok {E : gE} {ad : Nat → Nat} {ws : va_W} {p : PS} {sv : Nat → PS} {sc len : Nat} {ch : Nat → Int32} {tw : Int32} {hh : Int64} (hM : ZM E ad ws p sv sc len ch tw hh) {x : Int32} (hx : ¬ inP x 33 126 = 0) (hl6 : len < 60) : C0 E YX7_append 0 0 [.ref (ad 214), .int x] ws (fun v9 w9 => v9 = some (.int (nI (len + 1))) ∧ ZM E ad w9 p sv sc (len + 1) (upd ch len x) 0 hh ∧ MO ws w9) := by
  obtain ⟨ea, iw, z, rw, as, l, hs, hq, er, bf, ⟨h, hz, hr, has, hl⟩, ⟨hhs, hha, hbf, he⟩, ⟨hG, hLG⟩, hsv, hlen, hch⟩ := id hM
  refine c0V vX7_append (Nat.le_of_ble_eq_true rfl) (lv0 := [(0, .ref (ad 214)), (1, .int x)]) rfl ?_
  refine ev_ss DX7_append 2 0 (pc' := 2) (lv' := [(0, .ref _), (1, .int _)]) (st' := [.int 0, .ref _]) rfl ?_
  refine ev_put (fs' := [_, _, _, _, _, _, _, _, _, _, _, _, _, _]) DX7_append 2 GX7 rfl (k0 := 9) (Nat.le_of_ble_eq_true rfl) fX7_35 rfl ⟨rfl, rfl⟩ h (Nat.le_of_ble_eq_true rfl) rfl rfl ?_
  refine ev_ss DX7_append 3 3 (pc' := 10) (lv' := [(0, .ref _), (1, .int _)]) (st' := [.int 126, .int 33, .int _]) rfl ?_
  refine ev_cS DX7_append 6 m_X7_in vX7_in rfl qX7_39 rfl (hd_of rfl rfl rfl rfl) ?_
  refine ev_ifne DX7_append 7 rfl (tgt := 22) (by decide) (fun _ => ?_) (fun h => absurd h hx)
  refine ev_ss DX7_append 1 12 (pc' := 23) (lv' := [(0, .ref _), (1, .int _)]) (st' := [.ref _]) rfl ?_
  refine ev_get DX7_append 13 GX7 rfl (k0 := 8) (Nat.le_of_ble_eq_true rfl) fX7_140 (wset_get h) rfl ?_
  refine ev_ss DX7_append 1 14 (pc' := 28) (lv' := [(0, .ref _), (1, .int _)]) (st' := [.int 60, .int _]) rfl ?_
  refine ev_icne DX7_append 15 rfl (tgt := 37) (by decide) (fun _ => ?_) (fun h => absurd h (fun e => absurd ((nI_eq (a := len) (b := 60) (by omega) (by decide)).mp e) (by omega)))
  refine ev_ss DX7_append 1 20 (pc' := 38) (lv' := [(0, .ref _), (1, .int _)]) (st' := [.ref _]) rfl ?_
  refine ev_get DX7_append 21 GX7 rfl (k0 := 7) (Nat.le_of_ble_eq_true rfl) fX7_29 (wset_get h) rfl ?_
  refine ev_ss DX7_append 1 22 (pc' := 42) (lv' := [(0, .ref _), (1, .int _)]) (st' := [.ref _, .ref _]) rfl ?_
  refine ev_get DX7_append 23 GX7 rfl (k0 := 8) (Nat.le_of_ble_eq_true rfl) fX7_140 (wset_get h) rfl ?_
  refine ev_ss DX7_append 1 24 (pc' := 46) (lv' := [(0, .ref _), (1, .int _)]) (st' := [.int _, .int _, .ref _]) rfl ?_
  refine ev_iastv DX7_append 25 (k0 := len) rfl (wset_o hbf h rfl) rfl (by omega) (by decide) rfl ?_
  refine ev_ss DX7_append 2 26 (pc' := 49) (lv' := [(0, .ref _), (1, .int _)]) (st' := [.ref _, .ref _]) rfl ?_
  refine ev_get DX7_append 28 GX7 rfl (k0 := 8) (Nat.le_of_ble_eq_true rfl) fX7_140 (wset_o (wset_get h) (wset_o hbf h rfl) rfl) rfl ?_
  refine ev_ss DX7_append 2 29 (pc' := 54) (lv' := [(0, .ref _), (1, .int _)]) (st' := [.int _, .ref _]) rfl ?_
  refine ev_put (fs' := [_, _, _, _, _, _, _, _, _, _, _, _, _, _]) DX7_append 31 GX7 rfl (k0 := 8) (Nat.le_of_ble_eq_true rfl) fX7_140 rfl ⟨rfl, rfl⟩ (wset_o (wset_get h) (wset_o hbf h rfl) rfl) (Nat.le_of_ble_eq_true rfl) rfl rfl ?_
  refine ev_ss DX7_append 1 32 (pc' := 58) (lv' := [(0, .ref _), (1, .int _)]) (st' := [.ref _]) rfl ?_
  refine ev_get DX7_append 33 GX7 rfl (k0 := 8) (Nat.le_of_ble_eq_true rfl) fX7_140 (wset_get (wset_o (wset_get h) (wset_o hbf h rfl) rfl)) rfl ?_
  exact ev_iret DX7_append 34 rfl rfl ⟨congrArg (fun v => some (Value.int v)) (nI_1 len), ⟨ea, iw, z, rw, as, l, hs, hq, er, upd bf len x, ⟨(wset_get (wset_o (wset_get h) (wset_o hbf h rfl) rfl)).trans (congrArg (fun v => some (ad 214, moC ad (nI sc) v 0 ea iw hh)) (nI_1 len)), (List.getElem?_set_ne (by decide)).trans ((List.getElem?_set_ne (by decide)).trans ((List.getElem?_set_ne (by decide)).trans hz)), (List.getElem?_set_ne (by decide)).trans ((List.getElem?_set_ne (by decide)).trans ((List.getElem?_set_ne (by decide)).trans hr)), (List.getElem?_set_ne (by decide)).trans ((List.getElem?_set_ne (by decide)).trans ((List.getElem?_set_ne (by decide)).trans has)), (List.getElem?_set_ne (by decide)).trans ((List.getElem?_set_ne (by decide)).trans ((List.getElem?_set_ne (by decide)).trans hl))⟩, ⟨(List.getElem?_set_ne (by decide)).trans ((List.getElem?_set_ne (by decide)).trans ((List.getElem?_set_ne (by decide)).trans hhs)), (List.getElem?_set_ne (by decide)).trans ((List.getElem?_set_ne (by decide)).trans ((List.getElem?_set_ne (by decide)).trans hha)), (List.getElem?_set_ne (by decide)).trans (wset_get (wset_o hbf h rfl)), (List.getElem?_set_ne (by decide)).trans ((List.getElem?_set_ne (by decide)).trans ((List.getElem?_set_ne (by decide)).trans he))⟩, ⟨hG, hLG⟩, hsv, hl6, fun j hj => (Decidable.em (j = len)).elim (fun e => by rw [e, upd_eq, upd_eq]) (fun e => (upd_ne e).trans ((hch j (by omega)).trans (upd_ne e).symm))⟩, ((MO.set (by decide) (by decide)).tr (MO.set (by decide) (by decide))).tr (MO.set (by decide) (by decide))⟩
theorem m_X7_clearBuffer_ok {E : gE} {ad : Nat → Nat} {ws : va_W} {p : PS} {sv : Nat → PS} {sc len : Nat} {ch : Nat → Int32} {tw : Int32} {hh : Int64} (hM : ZM E ad ws p sv sc len ch tw hh) : C0 E YX7_clearBuffer 0 0 [.ref (ad 214)] ws (fun v9 w9 => v9 = some (.int (nI len)) ∧ ZM E ad w9 p sv sc 0 ch 0 hh ∧ MO ws w9) := by
  obtain ⟨ea, iw, z, rw, as, l, hs, hq, er, bf, ⟨h, hz, hr, has, hl⟩, ⟨hhs, hha, hbf, he⟩, hst, hsv, hlen, hch⟩ := id hM
  refine c0_mono (m_X7_clearBuffer h) (fun v w hvw => ?_)
  obtain ⟨rfl, rfl⟩ := hvw
  exact ⟨rfl, ⟨ea, iw, z, rw, as, l, hs, hq, er, bf, ⟨wset_get h, (List.getElem?_set_ne (by decide)).trans hz, (List.getElem?_set_ne (by decide)).trans hr, (List.getElem?_set_ne (by decide)).trans has, (List.getElem?_set_ne (by decide)).trans hl⟩, ⟨(List.getElem?_set_ne (by decide)).trans hhs, (List.getElem?_set_ne (by decide)).trans hha, (List.getElem?_set_ne (by decide)).trans hbf, (List.getElem?_set_ne (by decide)).trans he⟩, hst, hsv, Nat.zero_le _, fun j hj => absurd hj (Nat.not_lt_zero j)⟩, MO.set (by decide) (by decide)⟩
