def LE (E : gE) (ad : Nat → Nat) (ws : va_W) (il : Nat) (lb : Int32) (sz : Nat → Int32) : Prop := ws[il]? = some (ad il, lesC (ad (il + 1)) lb) ∧ ∃ g : Nat → Int32, ws[il + 1]? = some (ad (il + 1), iaC E 64 g) ∧ ∀ j, j < 64 → g j = sz j
theorem LE.of {E : gE} {ad : Nat → Nat} {ws w : va_W} {il : Nat} {lb : Int32} {sz : Nat → Int32} (h : LE E ad ws il lb sz) (h1 : w[il]? = ws[il]?) (h2 : w[il + 1]? = ws[il + 1]?) : LE E ad w il lb sz := by
  obtain ⟨a, g, b, c⟩ := h
  exact ⟨h1.trans a, g, h2.trans b, c⟩
def mxP (a b : Int32) : Int32 := if a < b then b else a
def worN (sz : Nat → Int32) (t : Nat) : Nat → Int32
  | 0 => 0
  | i + 1 => mxP (worN sz t i) (sz (8 * t + i))
theorem nI_mul8 (t : Nat) : nI t * 8 = nI (8 * t) := by rw [show (8 : Int32) = nI 8 from rfl, pk_mul, Nat.mul_comm]
theorem ix8 (t i : Nat) : nI t * 8 + nI i = nI (8 * t + i) := by rw [nI_mul8, nI_add]
theorem fm_x : ∀ b, b < 128 → 0 ≤ nI b ^^^ 8 := by decide +kernel
set_option maxRecDepth 100000 in
set_option maxHeartbeats 4000000 in
theorem m_J9_floorMod_7cf53 {E : gE} {ws : va_W} {b : Nat} (hb : b < 128) : CD E YJ9_floorMod_7cf53 0 0 [.int (nI b), .int 8] ws (some (.int (nI (b % 8)))) ws := by
  refine cdS vJ9_floorMod_7cf53 (Nat.le_of_ble_eq_true rfl) (lv0 := [(0, .int (nI b)), (1, .int 8)]) rfl ?_
  refine ev_ss DJ9_floorMod_7cf53 2 0 (pc' := 2) (lv' := [(0, .int _), (1, .int _)]) (st' := [.int _, .int _]) rfl ?_
  refine ev_irem DJ9_floorMod_7cf53 2 rfl (by decide) ?_
  refine ev_ss DJ9_floorMod_7cf53 4 3 (pc' := 7) (lv' := [(2, .int _), (0, .int _), (1, .int _)]) (st' := [.int _]) rfl ?_
  refine ev_ifge DJ9_floorMod_7cf53 7 rfl (tgt := 18) (by decide) (fun _ => ?_) (fun h => h.elim (fm_x b hb))
  refine ev_ss DJ9_floorMod_7cf53 1 14 (pc' := 19) (lv' := [(2, .int _), (0, .int _), (1, .int _)]) (st' := [.int _]) rfl ?_
  exact ev_iret DJ9_floorMod_7cf53 15 rfl rfl ⟨vI (pk_rem (a := b) (d := 8) (by omega) (by decide) (by decide)).symm, rfl⟩
set_option maxRecDepth 100000 in
set_option maxHeartbeats 4000000 in
theorem m_X0_note {E : gE} {ad : Nat → Nat} {ws : va_W} {il t b : Nat} {lb er : Int32} {sz : Nat → Int32} (hb : b < 128) (ht : t < 8) (hlb : lb = nI b) (h : LE E ad ws il lb sz) : C0 E YX0_note 0 0 [.ref (ad il), .int (nI t), .int er] ws (fun v w => v = none ∧ LE E ad w il lb (upd sz (8 * t + b % 8) (absP er)) ∧ ∀ j, j ≠ il + 1 → w[j]? = ws[j]?) := by
  obtain ⟨h1, g, h2, h3⟩ := h
  subst hlb
  have ex : nI t * 8 + nI (b % 8) = nI (8 * t + b % 8) := ix8 t (b % 8)
  have e1 : ¬ nI t * 8 + nI (b % 8) < 0 := by rw [ex]; exact nI_pos (by omega)
  have e2 : ¬ (64 : Int32) ≤ nI t * 8 + nI (b % 8) := by rw [ex]; exact nI_ge (b := 64) (by omega) (by decide)
  have e3 : vp_in (nI t * 8 + nI (b % 8)) 64 := by rw [ex]; exact vp_in_nI (by omega) (by decide)
  refine c0V vX0_note (Nat.le_of_ble_eq_true rfl) (lv0 := [(0, .ref (ad il)), (1, .int (nI t)), (2, .int er)]) rfl ?_
  refine ev_ss DX0_note 4 0 (pc' := 5) (lv' := [(0, .ref _), (1, .int _), (2, .int _)]) (st' := [.ref _, .int _]) rfl ?_
  refine ev_get DX0_note 4 GX0 rfl (k0 := 1) (Nat.le_of_ble_eq_true rfl) fX0_15 h1 rfl ?_
  refine ev_ss DX0_note 1 5 (pc' := 10) (lv' := [(0, .ref _), (1, .int _), (2, .int _)]) (st' := [.int 8, .int _, .int _]) rfl ?_
  refine ev_cS DX0_note 6 (m_J9_floorMod_7cf53 hb) vJ9_floorMod_7cf53 rfl qX0_19 rfl (hd_of rfl rfl rfl rfl) ?_
  refine ev_ss DX0_note 3 7 (pc' := 16) (lv' := [(3, .int _), (0, .ref _), (1, .int _), (2, .int _)]) (st' := [.int _]) rfl ?_
  refine ev_iflt DX0_note 10 rfl (tgt := 35) (by decide) (fun h => absurd h e1) (fun _ => ?_)
  refine ev_ss DX0_note 2 11 (pc' := 22) (lv' := [(3, .int _), (0, .ref _), (1, .int _), (2, .int _)]) (st' := [.int 64, .int _]) rfl ?_
  refine ev_icge DX0_note 13 rfl (tgt := 35) (by decide) (fun h => absurd h e2) (fun _ => ?_)
  refine ev_ss DX0_note 1 14 (pc' := 26) (lv' := [(3, .int _), (0, .ref _), (1, .int _), (2, .int _)]) (st' := [.ref _]) rfl ?_
  refine ev_get DX0_note 15 GX0 rfl (k0 := 0) (Nat.le_of_ble_eq_true rfl) fX0_9 h1 rfl ?_
  refine ev_ss DX0_note 2 16 (pc' := 31) (lv' := [(3, .int _), (0, .ref _), (1, .int _), (2, .int _)]) (st' := [.int _, .int _, .ref _]) rfl ?_
  refine ev_abs DX0_note 18 rfl qX0_25 (Nat.le_of_ble_eq_true rfl) (Nat.le_of_ble_eq_true rfl) ?_
  refine ev_iast DX0_note 19 rfl h2 e3 rfl ?_
  exact ev_vret DX0_note 20 rfl rfl ⟨rfl, ⟨wset_n h1 (by omega), _, wset_get h2, fun j hj => by show upd g (nI t * 8 + nI (b % 8)).toNatClampNeg (absP er) j = upd sz (8 * t + b % 8) (absP er) j; rw [ex, nI_clamp (by omega)]; unfold upd; split; rfl; exact h3 j hj⟩, fun j hj => List.getElem?_set_ne (Ne.symm hj)⟩
set_option maxRecDepth 100000 in
set_option maxHeartbeats 4000000 in
theorem m_X0_worstOf {E : gE} {ad : Nat → Nat} {ws : va_W} {il t : Nat} {lb : Int32} {sz : Nat → Int32} (ht : t < 8) (h : LE E ad ws il lb sz) : CD E YX0_worstOf 0 0 [.ref (ad il), .int (nI t)] ws (some (.int (worN sz t k8))) ws := by
  obtain ⟨h1, g, h2, h3⟩ := h
  have e8 := k8e
  refine cdV vX0_worstOf (Nat.le_of_ble_eq_true rfl) (lv0 := [(0, .ref (ad il)), (1, .int (nI t))]) rfl ?_
  suffices K : ∀ (m i : Nat) (x acc : Int32) (lv9 : List (Nat × Value)), i + m = k8 → x = nI i → acc = worN sz t i → lv9 = [(0, .ref (ad il)), (1, .int (nI t)), (2, .int acc), (3, .int x)] → Ev E YX0_worstOf (fun v2 w2 => v2 = some (.int (worN sz t k8)) ∧ w2 = ws) nX 0 0 4 lv9 [] ws by
    refine ev_ss DX0_worstOf 4 0 (pc' := 4) (lv' := [(3, .int 0), (2, .int 0), (0, .ref _), (1, .int _)]) (st' := []) rfl ?_
    refine ev_lvp (lv2 := [(0, .ref _), (1, .int _), (2, .int _), (3, .int _)]) [2, 3, 1, 0] rfl ?_
    exact K k8 0 _ _ _ (Nat.zero_add k8) nI_0.symm rfl rfl
  intro m
  induction m with
  | zero =>
    intro i x acc lv9 hm hx ha hv
    obtain rfl : i = k8 := by omega
    subst hx; subst ha; subst hv
    refine ev_ss DX0_worstOf 2 4 (pc' := 7) (lv' := [(0, .ref _), (1, .int _), (2, .int _), (3, .int _)]) (st' := [.int 8, .int _]) rfl ?_
    refine ev_icge DX0_worstOf 6 rfl (tgt := 48) (by decide) (fun _ => ?_) (fun h => h.elim (by rw [k8e]; decide))
    refine ev_ss DX0_worstOf 1 27 (pc' := 49) (lv' := [(0, .ref _), (1, .int _), (2, .int _), (3, .int _)]) (st' := [.int _]) rfl ?_
    exact ev_iret DX0_worstOf 28 rfl rfl ⟨rfl, rfl⟩
  | succ m ih =>
    intro i x acc lv9 hm hx ha hv
    subst hx; subst hv
    have ex := ix8 t i
    have e1 : ¬ nI t * 8 + nI i < 0 := by rw [ex]; exact nI_pos (by omega)
    have e2 : ¬ (64 : Int32) ≤ nI t * 8 + nI i := by rw [ex]; exact nI_ge (b := 64) (by omega) (by decide)
    have e3 : vp_in (nI t * 8 + nI i) 64 := by rw [ex]; exact vp_in_nI (by omega) (by decide)
    refine ev_ss DX0_worstOf 2 4 (pc' := 7) (lv' := [(0, .ref _), (1, .int _), (2, .int _), (3, .int _)]) (st' := [.int 8, .int _]) rfl ?_
    refine ev_icge DX0_worstOf 6 rfl (tgt := 48) (by decide) (fun h => absurd h (nI_ge (b := 8) (by omega) (by decide))) (fun _ => ?_)
    refine ev_ss DX0_worstOf 7 7 (pc' := 20) (lv' := [(4, .int _), (0, .ref _), (1, .int _), (2, .int _), (3, .int _)]) (st' := [.int _]) rfl ?_
    refine ev_iflt DX0_worstOf 14 rfl (tgt := 42) (by decide) (fun h => absurd h e1) (fun _ => ?_)
    refine ev_ss DX0_worstOf 2 15 (pc' := 27) (lv' := [(4, .int _), (0, .ref _), (1, .int _), (2, .int _), (3, .int _)]) (st' := [.int 64, .int _]) rfl ?_
    refine ev_icge DX0_worstOf 17 rfl (tgt := 42) (by decide) (fun h => absurd h e2) (fun _ => ?_)
    refine ev_ss DX0_worstOf 2 18 (pc' := 32) (lv' := [(4, .int _), (0, .ref _), (1, .int _), (2, .int _), (3, .int _)]) (st' := [.ref _, .int _]) rfl ?_
    refine ev_get DX0_worstOf 20 GX0 rfl (k0 := 0) (Nat.le_of_ble_eq_true rfl) fX0_9 h1 rfl ?_
    refine ev_ss DX0_worstOf 1 21 (pc' := 37) (lv' := [(4, .int _), (0, .ref _), (1, .int _), (2, .int _), (3, .int _)]) (st' := [.int _, .ref _, .int _]) rfl ?_
    refine ev_iald DX0_worstOf 22 rfl h2 e3 ?_
    refine ev_max DX0_worstOf 23 rfl qX0_29 (Nat.le_of_ble_eq_true rfl) (Nat.le_of_ble_eq_true rfl) ?_
    refine ev_ss DX0_worstOf 2 24 (pc' := 45) (lv' := [(3, .int _), (2, .int _), (4, .int _), (0, .ref _), (1, .int _)]) (st' := []) rfl ?_
    refine ev_goto DX0_worstOf 26 rfl (tgt := 4) (by decide) ?_
    refine ev_lvp (lv2 := [(0, .ref _), (1, .int _), (2, .int _), (3, .int _)]) [3, 4, 1, 0] rfl ?_
    exact ih (i + 1) _ _ _ (by omega) (nI_1 i) (by show mxP acc (g (nI t * 8 + nI i).toNatClampNeg) = worN sz t (i + 1); rw [ha, ex, nI_clamp (by omega), h3 _ (by omega)]; rfl) rfl
set_option maxRecDepth 100000 in
set_option maxHeartbeats 4000000 in
theorem m_X0_begin {E : gE} {ad : Nat → Nat} {ws : va_W} {il : Nat} {lb : Int32} {sz : Nat → Int32} (h : LE E ad ws il lb sz) : C0 E YX0_begin 0 0 [.ref (ad il)] ws (fun v w => v = none ∧ LE E ad w il 0 (fun _ => 0) ∧ ∀ j, j ≠ il → j ≠ il + 1 → w[j]? = ws[j]?) := by
  obtain ⟨h1, g, h2, h3⟩ := h
  refine c0V vX0_begin (Nat.le_of_ble_eq_true rfl) (lv0 := [(0, .ref (ad il))]) rfl ?_
  suffices K : ∀ (m i : Nat) (x : Int32) (g1 : Nat → Int32) (w : va_W) (lv9 : List (Nat × Value)), i + m = 64 → x = nI i → (∀ j, j < i → g1 j = 0) → w[il]? = some (ad il, lesC (ad (il + 1)) 0) → w[il + 1]? = some (ad (il + 1), iaC E 64 g1) → (∀ j, j ≠ il → j ≠ il + 1 → w[j]? = ws[j]?) → lv9 = [(0, .ref (ad il)), (1, .int x)] →
      Ev E YX0_begin (fun v w => v = none ∧ LE E ad w il 0 (fun _ => 0) ∧ ∀ j, j ≠ il → j ≠ il + 1 → w[j]? = ws[j]?) nX 0 0 7 lv9 [] w by
    refine ev_ss DX0_begin 2 0 (pc' := 2) (lv' := [(0, .ref _)]) (st' := [.int 0, .ref _]) rfl ?_
    refine ev_put (fs' := [_, _]) DX0_begin 2 GX0 rfl (k0 := 1) (Nat.le_of_ble_eq_true rfl) fX0_15 rfl ⟨rfl, rfl⟩ h1 (Nat.le_of_ble_eq_true rfl) rfl rfl ?_
    refine ev_ss DX0_begin 2 3 (pc' := 7) (lv' := [(1, .int 0), (0, .ref _)]) (st' := []) rfl ?_
    refine ev_lvp (lv2 := [(0, .ref _), (1, .int _)]) [1, 0] rfl ?_
    exact K 64 0 _ g _ _ rfl nI_0.symm (fun j hj => absurd hj (Nat.not_lt_zero j)) (wset_get h1) (wset_n h2 (by omega)) (fun j hj hj2 => List.getElem?_set_ne (Ne.symm hj)) rfl
  intro m
  induction m with
  | zero =>
    intro i x g1 w lv9 hm hx hg k1 k2 k3 hv
    obtain rfl : i = 64 := by omega
    subst hx; subst hv
    refine ev_ss DX0_begin 2 5 (pc' := 10) (lv' := [(0, .ref _), (1, .int _)]) (st' := [.int 64, .int _]) rfl ?_
    refine ev_icge DX0_begin 7 rfl (tgt := 26) (by decide) (fun _ => ?_) (fun h => h.elim (by decide))
    exact ev_vret DX0_begin 15 rfl rfl ⟨rfl, ⟨k1, g1, k2, hg⟩, k3⟩
  | succ m ih =>
    intro i x g1 w lv9 hm hx hg k1 k2 k3 hv
    subst hx; subst hv
    refine ev_ss DX0_begin 2 5 (pc' := 10) (lv' := [(0, .ref _), (1, .int _)]) (st' := [.int 64, .int _]) rfl ?_
    refine ev_icge DX0_begin 7 rfl (tgt := 26) (by decide) (fun h => absurd h (nI_ge (b := 64) (by omega) (by decide))) (fun _ => ?_)
    refine ev_ss DX0_begin 1 8 (pc' := 14) (lv' := [(0, .ref _), (1, .int _)]) (st' := [.ref _]) rfl ?_
    refine ev_get DX0_begin 9 GX0 rfl (k0 := 0) (Nat.le_of_ble_eq_true rfl) fX0_9 k1 rfl ?_
    refine ev_ss DX0_begin 2 10 (pc' := 19) (lv' := [(0, .ref _), (1, .int _)]) (st' := [.int 0, .int _, .ref _]) rfl ?_
    refine ev_iast DX0_begin 12 rfl k2 (vp_in_nI (by omega) (by decide)) rfl ?_
    refine ev_ss DX0_begin 1 13 (pc' := 23) (lv' := [(1, .int _), (0, .ref _)]) (st' := []) rfl ?_
    refine ev_goto DX0_begin 14 rfl (tgt := 7) (by decide) ?_
    refine ev_lvp (lv2 := [(0, .ref _), (1, .int _)]) [1, 0] rfl ?_
    exact ih (i + 1) _ _ _ _ (by omega) (nI_1 i) (fun j hj => by unfold upd; split; rfl; rename_i hne; rw [nI_clamp (by omega)] at hne; exact hg j (by omega)) (wset_n k1 (by omega)) (wset_get k2) (fun j hj hj2 => by rw [List.getElem?_set_ne (Ne.symm hj2)]; exact k3 j hj hj2) rfl
def lrA (sd : Int32) : Int32 := if drwV (drwS sd) 2 = 1 then 128 else -128
def lrE (sd : Int32) (f : TF) : Int32 := arrP f (lrA sd) (drwN (drwS sd) f) - expP f (lrA sd)
def lrF (p sd : Int32) (f : TF) : TF := knowP (passP (impP f (lrE sd f) (lrA sd) p) (lrA sd) (lrA sd))
def lrT (p : Int32) (nb : Nat) (sd : Int32) (σ : WS) (sz : Nat → Int32) : Nat → Int32 × WS × (Nat → Int32)
  | 0 => (sd, σ, sz)
  | i + 1 => (drwS (drwS (lrT p nb sd σ sz i).1), (va_up (lrT p nb sd σ sz i).2.1.1 i (lrF p (lrT p nb sd σ sz i).1 ((lrT p nb sd σ sz i).2.1.1 i)), (lrT p nb sd σ sz i).2.1.2), upd (lrT p nb sd σ sz i).2.2 (8 * i + nb % 8) (absP (lrE (lrT p nb sd σ sz i).1 ((lrT p nb sd σ sz i).2.1.1 i))))
noncomputable def lrN (p sd : Int32) (σ : WS) : Nat → Int32 × WS × (Nat → Int32)
  | 0 => (sd, σ, fun _ => 0)
  | n + 1 => lrT p n (lrN p sd σ n).1 (lrN p sd σ n).2.1 (lrN p sd σ n).2.2 k8
theorem lrN_0 {p sd : Int32} {σ : WS} : lrN p sd σ 0 = (sd, σ, fun _ => 0) := rfl
theorem lrN_s {p sd : Int32} {σ : WS} {n : Nat} : lrN p sd σ (n + 1) = lrT p n (lrN p sd σ n).1 (lrN p sd σ n).2.1 (lrN p sd σ n).2.2 k8 := rfl
theorem lrT_0 {p sd : Int32} {nb : Nat} {σ : WS} {sz : Nat → Int32} : lrT p nb sd σ sz 0 = (sd, σ, sz) := rfl
def TN (f : TF) : Prop := ¬ 2 * f 3 + 1 ≤ 0
theorem lrF_3 (p sd : Int32) (f : TF) : lrF p sd f 3 = f 3 := rfl
theorem TN_lrT {p sd : Int32} {nb : Nat} {σ : WS} {sz : Nat → Int32} (h : ∀ t, t < 8 → TN (σ.1 t)) : ∀ i, i ≤ 8 → ∀ t, t < 8 → TN ((lrT p nb sd σ sz i).2.1.1 t)
  | 0, _ => h
  | i + 1, hi => by
    intro t ht
    show TN (va_up (lrT p nb sd σ sz i).2.1.1 i _ t)
    unfold va_up
    split
    · unfold TN
      rw [lrF_3]
      exact TN_lrT h i (by omega) i (by omega)
    · exact TN_lrT h i (by omega) t ht
theorem TN_lrN {p sd : Int32} {σ : WS} (h : ∀ t, t < 8 → TN (σ.1 t)) : ∀ n t, t < 8 → TN ((lrN p sd σ n).2.1.1 t)
  | 0 => h
  | n + 1 => by
    rw [lrN_s]
    exact TN_lrT (TN_lrN h n) k8 (Nat.le_of_eq k8e)
def SL (is iw il : Nat) (ws w : va_W) : Prop := ∀ j, j ≠ is → (j < iw ∨ iw + 12 ≤ j) → j ≠ il → j ≠ il + 1 → w[j]? = ws[j]?
theorem SL.rf {is iw il : Nat} {ws : va_W} : SL is iw il ws ws := fun _ _ _ _ _ => rfl
theorem SL.tr {is iw il : Nat} {ws w w2 : va_W} (h : SL is iw il ws w) (h2 : SL is iw il w w2) : SL is iw il ws w2 := fun j a b c d => (h2 j a b c d).trans (h j a b c d)
def AL (is iw il : Nat) : Prop := (il + 1 < is ∨ is + 26 ≤ il) ∧ is < iw ∧ iw + 12 ≤ is + 25
set_option maxRecDepth 100000 in
set_option maxHeartbeats 4000000 in
theorem m_X1_learnBeat {E : gE} {ad : Nat → Nat} {ws : va_W} {is iw il nb : Nat} {sd0 bt lb : Int32} {se : Nat → Int32} {σ0 : WS} {sz0 : Nat → Int32} (hnb : nb < 128) (hlb : lb = nI nb) (hi : AL is iw il) (hS0 : SD E ad ws is sd0 bt se) (hW0 : WY E ad ws iw σ0) (hL0 : LE E ad ws il lb sz0) (hN : ∀ t, t < 8 → TN (σ0.1 t)) (hp : ¬ se 0 ≤ 0) (hp2 : ¬ (128 : Int32) * se 0 = 0) : C0 E YX1_learnBeat 0 0 [.ref (ad is), .ref (ad iw), .ref (ad il)] ws (fun v w => v = none ∧ SD E ad w is (lrT (se 0) nb sd0 σ0 sz0 k8).1 (bt + 1) se ∧ WY E ad w iw (lrT (se 0) nb sd0 σ0 sz0 k8).2.1 ∧ LE E ad w il (nI (nb + 1)) (lrT (se 0) nb sd0 σ0 sz0 k8).2.2 ∧ SL is iw il ws w) := by
  have e8 := k8e
  obtain ⟨i1, i2, i3⟩ := id hi
  refine c0V vX1_learnBeat (Nat.le_of_ble_eq_true rfl) (lv0 := [(0, .ref (ad is)), (1, .ref (ad iw)), (2, .ref (ad il))]) rfl ?_
  suffices K : ∀ (m i : Nat) (x : Int32) (w : va_W) (lv9 : List (Nat × Value)), i + m = k8 → x = nI i → SD E ad w is (lrT (se 0) nb sd0 σ0 sz0 i).1 bt se → WY E ad w iw (lrT (se 0) nb sd0 σ0 sz0 i).2.1 → LE E ad w il lb (lrT (se 0) nb sd0 σ0 sz0 i).2.2 → SL is iw il ws w → lv9 = [(0, .ref (ad is)), (1, .ref (ad iw)), (2, .ref (ad il)), (3, .int x)] →
      Ev E YX1_learnBeat (fun v w => v = none ∧ SD E ad w is (lrT (se 0) nb sd0 σ0 sz0 k8).1 (bt + 1) se ∧ WY E ad w iw (lrT (se 0) nb sd0 σ0 sz0 k8).2.1 ∧ LE E ad w il (nI (nb + 1)) (lrT (se 0) nb sd0 σ0 sz0 k8).2.2 ∧ SL is iw il ws w) nX 0 0 2 lv9 [] w by
    refine ev_ss DX1_learnBeat 2 0 (pc' := 2) (lv' := [(3, .int 0), (0, .ref _), (1, .ref _), (2, .ref _)]) (st' := []) rfl ?_
    refine ev_lvp (lv2 := [(0, .ref _), (1, .ref _), (2, .ref _), (3, .int _)]) [1, 2, 3, 0] rfl ?_
    exact K k8 0 _ ws _ (Nat.zero_add k8) nI_0.symm (by rw [lrT_0]; exact hS0) (by rw [lrT_0]; exact hW0) (by rw [lrT_0]; exact hL0) SL.rf rfl
  intro m
  induction m with
  | zero =>
    intro i x w lv9 hm hx hS hW hL hO hv
    obtain rfl : i = k8 := by omega
    subst hx; subst hv; subst hlb
    refine ev_ss DX1_learnBeat 2 2 (pc' := 5) (lv' := [(0, .ref _), (1, .ref _), (2, .ref _), (3, .int _)]) (st' := [.int 8, .int _]) rfl ?_
    refine ev_icge DX1_learnBeat 4 rfl (tgt := 100) (by decide) (fun _ => ?_) (fun h => h.elim (by rw [k8e]; decide))
    refine ev_ss DX1_learnBeat 2 50 (pc' := 102) (lv' := [(0, .ref _), (1, .ref _), (2, .ref _), (3, .int _)]) (st' := [.ref _, .ref _]) rfl ?_
    refine ev_get DX1_learnBeat 52 GX0 rfl (k0 := 1) (Nat.le_of_ble_eq_true rfl) fX1_148 hL.1 rfl ?_
    refine ev_ss DX1_learnBeat 2 53 (pc' := 107) (lv' := [(0, .ref _), (1, .ref _), (2, .ref _), (3, .int _)]) (st' := [.int _, .ref _]) rfl ?_
    refine ev_put (fs' := [_, _]) DX1_learnBeat 55 GX0 rfl (k0 := 1) (Nat.le_of_ble_eq_true rfl) fX1_148 rfl ⟨rfl, rfl⟩ hL.1 (Nat.le_of_ble_eq_true rfl) rfl rfl ?_
    refine ev_ss DX1_learnBeat 2 56 (pc' := 112) (lv' := [(0, .ref _), (1, .ref _), (2, .ref _), (3, .int _)]) (st' := [.ref _, .ref _]) rfl ?_
    refine ev_get DX1_learnBeat 58 GX1 rfl (k0 := 4) (Nat.le_of_ble_eq_true rfl) fX1_47 (wset_o hS.1 hL.1 rfl) rfl ?_
    refine ev_ss DX1_learnBeat 2 59 (pc' := 117) (lv' := [(0, .ref _), (1, .ref _), (2, .ref _), (3, .int _)]) (st' := [.int _, .ref _]) rfl ?_
    refine ev_put (fs' := [_, _, _, _, _]) DX1_learnBeat 61 GX1 rfl (k0 := 4) (Nat.le_of_ble_eq_true rfl) fX1_47 rfl ⟨rfl, rfl⟩ (wset_o hS.1 hL.1 rfl) (Nat.le_of_ble_eq_true rfl) rfl rfl ?_
    exact ev_vret DX1_learnBeat 62 rfl rfl ⟨rfl, (hS.of (w := w.set il (ad il, lesC (ad (il + 1)) (nI nb + 1))) (List.getElem?_set_ne (by omega)) (List.getElem?_set_ne (by omega))).seed, (hW.of (w := w.set il (ad il, lesC (ad (il + 1)) (nI nb + 1))) (fun j a b => List.getElem?_set_ne (by omega))).st (Or.inl i2), ⟨wset_n (by rw [← nI_1]; exact wset_get hL.1) (by omega), (by obtain ⟨-, g, g1, g2⟩ := hL; exact ⟨g, wset_n (wset_n g1 (by omega)) (by omega), g2⟩)⟩, hO.tr (fun j a b c d => by rw [List.getElem?_set_ne (by omega), List.getElem?_set_ne (by omega)])⟩
  | succ m ih =>
    intro i x w lv9 hm hx hS hW hL hO hv
    subst hx; subst hv
    obtain ⟨st, sz, r, h1, h2, h3, h4, h5, h6⟩ := id hW
    obtain ⟨hs1, g, hs2, hs3⟩ := id hS
    have hTN := TN_lrT (p := se 0) (sd := sd0) (nb := nb) (sz := sz0) hN i (by omega) i (by omega)
    obtain ⟨sd, esd⟩ : ∃ z, z = (lrT (se 0) nb sd0 σ0 sz0 i).1 := ⟨_, rfl⟩
    obtain ⟨f, ef⟩ : ∃ z, z = (lrT (se 0) nb sd0 σ0 sz0 i).2.1.1 i := ⟨_, rfl⟩
    have hT : w[iw + 4 + i]? = some (ad (iw + 4 + i), toneC f) := by rw [ef]; exact h6 i (by omega)
    rw [← esd] at hs1
    rw [← ef] at hTN
    have g0 : g ((0 : Int32).toNatClampNeg) = se 0 := hs3 0 (by decide)
    refine ev_ss DX1_learnBeat 2 2 (pc' := 5) (lv' := [(0, .ref _), (1, .ref _), (2, .ref _), (3, .int _)]) (st' := [.int 8, .int _]) rfl ?_
    refine ev_icge DX1_learnBeat 4 rfl (tgt := 100) (by decide) (fun h => absurd h (nI_ge (b := 8) (by omega) (by decide))) (fun _ => ?_)
    suffices J : ∀ amp : Int32, lrA sd = amp → Ev E YX1_learnBeat (fun v w => v = none ∧ SD E ad w is (lrT (se 0) nb sd0 σ0 sz0 k8).1 (bt + 1) se ∧ WY E ad w iw (lrT (se 0) nb sd0 σ0 sz0 k8).2.1 ∧ LE E ad w il (nI (nb + 1)) (lrT (se 0) nb sd0 σ0 sz0 k8).2.2 ∧ SL is iw il ws w) nX 0 0 33 [(4, .ref (ad (iw + 4 + i))), (0, .ref (ad is)), (1, .ref (ad iw)), (2, .ref (ad il)), (3, .int (nI i))] [.int amp] (w.set is (ad is, stC (ad (is + 1)) (ad (is + 13)) (ad (is + 25)) (drwS sd) bt)) by
      refine ev_ss DX1_learnBeat 1 5 (pc' := 9) (lv' := [(0, .ref _), (1, .ref _), (2, .ref _), (3, .int _)]) (st' := [.ref _]) rfl ?_
      refine ev_get DX1_learnBeat 6 GX5 rfl (k0 := 0) (Nat.le_of_ble_eq_true rfl) fX1_66 h1 rfl ?_
      refine ev_ss DX1_learnBeat 1 7 (pc' := 13) (lv' := [(0, .ref _), (1, .ref _), (2, .ref _), (3, .int _)]) (st' := [.int _, .ref _]) rfl ?_
      refine ev_aald4 DX1_learnBeat 8 rfl h2 (vp_in_nI (by omega) (by decide)) (b := ad (iw + 4 + i)) (arT_at (by omega)) ?_
      refine ev_ss DX1_learnBeat 3 9 (pc' := 18) (lv' := [(4, .ref _), (0, .ref _), (1, .ref _), (2, .ref _), (3, .int _)]) (st' := [.int 2, .ref _]) rfl ?_
      refine ev_cV DX1_learnBeat 12 (m_X1_draw hs1 (by decide)) vX1_draw rfl qX1_62 rfl hs1 rfl (hd_of rfl rfl rfl rfl) ?_
      refine ev_ss DX1_learnBeat 1 13 (pc' := 22) (lv' := [(4, .ref _), (0, .ref _), (1, .ref _), (2, .ref _), (3, .int _)]) (st' := [.int 1, .int _]) rfl ?_
      refine ev_icne DX1_learnBeat 14 rfl (tgt := 31) (by decide) (fun c_1 => ?_) (fun c_1 => ?_)
      · refine ev_ss DX1_learnBeat 1 17 (pc' := 33) (lv' := [(4, .ref _), (0, .ref _), (1, .ref _), (2, .ref _), (3, .int _)]) (st' := [.int (-128)]) rfl ?_
        exact J _ (if_neg c_1)
      · refine ev_ss DX1_learnBeat 1 15 (pc' := 28) (lv' := [(4, .ref _), (0, .ref _), (1, .ref _), (2, .ref _), (3, .int _)]) (st' := [.int 128]) rfl ?_
        refine ev_goto DX1_learnBeat 16 rfl (tgt := 33) (by decide) ?_
        exact J _ (if_pos c_1)
    intro amp hamp
    refine ev_ss DX1_learnBeat 5 18 (pc' := 42) (lv' := [(5, .int _), (4, .ref _), (0, .ref _), (1, .ref _), (2, .ref _), (3, .int _)]) (st' := [.ref _, .ref _, .int _, .ref _]) rfl ?_
    refine ev_cV DX1_learnBeat 23 (cd_hs (m_X1_drawNoise (wset_get hs1) (wset_o hT hs1 rfl) hTN) wset_set) vX1_drawNoise rfl qX1_93 rfl (wset_get hs1) rfl (hd_of rfl rfl rfl rfl) ?_
    refine ev_cV DX1_learnBeat 24 (m_X3_arriving (wset_o hT hs1 rfl)) vX3_arriving rfl qX1_97 rfl (wset_o hT hs1 rfl) rfl (hd_of rfl rfl rfl rfl) ?_
    refine ev_ss DX1_learnBeat 2 25 (pc' := 52) (lv' := [(5, .int _), (4, .ref _), (0, .ref _), (1, .ref _), (2, .ref _), (3, .int _)]) (st' := [.int _, .ref _, .int _]) rfl ?_
    refine ev_cV DX1_learnBeat 27 (m_X3_expected (wset_o hT hs1 rfl)) vX3_expected rfl qX1_136 rfl (wset_o hT hs1 rfl) rfl (hd_of rfl rfl rfl rfl) ?_
    refine ev_ss DX1_learnBeat 6 28 (pc' := 65) (lv' := [(6, .int _), (5, .int _), (4, .ref _), (0, .ref _), (1, .ref _), (2, .ref _), (3, .int _)]) (st' := [.ref _, .int _, .int _, .ref _]) rfl ?_
    refine ev_get DX1_learnBeat 34 GX1 rfl (k0 := 2) (Nat.le_of_ble_eq_true rfl) fX1_21 (wset_get hs1) rfl ?_
    refine ev_ss DX1_learnBeat 1 35 (pc' := 69) (lv' := [(6, .int _), (5, .int _), (4, .ref _), (0, .ref _), (1, .ref _), (2, .ref _), (3, .int _)]) (st' := [.int 0, .ref _, .int _, .int _, .ref _]) rfl ?_
    refine ev_iald DX1_learnBeat 36 rfl (wset_o hs2 hs1 rfl) (by unfold vp_in; decide) ?_
    refine ev_cV DX1_learnBeat 37 (m_X3_improve (wset_o hT hs1 rfl) (by rw [g0]; exact hp) (by rw [g0]; exact hp2)) vX3_improve rfl qX1_139 rfl (wset_o hT hs1 rfl) rfl (hd_of rfl rfl rfl rfl) ?_
    refine ev_ss DX1_learnBeat 3 38 (pc' := 79) (lv' := [(6, .int _), (5, .int _), (4, .ref _), (0, .ref _), (1, .ref _), (2, .ref _), (3, .int _)]) (st' := [.int _, .int _, .ref _]) rfl ?_
    refine ev_cV DX1_learnBeat 41 (cd_hs (m_X3_pass (wset_get (wset_o hT hs1 rfl))) wset_set) vX3_pass rfl qX1_109 rfl (wset_get (wset_o hT hs1 rfl)) rfl (hd_of rfl rfl rfl rfl) ?_
    refine ev_ss DX1_learnBeat 1 42 (pc' := 84) (lv' := [(6, .int _), (5, .int _), (4, .ref _), (0, .ref _), (1, .ref _), (2, .ref _), (3, .int _)]) (st' := [.ref _]) rfl ?_
    refine ev_cV DX1_learnBeat 43 (cd_hs (m_X3_knowSignBefore (wset_get (wset_o hT hs1 rfl))) wset_set) vX3_knowSignBefore rfl qX1_142 rfl (wset_get (wset_o hT hs1 rfl)) rfl (hd_of rfl rfl rfl rfl) ?_
    refine ev_ss DX1_learnBeat 3 44 (pc' := 91) (lv' := [(6, .int _), (5, .int _), (4, .ref _), (0, .ref _), (1, .ref _), (2, .ref _), (3, .int _)]) (st' := [.int _, .int _, .ref _]) rfl ?_
    have hL2 : LE E ad ((w.set is (ad is, stC (ad (is + 1)) (ad (is + 13)) (ad (is + 25)) (drwS (drwS sd)) bt)).set (iw + 4 + i) (ad (iw + 4 + i), toneC (knowP (passP (impP f (arrP f amp (drwN (drwS sd) f) - expP f amp) amp (g ((0 : Int32).toNatClampNeg))) amp amp)))) il lb (lrT (se 0) nb sd0 σ0 sz0 i).2.2 := hL.of (by rw [List.getElem?_set_ne (by omega), List.getElem?_set_ne (by omega)]) (by rw [List.getElem?_set_ne (by omega), List.getElem?_set_ne (by omega)])
    refine ev_rV DX1_learnBeat 47 (m_X0_note (b := nb) (t := i) hnb (by omega) hlb hL2) vX0_note rfl qX1_145 rfl hL2.1 rfl (hd_of rfl rfl rfl rfl) (fun v w2 hvw => ?_)
    obtain ⟨rfl, hL3, hO3⟩ := hvw
    refine ev_ss DX1_learnBeat 1 48 (pc' := 97) (lv' := [(3, .int _), (6, .int _), (5, .int _), (4, .ref _), (0, .ref _), (1, .ref _), (2, .ref _)]) (st' := []) rfl ?_
    refine ev_goto DX1_learnBeat 49 rfl (tgt := 2) (by decide) ?_
    refine ev_lvp (lv2 := [(0, .ref _), (1, .ref _), (2, .ref _), (3, .int _)]) [4, 5, 6, 0] rfl ?_
    have hS2 : SD E ad (w.set is (ad is, stC (ad (is + 1)) (ad (is + 13)) (ad (is + 25)) (drwS (drwS sd)) bt)) is (drwS (drwS sd)) bt se := hS.seed
    have hW2 := (hW.st (is := is) (x := (ad is, stC (ad (is + 1)) (ad (is + 13)) (ad (is + 25)) (drwS (drwS sd)) bt)) (Or.inl i2)).tone (t := i) (by omega) (f := knowP (passP (impP f (arrP f amp (drwN (drwS sd) f) - expP f amp) amp (g ((0 : Int32).toNatClampNeg))) amp amp))
    have eF : knowP (passP (impP f (arrP f amp (drwN (drwS sd) f) - expP f amp) amp (g ((0 : Int32).toNatClampNeg))) amp amp) = lrF (se 0) sd f := by rw [g0, ← hamp]; rfl
    have eE : absP (arrP f amp (drwN (drwS sd) f) - expP f amp) = absP (lrE sd f) := by rw [← hamp]; rfl
    refine ih (i + 1) _ w2 _ (by omega) (nI_1 i) ?_ ?_ ?_ ?_ rfl
    · show SD E ad w2 is (drwS (drwS (lrT (se 0) nb sd0 σ0 sz0 i).1)) bt se
      rw [← esd]
      exact (hS2.of (w := (w.set is (ad is, stC (ad (is + 1)) (ad (is + 13)) (ad (is + 25)) (drwS (drwS sd)) bt)).set (iw + 4 + i) _) (List.getElem?_set_ne (by omega)) (List.getElem?_set_ne (by omega))).of (hO3 is (by omega)) (hO3 (is + 25) (by omega))
    · show WY E ad w2 iw (va_up (lrT (se 0) nb sd0 σ0 sz0 i).2.1.1 i (lrF (se 0) (lrT (se 0) nb sd0 σ0 sz0 i).1 ((lrT (se 0) nb sd0 σ0 sz0 i).2.1.1 i)), (lrT (se 0) nb sd0 σ0 sz0 i).2.1.2)
      rw [← esd, ← ef, ← eF]
      exact hW2.of (fun j a b => hO3 j (by omega))
    · show LE E ad w2 il lb (upd (lrT (se 0) nb sd0 σ0 sz0 i).2.2 (8 * i + nb % 8) (absP (lrE (lrT (se 0) nb sd0 σ0 sz0 i).1 ((lrT (se 0) nb sd0 σ0 sz0 i).2.1.1 i))))
      rw [← esd, ← ef, ← eE]
      exact hL3
    · exact hO.tr (fun j a b c d => (hO3 j d).trans (by rw [List.getElem?_set_ne (by omega), List.getElem?_set_ne (by omega)]))
