theorem c0_mono {E : gE} {Y : MI} {k n : Nat} {av : List Value} {ws : va_W} {Pr Pr' : Option Value → va_W → Prop} (h : C0 E Y k n av ws Pr) (hi : ∀ v w, Pr v w → Pr' v w) : C0 E Y k n av ws Pr' := by
  intro p e ha hc hk s m args below hf happ hP hK
  obtain ⟨j, o, h1, h2, h3, ⟨⟨v, w, e1, e2, e3⟩, e4⟩, e5⟩ := h p e ha hc hk s m args below hf happ hP hK
  exact ⟨j, o, h1, h2, h3, ⟨⟨v, w, e1, hi v w e2, e3⟩, e4⟩, e5⟩
/-- a way: its tones, the bits that wait, the latest bits, how many came, how many of them wrong -/
abbrev WS : Type := (Nat → TF) × List Int32 × Int64 × Int32 × Int32
def arT (ad : Nat → Nat) (iw t : Nat) : Option Nat := if t < 8 then some (ad (iw + 4 + t)) else none
theorem arT_at {ad : Nat → Nat} {iw i : Nat} (h : i < 8) : arT ad iw (nI i).toNatClampNeg = some (ad (iw + 4 + i)) := by
  rw [nI_clamp (by omega)]
  exact if_pos h
def WY (E : gE) (ad : Nat → Nat) (ws : va_W) (iw : Nat) (σ : WS) : Prop := ∃ (st sz : Int32) (r : Nat → Int32), ws[iw]? = some (ad iw, wayC (ad (iw + 1)) (ad (iw + 2)) σ.2.2.1 σ.2.2.2.1 σ.2.2.2.2) ∧ ws[iw + 1]? = some (ad (iw + 1), toA E (arT ad iw)) ∧ ws[iw + 2]? = some (ad (iw + 2), waitC (ad (iw + 3)) st sz) ∧ ws[iw + 3]? = some (ad (iw + 3), iaC E 256 r) ∧ RQ r st sz σ.2.1 ∧ ∀ t, t < 8 → ws[iw + 4 + t]? = some (ad (iw + 4 + t), toneC (σ.1 t))
def SD (E : gE) (ad : Nat → Nat) (ws : va_W) (is : Nat) (sd bt : Int32) (se : Nat → Int32) : Prop := ws[is]? = some (ad is, stC (ad (is + 1)) (ad (is + 13)) (ad (is + 25)) sd bt) ∧ ∃ g : Nat → Int32, ws[is + 25]? = some (ad (is + 25), iaC E 3 g) ∧ ∀ j, j < 3 → g j = se j
/-- nothing else has changed -/
def SO (is iw : Nat) (ws w : va_W) : Prop := ∀ j, j ≠ is → (j < iw ∨ iw + 12 ≤ j) → w[j]? = ws[j]?
theorem SO.rf {is iw : Nat} {ws : va_W} : SO is iw ws ws := fun _ _ _ => rfl
theorem SO.tr {is iw : Nat} {ws w w2 : va_W} (h : SO is iw ws w) (h2 : SO is iw w w2) : SO is iw ws w2 := fun j a b => (h2 j a b).trans (h j a b)
/-- a state and its way lie apart -/
def AP (is iw : Nat) : Prop := is < iw ∧ iw + 12 ≤ is + 25
theorem WY.of {E : gE} {ad : Nat → Nat} {ws w : va_W} {iw : Nat} {σ : WS} (h : WY E ad ws iw σ) (hq : ∀ j, iw ≤ j → j < iw + 12 → w[j]? = ws[j]?) : WY E ad w iw σ := by
  obtain ⟨st, sz, r, h1, h2, h3, h4, h5, h6⟩ := h
  exact ⟨st, sz, r, by rw [hq _ (by omega) (by omega)]; exact h1, by rw [hq _ (by omega) (by omega)]; exact h2, by rw [hq _ (by omega) (by omega)]; exact h3, by rw [hq _ (by omega) (by omega)]; exact h4, h5, fun t ht => by rw [hq _ (by omega) (by omega)]; exact h6 t ht⟩
theorem SD.of {E : gE} {ad : Nat → Nat} {ws w : va_W} {is : Nat} {sd bt : Int32} {se : Nat → Int32} (h : SD E ad ws is sd bt se) (h1 : w[is]? = ws[is]?) (h2 : w[is + 25]? = ws[is + 25]?) : SD E ad w is sd bt se := by
  obtain ⟨a, g, b, c⟩ := h
  exact ⟨h1.trans a, g, h2.trans b, c⟩
theorem SD.seed {E : gE} {ad : Nat → Nat} {ws : va_W} {is : Nat} {sd bt sd2 bt2 : Int32} {se : Nat → Int32} (h : SD E ad ws is sd bt se) : SD E ad (ws.set is (ad is, stC (ad (is + 1)) (ad (is + 13)) (ad (is + 25)) sd2 bt2)) is sd2 bt2 se := by
  obtain ⟨a, g, b, c⟩ := h
  exact ⟨wset_get a, g, wset_n b (by omega), c⟩
theorem WY.tone {E : gE} {ad : Nat → Nat} {ws : va_W} {iw t : Nat} {σ : WS} {f : TF} (h : WY E ad ws iw σ) (ht : t < 8) : WY E ad (ws.set (iw + 4 + t) (ad (iw + 4 + t), toneC f)) iw (va_up σ.1 t f, σ.2) := by
  obtain ⟨st, sz, r, h1, h2, h3, h4, h5, h6⟩ := h
  refine ⟨st, sz, r, wset_n h1 (by omega), wset_n h2 (by omega), wset_n h3 (by omega), wset_n h4 (by omega), h5, fun u hu => ?_⟩
  by_cases e : u = t
  · subst e
    simp only [va_up, if_true]
    exact wset_get (h6 u hu)
  · simp only [va_up, if_neg e]
    exact wset_n (h6 u hu) (by omega)
theorem WY.way {E : gE} {ad : Nat → Nat} {ws : va_W} {iw : Nat} {σ : WS} {lt : Int64} {cm wr : Int32} (h : WY E ad ws iw σ) : WY E ad (ws.set iw (ad iw, wayC (ad (iw + 1)) (ad (iw + 2)) lt cm wr)) iw (σ.1, σ.2.1, lt, cm, wr) := by
  obtain ⟨st, sz, r, h1, h2, h3, h4, h5, h6⟩ := h
  exact ⟨st, sz, r, wset_get h1, wset_n h2 (by omega), wset_n h3 (by omega), wset_n h4 (by omega), h5, fun u hu => wset_n (h6 u hu) (by omega)⟩
theorem WY.wait {E : gE} {ad : Nat → Nat} {ws : va_W} {iw : Nat} {σ : WS} {st sz st2 sz2 : Int32} {r : Nat → Int32} {bs : List Int32} (h : WY E ad ws iw σ) (h3' : ws[iw + 2]? = some (ad (iw + 2), waitC (ad (iw + 3)) st sz)) (h4' : ws[iw + 3]? = some (ad (iw + 3), iaC E 256 r)) (hq : RQ r st2 sz2 bs) : WY E ad (ws.set (iw + 2) (ad (iw + 2), waitC (ad (iw + 3)) st2 sz2)) iw (σ.1, bs, σ.2.2) := by
  obtain ⟨st0, sz0, r0, h1, h2, h3, h4, h5, h6⟩ := h
  exact ⟨st2, sz2, r, wset_n h1 (by omega), wset_n h2 (by omega), wset_get h3, wset_n h4' (by omega), hq, fun u hu => wset_n (h6 u hu) (by omega)⟩
theorem WY.st {E : gE} {ad : Nat → Nat} {ws : va_W} {iw is : Nat} {σ : WS} {x : Nat × va_E} (h : WY E ad ws iw σ) (hi : is < iw ∨ iw + 12 ≤ is) : WY E ad (ws.set is x) iw σ := h.of (fun j a b => List.getElem?_set_ne (by omega))
/-- a sign on a tone -/
def ssW (sd : Int32) (σ : WS) (t : Nat) : WS := (va_up σ.1 t (sgF sd (σ.1 t) σ.2.1), sgB (σ.1 t) σ.2.1, recL σ.2.2.1 (σ.1 t 10) (sgH sd (σ.1 t) σ.2.1), σ.2.2.2.1 + σ.1 t 10, σ.2.2.2.2 + sgW sd (σ.1 t) σ.2.1)
theorem m_X1_sendSign {E : gE} {ad : Nat → Nat} {ws : va_W} {is iw t : Nat} {sd bt : Int32} {se : Nat → Int32} {σ : WS} (hS : SD E ad ws is sd bt se) (hW : WY E ad ws iw σ) (ht : t < 8) (hi : AP is iw) (hf : TS (σ.1 t)) :
    C0 E YX1_sendSign 0 0 [.ref (ad is), .ref (ad iw), .ref (ad (iw + 4 + t))] ws (fun v w => v = some (.int (sgW sd (σ.1 t) σ.2.1)) ∧ SD E ad w is (drwS sd) bt se ∧ WY E ad w iw (ssW sd σ t) ∧ SO is iw ws w) := by
  obtain ⟨hi1, hi2⟩ := hi
  obtain ⟨st, sz, r, h1, h2, h3, h4, h5, h6⟩ := id hW
  refine c0_mono (m_X1_sendSign_raw hS.1 h1 h3 h4 (h6 t ht) h5 hf) (fun v w hvw => ?_)
  obtain ⟨e1, st2, sz2, hq2, e2⟩ := hvw
  have hW1 := (((hW.wait (sz := sz) (st := st) h3 h4 hq2).st (is := is) (x := (ad is, stC (ad (is + 1)) (ad (is + 13)) (ad (is + 25)) (drwS sd) bt)) (by omega)).tone ht (f := sgF sd (σ.1 t) σ.2.1)).way (lt := recL σ.2.2.1 (σ.1 t 10) (sgH sd (σ.1 t) σ.2.1)) (cm := σ.2.2.2.1 + σ.1 t 10) (wr := σ.2.2.2.2 + sgW sd (σ.1 t) σ.2.1)
  have hS1 : SD E ad ((ws.set (iw + 2) (ad (iw + 2), waitC (ad (iw + 3)) st2 sz2)).set is (ad is, stC (ad (is + 1)) (ad (is + 13)) (ad (is + 25)) (drwS sd) bt)) is (drwS sd) bt se := (hS.of (w := ws.set (iw + 2) (ad (iw + 2), waitC (ad (iw + 3)) st2 sz2)) (List.getElem?_set_ne (by omega)) (List.getElem?_set_ne (by omega))).seed
  subst e2
  refine ⟨e1, (hS1.of (List.getElem?_set_ne (by omega)) (List.getElem?_set_ne (by omega))).of (List.getElem?_set_ne (by omega)) (List.getElem?_set_ne (by omega)), hW1, fun j a b => ?_⟩
  rw [List.getElem?_set_ne (by omega), List.getElem?_set_ne (by omega), List.getElem?_set_ne (by omega), List.getElem?_set_ne (by omega)]
/-- eight, that nothing unrolls -/
noncomputable def k8 : Nat := Classical.choose (⟨8, rfl⟩ : ∃ n : Nat, n = 8)
theorem k8e : k8 = 8 := Classical.choose_spec (⟨8, rfl⟩ : ∃ n : Nat, n = 8)
def TA (σ : WS) : Prop := ∀ t, t < 8 → TS (σ.1 t)
def sndT (sd : Int32) (σ : WS) : Nat → Int32 × Int32 × WS
  | 0 => (0, sd, σ)
  | i + 1 => ((sndT sd σ i).1 + sgW (sndT sd σ i).2.1 ((sndT sd σ i).2.2.1 i) (sndT sd σ i).2.2.2.1, drwS (sndT sd σ i).2.1, ssW (sndT sd σ i).2.1 (sndT sd σ i).2.2 i)
def shyT (m : Int32) (σ : WS) : Nat → WS
  | 0 => σ
  | i + 1 => (va_up (shyT m σ i).1 i (shyP ((shyT m σ i).1 i) m), (shyT m σ i).2)
noncomputable def btP (m sd : Int32) (σ : WS) : Int32 × Int32 × WS := ((sndT sd σ k8).1, (sndT sd σ k8).2.1, shyT m (sndT sd σ k8).2.2 k8)
noncomputable def btN (m sd : Int32) (σ : WS) : Nat → Int32 × Int32 × WS
  | 0 => (0, sd, σ)
  | n + 1 => ((btN m sd σ n).1 + (btP m (btN m sd σ n).2.1 (btN m sd σ n).2.2).1, (btP m (btN m sd σ n).2.1 (btN m sd σ n).2.2).2)
theorem sndT_0 {sd : Int32} {σ : WS} : sndT sd σ 0 = (0, sd, σ) := rfl
theorem shyT_0 {m : Int32} {σ : WS} : shyT m σ 0 = σ := rfl
theorem btN_0 {m sd : Int32} {σ : WS} : btN m sd σ 0 = (0, sd, σ) := rfl
theorem btN_s {m sd : Int32} {σ : WS} {i : Nat} : btN m sd σ (i + 1) = ((btN m sd σ i).1 + (sndT (btN m sd σ i).2.1 (btN m sd σ i).2.2 k8).1, (sndT (btN m sd σ i).2.1 (btN m sd σ i).2.2 k8).2.1, shyT m (sndT (btN m sd σ i).2.1 (btN m sd σ i).2.2 k8).2.2 k8) := rfl
theorem cnt_keep (f : TF) (b : Int32) (j : Nat) (hj : j ≠ 12 ∧ j ≠ 14 ∧ j ≠ 15) : cntP f b j = f j := by
  unfold cntP
  split <;> split <;> simp [upd, hj]
theorem sgF_keep (sd : Int32) (f : TF) (bs : List Int32) (j : Nat) (hj : j ≠ 12 ∧ j ≠ 14 ∧ j ≠ 15 ∧ j ≠ 4 ∧ j ≠ 5 ∧ j ≠ 6 ∧ j ≠ 16 ∧ j ≠ 17) : sgF sd f bs j = f j := by
  unfold sgF cntB
  split
  · rw [cnt_keep _ _ _ ⟨hj.1, hj.2.1, hj.2.2.1⟩]; simp [passP, upd, hj]
  · rw [cnt_keep _ _ _ ⟨hj.1, hj.2.1, hj.2.2.1⟩]; simp [passP, upd, hj]
theorem TS_sgF {sd : Int32} {f : TF} {bs : List Int32} (h : TS f) : TS (sgF sd f bs) := by
  obtain ⟨n, h1, h2, h3, h4⟩ := h
  exact ⟨n, h1, by rw [sgF_keep _ _ _ 10 (by decide)]; exact h2, by rw [sgF_keep _ _ _ 7 (by decide)]; exact h3, by rw [sgF_keep _ _ _ 3 (by decide)]; exact h4⟩
theorem TS_shyP {m : Int32} {f : TF} (h : TS f) : TS (shyP f m) := by
  obtain ⟨n, h1, h2, h3, h4⟩ := h
  unfold shyP
  split
  · exact ⟨n, h1, h2, h3, h4⟩
  · split
    · exact ⟨n, h1, h2, h3, h4⟩
    · rename_i h5 h6
      cases n with
      | zero => exact absurd (by rw [h2]; decide) h5
      | succ n => exact ⟨n, by omega, by simp only [upd]; show f 10 - 1 = _; rw [h2, nI_pred], h3, h4⟩
theorem TA_ssW {sd : Int32} {σ : WS} {t : Nat} (h : TA σ) (ht : t < 8) : TA (ssW sd σ t) := by
  intro u hu
  unfold ssW
  simp only [va_up]
  split
  · exact TS_sgF (h t ht)
  · exact h u hu
theorem TA_sndT {sd : Int32} {σ : WS} (h : TA σ) : ∀ i, i ≤ 8 → TA (sndT sd σ i).2.2
  | 0, _ => h
  | i + 1, hi => TA_ssW (TA_sndT h i (by omega)) (by omega)
theorem TA_shyT {m : Int32} {σ : WS} (h : TA σ) : ∀ i, i ≤ 8 → TA (shyT m σ i)
  | 0, _ => h
  | i + 1, hi => by
    intro u hu
    unfold shyT
    simp only [va_up]
    split
    · exact TS_shyP (TA_shyT h i (by omega) i (by omega))
    · exact TA_shyT h i (by omega) u hu
theorem TA_btP {m sd : Int32} {σ : WS} (h : TA σ) : TA (btP m sd σ).2.2 := TA_shyT (TA_sndT h k8 (Nat.le_of_eq k8e)) k8 (Nat.le_of_eq k8e)
theorem TA_btN {m sd : Int32} {σ : WS} (h : TA σ) : ∀ n, TA (btN m sd σ n).2.2
  | 0 => h
  | n + 1 => TA_btP (TA_btN h n)
set_option maxRecDepth 100000 in
set_option maxHeartbeats 4000000 in
theorem snd_in1 {E : gE} {ad : Nat → Nat} {Pr : Option Value → va_W → Prop} {is iw n : Nat} {bt bx : Int32} {se : Nat → Int32} (hi : AP is iw) {ws0 : va_W} {acc0 sd : Int32} {σ : WS} (hA : TA σ)
    (kt : ∀ (w : va_W) (acc x : Int32), acc = acc0 + (sndT sd σ k8).1 → SD E ad w is (sndT sd σ k8).2.1 bt se → WY E ad w iw (sndT sd σ k8).2.2 → SO is iw ws0 w → Ev E YX1_sendBeats Pr nX 0 0 42 [(0, .ref (ad is)), (1, .ref (ad iw)), (2, .int (nI n)), (3, .int acc), (4, .int bx), (5, .int x)] [] w) :
    ∀ (m i : Nat) (w : va_W) (acc x : Int32), i + m = k8 → x = nI i → acc = acc0 + (sndT sd σ i).1 → SD E ad w is (sndT sd σ i).2.1 bt se → WY E ad w iw (sndT sd σ i).2.2 → SO is iw ws0 w → Ev E YX1_sendBeats Pr nX 0 0 14 [(0, .ref (ad is)), (1, .ref (ad iw)), (2, .int (nI n)), (3, .int acc), (4, .int bx), (5, .int x)] [] w := by
  have e8 := k8e
  intro m
  induction m with
  | zero =>
    intro i w acc x hm hx ha hS hW hO
    obtain rfl : i = k8 := by omega
    subst hx
    refine ev_ss DX1_sendBeats 2 9 (pc' := 18) (lv' := [(0, .ref _), (1, .ref _), (2, .int _), (3, .int _), (4, .int _), (5, .int _)]) (st' := [.int 8, .int _]) rfl ?_
    refine ev_icge DX1_sendBeats 11 rfl (tgt := 42) (by decide) (fun _ => ?_) (fun h => h.elim (by rw [k8e]; decide))
    exact kt w acc _ ha hS hW hO
  | succ m ih =>
    intro i w acc x hm hx ha hS hW hO
    subst hx
    obtain ⟨st, sz, r, h1, h2, h3, h4, h5, h6⟩ := id hW
    refine ev_ss DX1_sendBeats 2 9 (pc' := 18) (lv' := [(0, .ref _), (1, .ref _), (2, .int _), (3, .int _), (4, .int _), (5, .int _)]) (st' := [.int 8, .int _]) rfl ?_
    refine ev_icge DX1_sendBeats 11 rfl (tgt := 42) (by decide) (fun h => absurd h (nI_ge (b := 8) (by omega) (by decide))) (fun _ => ?_)
    refine ev_ss DX1_sendBeats 4 12 (pc' := 25) (lv' := [(0, .ref _), (1, .ref _), (2, .int _), (3, .int _), (4, .int _), (5, .int _)]) (st' := [.ref _, .ref _, .ref _, .int _]) rfl ?_
    refine ev_get DX1_sendBeats 16 GX5 rfl (k0 := 0) (Nat.le_of_ble_eq_true rfl) fX1_66 h1 rfl ?_
    refine ev_ss DX1_sendBeats 1 17 (pc' := 30) (lv' := [(0, .ref _), (1, .ref _), (2, .int _), (3, .int _), (4, .int _), (5, .int _)]) (st' := [.int _, .ref _, .ref _, .ref _, .int _]) rfl ?_
    refine ev_aald4 DX1_sendBeats 18 rfl h2 (vp_in_nI (by omega) (by decide)) (b := ad (iw + 4 + i)) (arT_at (by omega)) ?_
    refine ev_rV DX1_sendBeats 19 (m_X1_sendSign hS hW (t := i) (by omega) hi (TA_sndT hA i (by omega) i (by omega))) vX1_sendSign rfl qX1_70 rfl hS.1 rfl (hd_of rfl rfl rfl rfl) (fun v w2 hvw => ?_)
    obtain ⟨rfl, hS2, hW2, hO2⟩ := hvw
    refine ev_ss DX1_sendBeats 3 20 (pc' := 39) (lv' := [(5, .int _), (3, .int _), (0, .ref _), (1, .ref _), (2, .int _), (4, .int _)]) (st' := []) rfl ?_
    refine ev_goto DX1_sendBeats 23 rfl (tgt := 14) (by decide) ?_
    refine ev_lvp (lv2 := [(0, .ref _), (1, .ref _), (2, .int _), (3, .int _), (4, .int _), (5, .int _)]) [2, 3, 4, 1, 5, 0] rfl ?_
    exact ih (i + 1) w2 _ _ (by omega) (nI_1 i) (by rw [ha]; exact Int32.add_assoc _ _ _) hS2 hW2 (hO.tr hO2)
set_option maxRecDepth 100000 in
set_option maxHeartbeats 4000000 in
theorem snd_in2 {E : gE} {ad : Nat → Nat} {Pr : Option Value → va_W → Prop} {is iw n : Nat} {bt bx : Int32} {se : Nat → Int32} (hi : AP is iw) {ws0 : va_W} {acc sd : Int32} {σ : WS}
    (kt : ∀ (w : va_W) (x : Int32), SD E ad w is sd bt se → WY E ad w iw (shyT (se 2) σ k8) → SO is iw ws0 w → Ev E YX1_sendBeats Pr nX 0 0 74 [(0, .ref (ad is)), (1, .ref (ad iw)), (2, .int (nI n)), (3, .int acc), (4, .int bx), (5, .int x)] [] w) :
    ∀ (m i : Nat) (w : va_W) (x : Int32), i + m = k8 → x = nI i → SD E ad w is sd bt se → WY E ad w iw (shyT (se 2) σ i) → SO is iw ws0 w → Ev E YX1_sendBeats Pr nX 0 0 45 [(0, .ref (ad is)), (1, .ref (ad iw)), (2, .int (nI n)), (3, .int acc), (4, .int bx), (5, .int x)] [] w := by
  have e8 := k8e
  intro m
  induction m with
  | zero =>
    intro i w x hm hx hS hW hO
    obtain rfl : i = k8 := by omega
    subst hx
    refine ev_ss DX1_sendBeats 2 26 (pc' := 49) (lv' := [(0, .ref _), (1, .ref _), (2, .int _), (3, .int _), (4, .int _), (5, .int _)]) (st' := [.int 8, .int _]) rfl ?_
    refine ev_icge DX1_sendBeats 28 rfl (tgt := 74) (by decide) (fun _ => ?_) (fun h => h.elim (by rw [k8e]; decide))
    exact kt w _ hS hW hO
  | succ m ih =>
    intro i w x hm hx hS hW hO
    subst hx
    obtain ⟨st, sz, r, h1, h2, h3, h4, h5, h6⟩ := id hW
    obtain ⟨hs1, g, hs2, hs3⟩ := id hS
    refine ev_ss DX1_sendBeats 2 26 (pc' := 49) (lv' := [(0, .ref _), (1, .ref _), (2, .int _), (3, .int _), (4, .int _), (5, .int _)]) (st' := [.int 8, .int _]) rfl ?_
    refine ev_icge DX1_sendBeats 28 rfl (tgt := 74) (by decide) (fun h => absurd h (nI_ge (b := 8) (by omega) (by decide))) (fun _ => ?_)
    refine ev_ss DX1_sendBeats 1 29 (pc' := 53) (lv' := [(0, .ref _), (1, .ref _), (2, .int _), (3, .int _), (4, .int _), (5, .int _)]) (st' := [.ref _]) rfl ?_
    refine ev_get DX1_sendBeats 30 GX5 rfl (k0 := 0) (Nat.le_of_ble_eq_true rfl) fX1_66 h1 rfl ?_
    refine ev_ss DX1_sendBeats 1 31 (pc' := 58) (lv' := [(0, .ref _), (1, .ref _), (2, .int _), (3, .int _), (4, .int _), (5, .int _)]) (st' := [.int _, .ref _]) rfl ?_
    refine ev_aald4 DX1_sendBeats 32 rfl h2 (vp_in_nI (by omega) (by decide)) (b := ad (iw + 4 + i)) (arT_at (by omega)) ?_
    refine ev_ss DX1_sendBeats 1 33 (pc' := 60) (lv' := [(0, .ref _), (1, .ref _), (2, .int _), (3, .int _), (4, .int _), (5, .int _)]) (st' := [.ref _, .ref _]) rfl ?_
    refine ev_get DX1_sendBeats 34 GX1 rfl (k0 := 2) (Nat.le_of_ble_eq_true rfl) fX1_21 hs1 rfl ?_
    refine ev_ss DX1_sendBeats 1 35 (pc' := 64) (lv' := [(0, .ref _), (1, .ref _), (2, .int _), (3, .int _), (4, .int _), (5, .int _)]) (st' := [.int 2, .ref _, .ref _]) rfl ?_
    refine ev_iald DX1_sendBeats 36 rfl hs2 (by unfold vp_in; decide) ?_
    refine ev_cV DX1_sendBeats 37 (m_X3_becomeShyAt (h6 i (by omega))) vX3_becomeShyAt rfl qX1_74 rfl (h6 i (by omega)) rfl (hd_of rfl rfl rfl rfl) ?_
    refine ev_ss DX1_sendBeats 1 38 (pc' := 71) (lv' := [(5, .int _), (0, .ref _), (1, .ref _), (2, .int _), (3, .int _), (4, .int _)]) (st' := []) rfl ?_
    refine ev_goto DX1_sendBeats 39 rfl (tgt := 45) (by decide) ?_
    refine ev_lvp (lv2 := [(0, .ref _), (1, .ref _), (2, .int _), (3, .int _), (4, .int _), (5, .int _)]) [1, 2, 3, 4, 5, 0] rfl ?_
    have e2 : g ((2 : Int32).toNatClampNeg) = se 2 := hs3 2 (by decide)
    have hW2 := hW.tone (t := i) (by omega) (f := shyP ((shyT (se 2) σ i).1 i) (se 2))
    have hw3 : Ev E YX1_sendBeats Pr nX 0 0 45 [(0, .ref (ad is)), (1, .ref (ad iw)), (2, .int (nI n)), (3, .int acc), (4, .int bx), (5, .int (nI i + 1))] [] (w.set (iw + 4 + i) (ad (iw + 4 + i), toneC (shyP ((shyT (se 2) σ i).1 i) (se 2)))) := ih (i + 1) _ _ (by omega) (nI_1 i) (hS.of (List.getElem?_set_ne (by have := hi.1; omega)) (List.getElem?_set_ne (by have := hi.2; omega))) hW2 (hO.tr (fun j a b => List.getElem?_set_ne (by omega)))
    exact (congrArg (fun z => Ev E YX1_sendBeats Pr nX 0 0 45 [(0, .ref (ad is)), (1, .ref (ad iw)), (2, .int (nI n)), (3, .int acc), (4, .int bx), (5, .int (nI i + 1))] [] (w.set (iw + 4 + i) (ad (iw + 4 + i), toneC (shyP ((shyT (se 2) σ i).1 i) z)))) e2).mpr hw3
set_option maxRecDepth 100000 in
set_option maxHeartbeats 4000000 in
theorem m_X1_sendBeats {E : gE} {ad : Nat → Nat} {ws : va_W} {is iw n : Nat} {sd bt : Int32} {se : Nat → Int32} {σ : WS} (hn : n < 2 ^ 31) (hi : AP is iw) (hS0 : SD E ad ws is sd bt se) (hW0 : WY E ad ws iw σ) (hA : TA σ) :
    C0 E YX1_sendBeats 0 0 [.ref (ad is), .ref (ad iw), .int (nI n)] ws (fun v w => v = some (.int (btN (se 2) sd σ n).1) ∧ SD E ad w is (btN (se 2) sd σ n).2.1 (bt + nI n) se ∧ WY E ad w iw (btN (se 2) sd σ n).2.2 ∧ SO is iw ws w) := by
  refine c0V vX1_sendBeats (Nat.le_of_ble_eq_true rfl) (lv0 := [(0, .ref (ad is)), (1, .ref (ad iw)), (2, .int (nI n))]) rfl ?_
  suffices K : ∀ (m i : Nat) (w : va_W) (acc x bt1 : Int32), i + m = n → x = nI i → acc = (btN (se 2) sd σ i).1 → bt1 = bt + nI i → SD E ad w is (btN (se 2) sd σ i).2.1 bt1 se → WY E ad w iw (btN (se 2) sd σ i).2.2 → SO is iw ws w → Ev E YX1_sendBeats (fun v w => v = some (.int (btN (se 2) sd σ n).1) ∧ SD E ad w is (btN (se 2) sd σ n).2.1 (bt + nI n) se ∧ WY E ad w iw (btN (se 2) sd σ n).2.2 ∧ SO is iw ws w) nX 0 0 5 [(0, .ref (ad is)), (1, .ref (ad iw)), (2, .int (nI n)), (3, .int acc), (4, .int x)] [] w by
    refine ev_ss DX1_sendBeats 4 0 (pc' := 5) (lv' := [(4, .int 0), (3, .int 0), (0, .ref _), (1, .ref _), (2, .int _)]) (st' := []) rfl ?_
    refine ev_lvp (lv2 := [(0, .ref _), (1, .ref _), (2, .int _), (3, .int _), (4, .int _)]) [2, 3, 4, 1, 0] rfl ?_
    exact K n 0 ws 0 _ bt (by omega) nI_0.symm (by rw [btN_0]) (by rw [nI_0, Int32.add_zero]) (by rw [btN_0]; exact hS0) (by rw [btN_0]; exact hW0) SO.rf
  intro m
  induction m with
  | zero =>
    intro i w acc x bt1 hm hx ha hb hS hW hO
    obtain rfl : i = n := by omega
    subst hx; subst ha; subst hb
    refine ev_ss DX1_sendBeats 2 4 (pc' := 8) (lv' := [(0, .ref _), (1, .ref _), (2, .int _), (3, .int _), (4, .int _)]) (st' := [.int _, .int _]) rfl ?_
    refine ev_icge DX1_sendBeats 6 rfl (tgt := 90) (by decide) (fun _ => ?_) (fun h => h.elim (nI_le (Nat.le_refl _) hn))
    refine ev_ss DX1_sendBeats 1 48 (pc' := 91) (lv' := [(0, .ref _), (1, .ref _), (2, .int _), (3, .int _), (4, .int _)]) (st' := [.int _]) rfl ?_
    exact ev_iret DX1_sendBeats 49 rfl rfl ⟨rfl, hS, hW, hO⟩
  | succ m ih =>
    intro i w acc x bt1 hm hx ha hb hS hW hO
    subst hx
    refine ev_ss DX1_sendBeats 2 4 (pc' := 8) (lv' := [(0, .ref _), (1, .ref _), (2, .int _), (3, .int _), (4, .int _)]) (st' := [.int _, .int _]) rfl ?_
    refine ev_icge DX1_sendBeats 6 rfl (tgt := 90) (by decide) (fun h => absurd h (nI_ge (b := n) (by omega) (by omega))) (fun _ => ?_)
    refine ev_ss DX1_sendBeats 2 7 (pc' := 14) (lv' := [(5, .int 0), (0, .ref _), (1, .ref _), (2, .int _), (3, .int _), (4, .int _)]) (st' := []) rfl ?_
    refine ev_lvp (lv2 := [(0, .ref _), (1, .ref _), (2, .int _), (3, .int _), (4, .int _), (5, .int _)]) [1, 2, 3, 4, 5, 0] rfl ?_
    refine snd_in1 hi (acc0 := acc) (sd := (btN (se 2) sd σ i).2.1) (σ := (btN (se 2) sd σ i).2.2) (TA_btN hA i) (ws0 := ws) (fun w1 acc1 x1 ha1 hS1 hW1 hO1 => ?_) k8 0 w acc _ (Nat.zero_add k8) nI_0.symm (by rw [sndT_0]; exact (Int32.add_zero acc).symm) (by rw [sndT_0]; exact hS) (by rw [sndT_0]; exact hW) hO
    refine ev_ss DX1_sendBeats 2 24 (pc' := 45) (lv' := [(5, .int 0), (0, .ref _), (1, .ref _), (2, .int _), (3, .int _), (4, .int _)]) (st' := []) rfl ?_
    refine ev_lvp (lv2 := [(0, .ref _), (1, .ref _), (2, .int _), (3, .int _), (4, .int _), (5, .int _)]) [1, 2, 3, 4, 5, 0] rfl ?_
    refine snd_in2 hi (σ := (sndT (btN (se 2) sd σ i).2.1 (btN (se 2) sd σ i).2.2 k8).2.2) (ws0 := ws) (fun w2 x2 hS2 hW2 hO2 => ?_) k8 0 w1 _ (Nat.zero_add k8) nI_0.symm hS1 (by rw [shyT_0]; exact hW1) hO1
    refine ev_ss DX1_sendBeats 2 40 (pc' := 76) (lv' := [(0, .ref _), (1, .ref _), (2, .int _), (3, .int _), (4, .int _), (5, .int _)]) (st' := [.ref _, .ref _]) rfl ?_
    refine ev_get DX1_sendBeats 42 GX1 rfl (k0 := 4) (Nat.le_of_ble_eq_true rfl) fX1_47 hS2.1 rfl ?_
    refine ev_ss DX1_sendBeats 2 43 (pc' := 81) (lv' := [(0, .ref _), (1, .ref _), (2, .int _), (3, .int _), (4, .int _), (5, .int _)]) (st' := [.int _, .ref _]) rfl ?_
    refine ev_put (fs' := [_, _, _, _, _]) DX1_sendBeats 45 GX1 rfl (k0 := 4) (Nat.le_of_ble_eq_true rfl) fX1_47 rfl ⟨rfl, rfl⟩ hS2.1 (Nat.le_of_ble_eq_true rfl) rfl rfl ?_
    refine ev_ss DX1_sendBeats 1 46 (pc' := 87) (lv' := [(4, .int _), (0, .ref _), (1, .ref _), (2, .int _), (3, .int _), (5, .int _)]) (st' := []) rfl ?_
    refine ev_goto DX1_sendBeats 47 rfl (tgt := 5) (by decide) ?_
    refine ev_lvp (lv2 := [(0, .ref _), (1, .ref _), (2, .int _), (3, .int _), (4, .int _)]) [1, 2, 3, 4, 0] rfl ?_
    exact ih (i + 1) _ _ _ (bt1 + 1) (by omega) (nI_1 i) (by rw [btN_s, ha1, ha]) (by rw [hb, ← nI_1 i]; exact Int32.add_assoc _ _ _) (by rw [btN_s]; exact hS2.seed) (by rw [btN_s]; exact hW2.st (Or.inl hi.1)) (hO2.tr (fun j a b => List.getElem?_set_ne (Ne.symm a)))
