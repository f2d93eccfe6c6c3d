theorem cpy_sI {f g : Nat → Int32} {s d i k : Nat} {v : Int32} (hk : k = d + i) (hv : v = f (s + i)) : upd (va_cpy f g s d i) k v = va_cpy f g s d (i + 1) := by
  subst hk; subst hv
  funext j
  by_cases e : j = d + i
  · subst e
    rw [upd_eq, pk_cpy_in (by omega) (by omega), Nat.add_sub_cancel_left]
  · rw [upd_ne e]
    by_cases h : d ≤ j ∧ j < d + i
    · rw [pk_cpy_in h.1 h.2, pk_cpy_in h.1 (by omega)]
    · rw [pk_cpy_out (by omega), pk_cpy_out (by omega)]
theorem cpy_sL {f g : Nat → Int64} {s d i k : Nat} {v : Int64} (hk : k = d + i) (hv : v = f (s + i)) : vp_updL (va_cpy f g s d i) k v = va_cpy f g s d (i + 1) := by
  subst hk; subst hv
  funext j
  by_cases e : j = d + i
  · subst e
    rw [pk_uLs, pk_cpy_in (by omega) (by omega), Nat.add_sub_cancel_left]
  · rw [pk_uLn e]
    by_cases h : d ≤ j ∧ j < d + i
    · rw [pk_cpy_in h.1 h.2, pk_cpy_in h.1 (by omega)]
    · rw [pk_cpy_out (by omega), pk_cpy_out (by omega)]
theorem cpy_0 {α : Type} {f g : Nat → α} {s d : Nat} : va_cpy f g s d 0 = g := by
  funext j
  exact pk_cpy_out (by omega)
theorem cpy_in0 {α : Type} {f g : Nat → α} {n j : Nat} (h : j < n) : va_cpy f g 0 0 n j = f j := by
  rw [pk_cpy_in (Nat.zero_le _) (by omega), Nat.sub_zero, Nat.zero_add]
theorem cpy_inD {α : Type} {f g : Nat → α} {d n j : Nat} (h : j < n) : va_cpy f g 0 d n (d + j) = f j := by
  rw [pk_cpy_in (Nat.le_add_right _ _) (by omega), Nat.add_sub_cancel_left, Nat.zero_add]
theorem cpy_inS {α : Type} {f g : Nat → α} {s n j : Nat} (h : j < n) : va_cpy f g s 0 n j = f (s + j) := by
  rw [pk_cpy_in (Nat.zero_le _) (by omega), Nat.sub_zero]
theorem ZG.ag {z z2 : Nat → Int32} {p : PS} (h : ZG z p) (hz : ∀ j, j < 811 → z2 j = z j) : ZG z2 p := by
  obtain ⟨h1, h2, h3, h4, h5, h6, h7⟩ := h
  refine ⟨fun b u i hb hu hi => ?_, fun b u i hb hu hi => ?_, fun b i hb hi => ?_, fun b hb => ?_, ?_, ?_, fun i hi => ?_⟩
  · rw [hz _ (by unfold stA; omega)]; exact h1 b u i hb hu hi
  · rw [hz _ (by unfold acA; omega)]; exact h2 b u i hb hu hi
  · rw [hz _ (by have := (h4 b hb).1; omega)]; exact h3 b i hb hi
  · rw [hz _ (by omega), hz _ (by omega), hz _ (by omega)]; exact h4 b hb
  · rw [hz _ (by omega)]; exact h5
  · rw [hz _ (by omega)]; exact h6
  · rw [hz _ (by omega)]; exact h7 i hi
theorem LG.ag {l l2 : Nat → Int64} {p : PS} (h : LG l p) (hl : ∀ j, j < 2 → l2 j = l j) : LG l2 p := fun a ha => (hl a ha).trans (h a ha)
/-- the reference's object with all that it holds: cells 214 to 222 -/
def ZM (E : gE) (ad : Nat → Nat) (ws : va_W) (p : PS) (sv : Nat → PS) (sc len : Nat) (ch : Nat → Int32) (tw : Int32) (hh : Int64) : Prop :=
  ∃ (ea iw : Int32) (z rw as : Nat → Int32) (l hs ha : Nat → Int64) (er bf : Nat → Int32), (ws[214]? = some (ad 214, moC ad (nI sc) (nI len) tw ea iw hh) ∧ ws[215]? = some (ad 215, iaC E 811 z) ∧ ws[216]? = some (ad 216, iaC E 4866 rw) ∧ ws[217]? = some (ad 217, iaC E 811 as) ∧ ws[218]? = some (ad 218, laC E 2 l)) ∧ (ws[219]? = some (ad 219, laC E 12 hs) ∧ ws[220]? = some (ad 220, laC E 2 ha) ∧ ws[221]? = some (ad 221, iaC E 60 bf) ∧ ws[222]? = some (ad 222, iaC E 64 er)) ∧ (ZG z p ∧ LG l p) ∧ (∀ k, k < sc → ZG (fun j => rw (811 * k + j)) (sv k) ∧ LG (fun j => hs (2 * k + j)) (sv k)) ∧ len ≤ 60 ∧ ∀ j, j < len → bf j = ch j
def MO (ws w : va_W) : Prop := ∀ j, j < 214 ∨ 223 ≤ j → w[j]? = ws[j]?
theorem MO.rf {ws : va_W} : MO ws ws := fun _ _ => rfl
theorem MO.tr {ws w w2 : va_W} (h : MO ws w) (h2 : MO w w2) : MO ws w2 := fun j a => (h2 j a).trans (h j a)
theorem MO.set {ws : va_W} {j : Nat} {x : Nat × va_E} (h1 : 214 ≤ j) (h2 : j < 223) : MO ws (ws.set j x) := fun k hk => List.getElem?_set_ne (by omega)
/-- the numbers, the latest bits, what is put aside and the errors have changed -/
theorem ZM.st {E : gE} {ad : Nat → Nat} {ws w : va_W} {p q : PS} {sv : Nat → PS} {sc len : Nat} {ch : Nat → Int32} {tw : Int32} {hh : Int64} (h : ZM E ad ws p sv sc len ch tw hh)
    (h1 : ∃ z, w[215]? = some (ad 215, iaC E 811 z) ∧ ZG z q) (h2 : ∃ l, w[218]? = some (ad 218, laC E 2 l) ∧ LG l q) (h3 : ∃ as, w[217]? = some (ad 217, iaC E 811 as)) (h4 : ∃ ha, w[220]? = some (ad 220, laC E 2 ha)) (h5 : ∃ er, w[222]? = some (ad 222, iaC E 64 er)) (hf : ∀ j, 214 ≤ j → j < 223 → j ≠ 215 → j ≠ 217 → j ≠ 218 → j ≠ 220 → j ≠ 222 → w[j]? = ws[j]?) : ZM E ad w q sv sc len ch tw hh := by
  obtain ⟨ea, iw, z, rw, as, l, hs, ha, er, bf, ⟨a0, a1, a2, a3, a4⟩, ⟨a5, a6, a7, a8⟩, -, hsv, hl, hc⟩ := h
  obtain ⟨z2, c1, d1⟩ := h1
  obtain ⟨l2, c2, d2⟩ := h2
  obtain ⟨as2, c3⟩ := h3
  obtain ⟨ha2, c4⟩ := h4
  obtain ⟨er2, c5⟩ := h5
  exact ⟨ea, iw, z2, rw, as2, l2, hs, ha2, er2, bf, ⟨(hf 214 (by decide) (by decide) (by decide) (by decide) (by decide) (by decide) (by decide)).trans a0, c1, (hf 216 (by decide) (by decide) (by decide) (by decide) (by decide) (by decide) (by decide)).trans a2, c3, c2⟩, ⟨(hf 219 (by decide) (by decide) (by decide) (by decide) (by decide) (by decide) (by decide)).trans a5, c4, (hf 221 (by decide) (by decide) (by decide) (by decide) (by decide) (by decide) (by decide)).trans a7, c5⟩, ⟨d1, d2⟩, hsv, hl, hc⟩
/-- .. the object's own numbers -/
theorem ZM.ob {E : gE} {ad : Nat → Nat} {ws w : va_W} {p : PS} {sv : Nat → PS} {sc len : Nat} {ch : Nat → Int32} {tw tw2 ea2 iw2 : Int32} {hh hh2 : Int64} (h : ZM E ad ws p sv sc len ch tw hh) (h1 : w[214]? = some (ad 214, moC ad (nI sc) (nI len) tw2 ea2 iw2 hh2)) (hf : ∀ j, 214 < j → j < 223 → w[j]? = ws[j]?) : ZM E ad w p sv sc len ch tw2 hh2 := by
  obtain ⟨ea, iw, z, rw, as, l, hs, ha, er, bf, ⟨a0, a1, a2, a3, a4⟩, ⟨a5, a6, a7, a8⟩, hst, hsv, hl, hc⟩ := h
  exact ⟨ea2, iw2, z, rw, as, l, hs, ha, er, bf, ⟨h1, (hf 215 (by decide) (by decide)).trans a1, (hf 216 (by decide) (by decide)).trans a2, (hf 217 (by decide) (by decide)).trans a3, (hf 218 (by decide) (by decide)).trans a4⟩, ⟨(hf 219 (by decide) (by decide)).trans a5, (hf 220 (by decide) (by decide)).trans a6, (hf 221 (by decide) (by decide)).trans a7, (hf 222 (by decide) (by decide)).trans a8⟩, hst, hsv, hl, hc⟩
set_option maxRecDepth 100000 in
set_option maxHeartbeats 4000000 in
theorem m_X7_putAside {E : gE} {ad : Nat → Nat} {ws : va_W} {bm tw ea iw : Int32} {hh : Int64} {sm : Int32} {z as : Nat → Int32} {l ha : Nat → Int64} (h : ws[214]? = some (ad 214, moC ad sm bm tw ea iw hh)) (hz : ws[215]? = some (ad 215, iaC E 811 z)) (has : ws[217]? = some (ad 217, iaC E 811 as)) (hl : ws[218]? = some (ad 218, laC E 2 l)) (hha : ws[220]? = some (ad 220, laC E 2 ha)) : C0 E YX7_putAside 0 0 [.ref (ad 214)] ws (fun v w => v = none ∧ (∃ g, w[217]? = some (ad 217, iaC E 811 g) ∧ ∀ j, j < 811 → g j = z j) ∧ (∃ g, w[220]? = some (ad 220, laC E 2 g) ∧ ∀ j, j < 2 → g j = l j) ∧ ∀ j, j ≠ 217 → j ≠ 220 → w[j]? = ws[j]?) := by
  have eK := kOe 811
  refine c0V vX7_putAside (Nat.le_of_ble_eq_true rfl) (lv0 := [(0, .ref (ad 214))]) rfl ?_
  suffices K : ∀ (m i : Nat) (x : Int32) (w : va_W), i + m = kO 811 → x = nI i → w[217]? = some (ad 217, iaC E 811 (va_cpy z as 0 0 i)) → (∀ j, j ≠ 217 → w[j]? = ws[j]?) →
      Ev E YX7_putAside (fun v w => v = none ∧ (∃ g, w[217]? = some (ad 217, iaC E 811 g) ∧ ∀ j, j < 811 → g j = z j) ∧ (∃ g, w[220]? = some (ad 220, laC E 2 g) ∧ ∀ j, j < 2 → g j = l j) ∧ ∀ j, j ≠ 217 → j ≠ 220 → w[j]? = ws[j]?) nX 0 0 2 [(0, .ref (ad 214)), (1, .int x)] [] w by
    refine ev_ss DX7_putAside 2 0 (pc' := 2) (lv' := [(1, .int 0), (0, .ref _)]) (st' := []) rfl ?_
    refine ev_lvp (lv2 := [(0, .ref _), (1, .int _)]) [1, 0] rfl ?_
    exact K (kO 811) 0 _ ws (Nat.zero_add _) nI_0.symm (by rw [cpy_0]; exact has) (fun _ _ => rfl)
  intro m
  induction m with
  | zero =>
    intro i x w hm hx h2 hO
    obtain rfl : i = kO 811 := by omega
    subst hx
    have h1 := (hO 214 (by decide)).trans h
    have h3 := (hO 218 (by decide)).trans hl
    have h4 := (hO 220 (by decide)).trans hha
    refine ev_ss DX7_putAside 2 2 (pc' := 6) (lv' := [(0, .ref _), (1, .int _)]) (st' := [.int 811, .int _]) rfl ?_
    refine ev_icge DX7_putAside 4 rfl (tgt := 27) (by decide) (fun _ => ?_) (fun h => h.elim (by rw [eK]; decide))
    refine ev_ss DX7_putAside 1 15 (pc' := 28) (lv' := [(0, .ref _), (1, .int _)]) (st' := [.ref _]) rfl ?_
    refine ev_get DX7_putAside 16 GX7 rfl (k0 := 5) (Nat.le_of_ble_eq_true rfl) fX7_26 h1 rfl ?_
    refine ev_ss DX7_putAside 2 17 (pc' := 33) (lv' := [(0, .ref _), (1, .int _)]) (st' := [.ref _, .int 0, .ref _]) rfl ?_
    refine ev_get DX7_putAside 19 GX7 rfl (k0 := 3) (Nat.le_of_ble_eq_true rfl) fX7_19 h1 rfl ?_
    refine ev_ss DX7_putAside 1 20 (pc' := 37) (lv' := [(0, .ref _), (1, .int _)]) (st' := [.int 0, .ref _, .int 0, .ref _]) rfl ?_
    refine ev_laldv DX7_putAside 21 (k0 := 0) rfl h3 rfl (by omega) (by decide) (rfl) ?_
    refine ev_lastv DX7_putAside 22 (k0 := 0) rfl h4 rfl (by omega) (by decide) rfl ?_
    refine ev_ss DX7_putAside 1 23 (pc' := 40) (lv' := [(0, .ref _), (1, .int _)]) (st' := [.ref _]) rfl ?_
    refine ev_get DX7_putAside 24 GX7 rfl (k0 := 5) (Nat.le_of_ble_eq_true rfl) fX7_26 (wset_o h1 h4 rfl) rfl ?_
    refine ev_ss DX7_putAside 2 25 (pc' := 45) (lv' := [(0, .ref _), (1, .int _)]) (st' := [.ref _, .int 1, .ref _]) rfl ?_
    refine ev_get DX7_putAside 27 GX7 rfl (k0 := 3) (Nat.le_of_ble_eq_true rfl) fX7_19 (wset_o h1 h4 rfl) rfl ?_
    refine ev_ss DX7_putAside 1 28 (pc' := 49) (lv' := [(0, .ref _), (1, .int _)]) (st' := [.int 1, .ref _, .int 1, .ref _]) rfl ?_
    refine ev_laldv DX7_putAside 29 (k0 := 1) rfl (wset_n h3 (by decide)) rfl (by omega) (by decide) (rfl) ?_
    refine ev_lastv DX7_putAside 30 (k0 := 1) rfl (wset_get h4) rfl (by omega) (by decide) wset_set ?_
    refine ev_vret DX7_putAside 31 rfl rfl ⟨rfl, ⟨_, (List.getElem?_set_ne (by decide)).trans h2, fun j hj => cpy_in0 (by omega)⟩, ⟨_, wset_get h4, fun j hj => ?_⟩, fun j a b => (List.getElem?_set_ne (Ne.symm b)).trans (hO j a)⟩
    rcases (show j = 0 ∨ j = 1 by omega) with rfl | rfl
    · exact (pk_uLn (by decide)).trans pk_uLs
    · exact pk_uLs
  | succ m ih =>
    intro i x w hm hx h2 hO
    subst hx
    have h1 := (hO 214 (by decide)).trans h
    have h3 := (hO 215 (by decide)).trans hz
    refine ev_ss DX7_putAside 2 2 (pc' := 6) (lv' := [(0, .ref _), (1, .int _)]) (st' := [.int 811, .int _]) rfl ?_
    refine ev_icge DX7_putAside 4 rfl (tgt := 27) (by decide) (fun h => absurd h (nI_ge (b := 811) (by omega) (by decide))) (fun _ => ?_)
    refine ev_ss DX7_putAside 1 5 (pc' := 10) (lv' := [(0, .ref _), (1, .int _)]) (st' := [.ref _]) rfl ?_
    refine ev_get DX7_putAside 6 GX7 rfl (k0 := 2) (Nat.le_of_ble_eq_true rfl) fX7_16 h1 rfl ?_
    refine ev_ss DX7_putAside 2 7 (pc' := 15) (lv' := [(0, .ref _), (1, .int _)]) (st' := [.ref _, .int _, .ref _]) rfl ?_
    refine ev_get DX7_putAside 9 GX7 rfl (k0 := 0) (Nat.le_of_ble_eq_true rfl) fX7_7 h1 rfl ?_
    refine ev_ss DX7_putAside 1 10 (pc' := 19) (lv' := [(0, .ref _), (1, .int _)]) (st' := [.int _, .ref _, .int _, .ref _]) rfl ?_
    refine ev_ialdv DX7_putAside 11 (k0 := i) rfl h3 rfl (by omega) (by decide) (rfl) ?_
    refine ev_iastv DX7_putAside 12 (k0 := i) rfl h2 rfl (by omega) (by decide) rfl ?_
    refine ev_ss DX7_putAside 1 13 (pc' := 24) (lv' := [(1, .int _), (0, .ref _)]) (st' := []) rfl ?_
    refine ev_goto DX7_putAside 14 rfl (tgt := 2) (by decide) ?_
    refine ev_lvp (lv2 := [(0, .ref _), (1, .int _)]) [1, 0] rfl ?_
    refine ih (i + 1) _ _ (by omega) (nI_1 i) ?_ (fun j a => (List.getElem?_set_ne (Ne.symm a)).trans (hO j a))
    refine (wset_get h2).trans ?_
    exact congrArg (fun g => some (ad 217, iaC E 811 g)) (cpy_sI (Nat.zero_add i).symm (congrArg z (Nat.zero_add i).symm))
set_option maxRecDepth 100000 in
set_option maxHeartbeats 4000000 in
theorem m_X7_putBack {E : gE} {ad : Nat → Nat} {ws : va_W} {bm tw ea iw : Int32} {hh : Int64} {sm : Int32} {z as : Nat → Int32} {l ha : Nat → Int64} (h : ws[214]? = some (ad 214, moC ad sm bm tw ea iw hh)) (hz : ws[215]? = some (ad 215, iaC E 811 z)) (has : ws[217]? = some (ad 217, iaC E 811 as)) (hl : ws[218]? = some (ad 218, laC E 2 l)) (hha : ws[220]? = some (ad 220, laC E 2 ha)) : C0 E YX7_putBack 0 0 [.ref (ad 214)] ws (fun v w => v = none ∧ (∃ g, w[215]? = some (ad 215, iaC E 811 g) ∧ ∀ j, j < 811 → g j = as j) ∧ (∃ g, w[218]? = some (ad 218, laC E 2 g) ∧ ∀ j, j < 2 → g j = ha j) ∧ ∀ j, j ≠ 215 → j ≠ 218 → w[j]? = ws[j]?) := by
  have eK := kOe 811
  refine c0V vX7_putBack (Nat.le_of_ble_eq_true rfl) (lv0 := [(0, .ref (ad 214))]) rfl ?_
  suffices K : ∀ (m i : Nat) (x : Int32) (w : va_W), i + m = kO 811 → x = nI i → w[215]? = some (ad 215, iaC E 811 (va_cpy as z 0 0 i)) → (∀ j, j ≠ 215 → w[j]? = ws[j]?) →
      Ev E YX7_putBack (fun v w => v = none ∧ (∃ g, w[215]? = some (ad 215, iaC E 811 g) ∧ ∀ j, j < 811 → g j = as j) ∧ (∃ g, w[218]? = some (ad 218, laC E 2 g) ∧ ∀ j, j < 2 → g j = ha j) ∧ ∀ j, j ≠ 215 → j ≠ 218 → w[j]? = ws[j]?) nX 0 0 2 [(0, .ref (ad 214)), (1, .int x)] [] w by
    refine ev_ss DX7_putBack 2 0 (pc' := 2) (lv' := [(1, .int 0), (0, .ref _)]) (st' := []) rfl ?_
    refine ev_lvp (lv2 := [(0, .ref _), (1, .int _)]) [1, 0] rfl ?_
    exact K (kO 811) 0 _ ws (Nat.zero_add _) nI_0.symm (by rw [cpy_0]; exact hz) (fun _ _ => rfl)
  intro m
  induction m with
  | zero =>
    intro i x w hm hx h2 hO
    obtain rfl : i = kO 811 := by omega
    subst hx
    have h1 := (hO 214 (by decide)).trans h
    have h3 := (hO 220 (by decide)).trans hha
    have h4 := (hO 218 (by decide)).trans hl
    refine ev_ss DX7_putBack 2 2 (pc' := 6) (lv' := [(0, .ref _), (1, .int _)]) (st' := [.int 811, .int _]) rfl ?_
    refine ev_icge DX7_putBack 4 rfl (tgt := 27) (by decide) (fun _ => ?_) (fun h => h.elim (by rw [eK]; decide))
    refine ev_ss DX7_putBack 1 15 (pc' := 28) (lv' := [(0, .ref _), (1, .int _)]) (st' := [.ref _]) rfl ?_
    refine ev_get DX7_putBack 16 GX7 rfl (k0 := 3) (Nat.le_of_ble_eq_true rfl) fX7_19 h1 rfl ?_
    refine ev_ss DX7_putBack 2 17 (pc' := 33) (lv' := [(0, .ref _), (1, .int _)]) (st' := [.ref _, .int 0, .ref _]) rfl ?_
    refine ev_get DX7_putBack 19 GX7 rfl (k0 := 5) (Nat.le_of_ble_eq_true rfl) fX7_26 h1 rfl ?_
    refine ev_ss DX7_putBack 1 20 (pc' := 37) (lv' := [(0, .ref _), (1, .int _)]) (st' := [.int 0, .ref _, .int 0, .ref _]) rfl ?_
    refine ev_laldv DX7_putBack 21 (k0 := 0) rfl h3 rfl (by omega) (by decide) (rfl) ?_
    refine ev_lastv DX7_putBack 22 (k0 := 0) rfl h4 rfl (by omega) (by decide) rfl ?_
    refine ev_ss DX7_putBack 1 23 (pc' := 40) (lv' := [(0, .ref _), (1, .int _)]) (st' := [.ref _]) rfl ?_
    refine ev_get DX7_putBack 24 GX7 rfl (k0 := 3) (Nat.le_of_ble_eq_true rfl) fX7_19 (wset_o h1 h4 rfl) rfl ?_
    refine ev_ss DX7_putBack 2 25 (pc' := 45) (lv' := [(0, .ref _), (1, .int _)]) (st' := [.ref _, .int 1, .ref _]) rfl ?_
    refine ev_get DX7_putBack 27 GX7 rfl (k0 := 5) (Nat.le_of_ble_eq_true rfl) fX7_26 (wset_o h1 h4 rfl) rfl ?_
    refine ev_ss DX7_putBack 1 28 (pc' := 49) (lv' := [(0, .ref _), (1, .int _)]) (st' := [.int 1, .ref _, .int 1, .ref _]) rfl ?_
    refine ev_laldv DX7_putBack 29 (k0 := 1) rfl (wset_n h3 (by decide)) rfl (by omega) (by decide) (rfl) ?_
    refine ev_lastv DX7_putBack 30 (k0 := 1) rfl (wset_get h4) rfl (by omega) (by decide) wset_set ?_
    refine ev_vret DX7_putBack 31 rfl rfl ⟨rfl, ⟨_, (List.getElem?_set_ne (by decide)).trans h2, fun j hj => cpy_in0 (by omega)⟩, ⟨_, wset_get h4, fun j hj => ?_⟩, fun j a b => (List.getElem?_set_ne (Ne.symm b)).trans (hO j a)⟩
    rcases (show j = 0 ∨ j = 1 by omega) with rfl | rfl
    · exact (pk_uLn (by decide)).trans pk_uLs
    · exact pk_uLs
  | succ m ih =>
    intro i x w hm hx h2 hO
    subst hx
    have h1 := (hO 214 (by decide)).trans h
    have h3 := (hO 217 (by decide)).trans has
    refine ev_ss DX7_putBack 2 2 (pc' := 6) (lv' := [(0, .ref _), (1, .int _)]) (st' := [.int 811, .int _]) rfl ?_
    refine ev_icge DX7_putBack 4 rfl (tgt := 27) (by decide) (fun h => absurd h (nI_ge (b := 811) (by omega) (by decide))) (fun _ => ?_)
    refine ev_ss DX7_putBack 1 5 (pc' := 10) (lv' := [(0, .ref _), (1, .int _)]) (st' := [.ref _]) rfl ?_
    refine ev_get DX7_putBack 6 GX7 rfl (k0 := 0) (Nat.le_of_ble_eq_true rfl) fX7_7 h1 rfl ?_
    refine ev_ss DX7_putBack 2 7 (pc' := 15) (lv' := [(0, .ref _), (1, .int _)]) (st' := [.ref _, .int _, .ref _]) rfl ?_
    refine ev_get DX7_putBack 9 GX7 rfl (k0 := 2) (Nat.le_of_ble_eq_true rfl) fX7_16 h1 rfl ?_
    refine ev_ss DX7_putBack 1 10 (pc' := 19) (lv' := [(0, .ref _), (1, .int _)]) (st' := [.int _, .ref _, .int _, .ref _]) rfl ?_
    refine ev_ialdv DX7_putBack 11 (k0 := i) rfl h3 rfl (by omega) (by decide) (rfl) ?_
    refine ev_iastv DX7_putBack 12 (k0 := i) rfl h2 rfl (by omega) (by decide) rfl ?_
    refine ev_ss DX7_putBack 1 13 (pc' := 24) (lv' := [(1, .int _), (0, .ref _)]) (st' := []) rfl ?_
    refine ev_goto DX7_putBack 14 rfl (tgt := 2) (by decide) ?_
    refine ev_lvp (lv2 := [(0, .ref _), (1, .int _)]) [1, 0] rfl ?_
    refine ih (i + 1) _ _ (by omega) (nI_1 i) ?_ (fun j a => (List.getElem?_set_ne (Ne.symm a)).trans (hO j a))
    refine (wset_get h2).trans ?_
    exact congrArg (fun g => some (ad 215, iaC E 811 g)) (cpy_sI (Nat.zero_add i).symm (congrArg as (Nat.zero_add i).symm))
set_option maxRecDepth 100000 in
set_option maxHeartbeats 4000000 in
theorem msave_tail {E : gE} {ad : Nat → Nat} {ws : va_W} {bm tw ea iw : Int32} {hh : Int64} {Pr : Option Value → va_W → Prop} {sm : Nat} {z rw : Nat → Int32} {l hs : Nat → Int64} (h : ws[214]? = some (ad 214, moC ad (nI sm) bm tw ea iw hh)) (hz : ws[215]? = some (ad 215, iaC E 811 z)) (hr : ws[216]? = some (ad 216, iaC E 4866 rw)) (hl : ws[218]? = some (ad 218, laC E 2 l)) (hhs : ws[219]? = some (ad 219, laC E 12 hs)) (hsm : sm < 6) (hP : ∀ (w : va_W) (rw2 : Nat → Int32) (hs2 : Nat → Int64), w[214]? = some (ad 214, moC ad (nI (sm + 1)) bm tw ea iw hh) → w[216]? = some (ad 216, iaC E 4866 rw2) → (∀ j, j < 811 → rw2 (811 * sm + j) = z j) → (∀ j, j < 811 * sm → rw2 j = rw j) → w[219]? = some (ad 219, laC E 12 hs2) → (∀ j, j < 2 → hs2 (2 * sm + j) = l j) → (∀ j, j < 2 * sm → hs2 j = hs j) → (∀ j, j ≠ 214 → j ≠ 216 → j ≠ 219 → w[j]? = ws[j]?) → Pr none w) : Ev E YX7_save Pr nX 0 0 78 [(0, .ref (ad 214))] [] ws := by
  have eK := kOe 811
  suffices K : ∀ (m i : Nat) (x : Int32) (w : va_W), i + m = kO 811 → x = nI i → w[216]? = some (ad 216, iaC E 4866 (va_cpy z rw 0 (811 * sm) i)) → (∀ j, j ≠ 216 → w[j]? = ws[j]?) →
      Ev E YX7_save Pr nX 0 0 80 [(0, .ref (ad 214)), (1, .int x)] [] w by
    refine ev_ss DX7_save 2 44 (pc' := 80) (lv' := [(1, .int 0), (0, .ref _)]) (st' := []) rfl ?_
    refine ev_lvp (lv2 := [(0, .ref _), (1, .int _)]) [1, 0] rfl ?_
    exact K (kO 811) 0 _ ws (Nat.zero_add _) nI_0.symm (by rw [cpy_0]; exact hr) (fun _ _ => rfl)
  intro m
  induction m with
  | zero =>
    intro i x w hm hx h2 hO
    obtain rfl : i = kO 811 := by omega
    subst hx
    have h1 := (hO 214 (by decide)).trans h
    have h3 := (hO 218 (by decide)).trans hl
    have h4 := (hO 219 (by decide)).trans hhs
    refine ev_ss DX7_save 2 46 (pc' := 84) (lv' := [(0, .ref _), (1, .int _)]) (st' := [.int 811, .int _]) rfl ?_
    refine ev_icge DX7_save 48 rfl (tgt := 114) (by decide) (fun _ => ?_) (fun h => h.elim (by rw [eK]; decide))
    refine ev_ss DX7_save 1 64 (pc' := 115) (lv' := [(0, .ref _), (1, .int _)]) (st' := [.ref _]) rfl ?_
    refine ev_get DX7_save 65 GX7 rfl (k0 := 4) (Nat.le_of_ble_eq_true rfl) fX7_23 h1 rfl ?_
    refine ev_ss DX7_save 2 66 (pc' := 120) (lv' := [(0, .ref _), (1, .int _)]) (st' := [.ref _, .int 2, .ref _]) rfl ?_
    refine ev_get DX7_save 68 GX7 rfl (k0 := 6) (Nat.le_of_ble_eq_true rfl) fX7_43 h1 rfl ?_
    refine ev_ss DX7_save 2 69 (pc' := 125) (lv' := [(0, .ref _), (1, .int _)]) (st' := [.ref _, .int _, .ref _]) rfl ?_
    refine ev_get DX7_save 71 GX7 rfl (k0 := 3) (Nat.le_of_ble_eq_true rfl) fX7_19 h1 rfl ?_
    refine ev_ss DX7_save 1 72 (pc' := 129) (lv' := [(0, .ref _), (1, .int _)]) (st' := [.int 0, .ref _, .int _, .ref _]) rfl ?_
    refine ev_laldv DX7_save 73 (k0 := 0) rfl h3 rfl (by omega) (by decide) (rfl) ?_
    refine ev_lastv DX7_save 74 (k0 := (2 * sm)) rfl h4 (nx_mul (a := 2) (b := sm) rfl rfl) (by omega) (by decide) rfl ?_
    refine ev_ss DX7_save 1 75 (pc' := 132) (lv' := [(0, .ref _), (1, .int _)]) (st' := [.ref _]) rfl ?_
    refine ev_get DX7_save 76 GX7 rfl (k0 := 4) (Nat.le_of_ble_eq_true rfl) fX7_23 (wset_o h1 h4 rfl) rfl ?_
    refine ev_ss DX7_save 2 77 (pc' := 137) (lv' := [(0, .ref _), (1, .int _)]) (st' := [.ref _, .int 2, .ref _]) rfl ?_
    refine ev_get DX7_save 79 GX7 rfl (k0 := 6) (Nat.le_of_ble_eq_true rfl) fX7_43 (wset_o h1 h4 rfl) rfl ?_
    refine ev_ss DX7_save 4 80 (pc' := 144) (lv' := [(0, .ref _), (1, .int _)]) (st' := [.ref _, .int _, .ref _]) rfl ?_
    refine ev_get DX7_save 84 GX7 rfl (k0 := 3) (Nat.le_of_ble_eq_true rfl) fX7_19 (wset_o h1 h4 rfl) rfl ?_
    refine ev_ss DX7_save 1 85 (pc' := 148) (lv' := [(0, .ref _), (1, .int _)]) (st' := [.int 1, .ref _, .int _, .ref _]) rfl ?_
    refine ev_laldv DX7_save 86 (k0 := 1) rfl (wset_n h3 (by decide)) rfl (by omega) (by decide) (rfl) ?_
    refine ev_lastv DX7_save 87 (k0 := ((2 * sm) + 1)) rfl (wset_get h4) (nx_add (a := (2 * sm)) (b := 1) (nx_mul (a := 2) (b := sm) rfl rfl) rfl) (by omega) (by decide) wset_set ?_
    refine ev_ss DX7_save 2 88 (pc' := 152) (lv' := [(0, .ref _), (1, .int _)]) (st' := [.ref _, .ref _]) rfl ?_
    refine ev_get DX7_save 90 GX7 rfl (k0 := 6) (Nat.le_of_ble_eq_true rfl) fX7_43 (wset_o h1 h4 rfl) rfl ?_
    refine ev_ss DX7_save 2 91 (pc' := 157) (lv' := [(0, .ref _), (1, .int _)]) (st' := [.int _, .ref _]) rfl ?_
    refine ev_put (fs' := [_, _, _, _, _, _, _, _, _, _, _, _, _, _]) DX7_save 93 GX7 rfl (k0 := 6) (Nat.le_of_ble_eq_true rfl) fX7_43 rfl ⟨rfl, rfl⟩ (wset_o h1 h4 rfl) (Nat.le_of_ble_eq_true rfl) rfl rfl ?_
    refine ev_vret DX7_save 94 rfl rfl (hP _ _ _ ((wset_get (wset_n h1 (show 219 ≠ 214 by decide))).trans (congrArg (fun v => some (ad 214, moC ad v bm tw ea iw hh)) (nI_1 sm))) ((List.getElem?_set_ne (by decide)).trans ((List.getElem?_set_ne (by decide)).trans h2)) (fun j hj => cpy_inD (by omega)) (fun j hj => pk_cpy_out (by omega)) ((List.getElem?_set_ne (by decide)).trans (wset_get h4)) ?_ (fun j hj => (pk_uLn (by omega)).trans (pk_uLn (by omega))) (fun j a b c => (List.getElem?_set_ne (Ne.symm a)).trans ((List.getElem?_set_ne (Ne.symm c)).trans (hO j b))))
    intro j hj
    rcases (show j = 0 ∨ j = 1 by omega) with rfl | rfl
    · exact (pk_uLn (by omega)).trans pk_uLs
    · exact pk_uLs
  | succ m ih =>
    intro i x w hm hx h2 hO
    subst hx
    have h1 := (hO 214 (by decide)).trans h
    have h3 := (hO 215 (by decide)).trans hz
    refine ev_ss DX7_save 2 46 (pc' := 84) (lv' := [(0, .ref _), (1, .int _)]) (st' := [.int 811, .int _]) rfl ?_
    refine ev_icge DX7_save 48 rfl (tgt := 114) (by decide) (fun h => absurd h (nI_ge (b := 811) (by omega) (by decide))) (fun _ => ?_)
    refine ev_ss DX7_save 1 49 (pc' := 88) (lv' := [(0, .ref _), (1, .int _)]) (st' := [.ref _]) rfl ?_
    refine ev_get DX7_save 50 GX7 rfl (k0 := 1) (Nat.le_of_ble_eq_true rfl) fX7_13 h1 rfl ?_
    refine ev_ss DX7_save 2 51 (pc' := 95) (lv' := [(0, .ref _), (1, .int _)]) (st' := [.ref _, .int 811, .ref _]) rfl ?_
    refine ev_get DX7_save 53 GX7 rfl (k0 := 6) (Nat.le_of_ble_eq_true rfl) fX7_43 h1 rfl ?_
    refine ev_ss DX7_save 4 54 (pc' := 102) (lv' := [(0, .ref _), (1, .int _)]) (st' := [.ref _, .int _, .ref _]) rfl ?_
    refine ev_get DX7_save 58 GX7 rfl (k0 := 0) (Nat.le_of_ble_eq_true rfl) fX7_7 h1 rfl ?_
    refine ev_ss DX7_save 1 59 (pc' := 106) (lv' := [(0, .ref _), (1, .int _)]) (st' := [.int _, .ref _, .int _, .ref _]) rfl ?_
    refine ev_ialdv DX7_save 60 (k0 := i) rfl h3 rfl (by omega) (by decide) (rfl) ?_
    refine ev_iastv DX7_save 61 (k0 := ((811 * sm) + i)) rfl h2 (nx_add (a := (811 * sm)) (b := i) (nx_mul (a := 811) (b := sm) rfl rfl) rfl) (by omega) (by decide) rfl ?_
    refine ev_ss DX7_save 1 62 (pc' := 111) (lv' := [(1, .int _), (0, .ref _)]) (st' := []) rfl ?_
    refine ev_goto DX7_save 63 rfl (tgt := 80) (by decide) ?_
    refine ev_lvp (lv2 := [(0, .ref _), (1, .int _)]) [1, 0] rfl ?_
    refine ih (i + 1) _ _ (by omega) (nI_1 i) ?_ (fun j a => (List.getElem?_set_ne (Ne.symm a)).trans (hO j a))
    refine (wset_get h2).trans ?_
    exact congrArg (fun g => some (ad 216, iaC E 4866 g)) (cpy_sI rfl (congrArg z (Nat.zero_add i).symm))
set_option maxRecDepth 100000 in
set_option maxHeartbeats 4000000 in
theorem m_X7_save {E : gE} {ad : Nat → Nat} {ws : va_W} {p : PS} {sv : Nat → PS} {sc len : Nat} {ch : Nat → Int32} {tw : Int32} {hh : Int64} (hM : ZM E ad ws p sv sc len ch tw hh) (hsc : sc ≤ 6) : C0 E YX7_save 0 0 [.ref (ad 214)] ws (fun v w => v = none ∧ ZM E ad w p (svN p sv sc) (scN sc) len ch tw hh ∧ MO ws w) := by
  obtain ⟨ea, iw, z, rw, as, l, hs, ha, er, bf, ⟨h, hz, hr, has, hl⟩, ⟨hhs, hha, hbf, he⟩, ⟨hG, hLG⟩, hsv, hlen, hch⟩ := hM
  have eK := kOe 4055
  have eT := kOe 10
  refine c0V vX7_save (Nat.le_of_ble_eq_true rfl) (lv0 := [(0, .ref (ad 214))]) rfl ?_
  by_cases hq : sc < 6
  · have hne : ¬ nI sc = 6 := fun e => absurd ((nI_eq (a := sc) (b := 6) (by omega) (by decide)).mp e) (by omega)
    refine ev_ss DX7_save 1 0 (pc' := 1) (lv' := [(0, .ref _)]) (st' := [.ref _]) rfl ?_
    refine ev_get DX7_save 1 GX7 rfl (k0 := 6) (Nat.le_of_ble_eq_true rfl) fX7_43 h rfl ?_
    refine ev_ss DX7_save 1 2 (pc' := 6) (lv' := [(0, .ref _)]) (st' := [.int 6, .int _]) rfl ?_
    refine ev_icne DX7_save 3 rfl (tgt := 78) (by decide) (fun _ => ?_) (fun h => absurd h hne)
    refine msave_tail h hz hr hl hhs hq (fun w rw2 hs2 c1 c2 c3 c4 c5 c6 c7 c8 => ⟨rfl, ⟨ea, iw, z, rw2, as, l, hs2, ha, er, bf, ⟨?_, (c8 215 (by decide) (by decide) (by decide)).trans hz, c2, (c8 217 (by decide) (by decide) (by decide)).trans has, (c8 218 (by decide) (by decide) (by decide)).trans hl⟩, ⟨c5, (c8 220 (by decide) (by decide) (by decide)).trans hha, (c8 221 (by decide) (by decide) (by decide)).trans hbf, (c8 222 (by decide) (by decide) (by decide)).trans he⟩, ⟨hG, hLG⟩, fun k hk => ?_, hlen, hch⟩, fun j hj => (c8 j (by omega) (by omega) (by omega))⟩)
    · unfold scN
      rw [if_pos hq]
      exact c1
    · unfold svN
      rw [if_pos hq]
      unfold scN at hk
      rw [if_pos hq] at hk
      unfold svS
      by_cases e : k = sc
      · subst e
        rw [if_pos rfl]
        exact ⟨hG.ag c3, hLG.ag c6⟩
      · rw [if_neg e]
        have g := hsv k (by omega)
        exact ⟨g.1.ag (fun j hj => c4 _ (by omega)), g.2.ag (fun j hj => c7 _ (by omega))⟩
  · obtain rfl : sc = 6 := by omega
    suffices K2 : ∀ (m i : Nat) (x : Int32) (w : va_W), i + m = kO 10 → x = nI i → w[219]? = some (ad 219, laC E 12 (va_cpy hs hs 2 0 i)) → w[216]? = some (ad 216, iaC E 4866 (va_cpy rw rw 811 0 (kO 4055))) → (∀ j, j ≠ 216 → j ≠ 219 → w[j]? = ws[j]?) →
        Ev E YX7_save (fun v w => v = none ∧ ZM E ad w p (svN p sv 6) (scN 6) len ch tw hh ∧ MO ws w) nX 0 0 42 [(0, .ref (ad 214)), (1, .int x)] [] w by
      suffices K1 : ∀ (m i : Nat) (x : Int32) (w : va_W), i + m = kO 4055 → x = nI i → w[216]? = some (ad 216, iaC E 4866 (va_cpy rw rw 811 0 i)) → (∀ j, j ≠ 216 → w[j]? = ws[j]?) →
          Ev E YX7_save (fun v w => v = none ∧ ZM E ad w p (svN p sv 6) (scN 6) len ch tw hh ∧ MO ws w) nX 0 0 11 [(0, .ref (ad 214)), (1, .int x)] [] w by
        refine ev_ss DX7_save 1 0 (pc' := 1) (lv' := [(0, .ref _)]) (st' := [.ref _]) rfl ?_
        refine ev_get DX7_save 1 GX7 rfl (k0 := 6) (Nat.le_of_ble_eq_true rfl) fX7_43 h rfl ?_
        refine ev_ss DX7_save 1 2 (pc' := 6) (lv' := [(0, .ref _)]) (st' := [.int 6, .int _]) rfl ?_
        refine ev_icne DX7_save 3 rfl (tgt := 78) (by decide) (fun h => h.elim rfl) (fun _ => ?_)
        refine ev_ss DX7_save 2 4 (pc' := 11) (lv' := [(1, .int 0), (0, .ref _)]) (st' := []) rfl ?_
        refine ev_lvp (lv2 := [(0, .ref _), (1, .int _)]) [1, 0] rfl ?_
        exact K1 (kO 4055) 0 _ ws (Nat.zero_add _) nI_0.symm (by rw [cpy_0]; exact hr) (fun _ _ => rfl)
      intro m
      induction m with
      | zero =>
        intro i x w hm hx h2 hO
        obtain rfl : i = kO 4055 := by omega
        subst hx
        refine ev_ss DX7_save 2 6 (pc' := 15) (lv' := [(0, .ref _), (1, .int _)]) (st' := [.int 4055, .int _]) rfl ?_
        refine ev_icge DX7_save 8 rfl (tgt := 40) (by decide) (fun _ => ?_) (fun h => h.elim (by rw [eK]; decide))
        refine ev_ss DX7_save 2 21 (pc' := 42) (lv' := [(1, .int 0), (0, .ref _)]) (st' := []) rfl ?_
        refine ev_lvp (lv2 := [(0, .ref _), (1, .int _)]) [1, 0] rfl ?_
        exact K2 (kO 10) 0 _ w (Nat.zero_add _) nI_0.symm (by rw [cpy_0]; exact (hO 219 (by decide)).trans hhs) h2 (fun j a b => hO j a)
      | succ m ih =>
        intro i x w hm hx h2 hO
        subst hx
        have h1 := (hO 214 (by decide)).trans h
        refine ev_ss DX7_save 2 6 (pc' := 15) (lv' := [(0, .ref _), (1, .int _)]) (st' := [.int 4055, .int _]) rfl ?_
        refine ev_icge DX7_save 8 rfl (tgt := 40) (by decide) (fun h => absurd h (nI_ge (b := 4055) (by omega) (by decide))) (fun _ => ?_)
        refine ev_ss DX7_save 1 9 (pc' := 19) (lv' := [(0, .ref _), (1, .int _)]) (st' := [.ref _]) rfl ?_
        refine ev_get DX7_save 10 GX7 rfl (k0 := 1) (Nat.le_of_ble_eq_true rfl) fX7_13 h1 rfl ?_
        refine ev_ss DX7_save 2 11 (pc' := 24) (lv' := [(0, .ref _), (1, .int _)]) (st' := [.ref _, .int _, .ref _]) rfl ?_
        refine ev_get DX7_save 13 GX7 rfl (k0 := 1) (Nat.le_of_ble_eq_true rfl) fX7_13 h1 rfl ?_
        refine ev_ss DX7_save 3 14 (pc' := 32) (lv' := [(0, .ref _), (1, .int _)]) (st' := [.int _, .ref _, .int _, .ref _]) rfl ?_
        refine ev_ialdv DX7_save 17 (k0 := (i + 811)) rfl h2 (nx_add (a := i) (b := 811) rfl rfl) (by omega) (by decide) (pk_cpy_out (by omega)) ?_
        refine ev_iastv DX7_save 18 (k0 := i) rfl h2 rfl (by omega) (by decide) rfl ?_
        refine ev_ss DX7_save 1 19 (pc' := 37) (lv' := [(1, .int _), (0, .ref _)]) (st' := []) rfl ?_
        refine ev_goto DX7_save 20 rfl (tgt := 11) (by decide) ?_
        refine ev_lvp (lv2 := [(0, .ref _), (1, .int _)]) [1, 0] rfl ?_
        refine ih (i + 1) _ _ (by omega) (nI_1 i) ?_ (fun j a => (List.getElem?_set_ne (Ne.symm a)).trans (hO j a))
        refine (wset_get h2).trans ?_
        exact congrArg (fun g => some (ad 216, iaC E 4866 g)) (cpy_sI (Nat.zero_add i).symm (congrArg rw (Nat.add_comm i 811)))
    intro m
    induction m with
    | zero =>
      intro i x w hm hx h2 h3 hO
      obtain rfl : i = kO 10 := by omega
      subst hx
      have h1 := (hO 214 (by decide) (by decide)).trans h
      have e5 : nI 6 - 1 = nI 5 := rfl
      refine ev_ss DX7_save 2 23 (pc' := 45) (lv' := [(0, .ref _), (1, .int _)]) (st' := [.int 10, .int _]) rfl ?_
      refine ev_icge DX7_save 25 rfl (tgt := 68) (by decide) (fun _ => ?_) (fun h => h.elim (by rw [eT]; decide))
      refine ev_ss DX7_save 2 38 (pc' := 70) (lv' := [(0, .ref _), (1, .int _)]) (st' := [.ref _, .ref _]) rfl ?_
      refine ev_get DX7_save 40 GX7 rfl (k0 := 6) (Nat.le_of_ble_eq_true rfl) fX7_43 h1 rfl ?_
      refine ev_ss DX7_save 2 41 (pc' := 75) (lv' := [(0, .ref _), (1, .int _)]) (st' := [.int _, .ref _]) rfl ?_
      refine ev_put (fs' := [_, _, _, _, _, _, _, _, _, _, _, _, _, _]) DX7_save 43 GX7 rfl (k0 := 6) (Nat.le_of_ble_eq_true rfl) fX7_43 rfl ⟨rfl, rfl⟩ h1 (Nat.le_of_ble_eq_true rfl) rfl rfl ?_
      refine ev_lvp (lv2 := [(0, .ref _)]) [0] rfl ?_
      have hb := fun j (q : j ≠ 214) (a : j ≠ 216) (b : j ≠ 219) => ((List.getElem?_set_ne (Ne.symm q)).trans (hO j a b) : (w.set 214 (ad 214, moC ad (nI 5) (nI len) tw ea iw hh))[j]? = ws[j]?)
      refine msave_tail (sm := 5) (wset_get h1) ((hb 215 (by decide) (by decide) (by decide)).trans hz) ((List.getElem?_set_ne (by decide)).trans h3) ((hb 218 (by decide) (by decide) (by decide)).trans hl) ((List.getElem?_set_ne (by decide)).trans h2) (by decide) (fun w rw2 hs2 c1 c2 c3 c4 c5 c6 c7 c8 => ⟨rfl, ⟨ea, iw, z, rw2, as, l, hs2, ha, er, bf, ⟨?_, (c8 215 (by decide) (by decide) (by decide)).trans ((hb 215 (by decide) (by decide) (by decide)).trans hz), c2, (c8 217 (by decide) (by decide) (by decide)).trans ((hb 217 (by decide) (by decide) (by decide)).trans has), (c8 218 (by decide) (by decide) (by decide)).trans ((hb 218 (by decide) (by decide) (by decide)).trans hl)⟩, ⟨c5, (c8 220 (by decide) (by decide) (by decide)).trans ((hb 220 (by decide) (by decide) (by decide)).trans hha), (c8 221 (by decide) (by decide) (by decide)).trans ((hb 221 (by decide) (by decide) (by decide)).trans hbf), (c8 222 (by decide) (by decide) (by decide)).trans ((hb 222 (by decide) (by decide) (by decide)).trans he)⟩, ⟨hG, hLG⟩, fun k hk => ?_, hlen, hch⟩, fun j hj => (c8 j (by omega) (by omega) (by omega)).trans (hb j (by omega) (by omega) (by omega))⟩)
      · exact c1
      · show ZG _ (svS p (svD sv) 5 k) ∧ LG _ (svS p (svD sv) 5 k)
        have hk2 : k < 6 := hk
        unfold svS
        by_cases e : k = 5
        · subst e
          rw [if_pos rfl]
          exact ⟨hG.ag c3, hLG.ag c6⟩
        · rw [if_neg e]
          unfold svD
          rw [if_neg e]
          have g := hsv (k + 1) (by omega)
          refine ⟨g.1.ag (fun j hj => ?_), g.2.ag (fun j hj => ?_)⟩
          · show rw2 (811 * k + j) = rw (811 * (k + 1) + j)
            rw [c4 _ (by omega), cpy_inS (by omega)]
            exact congrArg rw (by omega)
          · show hs2 (2 * k + j) = hs (2 * (k + 1) + j)
            rw [c7 _ (by omega), cpy_inS (by omega)]
            exact congrArg hs (by omega)
    | succ m ih =>
      intro i x w hm hx h2 h3 hO
      subst hx
      have h1 := (hO 214 (by decide) (by decide)).trans h
      refine ev_ss DX7_save 2 23 (pc' := 45) (lv' := [(0, .ref _), (1, .int _)]) (st' := [.int 10, .int _]) rfl ?_
      refine ev_icge DX7_save 25 rfl (tgt := 68) (by decide) (fun h => absurd h (nI_ge (b := 10) (by omega) (by decide))) (fun _ => ?_)
      refine ev_ss DX7_save 1 26 (pc' := 49) (lv' := [(0, .ref _), (1, .int _)]) (st' := [.ref _]) rfl ?_
      refine ev_get DX7_save 27 GX7 rfl (k0 := 4) (Nat.le_of_ble_eq_true rfl) fX7_23 h1 rfl ?_
      refine ev_ss DX7_save 2 28 (pc' := 54) (lv' := [(0, .ref _), (1, .int _)]) (st' := [.ref _, .int _, .ref _]) rfl ?_
      refine ev_get DX7_save 30 GX7 rfl (k0 := 4) (Nat.le_of_ble_eq_true rfl) fX7_23 h1 rfl ?_
      refine ev_ss DX7_save 3 31 (pc' := 60) (lv' := [(0, .ref _), (1, .int _)]) (st' := [.int _, .ref _, .int _, .ref _]) rfl ?_
      refine ev_laldv DX7_save 34 (k0 := (i + 2)) rfl h2 (nx_add (a := i) (b := 2) rfl rfl) (by omega) (by decide) (pk_cpy_out (by omega)) ?_
      refine ev_lastv DX7_save 35 (k0 := i) rfl h2 rfl (by omega) (by decide) rfl ?_
      refine ev_ss DX7_save 1 36 (pc' := 65) (lv' := [(1, .int _), (0, .ref _)]) (st' := []) rfl ?_
      refine ev_goto DX7_save 37 rfl (tgt := 42) (by decide) ?_
      refine ev_lvp (lv2 := [(0, .ref _), (1, .int _)]) [1, 0] rfl ?_
      refine ih (i + 1) _ _ (by omega) (nI_1 i) ?_ ((List.getElem?_set_ne (by decide)).trans h3) (fun j a b => (List.getElem?_set_ne (Ne.symm b)).trans (hO j a b))
      refine (wset_get h2).trans ?_
      exact congrArg (fun g => some (ad 219, laC E 12 g)) (cpy_sL (Nat.zero_add i).symm (congrArg hs (Nat.add_comm i 2)))
set_option maxRecDepth 100000 in
set_option maxHeartbeats 4000000 in
theorem m_X7_undo {E : gE} {ad : Nat → Nat} {ws : va_W} {p : PS} {sv : Nat → PS} {n len : Nat} {ch : Nat → Int32} {tw : Int32} {hh : Int64} (hM : ZM E ad ws p sv (n + 1) len ch tw hh) (hn : n < 6) : C0 E YX7_undo 0 0 [.ref (ad 214)] ws (fun v w => v = some (.int (nI n)) ∧ ZM E ad w (sv n) sv n len ch 0 hh ∧ MO ws w) := by
  obtain ⟨ea, iw, z, rw, as, l, hs, ha, er, bf, ⟨h, hz, hr, has, hl⟩, ⟨hhs, hha, hbf, he⟩, ⟨hG, hLG⟩, hsv, hlen, hch⟩ := hM
  have eK := kOe 811
  have hne : ¬ nI (n + 1) = 0 := nI_ne0 (by omega) (by omega)
  have hpr : nI (n + 1) - 1 = nI n := nI_pred n
  refine c0V vX7_undo (Nat.le_of_ble_eq_true rfl) (lv0 := [(0, .ref (ad 214))]) rfl ?_
  suffices K : ∀ (m i : Nat) (x : Int32) (w : va_W), i + m = kO 811 → x = nI i → w[214]? = some (ad 214, moC ad (nI n) (nI len) 0 ea iw hh) → w[215]? = some (ad 215, iaC E 811 (va_cpy rw z (811 * n) 0 i)) → (∀ j, j ≠ 214 → j ≠ 215 → w[j]? = ws[j]?) →
      Ev E YX7_undo (fun v w => v = some (.int (nI n)) ∧ ZM E ad w (sv n) sv n len ch 0 hh ∧ MO ws w) nX 0 0 30 [(0, .ref (ad 214)), (1, .int x)] [] w by
    refine ev_ss DX7_undo 2 0 (pc' := 2) (lv' := [(0, .ref _)]) (st' := [.int 0, .ref _]) rfl ?_
    refine ev_put (fs' := [_, _, _, _, _, _, _, _, _, _, _, _, _, _]) DX7_undo 2 GX7 rfl (k0 := 9) (Nat.le_of_ble_eq_true rfl) fX7_35 rfl ⟨rfl, rfl⟩ h (Nat.le_of_ble_eq_true rfl) rfl rfl ?_
    refine ev_ss DX7_undo 1 3 (pc' := 6) (lv' := [(0, .ref _)]) (st' := [.ref _]) rfl ?_
    refine ev_get DX7_undo 4 GX7 rfl (k0 := 6) (Nat.le_of_ble_eq_true rfl) fX7_43 (wset_get h) rfl ?_
    refine ev_ifne DX7_undo 5 rfl (tgt := 18) (by decide) (fun _ => ?_) (fun h => absurd h hne)
    refine ev_ss DX7_undo 2 10 (pc' := 20) (lv' := [(0, .ref _)]) (st' := [.ref _, .ref _]) rfl ?_
    refine ev_get DX7_undo 12 GX7 rfl (k0 := 6) (Nat.le_of_ble_eq_true rfl) fX7_43 (wset_get h) rfl ?_
    refine ev_ss DX7_undo 2 13 (pc' := 25) (lv' := [(0, .ref _)]) (st' := [.int _, .ref _]) rfl ?_
    refine ev_put (fs' := [_, _, _, _, _, _, _, _, _, _, _, _, _, _]) DX7_undo 15 GX7 rfl (k0 := 6) (Nat.le_of_ble_eq_true rfl) fX7_43 rfl ⟨rfl, rfl⟩ (wset_get h) (Nat.le_of_ble_eq_true rfl) rfl wset_set ?_
    refine ev_ss DX7_undo 2 16 (pc' := 30) (lv' := [(1, .int 0), (0, .ref _)]) (st' := []) rfl ?_
    refine ev_lvp (lv2 := [(0, .ref _), (1, .int _)]) [1, 0] rfl ?_
    exact K (kO 811) 0 _ _ (Nat.zero_add _) nI_0.symm ((wset_get h).trans (congrArg (fun v => some (ad 214, moC ad v (nI len) 0 ea iw hh)) hpr)) (by rw [cpy_0]; exact (List.getElem?_set_ne (by decide)).trans hz) (fun j a b => List.getElem?_set_ne (Ne.symm a))
  intro m
  induction m with
  | zero =>
    intro i x w hm hx h1 h2 hO
    obtain rfl : i = kO 811 := by omega
    subst hx
    have h3 := (hO 218 (by decide) (by decide)).trans hl
    have h4 := (hO 219 (by decide) (by decide)).trans hhs
    have g := hsv n (Nat.lt_succ_self n)
    refine ev_ss DX7_undo 2 18 (pc' := 34) (lv' := [(0, .ref _), (1, .int _)]) (st' := [.int 811, .int _]) rfl ?_
    refine ev_icge DX7_undo 20 rfl (tgt := 64) (by decide) (fun _ => ?_) (fun h => h.elim (by rw [eK]; decide))
    refine ev_ss DX7_undo 1 36 (pc' := 65) (lv' := [(0, .ref _), (1, .int _)]) (st' := [.ref _]) rfl ?_
    refine ev_get DX7_undo 37 GX7 rfl (k0 := 3) (Nat.le_of_ble_eq_true rfl) fX7_19 h1 rfl ?_
    refine ev_ss DX7_undo 2 38 (pc' := 70) (lv' := [(0, .ref _), (1, .int _)]) (st' := [.ref _, .int 0, .ref _]) rfl ?_
    refine ev_get DX7_undo 40 GX7 rfl (k0 := 4) (Nat.le_of_ble_eq_true rfl) fX7_23 h1 rfl ?_
    refine ev_ss DX7_undo 2 41 (pc' := 75) (lv' := [(0, .ref _), (1, .int _)]) (st' := [.ref _, .int 2, .ref _, .int 0, .ref _]) rfl ?_
    refine ev_get DX7_undo 43 GX7 rfl (k0 := 6) (Nat.le_of_ble_eq_true rfl) fX7_43 h1 rfl ?_
    refine ev_ss DX7_undo 1 44 (pc' := 79) (lv' := [(0, .ref _), (1, .int _)]) (st' := [.int _, .ref _, .int 0, .ref _]) rfl ?_
    refine ev_laldv DX7_undo 45 (k0 := (2 * n)) rfl h4 (nx_mul (a := 2) (b := n) rfl rfl) (by omega) (by decide) (rfl) ?_
    refine ev_lastv DX7_undo 46 (k0 := 0) rfl h3 rfl (by omega) (by decide) rfl ?_
    refine ev_ss DX7_undo 1 47 (pc' := 82) (lv' := [(0, .ref _), (1, .int _)]) (st' := [.ref _]) rfl ?_
    refine ev_get DX7_undo 48 GX7 rfl (k0 := 3) (Nat.le_of_ble_eq_true rfl) fX7_19 (wset_o h1 h3 rfl) rfl ?_
    refine ev_ss DX7_undo 2 49 (pc' := 87) (lv' := [(0, .ref _), (1, .int _)]) (st' := [.ref _, .int 1, .ref _]) rfl ?_
    refine ev_get DX7_undo 51 GX7 rfl (k0 := 4) (Nat.le_of_ble_eq_true rfl) fX7_23 (wset_o h1 h3 rfl) rfl ?_
    refine ev_ss DX7_undo 2 52 (pc' := 92) (lv' := [(0, .ref _), (1, .int _)]) (st' := [.ref _, .int 2, .ref _, .int 1, .ref _]) rfl ?_
    refine ev_get DX7_undo 54 GX7 rfl (k0 := 6) (Nat.le_of_ble_eq_true rfl) fX7_43 (wset_o h1 h3 rfl) rfl ?_
    refine ev_ss DX7_undo 3 55 (pc' := 98) (lv' := [(0, .ref _), (1, .int _)]) (st' := [.int _, .ref _, .int 1, .ref _]) rfl ?_
    refine ev_laldv DX7_undo 58 (k0 := ((2 * n) + 1)) rfl (wset_n h4 (by decide)) (nx_add (a := (2 * n)) (b := 1) (nx_mul (a := 2) (b := n) rfl rfl) rfl) (by omega) (by decide) (rfl) ?_
    refine ev_lastv DX7_undo 59 (k0 := 1) rfl (wset_get h3) rfl (by omega) (by decide) wset_set ?_
    refine ev_ss DX7_undo 1 60 (pc' := 101) (lv' := [(0, .ref _), (1, .int _)]) (st' := [.ref _]) rfl ?_
    refine ev_get DX7_undo 61 GX7 rfl (k0 := 6) (Nat.le_of_ble_eq_true rfl) fX7_43 (wset_o h1 h3 rfl) rfl ?_
    refine ev_iret DX7_undo 62 rfl rfl ⟨rfl, ⟨ea, iw, _, rw, as, _, hs, ha, er, bf, ⟨(List.getElem?_set_ne (by decide)).trans h1, (List.getElem?_set_ne (by decide)).trans h2, (List.getElem?_set_ne (by decide)).trans ((hO 216 (by decide) (by decide)).trans hr), (List.getElem?_set_ne (by decide)).trans ((hO 217 (by decide) (by decide)).trans has), wset_get h3⟩, ⟨(List.getElem?_set_ne (by decide)).trans h4, (List.getElem?_set_ne (by decide)).trans ((hO 220 (by decide) (by decide)).trans hha), (List.getElem?_set_ne (by decide)).trans ((hO 221 (by decide) (by decide)).trans hbf), (List.getElem?_set_ne (by decide)).trans ((hO 222 (by decide) (by decide)).trans he)⟩, ⟨g.1.ag (fun j hj => cpy_inS (by omega)), g.2.ag (fun j hj => ?_)⟩, fun k hk => hsv k (by omega), hlen, hch⟩, fun j a => (List.getElem?_set_ne (by omega)).trans (hO j (by omega) (by omega))⟩
    rcases (show j = 0 ∨ j = 1 by omega) with rfl | rfl
    · exact (pk_uLn (by decide)).trans pk_uLs
    · exact pk_uLs
  | succ m ih =>
    intro i x w hm hx h1 h2 hO
    subst hx
    have h3 := (hO 216 (by decide) (by decide)).trans hr
    refine ev_ss DX7_undo 2 18 (pc' := 34) (lv' := [(0, .ref _), (1, .int _)]) (st' := [.int 811, .int _]) rfl ?_
    refine ev_icge DX7_undo 20 rfl (tgt := 64) (by decide) (fun h => absurd h (nI_ge (b := 811) (by omega) (by decide))) (fun _ => ?_)
    refine ev_ss DX7_undo 1 21 (pc' := 38) (lv' := [(0, .ref _), (1, .int _)]) (st' := [.ref _]) rfl ?_
    refine ev_get DX7_undo 22 GX7 rfl (k0 := 0) (Nat.le_of_ble_eq_true rfl) fX7_7 h1 rfl ?_
    refine ev_ss DX7_undo 2 23 (pc' := 43) (lv' := [(0, .ref _), (1, .int _)]) (st' := [.ref _, .int _, .ref _]) rfl ?_
    refine ev_get DX7_undo 25 GX7 rfl (k0 := 1) (Nat.le_of_ble_eq_true rfl) fX7_13 h1 rfl ?_
    refine ev_ss DX7_undo 2 26 (pc' := 50) (lv' := [(0, .ref _), (1, .int _)]) (st' := [.ref _, .int 811, .ref _, .int _, .ref _]) rfl ?_
    refine ev_get DX7_undo 28 GX7 rfl (k0 := 6) (Nat.le_of_ble_eq_true rfl) fX7_43 h1 rfl ?_
    refine ev_ss DX7_undo 3 29 (pc' := 56) (lv' := [(0, .ref _), (1, .int _)]) (st' := [.int _, .ref _, .int _, .ref _]) rfl ?_
    refine ev_ialdv DX7_undo 32 (k0 := ((811 * n) + i)) rfl h3 (nx_add (a := (811 * n)) (b := i) (nx_mul (a := 811) (b := n) rfl rfl) rfl) (by omega) (by decide) (rfl) ?_
    refine ev_iastv DX7_undo 33 (k0 := i) rfl h2 rfl (by omega) (by decide) rfl ?_
    refine ev_ss DX7_undo 1 34 (pc' := 61) (lv' := [(1, .int _), (0, .ref _)]) (st' := []) rfl ?_
    refine ev_goto DX7_undo 35 rfl (tgt := 30) (by decide) ?_
    refine ev_lvp (lv2 := [(0, .ref _), (1, .int _)]) [1, 0] rfl ?_
    refine ih (i + 1) _ _ (by omega) (nI_1 i) ((List.getElem?_set_ne (by decide)).trans h1) ?_ (fun j a b => (List.getElem?_set_ne (Ne.symm b)).trans (hO j a b))
    refine (wset_get h2).trans ?_
    exact congrArg (fun g => some (ad 215, iaC E 811 g)) (cpy_sI (Nat.zero_add i).symm rfl)
