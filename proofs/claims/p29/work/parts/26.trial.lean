theorem STA.ex {E : gE} {ad : Nat → Nat} {ws w : va_W} {a : Nat} {sd bt : Int32} {se : Nat → Int32} {σ : WS} (ha : a < 2) (h : ∃ pt, STA E ad ws 27 pt) (hS : SD E ad w 27 sd bt se) (hW : WY E ad w (28 + 12 * a) σ) (hO : ∀ j, 27 < j → j < 52 → (j < 28 + 12 * a ∨ 28 + 12 * a + 12 ≤ j) → w[j]? = ws[j]?) : ∃ pt, STA E ad w 27 pt := by
  obtain ⟨pt, h⟩ := h
  rcases (show a = 0 ∨ a = 1 by omega) with rfl | rfl
  · exact ⟨(sd, bt, se, σ, pt.2.2.2.2), hS, hW, h.2.2.of (fun j b c => hO j (by omega) (by omega) (by omega))⟩
  · exact ⟨(sd, bt, se, pt.2.2.2.1, σ), hS, h.2.1.of (fun j b c => hO j (by omega) (by omega) (by omega)), hW⟩
theorem MW.tsnd {E : gE} {ad : Nat → Nat} {ws w : va_W} {p : PS} {sv : Nat → PS} {sc r len a : Nat} {ch : Nat → Int32} {sd bt : Int32} {se : Nat → Int32} {σ : WS} (h : MW E ad ws p sv sc r len ch) (ha : a < 2) (hS : SD E ad w 27 sd bt se) (hW : WY E ad w (28 + 12 * a) σ) (hO : SO 27 (28 + 12 * a) ws w) : MW E ad w p sv sc r len ch := by
  obtain ⟨lb, sz, hL⟩ := h.2.2.2.2.1
  exact h.tri (STA.ex ha h.2.2.1 hS hW (fun j b c d => hO j (by omega) d)) ⟨lb, sz, hL.of (hO _ (by decide) (by omega)) (hO _ (by decide) (by omega))⟩ (fun j b c d => hO j (by omega) (by omega))
theorem MW.tlrn {E : gE} {ad : Nat → Nat} {ws w : va_W} {p : PS} {sv : Nat → PS} {sc r len a : Nat} {ch : Nat → Int32} {sd bt : Int32} {se : Nat → Int32} {σ : WS} (h : MW E ad ws p sv sc r len ch) (ha : a < 2) (hS : SD E ad w 27 sd bt se) (hW : WY E ad w (28 + 12 * a) σ) (hL : ∃ lb sz, LE E ad w 54 lb sz) (hO : SL 27 (28 + 12 * a) 54 ws w) : MW E ad w p sv sc r len ch :=
  h.tri (STA.ex ha h.2.2.1 hS hW (fun j b c d => hO j (by omega) d (by omega) (by omega))) hL (fun j b c d => hO j (by omega) (by omega) c d)
/-- nothing but the trial and the lesson -/
def TO (ws w : va_W) : Prop := ∀ j, (j < 27 ∨ 53 ≤ j) → j ≠ 54 → j ≠ 55 → w[j]? = ws[j]?
noncomputable def ifS (p : PS) (a n : Nat) : Nat → Int32
  | 0 => (btN (p.2.2.1 2) p.1 (pW p a) n).1
  | 1 => sumN (fun t => (btN (p.2.2.1 2) p.1 (pW p a) n).2.2.1 t 13) 8 - sumN (fun t => (pW p a).1 t 13) 8
  | _ => nI (btN (p.2.2.1 2) p.1 (pW p a) n).2.2.2.1.length
noncomputable def ifL (p : PS) (a n : Nat) : Int32 := sumN (fun t => (tlW (p.2.2.1 0) (p.2.2.1 1) p.1 (pW p a) n).1 t 10) 8
noncomputable def bfW (m2 : Int32) : Nat → Nat → Int32 → WS → Int32
  | 0, _, _, _ => -1
  | m + 1, i, sd, σ => if nI σ.2.1.length = 0 then nI i else bfW m2 m (i + 1) (btN m2 sd σ 1).2.1 (btN m2 sd σ 1).2.2
theorem bfW_s {m2 : Int32} {m i : Nat} {sd : Int32} {σ : WS} : bfW m2 (m + 1) i sd σ = if nI σ.2.1.length = 0 then nI i else bfW m2 m (i + 1) (btN m2 sd σ 1).2.1 (btN m2 sd σ 1).2.2 := rfl
noncomputable def k40 : Nat := Classical.choose (⟨40, rfl⟩ : ∃ n : Nat, n = 40)
theorem k40e : k40 = 40 := Classical.choose_spec (⟨40, rfl⟩ : ∃ n : Nat, n = 40)
noncomputable def blB (p : PS) (a n : Nat) : Int32 := bbN (p.2.2.1 1) (lrN (p.2.2.1 0) p.1 (pW p a) n).2.2 (lrN (p.2.2.1 0) p.1 (pW p a) n).2.1 k8
noncomputable def blN (p : PS) (a : Nat) : Nat → Int32 × Int32
  | 0 => (1, -1)
  | n + 1 => if blB p a (n + 1) ≤ (blN p a n).2 then blN p a n else (nI (n + 1), blB p a (n + 1))
theorem blN_0 {p : PS} {a : Nat} : blN p a 0 = (1, -1) := rfl
theorem blN_s {p : PS} {a n : Nat} : blN p a (n + 1) = if blB p a (n + 1) ≤ (blN p a n).2 then blN p a n else (nI (n + 1), blB p a (n + 1)) := rfl
noncomputable def huP (p : PS) (a t : Nat) : Int32 := if (pW p a).1 t 10 = 0 then -1 else luP (sndT p.1 (pW p a) t).2.1 ((sndT p.1 (pW p a) t).2.2.1 t) (sndT p.1 (pW p a) t).2.2.2.1
theorem pb_len (ch : Nat → Int32) (b0 b1 : List Int32) : ∀ n, ∃ c0 c1, c0 ≤ 4 * n ∧ c1 ≤ 4 * n ∧ bfT ch 0 n = nI c0 ∧ bfT ch 1 n = nI c1 ∧ (pbP ch b0 b1 n).1.length = b0.length + c0 ∧ (pbP ch b0 b1 n).2.length = b1.length + c1
  | 0 => ⟨0, 0, Nat.le_refl _, Nat.le_refl _, rfl, rfl, rfl, rfl⟩
  | n + 1 => by
    obtain ⟨c0, c1, h1, h2, h3, h4, h5, h6⟩ := pb_len ch b0 b1 n
    rw [bfT_s, bfT_s, pbP_s, h3, h4]
    by_cases e3 : tzP ch (n + 1) = 3
    · simp only [if_pos e3]
      rcases wnP_01 ch (n + 1) (by rw [e3]; decide) (by rw [e3]; decide) with e | e
      · simp only [if_pos e, show ¬ wnP ch (n + 1) = 1 from by rw [e]; decide, if_false]
        exact ⟨c0 + 4, c1, by omega, by omega, nI_add c0 4, Int32.add_zero _, by simp [dg4, h5]; omega, h6⟩
      · simp only [if_pos e, show ¬ wnP ch (n + 1) = 0 from by rw [e]; decide, if_false]
        exact ⟨c0, c1 + 4, by omega, by omega, Int32.add_zero _, nI_add c1 4, h5, by simp [dg4, h6]; omega⟩
    · simp only [if_neg e3]
      exact ⟨c0, c1, by omega, by omega, Int32.add_zero _, Int32.add_zero _, h5, h6⟩
theorem pb_mono (ch : Nat → Int32) (b0 b1 : List Int32) (n : Nat) : (pbP ch b0 b1 n).1.length ≤ (pbP ch b0 b1 (n + 1)).1.length ∧ (pbP ch b0 b1 n).2.length ≤ (pbP ch b0 b1 (n + 1)).2.length := by
  rw [pbP_s]
  split
  · split
    · exact ⟨by simp, Nat.le_refl _⟩
    · exact ⟨Nat.le_refl _, by simp⟩
  · exact ⟨Nat.le_refl _, Nat.le_refl _⟩
theorem pb_le (ch : Nat → Int32) (b0 b1 : List Int32) : ∀ (m i : Nat), (pbP ch b0 b1 i).1.length ≤ (pbP ch b0 b1 (i + m)).1.length ∧ (pbP ch b0 b1 i).2.length ≤ (pbP ch b0 b1 (i + m)).2.length
  | 0, i => ⟨Nat.le_refl _, Nat.le_refl _⟩
  | m + 1, i => ⟨Nat.le_trans (pb_le ch b0 b1 m i).1 (pb_mono ch b0 b1 (i + m)).1, Nat.le_trans (pb_le ch b0 b1 m i).2 (pb_mono ch b0 b1 (i + m)).2⟩
/-- too many bits would wait -/
def bSy (p : PS) (len : Nat) (ch : Nat → Int32) : Prop := 256 < nI p.2.2.2.1.2.1.length + bfT ch 0 len ∨ 256 < nI p.2.2.2.2.2.1.length + bfT ch 1 len
def pSay (p : PS) (len : Nat) (ch : Nat → Int32) : PS := (p.1, p.2.1, p.2.2.1, (p.2.2.2.1.1, (pbP ch p.2.2.2.1.2.1 p.2.2.2.2.2.1 len).1, p.2.2.2.1.2.2), (p.2.2.2.2.1, (pbP ch p.2.2.2.1.2.1 p.2.2.2.2.2.1 len).2, p.2.2.2.2.2.2))
theorem pb_cap {ch : Nat → Int32} {b0 b1 : List Int32} {n : Nat} (hn : n ≤ 60) (h0 : b0.length ≤ 256) (h1 : b1.length ≤ 256) (h2 : ¬ 256 < nI b0.length + bfT ch 0 n) (h3 : ¬ 256 < nI b1.length + bfT ch 1 n) : ∀ i, i ≤ n → (pbP ch b0 b1 i).1.length ≤ 256 ∧ (pbP ch b0 b1 i).2.length ≤ 256 := by
  intro i hi
  obtain ⟨c0, c1, q1, q2, q3, q4, q5, q6⟩ := pb_len ch b0 b1 n
  obtain ⟨m, rfl⟩ := Nat.le.dest hi
  have hl := pb_le ch b0 b1 m i
  rw [q3, nI_add] at h2
  rw [q4, nI_add] at h3
  have e0 : ¬ 256 < b0.length + c0 := fun e => h2 ((nI_ltI (a := 256) (by decide) (by omega)).mpr e)
  have e1 : ¬ 256 < b1.length + c1 := fun e => h3 ((nI_ltI (a := 256) (by decide) (by omega)).mpr e)
  omega
set_option maxRecDepth 100000 in
set_option maxHeartbeats 4000000 in
theorem m_X6_say {E : gE} {ad : Nat → Nat} {ws : va_W} {p : PS} {sv : Nat → PS} {sc r len : Nat} {ch : Nat → Int32} (h : MW E ad ws p sv sc r len ch) (hsc : sc ≤ 6) (hc : tzP ch len = 3) (hb : ¬ bSy p len ch) : C0 E YX6_say 0 0 [.ref (ad 0)] ws (fun v9 w9 => v9 = some (.int (bfT ch 0 len + bfT ch 1 len)) ∧ (∃ r2, MW E ad w9 (pSay p len ch) (svN p sv sc) (scN sc) r2 0 ch) ∧ FO ws w9) := by
  obtain ⟨st, sz, r9, h1, h2, h3, h4, h5, h6⟩ := h.2.1.2.1
  obtain ⟨st2, sz2, r2, g1, g2, g3, g4, g5, g6⟩ := h.2.1.2.2
  have z1 := RQ_sz h5
  have z2 := RQ_sz g5
  have hcap := pb_cap (ch := ch) h.2.2.2.2.2.1.1 z1.2 z2.2 (fun e => hb (Or.inl e)) (fun e => hb (Or.inr e))
  refine c0V vX6_say (Nat.le_of_ble_eq_true rfl) (lv0 := [(0, .ref (ad 0))]) rfl ?_
  refine ev_ss DX6_say 1 0 (pc' := 1) (lv' := [(0, .ref _)]) (st' := [.ref _]) rfl ?_
  refine ev_get DX6_say 1 GX6 rfl (k0 := 4) (Nat.le_of_ble_eq_true rfl) fX6_33 h.1 rfl ?_
  refine ev_cV DX6_say 2 (m_X2_isComplete h.2.2.2.2.2.1) vX2_isComplete rfl qX6_138 rfl h.2.2.2.2.2.1.2.1 rfl (hd_of rfl rfl rfl rfl) ?_
  refine ev_ifne DX6_say 3 rfl (tgt := 20) (by decide) (fun _ => ?_) (fun h => absurd h (by rw [if_pos hc]; decide))
  refine ev_ss DX6_say 1 9 (pc' := 21) (lv' := [(0, .ref _)]) (st' := [.ref _]) rfl ?_
  refine ev_get DX6_say 10 GX6 rfl (k0 := 4) (Nat.le_of_ble_eq_true rfl) fX6_33 h.1 rfl ?_
  refine ev_ss DX6_say 1 11 (pc' := 25) (lv' := [(0, .ref _)]) (st' := [.int 0, .ref _]) rfl ?_
  refine ev_cV DX6_say 12 (m_X2_bitsFor h.2.2.2.2.2.1) vX2_bitsFor rfl qX6_144 rfl h.2.2.2.2.2.1.2.1 rfl (hd_of rfl rfl rfl rfl) ?_
  refine ev_ss DX6_say 2 13 (pc' := 30) (lv' := [(1, .int _), (0, .ref _)]) (st' := [.ref _]) rfl ?_
  refine ev_get DX6_say 15 GX6 rfl (k0 := 4) (Nat.le_of_ble_eq_true rfl) fX6_33 h.1 rfl ?_
  refine ev_ss DX6_say 1 16 (pc' := 34) (lv' := [(1, .int _), (0, .ref _)]) (st' := [.int 1, .ref _]) rfl ?_
  refine ev_cV DX6_say 17 (m_X2_bitsFor h.2.2.2.2.2.1) vX2_bitsFor rfl qX6_144 rfl h.2.2.2.2.2.1.2.1 rfl (hd_of rfl rfl rfl rfl) ?_
  refine ev_ss DX6_say 2 18 (pc' := 39) (lv' := [(2, .int _), (1, .int _), (0, .ref _)]) (st' := [.ref _]) rfl ?_
  refine ev_get DX6_say 20 GX6 rfl (k0 := 0) (Nat.le_of_ble_eq_true rfl) fX6_12 h.1 rfl ?_
  refine ev_get DX6_say 21 GX1 rfl (k0 := 0) (Nat.le_of_ble_eq_true rfl) fX6_147 h.2.1.1.1 rfl ?_
  refine ev_get DX6_say 22 GX5 rfl (k0 := 1) (Nat.le_of_ble_eq_true rfl) fX6_151 h1 rfl ?_
  refine ev_get DX6_say 23 GX4 rfl (k0 := 2) (Nat.le_of_ble_eq_true rfl) fX6_155 h3 rfl ?_
  refine ev_ss DX6_say 3 24 (pc' := 56) (lv' := [(2, .int _), (1, .int _), (0, .ref _)]) (st' := [.int 256, .int _]) rfl ?_
  refine ev_icgt DX6_say 27 rfl (tgt := 80) (by decide) (fun h => absurd h (fun e => hb (Or.inl (by rw [← z1.1]; exact e)))) (fun _ => ?_)
  refine ev_ss DX6_say 1 28 (pc' := 60) (lv' := [(2, .int _), (1, .int _), (0, .ref _)]) (st' := [.ref _]) rfl ?_
  refine ev_get DX6_say 29 GX6 rfl (k0 := 0) (Nat.le_of_ble_eq_true rfl) fX6_12 h.1 rfl ?_
  refine ev_get DX6_say 30 GX1 rfl (k0 := 1) (Nat.le_of_ble_eq_true rfl) fX6_160 h.2.1.1.1 rfl ?_
  refine ev_get DX6_say 31 GX5 rfl (k0 := 1) (Nat.le_of_ble_eq_true rfl) fX6_151 g1 rfl ?_
  refine ev_get DX6_say 32 GX4 rfl (k0 := 2) (Nat.le_of_ble_eq_true rfl) fX6_155 g3 rfl ?_
  refine ev_ss DX6_say 3 33 (pc' := 77) (lv' := [(2, .int _), (1, .int _), (0, .ref _)]) (st' := [.int 256, .int _]) rfl ?_
  refine ev_icle DX6_say 36 rfl (tgt := 90) (by decide) (fun _ => ?_) (fun h => h.elim (Int32.not_lt.mp (fun e => hb (Or.inr (by rw [← z2.1]; exact e)))))
  refine ev_ss DX6_say 1 42 (pc' := 91) (lv' := [(2, .int _), (1, .int _), (0, .ref _)]) (st' := [.ref _]) rfl ?_
  refine ev_rV DX6_say 43 (m_X6_save h hsc) vX6_save rfl qX6_45 rfl h.1 rfl (hd_of rfl rfl rfl rfl) (fun v w hvw => ?_)
  obtain ⟨rfl, ⟨r3, hM⟩, hO⟩ := hvw
  refine ev_ss DX6_say 1 44 (pc' := 95) (lv' := [(2, .int _), (1, .int _), (0, .ref _)]) (st' := [.ref _]) rfl ?_
  refine ev_get DX6_say 45 GX6 rfl (k0 := 4) (Nat.le_of_ble_eq_true rfl) fX6_33 hM.1 rfl ?_
  refine ev_ss DX6_say 1 46 (pc' := 99) (lv' := [(2, .int _), (1, .int _), (0, .ref _)]) (st' := [.ref _, .ref _]) rfl ?_
  refine ev_get DX6_say 47 GX6 rfl (k0 := 0) (Nat.le_of_ble_eq_true rfl) fX6_12 hM.1 rfl ?_
  refine ev_rV DX6_say 48 (m_X2_putBits (it := 56) (is := 1) (by omega) hM.2.2.2.2.2.1 hM.2.1.1 hM.2.1.2.1 hM.2.1.2.2 hcap) vX2_putBits rfl qX6_165 rfl hM.2.2.2.2.2.1.2.1 rfl (hd_of rfl rfl rfl rfl) (fun v w2 hvw => ?_)
  obtain ⟨rfl, hA2, hB2, hO2⟩ := hvw
  have hM2 : MW E ad w2 (pSay p len ch) (svN p sv sc) (scN sc) r3 len ch := hM.now ⟨hM.2.1.1.of (hO2 _ (by decide)) (hO2 _ (by decide)), hA2, hB2⟩ (fun j b => hO2 j (by omega))
  obtain ⟨hl9, t1, g9, t2, t3⟩ := hM2.2.2.2.2.2.1
  refine ev_ss DX6_say 1 49 (pc' := 106) (lv' := [(2, .int _), (1, .int _), (0, .ref _)]) (st' := [.ref _]) rfl ?_
  refine ev_get DX6_say 50 GX6 rfl (k0 := 4) (Nat.le_of_ble_eq_true rfl) fX6_33 hM2.1 rfl ?_
  refine ev_ss DX6_say 1 51 (pc' := 110) (lv' := [(2, .int _), (1, .int _), (0, .ref _)]) (st' := [.int 0, .ref _]) rfl ?_
  refine ev_put (fs' := [_, _]) DX6_say 52 GX2 rfl (k0 := 1) (Nat.le_of_ble_eq_true rfl) fX6_126 rfl ⟨rfl, rfl⟩ t1 (Nat.le_of_ble_eq_true rfl) rfl rfl ?_
  refine ev_ss DX6_say 3 53 (pc' := 116) (lv' := [(2, .int _), (1, .int _), (0, .ref _)]) (st' := [.int _]) rfl ?_
  exact ev_iret DX6_say 56 rfl rfl ⟨rfl, ⟨r3, hM2.txt ⟨by decide, wset_get t1, g9, wset_n t2 (by decide), fun j hj => absurd hj (Nat.not_lt_zero j)⟩ (fun j a b => List.getElem?_set_ne (Ne.symm a))⟩, hO.tr (fun j b => by rw [List.getElem?_set_ne (by omega)]; exact hO2 j (by omega))⟩
set_option maxRecDepth 100000 in
set_option maxHeartbeats 4000000 in
theorem x_X6_say_c {E : gE} {ad : Nat → Nat} {ws : va_W} {p : PS} {sv : Nat → PS} {sc r len : Nat} {ch : Nat → Int32} (h : MW E ad ws p sv sc r len ch) (hc : ¬ tzP ch len = 3) : C1 E YX6_say 1 6 [.ref (ad 0)] ws (fun _ _ => False) (fun X w => X = xA ∧ w = ws) := by
  refine c1V vX6_say (Nat.le_of_ble_eq_true rfl) (lv0 := [(0, .ref (ad 0))]) rfl ?_
  refine ev_ss DX6_say 1 0 (pc' := 1) (lv' := [(0, .ref _)]) (st' := [.ref _]) rfl ?_
  refine ev_get DX6_say 1 GX6 rfl (k0 := 4) (Nat.le_of_ble_eq_true rfl) fX6_33 h.1 rfl ?_
  refine ev_cV DX6_say 2 (m_X2_isComplete h.2.2.2.2.2.1) vX2_isComplete rfl qX6_138 rfl h.2.2.2.2.2.1.2.1 rfl (hd_of rfl rfl rfl rfl) ?_
  refine ev_ifne DX6_say 3 rfl (tgt := 20) (by decide) (fun h => h.elim (if_neg hc)) (fun _ => ?_)
  exact ev_throw DX6_say 4 XbA rfl rfl nX6_57 (List.mem_of_getElem? (i := 16) rfl) rfl rfl rfl rfl rfl (Nat.le_of_ble_eq_true rfl) (Nat.le_of_ble_eq_true rfl) (by decide) (by decide) ⟨rfl, rfl⟩
set_option maxRecDepth 100000 in
set_option maxHeartbeats 4000000 in
theorem x_X6_say_b {E : gE} {ad : Nat → Nat} {ws : va_W} {p : PS} {sv : Nat → PS} {sc r len : Nat} {ch : Nat → Int32} (h : MW E ad ws p sv sc r len ch) (hc : tzP ch len = 3) (hb : bSy p len ch) : C1 E YX6_say 1 6 [.ref (ad 0)] ws (fun _ _ => False) (fun X w => X = xS ∧ w = ws) := by
  obtain ⟨st, sz, r9, h1, h2, h3, h4, h5, h6⟩ := h.2.1.2.1
  obtain ⟨st2, sz2, r2, g1, g2, g3, g4, g5, g6⟩ := h.2.1.2.2
  have z1 := RQ_sz h5
  have z2 := RQ_sz g5
  unfold bSy at hb
  rw [← z1.1, ← z2.1] at hb
  refine c1V vX6_say (Nat.le_of_ble_eq_true rfl) (lv0 := [(0, .ref (ad 0))]) rfl ?_
  refine ev_ss DX6_say 1 0 (pc' := 1) (lv' := [(0, .ref _)]) (st' := [.ref _]) rfl ?_
  refine ev_get DX6_say 1 GX6 rfl (k0 := 4) (Nat.le_of_ble_eq_true rfl) fX6_33 h.1 rfl ?_
  refine ev_cV DX6_say 2 (m_X2_isComplete h.2.2.2.2.2.1) vX2_isComplete rfl qX6_138 rfl h.2.2.2.2.2.1.2.1 rfl (hd_of rfl rfl rfl rfl) ?_
  refine ev_ifne DX6_say 3 rfl (tgt := 20) (by decide) (fun _ => ?_) (fun h => absurd h (by rw [if_pos hc]; decide))
  refine ev_ss DX6_say 1 9 (pc' := 21) (lv' := [(0, .ref _)]) (st' := [.ref _]) rfl ?_
  refine ev_get DX6_say 10 GX6 rfl (k0 := 4) (Nat.le_of_ble_eq_true rfl) fX6_33 h.1 rfl ?_
  refine ev_ss DX6_say 1 11 (pc' := 25) (lv' := [(0, .ref _)]) (st' := [.int 0, .ref _]) rfl ?_
  refine ev_cV DX6_say 12 (m_X2_bitsFor h.2.2.2.2.2.1) vX2_bitsFor rfl qX6_144 rfl h.2.2.2.2.2.1.2.1 rfl (hd_of rfl rfl rfl rfl) ?_
  refine ev_ss DX6_say 2 13 (pc' := 30) (lv' := [(1, .int _), (0, .ref _)]) (st' := [.ref _]) rfl ?_
  refine ev_get DX6_say 15 GX6 rfl (k0 := 4) (Nat.le_of_ble_eq_true rfl) fX6_33 h.1 rfl ?_
  refine ev_ss DX6_say 1 16 (pc' := 34) (lv' := [(1, .int _), (0, .ref _)]) (st' := [.int 1, .ref _]) rfl ?_
  refine ev_cV DX6_say 17 (m_X2_bitsFor h.2.2.2.2.2.1) vX2_bitsFor rfl qX6_144 rfl h.2.2.2.2.2.1.2.1 rfl (hd_of rfl rfl rfl rfl) ?_
  refine ev_ss DX6_say 2 18 (pc' := 39) (lv' := [(2, .int _), (1, .int _), (0, .ref _)]) (st' := [.ref _]) rfl ?_
  refine ev_get DX6_say 20 GX6 rfl (k0 := 0) (Nat.le_of_ble_eq_true rfl) fX6_12 h.1 rfl ?_
  refine ev_get DX6_say 21 GX1 rfl (k0 := 0) (Nat.le_of_ble_eq_true rfl) fX6_147 h.2.1.1.1 rfl ?_
  refine ev_get DX6_say 22 GX5 rfl (k0 := 1) (Nat.le_of_ble_eq_true rfl) fX6_151 h1 rfl ?_
  refine ev_get DX6_say 23 GX4 rfl (k0 := 2) (Nat.le_of_ble_eq_true rfl) fX6_155 h3 rfl ?_
  refine ev_ss DX6_say 3 24 (pc' := 56) (lv' := [(2, .int _), (1, .int _), (0, .ref _)]) (st' := [.int 256, .int _]) rfl ?_
  refine ev_icgt DX6_say 27 rfl (tgt := 80) (by decide) (fun c_2 => ?_) (fun c_2 => ?_)
  · exact ev_throw DX6_say 37 XbS rfl rfl nX6_73 (List.mem_of_getElem? (i := 17) rfl) rfl rfl rfl rfl rfl (Nat.le_of_ble_eq_true rfl) (Nat.le_of_ble_eq_true rfl) (by decide) (by decide) ⟨rfl, rfl⟩
  · refine ev_ss DX6_say 1 28 (pc' := 60) (lv' := [(2, .int _), (1, .int _), (0, .ref _)]) (st' := [.ref _]) rfl ?_
    refine ev_get DX6_say 29 GX6 rfl (k0 := 0) (Nat.le_of_ble_eq_true rfl) fX6_12 h.1 rfl ?_
    refine ev_get DX6_say 30 GX1 rfl (k0 := 1) (Nat.le_of_ble_eq_true rfl) fX6_160 h.2.1.1.1 rfl ?_
    refine ev_get DX6_say 31 GX5 rfl (k0 := 1) (Nat.le_of_ble_eq_true rfl) fX6_151 g1 rfl ?_
    refine ev_get DX6_say 32 GX4 rfl (k0 := 2) (Nat.le_of_ble_eq_true rfl) fX6_155 g3 rfl ?_
    refine ev_ss DX6_say 3 33 (pc' := 77) (lv' := [(2, .int _), (1, .int _), (0, .ref _)]) (st' := [.int 256, .int _]) rfl ?_
    refine ev_icle DX6_say 36 rfl (tgt := 90) (by decide) (fun c_3 => ?_) (fun c_3 => ?_)
    · exact absurd (hb.resolve_left c_2) (Int32.not_lt.mpr c_3)
    · exact ev_throw DX6_say 37 XbS rfl rfl nX6_73 (List.mem_of_getElem? (i := 17) rfl) rfl rfl rfl rfl rfl (Nat.le_of_ble_eq_true rfl) (Nat.le_of_ble_eq_true rfl) (by decide) (by decide) ⟨rfl, rfl⟩
