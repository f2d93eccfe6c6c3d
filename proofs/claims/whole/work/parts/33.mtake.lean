theorem nx_sub {x y : Int32} {a b : Nat} (hx : x = nI a) (hy : y = nI b) (h : b ≤ a) : x - y = nI (a - b) := by
  rw [hx, hy]
  exact pk_sub h
/-- the numbers from b on, moved one place down, the first i - 1 of them -/
def shZ (z : Nat → Int32) (b i k : Nat) : Int32 := if b ≤ k ∧ k + 1 < b + i then z (k + 1) else z k
theorem shZ_1 {z : Nat → Int32} {b : Nat} : shZ z b 1 = z := by
  funext k
  exact if_neg (by omega)
theorem shZ_at {z : Nat → Int32} {b i k : Nat} (h : b + i ≤ k + 1) : shZ z b i k = z k := if_neg (by omega)
theorem shZ_lo {z : Nat → Int32} {b i k : Nat} (h : k < b) : shZ z b i k = z k := if_neg (by omega)
theorem shZ_s {z : Nat → Int32} {b i : Nat} (hi : 1 ≤ i) : upd (shZ z b i) (b + i - 1) (z (b + i)) = shZ z b (i + 1) := by
  funext k
  by_cases e : k = b + i - 1
  · subst e
    rw [upd_eq]
    unfold shZ
    rw [if_pos (by omega), show b + i - 1 + 1 = b + i by omega]
  · rw [upd_ne e]
    unfold shZ
    by_cases e2 : b ≤ k ∧ k + 1 < b + i
    · rw [if_pos e2, if_pos (by omega)]
    · rw [if_neg e2, if_neg (by omega)]
def pBits (p : PS) (a : Nat) (bs : List Int32) : PS := pSet p a ((pW p a).1, bs, (pW p a).2.2)
theorem ZG.take {z : Nat → Int32} {p : PS} {a : Nat} {b : Int32} {bs : List Int32} (h : ZG z p) (ha : a < 2) (e : (pW p a).2.1 = b :: bs) : ZG (upd (shZ z (288 + 256 * a) (bs.length + 1)) (800 + a) (nI bs.length)) (pBits p a bs) := by
  obtain ⟨h1, h2, h3, h4, h5, h6, h7⟩ := h
  have hl := (h4 a ha).1
  rw [e] at hl
  have hl2 : bs.length + 1 ≤ 256 := hl
  have e1 : ∀ c, c < 2 → (pW (pBits p a bs) c).1 = (pW p c).1 := fun c hc => by
    unfold pBits
    by_cases e : c = a
    · subst e; rw [pW_set]
    · rw [pW_other ha hc e]
  have e2 : ∀ c, c < 2 → (pW (pBits p a bs) c).2.2 = (pW p c).2.2 := fun c hc => by
    unfold pBits
    by_cases e : c = a
    · subst e; rw [pW_set]
    · rw [pW_other ha hc e]
  refine ⟨fun c u i hc hu hi => ?_, fun c u i hc hu hi => ?_, fun c i hc hi => ?_, fun c hc => ?_, ?_, ?_, fun i hi => ?_⟩
  · rw [upd_ne (by unfold stA; omega), shZ_lo (by unfold stA; omega), e1 c hc]; exact h1 c u i hc hu hi
  · rw [upd_ne (by unfold acA; omega), shZ_lo (by unfold acA; omega), e1 c hc]; exact h2 c u i hc hu hi
  · by_cases e3 : c = a
    · subst e3
      have e4 : (pW (pBits p c bs) c).2.1 = bs := by unfold pBits; rw [pW_set]
      rw [e4] at hi ⊢
      rw [upd_ne (by omega)]
      have e5 := h3 c (i + 1) hc (by rw [e]; exact Nat.succ_lt_succ hi)
      rw [e] at e5
      unfold shZ
      rw [if_pos (by omega), show 288 + 256 * c + i + 1 = 288 + 256 * c + (i + 1) by omega, e5]
      rfl
    · have e4 : (pW (pBits p a bs) c).2.1 = (pW p c).2.1 := by unfold pBits; rw [pW_other ha hc e3]
      rw [e4] at hi ⊢
      have := (h4 c hc).1
      rw [upd_ne (by omega)]
      unfold shZ
      rw [if_neg (by omega)]
      exact h3 c i hc hi
  · obtain ⟨q1, q2, q3, q4⟩ := h4 c hc
    refine ⟨?_, ?_, ?_, ?_⟩
    · by_cases e3 : c = a
      · subst e3; unfold pBits; rw [pW_set]; show bs.length ≤ 256; omega
      · unfold pBits; rw [pW_other ha hc e3]; exact q1
    · by_cases e3 : c = a
      · subst e3; unfold pBits; rw [pW_set, upd_eq]
      · unfold pBits; rw [pW_other ha hc e3, upd_ne (by omega), shZ_at (by omega)]; exact q2
    · rw [upd_ne (by omega), shZ_at (by omega), e2 c hc]; exact q3
    · rw [upd_ne (by omega), shZ_at (by omega), e2 c hc]; exact q4
  · rw [upd_ne (by omega), shZ_at (by omega)]; exact h5
  · rw [upd_ne (by omega), shZ_at (by omega)]; exact h6
  · rw [upd_ne (by omega), shZ_at (by omega)]; exact h7 i hi
/-- nothing has changed but the numbers -/
def NZ (ws w : va_W) : Prop := ∀ j, j ≠ 215 → w[j]? = ws[j]?
theorem NZ.rf {ws : va_W} : NZ ws ws := fun _ _ => rfl
theorem NZ.tr {ws w w2 : va_W} (h : NZ ws w) (h2 : NZ w w2) : NZ ws w2 := fun j a => (h2 j a).trans (h j a)
theorem NZ.set {ws : va_W} {x : Nat × va_E} : NZ ws (ws.set 215 x) := fun _ a => List.getElem?_set_ne (Ne.symm a)
/-- one bit taken -/
def tk1 (bs : List Int32) : Int32 × List Int32 := match bs with
  | [] => (0, [])
  | b :: bs => (b, bs)
theorem pBits_id {p : PS} {a : Nat} : pBits p a (pW p a).2.1 = p := pSet_id
set_option maxRecDepth 100000 in
set_option maxHeartbeats 4000000 in
theorem m_X7_takeBit {E : gE} {ad : Nat → Nat} {ws : va_W} {sm bm tw ea iw : Int32} {hh : Int64} {z : Nat → Int32} (h : ws[214]? = some (ad 214, moC ad sm bm tw ea iw hh)) (hz : ws[215]? = some (ad 215, iaC E 811 z)) {p : PS} {a : Nat} (ha : a < 2) (hG : ZG z p) : C0 E YX7_takeBit 0 0 [.ref (ad 214), .int (nI a)] ws (fun v w => v = some (.int (tk1 (pW p a).2.1).1) ∧ (∃ z2, w[215]? = some (ad 215, iaC E 811 z2) ∧ ZG z2 (pBits p a (tk1 (pW p a).2.1).2)) ∧ NZ ws w) := by
  obtain ⟨q1, q2, q3, q4⟩ := hG.2.2.2.1 a ha
  obtain ⟨bb, ebb⟩ : ∃ bb, bb = (pW p a).2.1 := ⟨_, rfl⟩
  rw [← ebb] at q1 q2
  refine c0V vX7_takeBit (Nat.le_of_ble_eq_true rfl) (lv0 := [(0, .ref (ad 214)), (1, .int (nI a))]) rfl ?_
  cases bb with
  | nil =>
    refine ev_ss DX7_takeBit 7 0 (pc' := 11) (lv' := [(2, .int _), (0, .ref _), (1, .int _)]) (st' := [.ref _]) rfl ?_
    refine ev_get DX7_takeBit 7 GX7 rfl (k0 := 0) (Nat.le_of_ble_eq_true rfl) fX7_7 h rfl ?_
    refine ev_ss DX7_takeBit 3 8 (pc' := 19) (lv' := [(2, .int _), (0, .ref _), (1, .int _)]) (st' := [.int _, .ref _]) rfl ?_
    refine ev_ialdv DX7_takeBit 11 (k0 := (800 + a)) rfl hz (nx_add (a := 800) (b := a) rfl rfl) (by omega) (by decide) (q2) ?_
    refine ev_ss DX7_takeBit 2 12 (pc' := 22) (lv' := [(3, .int _), (2, .int _), (0, .ref _), (1, .int _)]) (st' := [.int _]) rfl ?_
    refine ev_ifne DX7_takeBit 14 rfl (tgt := 27) (by decide) (fun h => h.elim rfl) (fun _ => ?_)
    refine ev_ss DX7_takeBit 1 15 (pc' := 26) (lv' := [(3, .int _), (2, .int _), (0, .ref _), (1, .int _)]) (st' := [.int 0]) rfl ?_
    exact ev_iret DX7_takeBit 16 rfl rfl ⟨by rw [← ebb]; rfl, ⟨z, hz, by rw [← ebb, show (tk1 ([] : List Int32)).2 = (pW p a).2.1 from ebb, pBits_id]; exact hG⟩, NZ.rf⟩
  | cons b bs =>
    have hl2 : bs.length + 1 ≤ 256 := q1
    have hne : ¬ nI (bs.length + 1) = 0 := nI_ne0 (by omega) (by omega)
    have hG2 := hG.take ha ebb.symm
    have q5 : z (288 + 256 * a) = b := by
      have e := hG.2.2.1 a 0 ha (by rw [← ebb]; exact Nat.succ_pos _)
      rw [← ebb] at e
      exact e
    have K : ∀ (m i : Nat) (x : Int32) (w : va_W), i + m = bs.length + 1 → 1 ≤ i → x = nI i → w[215]? = some (ad 215, iaC E 811 (shZ z (288 + 256 * a) i)) → NZ ws w →
        Ev E YX7_takeBit (fun v w => v = some (.int (tk1 (pW p a).2.1).1) ∧ (∃ z2, w[215]? = some (ad 215, iaC E 811 z2) ∧ ZG z2 (pBits p a (tk1 (pW p a).2.1).2)) ∧ NZ ws w) nX 0 0 38 [(0, .ref (ad 214)), (1, .int (nI a)), (2, .int (nI (288 + 256 * a))), (3, .int (nI (bs.length + 1))), (4, .int b), (5, .int x)] [] w := by
      intro m
      induction m with
      | zero =>
        intro i x w hm h1i hx hz1 hO
        obtain rfl : i = bs.length + 1 := by omega
        subst hx
        have h1 := (hO 214 (by decide)).trans h
        refine ev_ss DX7_takeBit 2 24 (pc' := 41) (lv' := [(0, .ref _), (1, .int _), (2, .int _), (3, .int _), (4, .int _), (5, .int _)]) (st' := [.int _, .int _]) rfl ?_
        refine ev_icge DX7_takeBit 26 rfl (tgt := 70) (by decide) (fun _ => ?_) (fun h => h.elim (nI_le (Nat.le_refl _) (by omega)))
        refine ev_ss DX7_takeBit 1 43 (pc' := 71) (lv' := [(0, .ref _), (1, .int _), (2, .int _), (3, .int _), (4, .int _), (5, .int _)]) (st' := [.ref _]) rfl ?_
        refine ev_get DX7_takeBit 44 GX7 rfl (k0 := 0) (Nat.le_of_ble_eq_true rfl) fX7_7 h1 rfl ?_
        refine ev_ss DX7_takeBit 6 45 (pc' := 82) (lv' := [(0, .ref _), (1, .int _), (2, .int _), (3, .int _), (4, .int _), (5, .int _)]) (st' := [.int _, .int _, .ref _]) rfl ?_
        refine ev_iastv DX7_takeBit 51 (k0 := (800 + a)) rfl hz1 (nx_add (a := 800) (b := a) rfl rfl) (by omega) (by decide) rfl ?_
        refine ev_ss DX7_takeBit 1 52 (pc' := 85) (lv' := [(0, .ref _), (1, .int _), (2, .int _), (3, .int _), (4, .int _), (5, .int _)]) (st' := [.int _]) rfl ?_
        exact ev_iret DX7_takeBit 53 rfl rfl ⟨by rw [← ebb]; rfl, ⟨_, wset_get hz1, by rw [← ebb]; show ZG (upd (shZ z (288 + 256 * a) (bs.length + 1)) (800 + a) (nI (bs.length + 1) - 1)) (pBits p a bs); rw [nI_pred]; exact hG2⟩, hO.tr NZ.set⟩
      | succ m ih =>
        intro i x w hm h1i hx hz1 hO
        subst hx
        have h1 := (hO 214 (by decide)).trans h
        refine ev_ss DX7_takeBit 2 24 (pc' := 41) (lv' := [(0, .ref _), (1, .int _), (2, .int _), (3, .int _), (4, .int _), (5, .int _)]) (st' := [.int _, .int _]) rfl ?_
        refine ev_icge DX7_takeBit 26 rfl (tgt := 70) (by decide) (fun h => absurd h (nI_ge (b := bs.length + 1) (by omega) (by omega))) (fun _ => ?_)
        refine ev_ss DX7_takeBit 1 27 (pc' := 45) (lv' := [(0, .ref _), (1, .int _), (2, .int _), (3, .int _), (4, .int _), (5, .int _)]) (st' := [.ref _]) rfl ?_
        refine ev_get DX7_takeBit 28 GX7 rfl (k0 := 0) (Nat.le_of_ble_eq_true rfl) fX7_7 h1 rfl ?_
        refine ev_ss DX7_takeBit 6 29 (pc' := 55) (lv' := [(0, .ref _), (1, .int _), (2, .int _), (3, .int _), (4, .int _), (5, .int _)]) (st' := [.ref _, .int _, .ref _]) rfl ?_
        refine ev_get DX7_takeBit 35 GX7 rfl (k0 := 0) (Nat.le_of_ble_eq_true rfl) fX7_7 h1 rfl ?_
        refine ev_ss DX7_takeBit 3 36 (pc' := 62) (lv' := [(0, .ref _), (1, .int _), (2, .int _), (3, .int _), (4, .int _), (5, .int _)]) (st' := [.int _, .ref _, .int _, .ref _]) rfl ?_
        refine ev_ialdv DX7_takeBit 39 (k0 := ((288 + 256 * a) + i)) rfl hz1 (nx_add (a := (288 + 256 * a)) (b := i) rfl rfl) (by omega) (by decide) ((shZ_at (by omega))) ?_
        refine ev_iastv DX7_takeBit 40 (k0 := (((288 + 256 * a) + i) - 1)) rfl hz1 (nx_sub (a := ((288 + 256 * a) + i)) (b := 1) (nx_add (a := (288 + 256 * a)) (b := i) rfl rfl) rfl (by omega)) (by omega) (by decide) rfl ?_
        refine ev_ss DX7_takeBit 1 41 (pc' := 67) (lv' := [(5, .int _), (0, .ref _), (1, .int _), (2, .int _), (3, .int _), (4, .int _)]) (st' := []) rfl ?_
        refine ev_goto DX7_takeBit 42 rfl (tgt := 38) (by decide) ?_
        refine ev_lvp (lv2 := [(0, .ref _), (1, .int _), (2, .int _), (3, .int _), (4, .int _), (5, .int _)]) [1, 2, 3, 4, 5, 0] rfl ?_
        exact ih (i + 1) _ _ (by omega) (by omega) (nI_1 i) (by have e := wset_get hz1 (e2 := iaC E 811 (upd (shZ z (288 + 256 * a) i) (288 + 256 * a + i - 1) (z (288 + 256 * a + i)))); rw [shZ_s h1i] at e ⊢; exact e) (hO.tr NZ.set)
    refine ev_ss DX7_takeBit 6 0 (pc' := 10) (lv' := [(2, .int _), (0, .ref _), (1, .int _)]) (st' := []) rfl ?_
    refine (congrArg (fun z9 => Ev E YX7_takeBit (fun v w => v = some (.int (tk1 (pW p a).2.1).1) ∧ (∃ z2, w[215]? = some (ad 215, iaC E 811 z2) ∧ ZG z2 (pBits p a (tk1 (pW p a).2.1).2)) ∧ NZ ws w) nX 0 0 10 [(2, .int z9), (0, .ref (ad 214)), (1, .int (nI a))] [] ws) (show (288 : Int32) + 256 * nI a = nI (288 + 256 * a) from nx_add (a := 288) (b := 256 * a) rfl (nx_mul (a := 256) (b := a) rfl rfl))).mpr ?_
    refine ev_ss DX7_takeBit 1 6 (pc' := 11) (lv' := [(2, .int _), (0, .ref _), (1, .int _)]) (st' := [.ref _]) rfl ?_
    refine ev_get DX7_takeBit 7 GX7 rfl (k0 := 0) (Nat.le_of_ble_eq_true rfl) fX7_7 h rfl ?_
    refine ev_ss DX7_takeBit 3 8 (pc' := 19) (lv' := [(2, .int _), (0, .ref _), (1, .int _)]) (st' := [.int _, .ref _]) rfl ?_
    refine ev_ialdv DX7_takeBit 11 (k0 := (800 + a)) rfl hz (nx_add (a := 800) (b := a) rfl rfl) (by omega) (by decide) (q2) ?_
    refine ev_ss DX7_takeBit 2 12 (pc' := 22) (lv' := [(3, .int _), (2, .int _), (0, .ref _), (1, .int _)]) (st' := [.int _]) rfl ?_
    refine ev_ifne DX7_takeBit 14 rfl (tgt := 27) (by decide) (fun _ => ?_) (fun h => absurd h hne)
    refine ev_ss DX7_takeBit 1 17 (pc' := 28) (lv' := [(3, .int _), (2, .int _), (0, .ref _), (1, .int _)]) (st' := [.ref _]) rfl ?_
    refine ev_get DX7_takeBit 18 GX7 rfl (k0 := 0) (Nat.le_of_ble_eq_true rfl) fX7_7 h rfl ?_
    refine ev_ss DX7_takeBit 1 19 (pc' := 32) (lv' := [(3, .int _), (2, .int _), (0, .ref _), (1, .int _)]) (st' := [.int _, .ref _]) rfl ?_
    refine ev_ialdv DX7_takeBit 20 (k0 := (288 + 256 * a)) rfl hz rfl (by omega) (by decide) (q5) ?_
    refine ev_ss DX7_takeBit 3 21 (pc' := 38) (lv' := [(5, .int 1), (4, .int _), (3, .int _), (2, .int _), (0, .ref _), (1, .int _)]) (st' := []) rfl ?_
    refine ev_lvp (lv2 := [(0, .ref _), (1, .int _), (2, .int _), (3, .int _), (4, .int _), (5, .int _)]) [4, 5, 3, 2, 1, 0] rfl ?_
    exact K bs.length 1 _ ws (by omega) (Nat.le_refl 1) rfl (by rw [shZ_1]; exact hz) NZ.rf
