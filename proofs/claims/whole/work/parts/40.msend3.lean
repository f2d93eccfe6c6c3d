theorem ZG.cg {z : Nat → Int32} {p q : PS} (h : ZG z p) (hW : ∀ a, a < 2 → (pW p a).1 = (pW q a).1 ∧ (pW p a).2.1 = (pW q a).2.1 ∧ (pW p a).2.2.2 = (pW q a).2.2.2) (h2 : p.1 = q.1 ∧ p.2.1 = q.2.1 ∧ p.2.2.1 = q.2.2.1) : ZG z q := by
  obtain ⟨h1, hb, h3, h4, h5, h6, h7⟩ := h
  refine ⟨fun b u i hb2 hu hi => ?_, fun b u i hb2 hu hi => ?_, fun b i hb2 hi => ?_, fun b hb2 => ?_, ?_, ?_, fun i hi => ?_⟩
  · rw [← (hW b hb2).1]; exact h1 b u i hb2 hu hi
  · rw [← (hW b hb2).1]; exact hb b u i hb2 hu hi
  · rw [← (hW b hb2).2.1] at hi ⊢; exact h3 b i hb2 hi
  · rw [← (hW b hb2).2.1, ← (hW b hb2).2.2]; exact h4 b hb2
  · rw [← h2.2.1]; exact h5
  · rw [← h2.1]; exact h6
  · rw [← h2.2.2]; exact h7 i hi
/-- the rows of the latest bits -/
def LG (l : Nat → Int64) (p : PS) : Prop := ∀ a, a < 2 → l a = (pW p a).2.2.1
/-- nothing has changed but the numbers and the latest bits -/
def NH (ws w : va_W) : Prop := ∀ j, j ≠ 215 → j ≠ 218 → w[j]? = ws[j]?
theorem NH.rf {ws : va_W} : NH ws ws := fun _ _ _ => rfl
theorem NH.tr {ws w w2 : va_W} (h : NH ws w) (h2 : NH w w2) : NH ws w2 := fun j a b => (h2 j a b).trans (h j a b)
theorem NH.set {ws : va_W} {x : Nat × va_E} : NH ws (ws.set 215 x) := fun _ a _ => List.getElem?_set_ne (Ne.symm a)
theorem pW_SWo {p : PS} {sd : Int32} {a b : Nat} {σ : WS} (ha : a < 2) (hb : b < 2) (h : b ≠ a) : pW (pSW p sd a σ) b = pW p b := pW_other (p := p) ha hb h
theorem pCT_a {p : PS} {sd cm wr : Int32} {a t n : Nat} {F : TF} : pW (pCnt (pTone (sd, (pTak p a n).2) a t F) a cm wr) a = (va_up (pW p a).1 t F, (takeQ n 0 (pW p a).2.1).2, (pW p a).2.2.1, cm, wr) := by
  unfold pCnt
  rw [pW_set]
  unfold pTone
  rw [pW_set]
  have e : pW (sd, (pTak p a n).2) a = ((pW p a).1, (takeQ n 0 (pW p a).2.1).2, (pW p a).2.2) := pW_set (p := p)
  rw [e]
theorem pCT_o {p : PS} {sd cm wr : Int32} {a b t n : Nat} {F : TF} (ha : a < 2) (hb : b < 2) (h : b ≠ a) : pW (pCnt (pTone (sd, (pTak p a n).2) a t F) a cm wr) b = pW p b := by
  unfold pCnt
  rw [pW_other ha hb h]
  unfold pTone
  rw [pW_other ha hb h]
  exact pW_other (p := p) ha hb h
theorem pCT_c {p : PS} {sd cm wr : Int32} {a t n : Nat} {F : TF} : (pCnt (pTone (sd, (pTak p a n).2) a t F) a cm wr).1 = sd ∧ (pCnt (pTone (sd, (pTak p a n).2) a t F) a cm wr).2.1 = p.2.1 ∧ (pCnt (pTone (sd, (pTak p a n).2) a t F) a cm wr).2.2.1 = p.2.2.1 := ⟨rfl, rfl, rfl⟩
theorem pSW_c {p : PS} {sd : Int32} {a : Nat} {σ : WS} : (pSW p sd a σ).1 = sd ∧ (pSW p sd a σ).2.1 = p.2.1 ∧ (pSW p sd a σ).2.2.1 = p.2.2.1 := ⟨rfl, rfl, rfl⟩
theorem sgW_n {sd : Int32} {f : TF} {bs : List Int32} : sgW sd f bs = bcP ((takeQ (f 10).toNatClampNeg 0 bs).1 ^^^ sgH sd f bs) := rfl
theorem ssW_n {sd : Int32} {σ : WS} {t : Nat} : ssW sd σ t = (va_up σ.1 t (cntB (passP (σ.1 t) (ampP (σ.1 t 10) (takeQ (σ.1 t 10).toNatClampNeg 0 σ.2.1).1) (ampP (σ.1 t 10) (sgH sd (σ.1 t) σ.2.1))) (bcP ((takeQ (σ.1 t 10).toNatClampNeg 0 σ.2.1).1 ^^^ sgH sd (σ.1 t) σ.2.1))), (takeQ (σ.1 t 10).toNatClampNeg 0 σ.2.1).2, recL σ.2.2.1 (σ.1 t 10) (sgH sd (σ.1 t) σ.2.1), σ.2.2.2.1 + σ.1 t 10, σ.2.2.2.2 + bcP ((takeQ (σ.1 t 10).toNatClampNeg 0 σ.2.1).1 ^^^ sgH sd (σ.1 t) σ.2.1)) := rfl
set_option maxRecDepth 100000 in
set_option maxHeartbeats 4000000 in
theorem m_X7_sendToneG {E : gE} {ad : Nat → Nat} {ws : va_W} {sm bm tw ea iw : Int32} {hh : Int64} {z : Nat → Int32} (h : ws[214]? = some (ad 214, moC ad sm bm tw ea iw hh)) (hz : ws[215]? = some (ad 215, iaC E 811 z)) {l : Nat → Int64} (hl : ws[218]? = some (ad 218, laC E 2 l)) {p : PS} {a t : Nat} (ha : a < 2) (ht : t < 8) (hG : ZG z p) (hLG : LG l p) (hI : WI (pW p a)) : C0 E YX7_sendTone 0 0 [.ref (ad 214), .int (nI a), .int (nI t)] ws (fun v w => v = some (.int (sgW p.1 ((pW p a).1 t) (pW p a).2.1)) ∧ (∃ z3 l3, w[215]? = some (ad 215, iaC E 811 z3) ∧ w[218]? = some (ad 218, laC E 2 l3) ∧ ZG z3 (pSW p (drwS p.1) a (ssW p.1 (pW p a) t)) ∧ LG l3 (pSW p (drwS p.1) a (ssW p.1 (pW p a) t))) ∧ NH ws w) := by
  obtain ⟨n, c, d, q1, q2, q3, q4, q5, q6, q7, q8, q9, q10, q11, q12, q13, q14, q15⟩ := sg_all (sd := p.1) (hI.1 t ht) hI.2
  obtain ⟨x1, x2⟩ := xor_16 c q7 d q10
  have hX : ∃ k, k < 16 ∧ sgV ((pW p a).1 t) (pW p a).2.1 ^^^ sgH p.1 ((pW p a).1 t) (pW p a).2.1 = nI k := ⟨_, x2, by rw [q8, q11]; exact x1⟩
  subst q3
  refine c0_mono (m_X7_sendTone h hz hl ha ht q1 hG q2 q4 q5 (H := sgH p.1 ((pW p a).1 t) (pW p a).2.1) rfl q14 hX) (fun v w hvw => ?_)
  obtain ⟨rfl, ⟨z3, c1, c2⟩, c3, c4⟩ := hvw
  unfold pSnt at c2
  rw [sgW_n, ssW_n]
  refine ⟨rfl, ⟨z3, _, c1, c3, c2.cg (fun b hb => ?_) ⟨pCT_c.1.trans pSW_c.1.symm, pCT_c.2.1.trans pSW_c.2.1.symm, pCT_c.2.2.trans pSW_c.2.2.symm⟩, fun b hb => ?_⟩, c4⟩
  · by_cases e : b = a
    · subst e
      rw [pCT_a, pW_SW]
      exact ⟨rfl, rfl, rfl⟩
    · rw [pCT_o ha hb e, pW_SWo ha hb e]
      exact ⟨rfl, rfl, rfl⟩
  · by_cases e : b = a
    · subst e
      rw [pW_SW, pk_uLs, hLG b hb]
    · rw [pW_SWo ha hb e, pk_uLn e, hLG b hb]
theorem shy_c {f : TF} : upd (upd (upd f (7 + 3) (f 10 - 1)) (7 + 5) 0) (7 + 6) (f 13 + 1) = upd (upd (upd f 10 (f 10 - 1)) 13 (f 13 + 1)) 12 0 := by
  funext j
  by_cases h10 : j = 10
  · subst h10; rfl
  by_cases h12 : j = 12
  · subst h12; rfl
  by_cases h13 : j = 13
  · subst h13; rfl
  simp only [upd, if_neg h10, if_neg h12, if_neg h13, Nat.reduceAdd]
theorem shyT_2 {m : Int32} {σ : WS} : ∀ i, (shyT m σ i).2 = σ.2
  | 0 => rfl
  | i + 1 => shyT_2 i
/-- a beat of sending -/
noncomputable def pBt (p : PS) (a : Nat) : PS := ((btP (p.2.2.1 2) p.1 (pW p a)).2.1, p.2.1 + 1, (pSet p a (btP (p.2.2.1 2) p.1 (pW p a)).2.2).2.2)
theorem sndT_s {sd : Int32} {σ : WS} {i : Nat} : sndT sd σ (i + 1) = ((sndT sd σ i).1 + sgW (sndT sd σ i).2.1 ((sndT sd σ i).2.2.1 i) (sndT sd σ i).2.2.2.1, drwS (sndT sd σ i).2.1, ssW (sndT sd σ i).2.1 (sndT sd σ i).2.2 i) := rfl
theorem shyT_s {m : Int32} {σ : WS} {i : Nat} : shyT m σ (i + 1) = (va_up (shyT m σ i).1 i (shyP ((shyT m σ i).1 i) m), (shyT m σ i).2) := rfl
theorem LG.sw {l : Nat → Int64} {p : PS} {sd sd2 : Int32} {a : Nat} {σ τ : WS} (ha : a < 2) (h : LG l (pSW p sd a σ)) (e : σ.2.2.1 = τ.2.2.1) : LG l (pSW p sd2 a τ) := fun b hb => by
  have q := h b hb
  by_cases e2 : b = a
  · subst e2
    rw [pW_SW] at q ⊢
    rw [q, e]
  · rw [pW_SWo ha hb e2] at q ⊢
    exact q
set_option maxRecDepth 100000 in
set_option maxHeartbeats 4000000 in
theorem m_X7_sendBeat {E : gE} {ad : Nat → Nat} {ws : va_W} {sm bm tw ea iw : Int32} {hh : Int64} {z : Nat → Int32} (h : ws[214]? = some (ad 214, moC ad sm bm tw ea iw hh)) (hz : ws[215]? = some (ad 215, iaC E 811 z)) {l : Nat → Int64} (hl : ws[218]? = some (ad 218, laC E 2 l)) {p : PS} {a : Nat} (ha : a < 2) (hG : ZG z p) (hLG : LG l p) (hI : WI (pW p a)) : C0 E YX7_sendBeat 0 0 [.ref (ad 214), .int (nI a)] ws (fun v w => v = some (.int (btP (p.2.2.1 2) p.1 (pW p a)).1) ∧ (∃ z3 l3, w[215]? = some (ad 215, iaC E 811 z3) ∧ w[218]? = some (ad 218, laC E 2 l3) ∧ ZG z3 (pBt p a) ∧ LG l3 (pBt p a)) ∧ NH ws w) := by
  have e8 := k8e
  refine c0V vX7_sendBeat (Nat.le_of_ble_eq_true rfl) (lv0 := [(0, .ref (ad 214)), (1, .int (nI a))]) rfl ?_
  have K2 : ∀ (m i : Nat) (x : Int32) (w1 : va_W) (z1 : Nat → Int32) (l1 : Nat → Int64), i + m = k8 → x = nI i → w1[215]? = some (ad 215, iaC E 811 z1) → w1[218]? = some (ad 218, laC E 2 l1) → ZG z1 (pSW p (sndT p.1 (pW p a) k8).2.1 a (shyT (p.2.2.1 2) (sndT p.1 (pW p a) k8).2.2 i)) → LG l1 (pSW p (sndT p.1 (pW p a) k8).2.1 a (shyT (p.2.2.1 2) (sndT p.1 (pW p a) k8).2.2 i)) → NH ws w1 →
      Ev E YX7_sendBeat (fun v w => v = some (.int (btP (p.2.2.1 2) p.1 (pW p a)).1) ∧ (∃ z3 l3, w[215]? = some (ad 215, iaC E 811 z3) ∧ w[218]? = some (ad 218, laC E 2 l3) ∧ ZG z3 (pBt p a) ∧ LG l3 (pBt p a)) ∧ NH ws w) nX 0 0 27 [(0, .ref (ad 214)), (1, .int (nI a)), (2, .int (sndT p.1 (pW p a) k8).1), (3, .int x)] [] w1 := by
    intro m
    induction m with
    | zero =>
      intro i x w1 z1 l1 hm hx hz1 hl1 hg1 hL1 hO
      obtain rfl : i = k8 := by omega
      subst hx
      have h1 := (hO 214 (by decide) (by decide)).trans h
      have q6 : z1 806 = p.2.1 := hg1.2.2.2.2.1
      have hg2 := hg1.beats (v := p.2.1 + 1)
      refine ev_ss DX7_sendBeat 2 18 (pc' := 30) (lv' := [(0, .ref _), (1, .int _), (2, .int _), (3, .int _)]) (st' := [.int 8, .int _]) rfl ?_
      refine ev_icge DX7_sendBeat 20 rfl (tgt := 116) (by decide) (fun _ => ?_) (fun h => h.elim (by rw [k8e]; decide))
      refine ev_ss DX7_sendBeat 1 73 (pc' := 117) (lv' := [(0, .ref _), (1, .int _), (2, .int _), (3, .int _)]) (st' := [.ref _]) rfl ?_
      refine ev_get DX7_sendBeat 74 GX7 rfl (k0 := 0) (Nat.le_of_ble_eq_true rfl) fX7_7 h1 rfl ?_
      refine ev_ss DX7_sendBeat 2 75 (pc' := 124) (lv' := [(0, .ref _), (1, .int _), (2, .int _), (3, .int _)]) (st' := [.int 806, .ref _, .int 806, .ref _]) rfl ?_
      refine ev_ialdv DX7_sendBeat 77 (k0 := 806) rfl hz1 rfl (by omega) (by decide) (q6) ?_
      refine ev_ss DX7_sendBeat 2 78 (pc' := 127) (lv' := [(0, .ref _), (1, .int _), (2, .int _), (3, .int _)]) (st' := [.int _, .int 806, .ref _]) rfl ?_
      refine ev_iastv DX7_sendBeat 80 (k0 := 806) rfl hz1 rfl (by omega) (by decide) rfl ?_
      refine ev_ss DX7_sendBeat 1 81 (pc' := 129) (lv' := [(0, .ref _), (1, .int _), (2, .int _), (3, .int _)]) (st' := [.int _]) rfl ?_
      exact ev_iret DX7_sendBeat 82 rfl rfl ⟨rfl, ⟨_, l1, wset_get hz1, (List.getElem?_set_ne (by decide)).trans hl1, hg2, hL1⟩, hO.tr NH.set⟩
    | succ m ih =>
      intro i x w1 z1 l1 hm hx hz1 hl1 hg1 hL1 hO
      subst hx
      have h1 := (hO 214 (by decide) (by decide)).trans h
      have hc1 : acA a i + 11 ≤ 288 := by unfold acA; omega
      obtain ⟨q, eq⟩ : ∃ q, q = (pSW p (sndT p.1 (pW p a) k8).2.1 a (shyT (p.2.2.1 2) (sndT p.1 (pW p a) k8).2.2 i)) := ⟨_, rfl⟩
      obtain ⟨f, ef⟩ : ∃ f, f = (shyT (p.2.2.1 2) (sndT p.1 (pW p a) k8).2.2 i).1 i := ⟨_, rfl⟩
      have ef2 : (pW q a).1 i = f := by rw [eq, pW_SW, ef]
      rw [← eq] at hg1
      have hac : ∀ j, j < 11 → z1 (acA a i + j) = f (7 + j) := fun j hj => by rw [hg1.2.1 a i j ha (by omega) hj, ef2]
      have hm2 : z1 810 = p.2.2.1 2 := by rw [hg1.2.2.2.2.2.2 2 (by decide), eq]; rfl
      have hg2 : ZG z1 (pTone q a i f) := by rw [← ef2, pT_id]; exact hg1
      have hI2 : i < 8 := by omega
      have hg3 := ((hg2.ac ha hI2 (j := 3) (v := f 10 - 1) (by decide)).ac ha hI2 (j := 5) (v := 0) (by decide)).ac ha hI2 (j := 6) (v := f 13 + 1) (by decide)
      rw [shy_c] at hg3
      have hstep : ∀ F : TF, pTone q a i F = pSW p (sndT p.1 (pW p a) k8).2.1 a (va_up (shyT (p.2.2.1 2) (sndT p.1 (pW p a) k8).2.2 i).1 i F, (shyT (p.2.2.1 2) (sndT p.1 (pW p a) k8).2.2 i).2) := fun F => by rw [eq]; exact pSW_T (p := p) (sd := (sndT p.1 (pW p a) k8).2.1)
      have hnx : ∀ F : TF, shyP f (p.2.2.1 2) = F → (pSW p (sndT p.1 (pW p a) k8).2.1 a (shyT (p.2.2.1 2) (sndT p.1 (pW p a) k8).2.2 (i + 1))) = pTone q a i F := fun F hF => by rw [hstep, shyT_s, ← ef, hF]
      have hLn : LG l1 (pSW p (sndT p.1 (pW p a) k8).2.1 a (shyT (p.2.2.1 2) (sndT p.1 (pW p a) k8).2.2 (i + 1))) := by rw [shyT_s]; exact hL1.sw ha rfl
      by_cases q1 : f 10 ≤ 0
      · refine ev_ss DX7_sendBeat 2 18 (pc' := 30) (lv' := [(0, .ref _), (1, .int _), (2, .int _), (3, .int _)]) (st' := [.int 8, .int _]) rfl ?_
        refine ev_icge DX7_sendBeat 20 rfl (tgt := 116) (by decide) (fun h => absurd h (nI_ge (b := 8) (by omega) (by decide))) (fun _ => ?_)
        refine ev_ss DX7_sendBeat 3 21 (pc' := 36) (lv' := [(0, .ref _), (1, .int _), (2, .int _), (3, .int _)]) (st' := [.int _, .int _, .ref _]) rfl ?_
        refine ev_cV DX7_sendBeat 24 (m_X7_accentAt h1) vX7_accentAt rfl qX7_68 rfl h1 rfl (hd_of rfl rfl rfl rfl) ?_
        refine ev_ss DX7_sendBeat 2 25 (pc' := 42) (lv' := [(4, .int _), (0, .ref _), (1, .int _), (2, .int _), (3, .int _)]) (st' := [.ref _]) rfl ?_
        refine ev_get DX7_sendBeat 27 GX7 rfl (k0 := 0) (Nat.le_of_ble_eq_true rfl) fX7_7 h1 rfl ?_
        refine ev_ss DX7_sendBeat 3 28 (pc' := 49) (lv' := [(4, .int _), (0, .ref _), (1, .int _), (2, .int _), (3, .int _)]) (st' := [.int _, .ref _]) rfl ?_
        refine ev_ialdv DX7_sendBeat 31 (k0 := (acA a i + 3)) rfl hz1 (nx_add (a := acA a i) (b := 3) rfl rfl) (by omega) (by decide) ((hac 3 (by decide))) ?_
        refine ev_ifle DX7_sendBeat 32 rfl (tgt := 110) (by decide) (fun _ => ?_) (fun h => h.elim q1)
        refine ev_ss DX7_sendBeat 1 71 (pc' := 113) (lv' := [(3, .int _), (4, .int _), (0, .ref _), (1, .int _), (2, .int _)]) (st' := []) rfl ?_
        refine ev_goto DX7_sendBeat 72 rfl (tgt := 27) (by decide) ?_
        refine ev_lvp (lv2 := [(0, .ref _), (1, .int _), (2, .int _), (3, .int _)]) [2, 3, 4, 0] rfl ?_
        exact ih (i + 1) _ w1 z1 l1 (by omega) (nI_1 i) hz1 hl1 (by rw [hnx f (if_pos q1)]; exact hg2) hLn hO
      · by_cases q2 : f 12 < p.2.2.1 2
        · refine ev_ss DX7_sendBeat 2 18 (pc' := 30) (lv' := [(0, .ref _), (1, .int _), (2, .int _), (3, .int _)]) (st' := [.int 8, .int _]) rfl ?_
          refine ev_icge DX7_sendBeat 20 rfl (tgt := 116) (by decide) (fun h => absurd h (nI_ge (b := 8) (by omega) (by decide))) (fun _ => ?_)
          refine ev_ss DX7_sendBeat 3 21 (pc' := 36) (lv' := [(0, .ref _), (1, .int _), (2, .int _), (3, .int _)]) (st' := [.int _, .int _, .ref _]) rfl ?_
          refine ev_cV DX7_sendBeat 24 (m_X7_accentAt h1) vX7_accentAt rfl qX7_68 rfl h1 rfl (hd_of rfl rfl rfl rfl) ?_
          refine ev_ss DX7_sendBeat 2 25 (pc' := 42) (lv' := [(4, .int _), (0, .ref _), (1, .int _), (2, .int _), (3, .int _)]) (st' := [.ref _]) rfl ?_
          refine ev_get DX7_sendBeat 27 GX7 rfl (k0 := 0) (Nat.le_of_ble_eq_true rfl) fX7_7 h1 rfl ?_
          refine ev_ss DX7_sendBeat 3 28 (pc' := 49) (lv' := [(4, .int _), (0, .ref _), (1, .int _), (2, .int _), (3, .int _)]) (st' := [.int _, .ref _]) rfl ?_
          refine ev_ialdv DX7_sendBeat 31 (k0 := (acA a i + 3)) rfl hz1 (nx_add (a := acA a i) (b := 3) rfl rfl) (by omega) (by decide) ((hac 3 (by decide))) ?_
          refine ev_ifle DX7_sendBeat 32 rfl (tgt := 110) (by decide) (fun h => absurd h q1) (fun _ => ?_)
          refine ev_ss DX7_sendBeat 1 33 (pc' := 54) (lv' := [(4, .int _), (0, .ref _), (1, .int _), (2, .int _), (3, .int _)]) (st' := [.ref _]) rfl ?_
          refine ev_get DX7_sendBeat 34 GX7 rfl (k0 := 0) (Nat.le_of_ble_eq_true rfl) fX7_7 h1 rfl ?_
          refine ev_ss DX7_sendBeat 3 35 (pc' := 61) (lv' := [(4, .int _), (0, .ref _), (1, .int _), (2, .int _), (3, .int _)]) (st' := [.int _, .ref _]) rfl ?_
          refine ev_ialdv DX7_sendBeat 38 (k0 := (acA a i + 5)) rfl hz1 (nx_add (a := acA a i) (b := 5) rfl rfl) (by omega) (by decide) ((hac 5 (by decide))) ?_
          refine ev_ss DX7_sendBeat 1 39 (pc' := 63) (lv' := [(4, .int _), (0, .ref _), (1, .int _), (2, .int _), (3, .int _)]) (st' := [.ref _, .int _]) rfl ?_
          refine ev_get DX7_sendBeat 40 GX7 rfl (k0 := 0) (Nat.le_of_ble_eq_true rfl) fX7_7 h1 rfl ?_
          refine ev_ss DX7_sendBeat 1 41 (pc' := 69) (lv' := [(4, .int _), (0, .ref _), (1, .int _), (2, .int _), (3, .int _)]) (st' := [.int 810, .ref _, .int _]) rfl ?_
          refine ev_ialdv DX7_sendBeat 42 (k0 := 810) rfl hz1 rfl (by omega) (by decide) (hm2) ?_
          refine ev_iclt DX7_sendBeat 43 rfl (tgt := 110) (by decide) (fun _ => ?_) (fun h => h.elim q2)
          refine ev_ss DX7_sendBeat 1 71 (pc' := 113) (lv' := [(3, .int _), (4, .int _), (0, .ref _), (1, .int _), (2, .int _)]) (st' := []) rfl ?_
          refine ev_goto DX7_sendBeat 72 rfl (tgt := 27) (by decide) ?_
          refine ev_lvp (lv2 := [(0, .ref _), (1, .int _), (2, .int _), (3, .int _)]) [2, 3, 4, 0] rfl ?_
          exact ih (i + 1) _ w1 z1 l1 (by omega) (nI_1 i) hz1 hl1 (by rw [hnx f ((if_neg q1).trans (if_pos q2))]; exact hg2) hLn hO
        · refine ev_ss DX7_sendBeat 2 18 (pc' := 30) (lv' := [(0, .ref _), (1, .int _), (2, .int _), (3, .int _)]) (st' := [.int 8, .int _]) rfl ?_
          refine ev_icge DX7_sendBeat 20 rfl (tgt := 116) (by decide) (fun h => absurd h (nI_ge (b := 8) (by omega) (by decide))) (fun _ => ?_)
          refine ev_ss DX7_sendBeat 3 21 (pc' := 36) (lv' := [(0, .ref _), (1, .int _), (2, .int _), (3, .int _)]) (st' := [.int _, .int _, .ref _]) rfl ?_
          refine ev_cV DX7_sendBeat 24 (m_X7_accentAt h1) vX7_accentAt rfl qX7_68 rfl h1 rfl (hd_of rfl rfl rfl rfl) ?_
          refine ev_ss DX7_sendBeat 2 25 (pc' := 42) (lv' := [(4, .int _), (0, .ref _), (1, .int _), (2, .int _), (3, .int _)]) (st' := [.ref _]) rfl ?_
          refine ev_get DX7_sendBeat 27 GX7 rfl (k0 := 0) (Nat.le_of_ble_eq_true rfl) fX7_7 h1 rfl ?_
          refine ev_ss DX7_sendBeat 3 28 (pc' := 49) (lv' := [(4, .int _), (0, .ref _), (1, .int _), (2, .int _), (3, .int _)]) (st' := [.int _, .ref _]) rfl ?_
          refine ev_ialdv DX7_sendBeat 31 (k0 := (acA a i + 3)) rfl hz1 (nx_add (a := acA a i) (b := 3) rfl rfl) (by omega) (by decide) ((hac 3 (by decide))) ?_
          refine ev_ifle DX7_sendBeat 32 rfl (tgt := 110) (by decide) (fun h => absurd h q1) (fun _ => ?_)
          refine ev_ss DX7_sendBeat 1 33 (pc' := 54) (lv' := [(4, .int _), (0, .ref _), (1, .int _), (2, .int _), (3, .int _)]) (st' := [.ref _]) rfl ?_
          refine ev_get DX7_sendBeat 34 GX7 rfl (k0 := 0) (Nat.le_of_ble_eq_true rfl) fX7_7 h1 rfl ?_
          refine ev_ss DX7_sendBeat 3 35 (pc' := 61) (lv' := [(4, .int _), (0, .ref _), (1, .int _), (2, .int _), (3, .int _)]) (st' := [.int _, .ref _]) rfl ?_
          refine ev_ialdv DX7_sendBeat 38 (k0 := (acA a i + 5)) rfl hz1 (nx_add (a := acA a i) (b := 5) rfl rfl) (by omega) (by decide) ((hac 5 (by decide))) ?_
          refine ev_ss DX7_sendBeat 1 39 (pc' := 63) (lv' := [(4, .int _), (0, .ref _), (1, .int _), (2, .int _), (3, .int _)]) (st' := [.ref _, .int _]) rfl ?_
          refine ev_get DX7_sendBeat 40 GX7 rfl (k0 := 0) (Nat.le_of_ble_eq_true rfl) fX7_7 h1 rfl ?_
          refine ev_ss DX7_sendBeat 1 41 (pc' := 69) (lv' := [(4, .int _), (0, .ref _), (1, .int _), (2, .int _), (3, .int _)]) (st' := [.int 810, .ref _, .int _]) rfl ?_
          refine ev_ialdv DX7_sendBeat 42 (k0 := 810) rfl hz1 rfl (by omega) (by decide) (hm2) ?_
          refine ev_iclt DX7_sendBeat 43 rfl (tgt := 110) (by decide) (fun h => absurd h q2) (fun _ => ?_)
          refine ev_ss DX7_sendBeat 1 44 (pc' := 74) (lv' := [(4, .int _), (0, .ref _), (1, .int _), (2, .int _), (3, .int _)]) (st' := [.ref _]) rfl ?_
          refine ev_get DX7_sendBeat 45 GX7 rfl (k0 := 0) (Nat.le_of_ble_eq_true rfl) fX7_7 h1 rfl ?_
          refine ev_ss DX7_sendBeat 4 46 (pc' := 82) (lv' := [(4, .int _), (0, .ref _), (1, .int _), (2, .int _), (3, .int _)]) (st' := [.int _, .ref _, .int _, .ref _]) rfl ?_
          refine ev_ialdv DX7_sendBeat 50 (k0 := (acA a i + 3)) rfl hz1 (nx_add (a := acA a i) (b := 3) rfl rfl) (by omega) (by decide) ((hac 3 (by decide))) ?_
          refine ev_ss DX7_sendBeat 2 51 (pc' := 85) (lv' := [(4, .int _), (0, .ref _), (1, .int _), (2, .int _), (3, .int _)]) (st' := [.int _, .int _, .ref _]) rfl ?_
          refine ev_iastv DX7_sendBeat 53 (k0 := (acA a i + 3)) rfl hz1 (nx_add (a := acA a i) (b := 3) rfl rfl) (by omega) (by decide) rfl ?_
          refine ev_ss DX7_sendBeat 1 54 (pc' := 87) (lv' := [(4, .int _), (0, .ref _), (1, .int _), (2, .int _), (3, .int _)]) (st' := [.ref _]) rfl ?_
          refine ev_get DX7_sendBeat 55 GX7 rfl (k0 := 0) (Nat.le_of_ble_eq_true rfl) fX7_7 (wset_o h1 hz1 rfl) rfl ?_
          refine ev_ss DX7_sendBeat 4 56 (pc' := 95) (lv' := [(4, .int _), (0, .ref _), (1, .int _), (2, .int _), (3, .int _)]) (st' := [.int 0, .int _, .ref _]) rfl ?_
          refine ev_iastv DX7_sendBeat 60 (k0 := (acA a i + 5)) rfl (wset_get hz1) (nx_add (a := acA a i) (b := 5) rfl rfl) (by omega) (by decide) wset_set ?_
          refine ev_ss DX7_sendBeat 1 61 (pc' := 97) (lv' := [(4, .int _), (0, .ref _), (1, .int _), (2, .int _), (3, .int _)]) (st' := [.ref _]) rfl ?_
          refine ev_get DX7_sendBeat 62 GX7 rfl (k0 := 0) (Nat.le_of_ble_eq_true rfl) fX7_7 (wset_o h1 hz1 rfl) rfl ?_
          refine ev_ss DX7_sendBeat 4 63 (pc' := 106) (lv' := [(4, .int _), (0, .ref _), (1, .int _), (2, .int _), (3, .int _)]) (st' := [.int _, .ref _, .int _, .ref _]) rfl ?_
          refine ev_ialdv DX7_sendBeat 67 (k0 := (acA a i + 6)) rfl (wset_get hz1) (nx_add (a := acA a i) (b := 6) rfl rfl) (by omega) (by decide) ((upd_ne (by omega)).trans ((upd_ne (by omega)).trans ((hac 6 (by decide))))) ?_
          refine ev_ss DX7_sendBeat 2 68 (pc' := 109) (lv' := [(4, .int _), (0, .ref _), (1, .int _), (2, .int _), (3, .int _)]) (st' := [.int _, .int _, .ref _]) rfl ?_
          refine ev_iastv DX7_sendBeat 70 (k0 := (acA a i + 6)) rfl (wset_get hz1) (nx_add (a := acA a i) (b := 6) rfl rfl) (by omega) (by decide) wset_set ?_
          refine ev_ss DX7_sendBeat 1 71 (pc' := 113) (lv' := [(3, .int _), (4, .int _), (0, .ref _), (1, .int _), (2, .int _)]) (st' := []) rfl ?_
          refine ev_goto DX7_sendBeat 72 rfl (tgt := 27) (by decide) ?_
          refine ev_lvp (lv2 := [(0, .ref _), (1, .int _), (2, .int _), (3, .int _)]) [2, 3, 4, 0] rfl ?_
          exact ih (i + 1) _ _ _ l1 (by omega) (nI_1 i) (wset_get hz1) ((List.getElem?_set_ne (by decide)).trans hl1) (by rw [hnx _ ((if_neg q1).trans (if_neg q2))]; exact hg3) hLn (hO.tr NH.set)
  have K1 : ∀ (m i : Nat) (x : Int32) (w1 : va_W) (z1 : Nat → Int32) (l1 : Nat → Int64), i + m = k8 → x = nI i → w1[215]? = some (ad 215, iaC E 811 z1) → w1[218]? = some (ad 218, laC E 2 l1) → ZG z1 (pSW p (sndT p.1 (pW p a) i).2.1 a (sndT p.1 (pW p a) i).2.2) → LG l1 (pSW p (sndT p.1 (pW p a) i).2.1 a (sndT p.1 (pW p a) i).2.2) → NH ws w1 →
      Ev E YX7_sendBeat (fun v w => v = some (.int (btP (p.2.2.1 2) p.1 (pW p a)).1) ∧ (∃ z3 l3, w[215]? = some (ad 215, iaC E 811 z3) ∧ w[218]? = some (ad 218, laC E 2 l3) ∧ ZG z3 (pBt p a) ∧ LG l3 (pBt p a)) ∧ NH ws w) nX 0 0 4 [(0, .ref (ad 214)), (1, .int (nI a)), (2, .int (sndT p.1 (pW p a) i).1), (3, .int x)] [] w1 := by
    intro m
    induction m with
    | zero =>
      intro i x w1 z1 l1 hm hx hz1 hl1 hg1 hL1 hO
      obtain rfl : i = k8 := by omega
      subst hx
      refine ev_ss DX7_sendBeat 2 4 (pc' := 7) (lv' := [(0, .ref _), (1, .int _), (2, .int _), (3, .int _)]) (st' := [.int 8, .int _]) rfl ?_
      refine ev_icge DX7_sendBeat 6 rfl (tgt := 25) (by decide) (fun _ => ?_) (fun h => h.elim (by rw [k8e]; decide))
      refine ev_ss DX7_sendBeat 2 16 (pc' := 27) (lv' := [(3, .int 0), (0, .ref _), (1, .int _), (2, .int _)]) (st' := []) rfl ?_
      refine ev_lvp (lv2 := [(0, .ref _), (1, .int _), (2, .int _), (3, .int _)]) [1, 2, 3, 0] rfl ?_
      exact K2 k8 0 _ w1 z1 l1 (Nat.zero_add k8) nI_0.symm hz1 hl1 (by rw [shyT_0]; exact hg1) (by rw [shyT_0]; exact hL1) hO
    | succ m ih =>
      intro i x w1 z1 l1 hm hx hz1 hl1 hg1 hL1 hO
      subst hx
      have h1 := (hO 214 (by decide) (by decide)).trans h
      have hI1 : WI (pW (pSW p (sndT p.1 (pW p a) i).2.1 a (sndT p.1 (pW p a) i).2.2) a) := by rw [pW_SW]; exact WI_sndT hI i (by omega)
      refine ev_ss DX7_sendBeat 2 4 (pc' := 7) (lv' := [(0, .ref _), (1, .int _), (2, .int _), (3, .int _)]) (st' := [.int 8, .int _]) rfl ?_
      refine ev_icge DX7_sendBeat 6 rfl (tgt := 25) (by decide) (fun h => absurd h (nI_ge (b := 8) (by omega) (by decide))) (fun _ => ?_)
      refine ev_ss DX7_sendBeat 4 7 (pc' := 14) (lv' := [(0, .ref _), (1, .int _), (2, .int _), (3, .int _)]) (st' := [.int _, .int _, .ref _, .int _]) rfl ?_
      refine ev_rV DX7_sendBeat 11 (m_X7_sendToneG h1 hz1 hl1 ha (t := i) (by omega) hg1 hL1 hI1) vX7_sendTone rfl qX7_131 rfl h1 rfl (hd_of rfl rfl rfl rfl) (fun v w2 hvw => ?_)
      obtain ⟨rfl, ⟨z2, l2, hz2, hl2, hg2, hL2⟩, hO2⟩ := hvw
      rw [pW_SW, pSW_pSW] at hg2 hL2
      refine ev_ss DX7_sendBeat 3 12 (pc' := 22) (lv' := [(3, .int _), (2, .int _), (0, .ref _), (1, .int _)]) (st' := []) rfl ?_
      refine ev_goto DX7_sendBeat 15 rfl (tgt := 4) (by decide) ?_
      refine ev_lvp (lv2 := [(0, .ref _), (1, .int _), (2, .int _), (3, .int _)]) [2, 3, 1, 0] rfl ?_
      have e := ih (i + 1) _ w2 z2 l2 (by omega) (nI_1 i) hz2 hl2 hg2 hL2 (hO.tr hO2)
      rw [sndT_s] at e
      rw [pW_SW]
      exact e
  refine ev_ss DX7_sendBeat 4 0 (pc' := 4) (lv' := [(3, .int 0), (2, .int 0), (0, .ref _), (1, .int _)]) (st' := []) rfl ?_
  refine ev_lvp (lv2 := [(0, .ref _), (1, .int _), (2, .int _), (3, .int _)]) [2, 3, 1, 0] rfl ?_
  exact K1 k8 0 _ ws z l (Nat.zero_add k8) nI_0.symm hz hl (by rw [sndT_0, pSW_id]; exact hG) (by rw [sndT_0, pSW_id]; exact hLG) NH.rf
theorem pSend_0 {p : PS} {a : Nat} : pSend p a 0 = p := by
  unfold pSend
  rw [btN_0, nI_0, Int32.add_zero]
  show (p.1, p.2.1, (pSet p a (pW p a)).2.2) = p
  rw [pSet_id]
theorem pW_send {p : PS} {a n : Nat} : pW (pSend p a n) a = (btN (p.2.2.1 2) p.1 (pW p a) n).2.2 := pW_set (p := p)
theorem btN_s2 {m sd : Int32} {σ : WS} {i : Nat} : btN m sd σ (i + 1) = ((btN m sd σ i).1 + (btP m (btN m sd σ i).2.1 (btN m sd σ i).2.2).1, (btP m (btN m sd σ i).2.1 (btN m sd σ i).2.2).2) := rfl
theorem pBt_send {p : PS} {a i : Nat} : pBt (pSend p a i) a = pSend p a (i + 1) := by
  unfold pBt
  rw [pW_send]
  have e1 : (pSend p a i).2.2.1 = p.2.2.1 := rfl
  have e2 : (pSend p a i).1 = (btN (p.2.2.1 2) p.1 (pW p a) i).2.1 := rfl
  have e3 : (pSend p a i).2.1 = p.2.1 + nI i := rfl
  have e4 : ∀ σ : WS, (pSet (pSend p a i) a σ).2.2 = (pSet p a σ).2.2 := fun σ => by
    unfold pSend pSet
    by_cases h : a = 0
    · simp [h]
    · simp [h]
  rw [e1, e2, e3, e4, Int32.add_assoc, nI_1]
  rfl
set_option maxRecDepth 100000 in
set_option maxHeartbeats 4000000 in
theorem m_X7_sendAll {E : gE} {ad : Nat → Nat} {ws : va_W} {sm bm tw ea iw : Int32} {hh : Int64} {z : Nat → Int32} (h : ws[214]? = some (ad 214, moC ad sm bm tw ea iw hh)) (hz : ws[215]? = some (ad 215, iaC E 811 z)) {l : Nat → Int64} (hl : ws[218]? = some (ad 218, laC E 2 l)) {p : PS} {a n : Nat} (ha : a < 2) (hn : n < 2 ^ 31) (hG : ZG z p) (hLG : LG l p) (hI : WI (pW p a)) : C0 E YX7_sendAll 0 0 [.ref (ad 214), .int (nI a), .int (nI n)] ws (fun v w => v = some (.int (btN (p.2.2.1 2) p.1 (pW p a) n).1) ∧ (∃ z3 l3, w[215]? = some (ad 215, iaC E 811 z3) ∧ w[218]? = some (ad 218, laC E 2 l3) ∧ ZG z3 (pSend p a n) ∧ LG l3 (pSend p a n)) ∧ NH ws w) := by
  refine c0V vX7_sendAll (Nat.le_of_ble_eq_true rfl) (lv0 := [(0, .ref (ad 214)), (1, .int (nI a)), (2, .int (nI n))]) rfl ?_
  have K1 : ∀ (m i : Nat) (x acc : Int32) (w1 : va_W) (z1 : Nat → Int32) (l1 : Nat → Int64), i + m = n → x = nI i → acc = (btN (p.2.2.1 2) p.1 (pW p a) i).1 → w1[215]? = some (ad 215, iaC E 811 z1) → w1[218]? = some (ad 218, laC E 2 l1) → ZG z1 (pSend p a i) → LG l1 (pSend p a i) → NH ws w1 →
      Ev E YX7_sendAll (fun v w => v = some (.int (btN (p.2.2.1 2) p.1 (pW p a) n).1) ∧ (∃ z3 l3, w[215]? = some (ad 215, iaC E 811 z3) ∧ w[218]? = some (ad 218, laC E 2 l3) ∧ ZG z3 (pSend p a n) ∧ LG l3 (pSend p a n)) ∧ NH ws w) nX 0 0 5 [(0, .ref (ad 214)), (1, .int (nI a)), (2, .int (nI n)), (3, .int acc), (4, .int x)] [] w1 := by
    intro m
    induction m with
    | zero =>
      intro i x acc w1 z1 l1 hm hx ha1 hz1 hl1 hg1 hL1 hO
      obtain rfl : i = n := by omega
      subst hx; subst ha1
      refine ev_ss DX7_sendAll 2 4 (pc' := 8) (lv' := [(0, .ref _), (1, .int _), (2, .int _), (3, .int _), (4, .int _)]) (st' := [.int _, .int _]) rfl ?_
      refine ev_icge DX7_sendAll 6 rfl (tgt := 25) (by decide) (fun _ => ?_) (fun h => h.elim (nI_le (Nat.le_refl _) (by omega)))
      refine ev_ss DX7_sendAll 1 15 (pc' := 26) (lv' := [(0, .ref _), (1, .int _), (2, .int _), (3, .int _), (4, .int _)]) (st' := [.int _]) rfl ?_
      exact ev_iret DX7_sendAll 16 rfl rfl ⟨rfl, ⟨z1, l1, hz1, hl1, hg1, hL1⟩, hO⟩
    | succ m ih =>
      intro i x acc w1 z1 l1 hm hx ha1 hz1 hl1 hg1 hL1 hO
      subst hx; subst ha1
      have h1 := (hO 214 (by decide) (by decide)).trans h
      have hI1 : WI (pW (pSend p a i) a) := by rw [pW_send]; exact WI_btN hI i
      refine ev_ss DX7_sendAll 2 4 (pc' := 8) (lv' := [(0, .ref _), (1, .int _), (2, .int _), (3, .int _), (4, .int _)]) (st' := [.int _, .int _]) rfl ?_
      refine ev_icge DX7_sendAll 6 rfl (tgt := 25) (by decide) (fun h => absurd h (nI_ge (b := n) (by omega) (by omega))) (fun _ => ?_)
      refine ev_ss DX7_sendAll 3 7 (pc' := 14) (lv' := [(0, .ref _), (1, .int _), (2, .int _), (3, .int _), (4, .int _)]) (st' := [.int _, .ref _, .int _]) rfl ?_
      refine ev_rV DX7_sendAll 10 (m_X7_sendBeat h1 hz1 hl1 ha hg1 hL1 hI1) vX7_sendBeat rfl qX7_134 rfl h1 rfl (hd_of rfl rfl rfl rfl) (fun v w2 hvw => ?_)
      obtain ⟨rfl, ⟨z2, l2, hz2, hl2, hg2, hL2⟩, hO2⟩ := hvw
      rw [pBt_send] at hg2 hL2
      refine ev_ss DX7_sendAll 3 11 (pc' := 22) (lv' := [(4, .int _), (3, .int _), (0, .ref _), (1, .int _), (2, .int _)]) (st' := []) rfl ?_
      refine ev_goto DX7_sendAll 14 rfl (tgt := 5) (by decide) ?_
      refine ev_lvp (lv2 := [(0, .ref _), (1, .int _), (2, .int _), (3, .int _), (4, .int _)]) [2, 3, 4, 1, 0] rfl ?_
      exact ih (i + 1) _ _ w2 z2 l2 (by omega) (nI_1 i) (by rw [btN_s2, pW_send]; rfl) hz2 hl2 hg2 hL2 (hO.tr hO2)
  refine ev_ss DX7_sendAll 4 0 (pc' := 5) (lv' := [(4, .int 0), (3, .int 0), (0, .ref _), (1, .int _), (2, .int _)]) (st' := []) rfl ?_
  refine ev_lvp (lv2 := [(0, .ref _), (1, .int _), (2, .int _), (3, .int _), (4, .int _)]) [2, 3, 4, 1, 0] rfl ?_
  exact K1 n 0 _ _ ws z l (Nat.zero_add n) nI_0.symm rfl hz hl (by rw [pSend_0]; exact hG) (by rw [pSend_0]; exact hLG) NH.rf
