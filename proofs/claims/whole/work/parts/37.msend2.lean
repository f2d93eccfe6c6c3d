theorem pTak_1 {p : PS} {a n : Nat} : (pW (pTak p a n) a).1 = (pW p a).1 := by unfold pTak pBits; rw [pW_set]
theorem pTak_2 {p : PS} {a n : Nat} : (pW (pTak p a n) a).2.2 = (pW p a).2.2 := by unfold pTak pBits; rw [pW_set]
theorem takeQ_0 {n : Nat} {bs : List Int32} (h : n = 0) : (takeQ n 0 bs).1 = 0 := by subst h; rfl
/-- what a sign makes of the state, the latest bits apart -/
def pSnt (p : PS) (a t n : Nat) (H W : Int32) : PS := pCnt (pTone (drwS p.1, (pTak p a n).2) a t (cntB (passP ((pW p a).1 t) (ampP ((pW p a).1 t 10) (takeQ n 0 (pW p a).2.1).1) (ampP ((pW p a).1 t 10) H)) W)) a ((pW p a).2.2.2.1 + (pW p a).1 t 10) ((pW p a).2.2.2.2 + W)
set_option maxRecDepth 100000 in
set_option maxHeartbeats 4000000 in
theorem m_X7_sendTone {E : gE} {ad : Nat → Nat} {ws : va_W} {sm bm tw ea iw : Int32} {hh : Int64} {z : Nat → Int32} (h : ws[214]? = some (ad 214, moC ad sm bm tw ea iw hh)) (hz : ws[215]? = some (ad 215, iaC E 811 z)) {l : Nat → Int64} (hl : ws[218]? = some (ad 218, laC E 2 l)) {p : PS} {a t n : Nat} (ha : a < 2) (ht : t < 8) (hn : n ≤ 4) (hG : ZG z p) (hb : (pW p a).1 t 10 = nI n) (hg : ¬ (pW p a).1 t 7 ≤ 0) (hm : TN ((pW p a).1 t)) {H : Int32} (eH : decP ((pW p a).1 t) (arrP ((pW p a).1 t) (ampP ((pW p a).1 t 10) (takeQ n 0 (pW p a).2.1).1) (drwN p.1 ((pW p a).1 t))) = H) (hD : DR ((pW p a).1 t) (arrP ((pW p a).1 t) (ampP ((pW p a).1 t 10) (takeQ n 0 (pW p a).2.1).1) (drwN p.1 ((pW p a).1 t)))) (hX : ∃ k, k < 16 ∧ (takeQ n 0 (pW p a).2.1).1 ^^^ H = nI k) : C0 E YX7_sendTone 0 0 [.ref (ad 214), .int (nI a), .int (nI t)] ws (fun v w => v = some (.int (bcP ((takeQ n 0 (pW p a).2.1).1 ^^^ H))) ∧ (∃ z3, w[215]? = some (ad 215, iaC E 811 z3) ∧ ZG z3 (pSnt p a t n H (bcP ((takeQ n 0 (pW p a).2.1).1 ^^^ H)))) ∧ w[218]? = some (ad 218, laC E 2 (vp_updL l a (recL (l a) ((pW p a).1 t 10) H))) ∧ ∀ j, j ≠ 215 → j ≠ 218 → w[j]? = ws[j]?) := by
  have hc2 : acA a t + 11 ≤ 288 := by unfold acA; omega
  have h10 : z (acA a t + 3) = nI n := by rw [← hb]; exact hG.2.1 a t 3 ha ht (by decide)
  subst eH
  refine c0V vX7_sendTone (Nat.le_of_ble_eq_true rfl) (lv0 := [(0, .ref (ad 214)), (1, .int (nI a)), (2, .int (nI t))]) rfl ?_
  refine ev_ss DX7_sendTone_0 3 0 (pc' := 3) (lv' := [(0, .ref _), (1, .int _), (2, .int _)]) (st' := [.int _, .int _, .ref _]) rfl ?_
  refine ev_cV DX7_sendTone_0 3 (m_X7_accentAt h) vX7_accentAt rfl qX7_68 rfl h rfl (hd_of rfl rfl rfl rfl) ?_
  refine ev_ss DX7_sendTone_0 2 4 (pc' := 8) (lv' := [(3, .int _), (0, .ref _), (1, .int _), (2, .int _)]) (st' := [.ref _]) rfl ?_
  refine ev_get DX7_sendTone_0 6 GX7 rfl (k0 := 0) (Nat.le_of_ble_eq_true rfl) fX7_7 h rfl ?_
  refine ev_ss DX7_sendTone_0 3 7 (pc' := 14) (lv' := [(3, .int _), (0, .ref _), (1, .int _), (2, .int _)]) (st' := [.int _, .ref _]) rfl ?_
  refine ev_ialdv DX7_sendTone_0 10 (k0 := (acA a t + 3)) rfl hz (nx_add (a := acA a t) (b := 3) rfl rfl) (by omega) (by decide) (h10) ?_
  refine ev_ss DX7_sendTone_0 5 11 (pc' := 23) (lv' := [(6, .int 0), (5, .int 0), (4, .int _), (3, .int _), (0, .ref _), (1, .int _), (2, .int _)]) (st' := []) rfl ?_
  refine ev_lvp (lv2 := [(0, .ref _), (1, .int _), (2, .int _), (3, .int _), (4, .int _), (5, .int _), (6, .int _)]) [4, 5, 6, 3, 2, 1, 0] rfl ?_
  refine st_take (p := p) ha hn h (fun w1 z1 x1 hz1 hg1 hO1 => ?_) n 0 _ 0 ws z (pW p a).2.1 (Nat.zero_add n) nI_0.symm hz (by rw [pBits_id]; exact hG) rfl NZ.rf
  have hg2 : ZG z1 (pTone (pTak p a n) a t ((pW p a).1 t)) := by rw [← pTak_1 (n := n), pT_id]; exact hg1
  refine st_B (q := pTak p a n) ((hO1 214 (by decide)).trans h) hz1 ((hO1 218 (by decide)).trans hl) ha ht hn hg2 hb hg hm takeQ_0 hD hX (fun w2 z2 c1 c2 c3 c4 => ⟨rfl, ⟨z2, c1, ?_⟩, c3, fun j b c => (c4 j b c).trans (hO1 j b)⟩)
  rw [pTak_2] at c2
  exact c2
