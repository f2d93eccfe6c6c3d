theorem upd_add0 {g : TF} {k : Nat} {x : Int32} (h : x = g k) : upd g k (x + 0) = g := by
  funext j
  unfold upd
  split
  · rename_i e; rw [h, Int32.add_zero, e]
  · rfl
theorem sgc_00 {g : TF} : upd (upd (upd g (7 + 7) (g 14 + 0)) (7 + 8) (g 15 + 0)) (7 + 5) (g 12 + 0) = g := by
  rw [show upd g (7 + 7) (g 14 + 0) = g from upd_add0 rfl, show upd g (7 + 8) (g 15 + 0) = g from upd_add0 rfl]
  exact upd_add0 rfl
theorem sgc_10 {g : TF} : upd (upd (upd g (7 + 7) (g 14 + 1)) (7 + 8) (g 15 + 0)) (7 + 5) (g 12 + 0) = upd g 14 (g 14 + 1) := by
  rw [show upd (upd g (7 + 7) (g 14 + 1)) (7 + 8) (g 15 + 0) = upd g 14 (g 14 + 1) from upd_add0 rfl]
  exact upd_add0 rfl
theorem sgc_01 {g : TF} : upd (upd (upd g (7 + 7) (g 14 + 0)) (7 + 8) (g 15 + 1)) (7 + 5) (g 12 + 1) = upd (upd g 15 (g 15 + 1)) 12 (g 12 + 1) := by
  rw [show upd g (7 + 7) (g 14 + 0) = g from upd_add0 rfl]
theorem amQ_P {n : Nat} {v : Int32} (hn : n ≤ 4) (h0 : n = 0 → v = 0) : amQ (nI n) v = ampP (nI n) v := by
  unfold amQ
  by_cases e : n = 0
  · rw [h0 e]
    subst e
    decide
  · rw [if_neg (nI_ne0 (by omega) (by omega))]
theorem pT_rest2 {q : PS} {v : Int32} {a t : Nat} {f : TF} (ha : a < 2) : (pW (pTone (v, q.2) a t f) a).2 = (pW q a).2 := pT_rest (p := (v, q.2)) ha ha
theorem dec_n0 {f : TF} {r : Int32} (h : f 10 = nI 0) : decP f r = 0 := by
  rw [decP_L, h, ← dec_0]
  rfl
set_option maxRecDepth 100000 in
set_option maxHeartbeats 4000000 in
theorem st_B {E : gE} {ad : Nat → Nat} {ws : va_W} {sm bm tw ea iw : Int32} {hh : Int64} {z : Nat → Int32} (h : ws[214]? = some (ad 214, moC ad sm bm tw ea iw hh)) (hz : ws[215]? = some (ad 215, iaC E 811 z)) {l : Nat → Int64} (hl : ws[218]? = some (ad 218, laC E 2 l)) {Pr : Option Value → va_W → Prop} {q : PS} {a t n : Nat} {f : TF} {sg : Int32} (ha : a < 2) (ht : t < 8) (hn : n ≤ 4) (hG : ZG z (pTone q a t f)) (hb : f 10 = nI n) (hg : ¬ f 7 ≤ 0) (hm : TN f) (h0 : n = 0 → sg = 0) (hD : DR f (arrP f (ampP (f 10) sg) (drwN q.1 f))) (hX : ∃ k, k < 16 ∧ sg ^^^ (decP f (arrP f (ampP (f 10) sg) (drwN q.1 f))) = nI k) (hP : ∀ (w : va_W) (z3 : Nat → Int32), w[215]? = some (ad 215, iaC E 811 z3) → ZG z3 (pCnt (pTone (drwS q.1, q.2) a t (cntB (passP f (ampP (f 10) sg) (ampP (f 10) (decP f (arrP f (ampP (f 10) sg) (drwN q.1 f))))) (bcP (sg ^^^ (decP f (arrP f (ampP (f 10) sg) (drwN q.1 f))))))) a ((pW q a).2.2.2.1 + f 10) ((pW q a).2.2.2.2 + (bcP (sg ^^^ (decP f (arrP f (ampP (f 10) sg) (drwN q.1 f))))))) → w[218]? = some (ad 218, laC E 2 (vp_updL l a (recL (l a) (f 10) (decP f (arrP f (ampP (f 10) sg) (drwN q.1 f)))))) → (∀ j, j ≠ 215 → j ≠ 218 → w[j]? = ws[j]?) → Pr (some (.int (bcP (sg ^^^ (decP f (arrP f (ampP (f 10) sg) (drwN q.1 f))))))) w) : Ev E YX7_sendTone Pr nX 0 0 48 [(0, .ref (ad 214)), (1, .int (nI a)), (2, .int (nI t)), (3, .int (nI (acA a t))), (4, .int (nI n)), (5, .int sg)] [] ws := by
  have hc1 : 112 ≤ acA a t := by unfold acA; omega
  have hc2 : acA a t + 11 ≤ 288 := by unfold acA; omega
  obtain ⟨A, eA⟩ : ∃ A, A = ampP (f 10) sg := ⟨_, rfl⟩
  obtain ⟨H, eH⟩ : ∃ H, H = (decP f (arrP f (ampP (f 10) sg) (drwN q.1 f))) := ⟨_, rfl⟩
  obtain ⟨B, eB⟩ : ∃ B, B = ampP (f 10) H := ⟨_, rfl⟩
  rw [← eH, ← eA] at hP
  rw [← eH] at hX
  rw [← eA] at hD eH
  have eW : onQ (sg ^^^ H) = bcP (sg ^^^ H) := by obtain ⟨k, hk, e⟩ := hX; rw [e]; exact on_bc k hk
  obtain ⟨W, eWW⟩ : ∃ W, W = bcP (sg ^^^ H) := ⟨_, rfl⟩
  rw [← eWW] at hP eW
  rw [← eB] at hP
  have a1 : amQ (nI n) sg = A := by rw [amQ_P hn h0, eA, hb]
  have a2 : amQ (nI n) H = B := by rw [amQ_P hn (fun e => by rw [eH]; exact dec_n0 (by rw [hb, e])), eB, hb]
  have hne : ∀ x : Int32, cntB (passP f A B) x = if x ≤ 0 then cntP (passP f A B) 0 else cntP (passP f A B) 1 := fun x => rfl
  by_cases q1 : nI n ≤ 0
  · have e10 : f 10 ≤ 0 := by rw [hb]; exact q1
    by_cases q2 : W ≤ 0
    · refine ev_ss DX7_sendTone_0 5 29 (pc' := 55) (lv' := [(0, .ref _), (1, .int _), (2, .int _), (3, .int _), (4, .int _), (5, .int _)]) (st' := [.int _, .int _, .int _, .int _, .ref _]) rfl ?_
      refine ev_cS DX7_sendTone_0 34 m_X7_amplitude vX7_amplitude rfl qX7_117 rfl (hd_of rfl rfl rfl rfl) ?_
      rw [a1]
      refine ev_rV DX7_sendTone_0 35 (m_X7_hearG h hz (amp := A) ha ht hG hm) vX7_hear rfl qX7_84 rfl h rfl (hd_of rfl rfl rfl rfl) (fun v w hvw => ?_)
      obtain ⟨rfl, z2, rfl, hG2⟩ := hvw
      have hac2 : ∀ j, j < 11 → z2 (acA a t + j) = upd (upd (upd f 4 0) 6 (f 5)) 5 A (7 + j) := fun j hj => by rw [hG2.2.1 a t j ha ht hj, pT_same]
      have hcm : z2 (802 + a) = (pW q a).2.2.2.1 := (hG2.2.2.2.1 a ha).2.2.1.trans (congrArg (fun x : List Int32 × Int64 × Int32 × Int32 => x.2.2.1) (pT_rest2 ha))
      have hwr : z2 (804 + a) = (pW q a).2.2.2.2 := (hG2.2.2.2.1 a ha).2.2.2.trans (congrArg (fun x : List Int32 × Int64 × Int32 × Int32 => x.2.2.2) (pT_rest2 ha))
      refine ev_ss DX7_sendTone_0 5 36 (pc' := 68) (lv' := [(6, .int _), (0, .ref _), (1, .int _), (2, .int _), (3, .int _), (4, .int _), (5, .int _)]) (st' := [.int _, .int _, .int _, .ref _]) rfl ?_
      refine ev_cV DX7_sendTone_0 41 (m_X7_decide (f := upd (upd (upd f 4 0) 6 (f 5)) 5 A) (wset_o h hz rfl) (wset_get hz) ha ht hG2 hn hb hg hD) vX7_decide rfl qX7_123 rfl (wset_o h hz rfl) rfl (hd_of rfl rfl rfl rfl) ?_
      rw [show decP (upd (upd (upd f 4 0) 6 (f 5)) 5 A) (arrP f A (drwN q.1 f)) = H from eH.symm]
      refine ev_ss DX7_sendTone_0 4 42 (pc' := 78) (lv' := [(7, .int _), (6, .int _), (0, .ref _), (1, .int _), (2, .int _), (3, .int _), (4, .int _), (5, .int _)]) (st' := [.int _]) rfl ?_
      refine ev_cS DX7_sendTone_0 46 m_X7_ones vX7_ones rfl qX7_126 rfl (hd_of rfl rfl rfl rfl) ?_
      rw [eW]
      refine ev_ss DX7_sendTone_0 2 47 (pc' := 84) (lv' := [(8, .int _), (7, .int _), (6, .int _), (0, .ref _), (1, .int _), (2, .int _), (3, .int _), (4, .int _), (5, .int _)]) (st' := [.ref _]) rfl ?_
      refine ev_get DX7_sendTone_0 49 GX7 rfl (k0 := 0) (Nat.le_of_ble_eq_true rfl) fX7_7 (wset_o h hz rfl) rfl ?_
      refine ev_ss DX7_sendTone_0 4 50 (pc' := 92) (lv' := [(8, .int _), (7, .int _), (6, .int _), (0, .ref _), (1, .int _), (2, .int _), (3, .int _), (4, .int _), (5, .int _)]) (st' := [.ref _, .int _, .ref _]) rfl ?_
      refine ev_get DX7_sendTone_0 54 GX7 rfl (k0 := 0) (Nat.le_of_ble_eq_true rfl) fX7_7 (wset_o h hz rfl) rfl ?_
      refine ev_ss DX7_sendTone_0 3 55 (pc' := 99) (lv' := [(8, .int _), (7, .int _), (6, .int _), (0, .ref _), (1, .int _), (2, .int _), (3, .int _), (4, .int _), (5, .int _)]) (st' := [.int _, .ref _, .int _, .ref _]) rfl ?_
      refine ev_ialdv DX7_sendTone_0 58 (k0 := (acA a t + 9)) rfl (wset_get hz) (nx_add (a := acA a t) (b := 9) rfl rfl) (by omega) (by decide) ((hac2 9 (by decide))) ?_
      refine ev_iastv DX7_sendTone_0 59 (k0 := (acA a t + 10)) rfl (wset_get hz) (nx_add (a := acA a t) (b := 10) rfl rfl) (by omega) (by decide) wset_set ?_
      refine ev_ss DX7_sendTone_0 1 60 (pc' := 102) (lv' := [(8, .int _), (7, .int _), (6, .int _), (0, .ref _), (1, .int _), (2, .int _), (3, .int _), (4, .int _), (5, .int _)]) (st' := [.ref _]) rfl ?_
      refine ev_get DX7_sendTone_0 61 GX7 rfl (k0 := 0) (Nat.le_of_ble_eq_true rfl) fX7_7 (wset_o h hz rfl) rfl ?_
      refine ev_ss DX7_sendTone_0 5 62 (pc' := 113) (lv' := [(8, .int _), (7, .int _), (6, .int _), (0, .ref _), (1, .int _), (2, .int _), (3, .int _), (4, .int _), (5, .int _)]) (st' := [.int _, .int _, .int _, .ref _]) rfl ?_
      refine ev_cS DX7_sendTone_0 67 m_X7_amplitude vX7_amplitude rfl qX7_117 rfl (hd_of rfl rfl rfl rfl) ?_
      rw [a2]
      refine ev_iastv DX7_sendTone_0 68 (k0 := (acA a t + 9)) rfl (wset_get hz) (nx_add (a := acA a t) (b := 9) rfl rfl) (by omega) (by decide) wset_set ?_
      refine ev_ss DX7_sendTone_0 1 69 (pc' := 118) (lv' := [(8, .int _), (7, .int _), (6, .int _), (0, .ref _), (1, .int _), (2, .int _), (3, .int _), (4, .int _), (5, .int _)]) (st' := [.ref _]) rfl ?_
      refine ev_get DX7_sendTone_0 70 GX7 rfl (k0 := 0) (Nat.le_of_ble_eq_true rfl) fX7_7 (wset_o h hz rfl) rfl ?_
      refine ev_ss DX7_sendTone_0 4 71 (pc' := 126) (lv' := [(8, .int _), (7, .int _), (6, .int _), (0, .ref _), (1, .int _), (2, .int _), (3, .int _), (4, .int _), (5, .int _)]) (st' := [.int _, .ref _, .int _, .ref _]) rfl ?_
      refine ev_ialdv DX7_sendTone_0 75 (k0 := (acA a t + 7)) rfl (wset_get hz) (nx_add (a := acA a t) (b := 7) rfl rfl) (by omega) (by decide) ((upd_ne (by omega)).trans ((upd_ne (by omega)).trans ((hac2 7 (by decide))))) ?_
      refine ev_ss DX7_sendTone_0 1 76 (pc' := 129) (lv' := [(8, .int _), (7, .int _), (6, .int _), (0, .ref _), (1, .int _), (2, .int _), (3, .int _), (4, .int _), (5, .int _)]) (st' := [.int _, .int _, .int _, .ref _]) rfl ?_
      refine ev_ifle DX7_sendTone_0 77 rfl (tgt := 136) (by decide) (fun _ => ?_) (fun h => h.elim q1)
      refine ev_ss DX7_sendTone_0 2 80 (pc' := 138) (lv' := [(8, .int _), (7, .int _), (6, .int _), (0, .ref _), (1, .int _), (2, .int _), (3, .int _), (4, .int _), (5, .int _)]) (st' := [.int _, .int _, .ref _]) rfl ?_
      refine ev_iastv DX7_sendTone_0 82 (k0 := (acA a t + 7)) rfl (wset_get hz) (nx_add (a := acA a t) (b := 7) rfl rfl) (by omega) (by decide) wset_set ?_
      refine ev_ss DX7_sendTone_0 1 83 (pc' := 140) (lv' := [(8, .int _), (7, .int _), (6, .int _), (0, .ref _), (1, .int _), (2, .int _), (3, .int _), (4, .int _), (5, .int _)]) (st' := [.ref _]) rfl ?_
      refine ev_get DX7_sendTone_0 84 GX7 rfl (k0 := 0) (Nat.le_of_ble_eq_true rfl) fX7_7 (wset_o h hz rfl) rfl ?_
      refine ev_ss DX7_sendTone_0 4 85 (pc' := 148) (lv' := [(8, .int _), (7, .int _), (6, .int _), (0, .ref _), (1, .int _), (2, .int _), (3, .int _), (4, .int _), (5, .int _)]) (st' := [.int _, .ref _, .int _, .ref _]) rfl ?_
      refine ev_ialdv DX7_sendTone_0 89 (k0 := (acA a t + 8)) rfl (wset_get hz) (nx_add (a := acA a t) (b := 8) rfl rfl) (by omega) (by decide) ((upd_ne (by omega)).trans ((upd_ne (by omega)).trans ((upd_ne (by omega)).trans ((hac2 8 (by decide)))))) ?_
      refine ev_ss DX7_sendTone_0 1 90 (pc' := 151) (lv' := [(8, .int _), (7, .int _), (6, .int _), (0, .ref _), (1, .int _), (2, .int _), (3, .int _), (4, .int _), (5, .int _)]) (st' := [.int _, .int _, .int _, .ref _]) rfl ?_
      refine ev_ifle DX7_sendTone_0 91 rfl (tgt := 158) (by decide) (fun _ => ?_) (fun h => h.elim q2)
      refine ev_ss DX7_sendTone_0 2 94 (pc' := 160) (lv' := [(8, .int _), (7, .int _), (6, .int _), (0, .ref _), (1, .int _), (2, .int _), (3, .int _), (4, .int _), (5, .int _)]) (st' := [.int _, .int _, .ref _]) rfl ?_
      refine ev_iastv DX7_sendTone_0 96 (k0 := (acA a t + 8)) rfl (wset_get hz) (nx_add (a := acA a t) (b := 8) rfl rfl) (by omega) (by decide) wset_set ?_
      refine ev_ss DX7_sendTone_0 1 97 (pc' := 162) (lv' := [(8, .int _), (7, .int _), (6, .int _), (0, .ref _), (1, .int _), (2, .int _), (3, .int _), (4, .int _), (5, .int _)]) (st' := [.ref _]) rfl ?_
      refine ev_get DX7_sendTone_0 98 GX7 rfl (k0 := 0) (Nat.le_of_ble_eq_true rfl) fX7_7 (wset_o h hz rfl) rfl ?_
      refine ev_ss DX7_sendTone_0 4 99 (pc' := 169) (lv' := [(8, .int _), (7, .int _), (6, .int _), (0, .ref _), (1, .int _), (2, .int _), (3, .int _), (4, .int _), (5, .int _)]) (st' := [.int _, .ref _, .int _, .ref _]) rfl ?_
      refine ev_ialdv DX7_sendTone_0 103 (k0 := (acA a t + 5)) rfl (wset_get hz) (nx_add (a := acA a t) (b := 5) rfl rfl) (by omega) (by decide) ((upd_ne (by omega)).trans ((upd_ne (by omega)).trans ((upd_ne (by omega)).trans ((upd_ne (by omega)).trans ((hac2 5 (by decide))))))) ?_
      refine ev_ss DX7_sendTone_0 1 104 (pc' := 172) (lv' := [(8, .int _), (7, .int _), (6, .int _), (0, .ref _), (1, .int _), (2, .int _), (3, .int _), (4, .int _), (5, .int _)]) (st' := [.int _, .int _, .int _, .ref _]) rfl ?_
      refine ev_ifle DX7_sendTone_0 105 rfl (tgt := 179) (by decide) (fun _ => ?_) (fun h => h.elim q2)
      refine ev_ss DX7_sendTone_0 2 108 (pc' := 181) (lv' := [(8, .int _), (7, .int _), (6, .int _), (0, .ref _), (1, .int _), (2, .int _), (3, .int _), (4, .int _), (5, .int _)]) (st' := [.int _, .int _, .ref _]) rfl ?_
      refine ev_iastv DX7_sendTone_0 110 (k0 := (acA a t + 5)) rfl (wset_get hz) (nx_add (a := acA a t) (b := 5) rfl rfl) (by omega) (by decide) wset_set ?_
      refine ev_ss DX7_sendTone_0 1 111 (pc' := 183) (lv' := [(8, .int _), (7, .int _), (6, .int _), (0, .ref _), (1, .int _), (2, .int _), (3, .int _), (4, .int _), (5, .int _)]) (st' := [.ref _]) rfl ?_
      refine ev_get DX7_sendTone_0 112 GX7 rfl (k0 := 0) (Nat.le_of_ble_eq_true rfl) fX7_7 (wset_o h hz rfl) rfl ?_
      refine ev_ss DX7_sendTone_0 4 113 (pc' := 192) (lv' := [(8, .int _), (7, .int _), (6, .int _), (0, .ref _), (1, .int _), (2, .int _), (3, .int _), (4, .int _), (5, .int _)]) (st' := [.int _, .ref _, .int _, .ref _]) rfl ?_
      refine ev_ialdv DX7_sendTone_0 117 (k0 := (802 + a)) rfl (wset_get hz) (nx_add (a := 802) (b := a) rfl rfl) (by omega) (by decide) ((upd_ne (by omega)).trans ((upd_ne (by omega)).trans ((upd_ne (by omega)).trans ((upd_ne (by omega)).trans ((upd_ne (by omega)).trans (hcm)))))) ?_
      refine ev_ss DX7_sendTone_0 2 118 (pc' := 196) (lv' := [(8, .int _), (7, .int _), (6, .int _), (0, .ref _), (1, .int _), (2, .int _), (3, .int _), (4, .int _), (5, .int _)]) (st' := [.int _, .int _, .ref _]) rfl ?_
      refine ev_iastv DX7_sendTone_1 0 (k0 := (802 + a)) rfl (wset_get hz) (nx_add (a := 802) (b := a) rfl rfl) (by omega) (by decide) wset_set ?_
      refine ev_ss DX7_sendTone_1 1 1 (pc' := 198) (lv' := [(8, .int _), (7, .int _), (6, .int _), (0, .ref _), (1, .int _), (2, .int _), (3, .int _), (4, .int _), (5, .int _)]) (st' := [.ref _]) rfl ?_
      refine ev_get DX7_sendTone_1 2 GX7 rfl (k0 := 0) (Nat.le_of_ble_eq_true rfl) fX7_7 (wset_o h hz rfl) rfl ?_
      refine ev_ss DX7_sendTone_1 4 3 (pc' := 207) (lv' := [(8, .int _), (7, .int _), (6, .int _), (0, .ref _), (1, .int _), (2, .int _), (3, .int _), (4, .int _), (5, .int _)]) (st' := [.int _, .ref _, .int _, .ref _]) rfl ?_
      refine ev_ialdv DX7_sendTone_1 7 (k0 := (804 + a)) rfl (wset_get hz) (nx_add (a := 804) (b := a) rfl rfl) (by omega) (by decide) ((upd_ne (by omega)).trans ((upd_ne (by omega)).trans ((upd_ne (by omega)).trans ((upd_ne (by omega)).trans ((upd_ne (by omega)).trans ((upd_ne (by omega)).trans (hwr))))))) ?_
      refine ev_ss DX7_sendTone_1 2 8 (pc' := 211) (lv' := [(8, .int _), (7, .int _), (6, .int _), (0, .ref _), (1, .int _), (2, .int _), (3, .int _), (4, .int _), (5, .int _)]) (st' := [.int _, .int _, .ref _]) rfl ?_
      refine ev_iastv DX7_sendTone_1 10 (k0 := (804 + a)) rfl (wset_get hz) (nx_add (a := 804) (b := a) rfl rfl) (by omega) (by decide) wset_set ?_
      refine ev_ss DX7_sendTone_1 1 11 (pc' := 213) (lv' := [(8, .int _), (7, .int _), (6, .int _), (0, .ref _), (1, .int _), (2, .int _), (3, .int _), (4, .int _), (5, .int _)]) (st' := [.ref _]) rfl ?_
      refine ev_get DX7_sendTone_1 12 GX7 rfl (k0 := 3) (Nat.le_of_ble_eq_true rfl) fX7_19 (wset_o h hz rfl) rfl ?_
      refine ev_ss DX7_sendTone_1 2 13 (pc' := 218) (lv' := [(8, .int _), (7, .int _), (6, .int _), (0, .ref _), (1, .int _), (2, .int _), (3, .int _), (4, .int _), (5, .int _)]) (st' := [.ref _, .int _, .ref _]) rfl ?_
      refine ev_get DX7_sendTone_1 15 GX7 rfl (k0 := 3) (Nat.le_of_ble_eq_true rfl) fX7_19 (wset_o h hz rfl) rfl ?_
      refine ev_ss DX7_sendTone_1 1 16 (pc' := 222) (lv' := [(8, .int _), (7, .int _), (6, .int _), (0, .ref _), (1, .int _), (2, .int _), (3, .int _), (4, .int _), (5, .int _)]) (st' := [.int _, .ref _, .int _, .ref _]) rfl ?_
      refine ev_laldv DX7_sendTone_1 17 (k0 := a) rfl (wset_o hl hz rfl) rfl (by omega) (by decide) (rfl) ?_
      refine ev_ss DX7_sendTone_1 5 18 (pc' := 230) (lv' := [(8, .int _), (7, .int _), (6, .int _), (0, .ref _), (1, .int _), (2, .int _), (3, .int _), (4, .int _), (5, .int _)]) (st' := [.long _, .int _, .ref _]) rfl ?_
      refine ev_ldc2 DX7_sendTone_1 23 rfl kX7_129 ?_
      refine ev_ss DX7_sendTone_1 1 24 (pc' := 234) (lv' := [(8, .int _), (7, .int _), (6, .int _), (0, .ref _), (1, .int _), (2, .int _), (3, .int _), (4, .int _), (5, .int _)]) (st' := [.long _, .int _, .ref _]) rfl ?_
      refine ev_lastv DX7_sendTone_1 25 (k0 := a) rfl (wset_o hl hz rfl) rfl (by omega) (by decide) rfl ?_
      refine ev_ss DX7_sendTone_1 1 26 (pc' := 237) (lv' := [(8, .int _), (7, .int _), (6, .int _), (0, .ref _), (1, .int _), (2, .int _), (3, .int _), (4, .int _), (5, .int _)]) (st' := [.int _]) rfl ?_
      exact ev_iret DX7_sendTone_1 27 rfl rfl (hP _ _ (wset_n (wset_get hz) (by decide)) (by rw [hne W, show (if W ≤ 0 then cntP (passP f A B) 0 else cntP (passP f A B) 1) = upd (upd (upd (passP f A B) (7 + 7) ((passP f A B) 14 + 0)) (7 + 8) ((passP f A B) 15 + 0)) (7 + 5) ((passP f A B) 12 + 0) from ((if_pos q2).trans ((if_pos e10).trans (if_pos rfl))).trans sgc_00.symm, hb]; exact (((((hG2.ac ha ht (j := 10) (by decide)).ac ha ht (j := 9) (by decide)).ac ha ht (j := 7) (by decide)).ac ha ht (j := 8) (by decide)).ac ha ht (j := 5) (by decide)).cnt ha) (by rw [hb]; exact wset_get (wset_n hl (by decide))) (fun j b c => by rw [List.getElem?_set_ne (Ne.symm c), List.getElem?_set_ne (Ne.symm b)]))
    · refine ev_ss DX7_sendTone_0 5 29 (pc' := 55) (lv' := [(0, .ref _), (1, .int _), (2, .int _), (3, .int _), (4, .int _), (5, .int _)]) (st' := [.int _, .int _, .int _, .int _, .ref _]) rfl ?_
      refine ev_cS DX7_sendTone_0 34 m_X7_amplitude vX7_amplitude rfl qX7_117 rfl (hd_of rfl rfl rfl rfl) ?_
      rw [a1]
      refine ev_rV DX7_sendTone_0 35 (m_X7_hearG h hz (amp := A) ha ht hG hm) vX7_hear rfl qX7_84 rfl h rfl (hd_of rfl rfl rfl rfl) (fun v w hvw => ?_)
      obtain ⟨rfl, z2, rfl, hG2⟩ := hvw
      have hac2 : ∀ j, j < 11 → z2 (acA a t + j) = upd (upd (upd f 4 0) 6 (f 5)) 5 A (7 + j) := fun j hj => by rw [hG2.2.1 a t j ha ht hj, pT_same]
      have hcm : z2 (802 + a) = (pW q a).2.2.2.1 := (hG2.2.2.2.1 a ha).2.2.1.trans (congrArg (fun x : List Int32 × Int64 × Int32 × Int32 => x.2.2.1) (pT_rest2 ha))
      have hwr : z2 (804 + a) = (pW q a).2.2.2.2 := (hG2.2.2.2.1 a ha).2.2.2.trans (congrArg (fun x : List Int32 × Int64 × Int32 × Int32 => x.2.2.2) (pT_rest2 ha))
      refine ev_ss DX7_sendTone_0 5 36 (pc' := 68) (lv' := [(6, .int _), (0, .ref _), (1, .int _), (2, .int _), (3, .int _), (4, .int _), (5, .int _)]) (st' := [.int _, .int _, .int _, .ref _]) rfl ?_
      refine ev_cV DX7_sendTone_0 41 (m_X7_decide (f := upd (upd (upd f 4 0) 6 (f 5)) 5 A) (wset_o h hz rfl) (wset_get hz) ha ht hG2 hn hb hg hD) vX7_decide rfl qX7_123 rfl (wset_o h hz rfl) rfl (hd_of rfl rfl rfl rfl) ?_
      rw [show decP (upd (upd (upd f 4 0) 6 (f 5)) 5 A) (arrP f A (drwN q.1 f)) = H from eH.symm]
      refine ev_ss DX7_sendTone_0 4 42 (pc' := 78) (lv' := [(7, .int _), (6, .int _), (0, .ref _), (1, .int _), (2, .int _), (3, .int _), (4, .int _), (5, .int _)]) (st' := [.int _]) rfl ?_
      refine ev_cS DX7_sendTone_0 46 m_X7_ones vX7_ones rfl qX7_126 rfl (hd_of rfl rfl rfl rfl) ?_
      rw [eW]
      refine ev_ss DX7_sendTone_0 2 47 (pc' := 84) (lv' := [(8, .int _), (7, .int _), (6, .int _), (0, .ref _), (1, .int _), (2, .int _), (3, .int _), (4, .int _), (5, .int _)]) (st' := [.ref _]) rfl ?_
      refine ev_get DX7_sendTone_0 49 GX7 rfl (k0 := 0) (Nat.le_of_ble_eq_true rfl) fX7_7 (wset_o h hz rfl) rfl ?_
      refine ev_ss DX7_sendTone_0 4 50 (pc' := 92) (lv' := [(8, .int _), (7, .int _), (6, .int _), (0, .ref _), (1, .int _), (2, .int _), (3, .int _), (4, .int _), (5, .int _)]) (st' := [.ref _, .int _, .ref _]) rfl ?_
      refine ev_get DX7_sendTone_0 54 GX7 rfl (k0 := 0) (Nat.le_of_ble_eq_true rfl) fX7_7 (wset_o h hz rfl) rfl ?_
      refine ev_ss DX7_sendTone_0 3 55 (pc' := 99) (lv' := [(8, .int _), (7, .int _), (6, .int _), (0, .ref _), (1, .int _), (2, .int _), (3, .int _), (4, .int _), (5, .int _)]) (st' := [.int _, .ref _, .int _, .ref _]) rfl ?_
      refine ev_ialdv DX7_sendTone_0 58 (k0 := (acA a t + 9)) rfl (wset_get hz) (nx_add (a := acA a t) (b := 9) rfl rfl) (by omega) (by decide) ((hac2 9 (by decide))) ?_
      refine ev_iastv DX7_sendTone_0 59 (k0 := (acA a t + 10)) rfl (wset_get hz) (nx_add (a := acA a t) (b := 10) rfl rfl) (by omega) (by decide) wset_set ?_
      refine ev_ss DX7_sendTone_0 1 60 (pc' := 102) (lv' := [(8, .int _), (7, .int _), (6, .int _), (0, .ref _), (1, .int _), (2, .int _), (3, .int _), (4, .int _), (5, .int _)]) (st' := [.ref _]) rfl ?_
      refine ev_get DX7_sendTone_0 61 GX7 rfl (k0 := 0) (Nat.le_of_ble_eq_true rfl) fX7_7 (wset_o h hz rfl) rfl ?_
      refine ev_ss DX7_sendTone_0 5 62 (pc' := 113) (lv' := [(8, .int _), (7, .int _), (6, .int _), (0, .ref _), (1, .int _), (2, .int _), (3, .int _), (4, .int _), (5, .int _)]) (st' := [.int _, .int _, .int _, .ref _]) rfl ?_
      refine ev_cS DX7_sendTone_0 67 m_X7_amplitude vX7_amplitude rfl qX7_117 rfl (hd_of rfl rfl rfl rfl) ?_
      rw [a2]
      refine ev_iastv DX7_sendTone_0 68 (k0 := (acA a t + 9)) rfl (wset_get hz) (nx_add (a := acA a t) (b := 9) rfl rfl) (by omega) (by decide) wset_set ?_
      refine ev_ss DX7_sendTone_0 1 69 (pc' := 118) (lv' := [(8, .int _), (7, .int _), (6, .int _), (0, .ref _), (1, .int _), (2, .int _), (3, .int _), (4, .int _), (5, .int _)]) (st' := [.ref _]) rfl ?_
      refine ev_get DX7_sendTone_0 70 GX7 rfl (k0 := 0) (Nat.le_of_ble_eq_true rfl) fX7_7 (wset_o h hz rfl) rfl ?_
      refine ev_ss DX7_sendTone_0 4 71 (pc' := 126) (lv' := [(8, .int _), (7, .int _), (6, .int _), (0, .ref _), (1, .int _), (2, .int _), (3, .int _), (4, .int _), (5, .int _)]) (st' := [.int _, .ref _, .int _, .ref _]) rfl ?_
      refine ev_ialdv DX7_sendTone_0 75 (k0 := (acA a t + 7)) rfl (wset_get hz) (nx_add (a := acA a t) (b := 7) rfl rfl) (by omega) (by decide) ((upd_ne (by omega)).trans ((upd_ne (by omega)).trans ((hac2 7 (by decide))))) ?_
      refine ev_ss DX7_sendTone_0 1 76 (pc' := 129) (lv' := [(8, .int _), (7, .int _), (6, .int _), (0, .ref _), (1, .int _), (2, .int _), (3, .int _), (4, .int _), (5, .int _)]) (st' := [.int _, .int _, .int _, .ref _]) rfl ?_
      refine ev_ifle DX7_sendTone_0 77 rfl (tgt := 136) (by decide) (fun _ => ?_) (fun h => h.elim q1)
      refine ev_ss DX7_sendTone_0 2 80 (pc' := 138) (lv' := [(8, .int _), (7, .int _), (6, .int _), (0, .ref _), (1, .int _), (2, .int _), (3, .int _), (4, .int _), (5, .int _)]) (st' := [.int _, .int _, .ref _]) rfl ?_
      refine ev_iastv DX7_sendTone_0 82 (k0 := (acA a t + 7)) rfl (wset_get hz) (nx_add (a := acA a t) (b := 7) rfl rfl) (by omega) (by decide) wset_set ?_
      refine ev_ss DX7_sendTone_0 1 83 (pc' := 140) (lv' := [(8, .int _), (7, .int _), (6, .int _), (0, .ref _), (1, .int _), (2, .int _), (3, .int _), (4, .int _), (5, .int _)]) (st' := [.ref _]) rfl ?_
      refine ev_get DX7_sendTone_0 84 GX7 rfl (k0 := 0) (Nat.le_of_ble_eq_true rfl) fX7_7 (wset_o h hz rfl) rfl ?_
      refine ev_ss DX7_sendTone_0 4 85 (pc' := 148) (lv' := [(8, .int _), (7, .int _), (6, .int _), (0, .ref _), (1, .int _), (2, .int _), (3, .int _), (4, .int _), (5, .int _)]) (st' := [.int _, .ref _, .int _, .ref _]) rfl ?_
      refine ev_ialdv DX7_sendTone_0 89 (k0 := (acA a t + 8)) rfl (wset_get hz) (nx_add (a := acA a t) (b := 8) rfl rfl) (by omega) (by decide) ((upd_ne (by omega)).trans ((upd_ne (by omega)).trans ((upd_ne (by omega)).trans ((hac2 8 (by decide)))))) ?_
      refine ev_ss DX7_sendTone_0 1 90 (pc' := 151) (lv' := [(8, .int _), (7, .int _), (6, .int _), (0, .ref _), (1, .int _), (2, .int _), (3, .int _), (4, .int _), (5, .int _)]) (st' := [.int _, .int _, .int _, .ref _]) rfl ?_
      refine ev_ifle DX7_sendTone_0 91 rfl (tgt := 158) (by decide) (fun h => absurd h q2) (fun _ => ?_)
      refine ev_ss DX7_sendTone_0 1 92 (pc' := 155) (lv' := [(8, .int _), (7, .int _), (6, .int _), (0, .ref _), (1, .int _), (2, .int _), (3, .int _), (4, .int _), (5, .int _)]) (st' := [.int 1, .int _, .int _, .ref _]) rfl ?_
      refine ev_goto DX7_sendTone_0 93 rfl (tgt := 159) (by decide) ?_
      refine ev_ss DX7_sendTone_0 1 95 (pc' := 160) (lv' := [(8, .int _), (7, .int _), (6, .int _), (0, .ref _), (1, .int _), (2, .int _), (3, .int _), (4, .int _), (5, .int _)]) (st' := [.int _, .int _, .ref _]) rfl ?_
      refine ev_iastv DX7_sendTone_0 96 (k0 := (acA a t + 8)) rfl (wset_get hz) (nx_add (a := acA a t) (b := 8) rfl rfl) (by omega) (by decide) wset_set ?_
      refine ev_ss DX7_sendTone_0 1 97 (pc' := 162) (lv' := [(8, .int _), (7, .int _), (6, .int _), (0, .ref _), (1, .int _), (2, .int _), (3, .int _), (4, .int _), (5, .int _)]) (st' := [.ref _]) rfl ?_
      refine ev_get DX7_sendTone_0 98 GX7 rfl (k0 := 0) (Nat.le_of_ble_eq_true rfl) fX7_7 (wset_o h hz rfl) rfl ?_
      refine ev_ss DX7_sendTone_0 4 99 (pc' := 169) (lv' := [(8, .int _), (7, .int _), (6, .int _), (0, .ref _), (1, .int _), (2, .int _), (3, .int _), (4, .int _), (5, .int _)]) (st' := [.int _, .ref _, .int _, .ref _]) rfl ?_
      refine ev_ialdv DX7_sendTone_0 103 (k0 := (acA a t + 5)) rfl (wset_get hz) (nx_add (a := acA a t) (b := 5) rfl rfl) (by omega) (by decide) ((upd_ne (by omega)).trans ((upd_ne (by omega)).trans ((upd_ne (by omega)).trans ((upd_ne (by omega)).trans ((hac2 5 (by decide))))))) ?_
      refine ev_ss DX7_sendTone_0 1 104 (pc' := 172) (lv' := [(8, .int _), (7, .int _), (6, .int _), (0, .ref _), (1, .int _), (2, .int _), (3, .int _), (4, .int _), (5, .int _)]) (st' := [.int _, .int _, .int _, .ref _]) rfl ?_
      refine ev_ifle DX7_sendTone_0 105 rfl (tgt := 179) (by decide) (fun h => absurd h q2) (fun _ => ?_)
      refine ev_ss DX7_sendTone_0 1 106 (pc' := 176) (lv' := [(8, .int _), (7, .int _), (6, .int _), (0, .ref _), (1, .int _), (2, .int _), (3, .int _), (4, .int _), (5, .int _)]) (st' := [.int 1, .int _, .int _, .ref _]) rfl ?_
      refine ev_goto DX7_sendTone_0 107 rfl (tgt := 180) (by decide) ?_
      refine ev_ss DX7_sendTone_0 1 109 (pc' := 181) (lv' := [(8, .int _), (7, .int _), (6, .int _), (0, .ref _), (1, .int _), (2, .int _), (3, .int _), (4, .int _), (5, .int _)]) (st' := [.int _, .int _, .ref _]) rfl ?_
      refine ev_iastv DX7_sendTone_0 110 (k0 := (acA a t + 5)) rfl (wset_get hz) (nx_add (a := acA a t) (b := 5) rfl rfl) (by omega) (by decide) wset_set ?_
      refine ev_ss DX7_sendTone_0 1 111 (pc' := 183) (lv' := [(8, .int _), (7, .int _), (6, .int _), (0, .ref _), (1, .int _), (2, .int _), (3, .int _), (4, .int _), (5, .int _)]) (st' := [.ref _]) rfl ?_
      refine ev_get DX7_sendTone_0 112 GX7 rfl (k0 := 0) (Nat.le_of_ble_eq_true rfl) fX7_7 (wset_o h hz rfl) rfl ?_
      refine ev_ss DX7_sendTone_0 4 113 (pc' := 192) (lv' := [(8, .int _), (7, .int _), (6, .int _), (0, .ref _), (1, .int _), (2, .int _), (3, .int _), (4, .int _), (5, .int _)]) (st' := [.int _, .ref _, .int _, .ref _]) rfl ?_
      refine ev_ialdv DX7_sendTone_0 117 (k0 := (802 + a)) rfl (wset_get hz) (nx_add (a := 802) (b := a) rfl rfl) (by omega) (by decide) ((upd_ne (by omega)).trans ((upd_ne (by omega)).trans ((upd_ne (by omega)).trans ((upd_ne (by omega)).trans ((upd_ne (by omega)).trans (hcm)))))) ?_
      refine ev_ss DX7_sendTone_0 2 118 (pc' := 196) (lv' := [(8, .int _), (7, .int _), (6, .int _), (0, .ref _), (1, .int _), (2, .int _), (3, .int _), (4, .int _), (5, .int _)]) (st' := [.int _, .int _, .ref _]) rfl ?_
      refine ev_iastv DX7_sendTone_1 0 (k0 := (802 + a)) rfl (wset_get hz) (nx_add (a := 802) (b := a) rfl rfl) (by omega) (by decide) wset_set ?_
      refine ev_ss DX7_sendTone_1 1 1 (pc' := 198) (lv' := [(8, .int _), (7, .int _), (6, .int _), (0, .ref _), (1, .int _), (2, .int _), (3, .int _), (4, .int _), (5, .int _)]) (st' := [.ref _]) rfl ?_
      refine ev_get DX7_sendTone_1 2 GX7 rfl (k0 := 0) (Nat.le_of_ble_eq_true rfl) fX7_7 (wset_o h hz rfl) rfl ?_
      refine ev_ss DX7_sendTone_1 4 3 (pc' := 207) (lv' := [(8, .int _), (7, .int _), (6, .int _), (0, .ref _), (1, .int _), (2, .int _), (3, .int _), (4, .int _), (5, .int _)]) (st' := [.int _, .ref _, .int _, .ref _]) rfl ?_
      refine ev_ialdv DX7_sendTone_1 7 (k0 := (804 + a)) rfl (wset_get hz) (nx_add (a := 804) (b := a) rfl rfl) (by omega) (by decide) ((upd_ne (by omega)).trans ((upd_ne (by omega)).trans ((upd_ne (by omega)).trans ((upd_ne (by omega)).trans ((upd_ne (by omega)).trans ((upd_ne (by omega)).trans (hwr))))))) ?_
      refine ev_ss DX7_sendTone_1 2 8 (pc' := 211) (lv' := [(8, .int _), (7, .int _), (6, .int _), (0, .ref _), (1, .int _), (2, .int _), (3, .int _), (4, .int _), (5, .int _)]) (st' := [.int _, .int _, .ref _]) rfl ?_
      refine ev_iastv DX7_sendTone_1 10 (k0 := (804 + a)) rfl (wset_get hz) (nx_add (a := 804) (b := a) rfl rfl) (by omega) (by decide) wset_set ?_
      refine ev_ss DX7_sendTone_1 1 11 (pc' := 213) (lv' := [(8, .int _), (7, .int _), (6, .int _), (0, .ref _), (1, .int _), (2, .int _), (3, .int _), (4, .int _), (5, .int _)]) (st' := [.ref _]) rfl ?_
      refine ev_get DX7_sendTone_1 12 GX7 rfl (k0 := 3) (Nat.le_of_ble_eq_true rfl) fX7_19 (wset_o h hz rfl) rfl ?_
      refine ev_ss DX7_sendTone_1 2 13 (pc' := 218) (lv' := [(8, .int _), (7, .int _), (6, .int _), (0, .ref _), (1, .int _), (2, .int _), (3, .int _), (4, .int _), (5, .int _)]) (st' := [.ref _, .int _, .ref _]) rfl ?_
      refine ev_get DX7_sendTone_1 15 GX7 rfl (k0 := 3) (Nat.le_of_ble_eq_true rfl) fX7_19 (wset_o h hz rfl) rfl ?_
      refine ev_ss DX7_sendTone_1 1 16 (pc' := 222) (lv' := [(8, .int _), (7, .int _), (6, .int _), (0, .ref _), (1, .int _), (2, .int _), (3, .int _), (4, .int _), (5, .int _)]) (st' := [.int _, .ref _, .int _, .ref _]) rfl ?_
      refine ev_laldv DX7_sendTone_1 17 (k0 := a) rfl (wset_o hl hz rfl) rfl (by omega) (by decide) (rfl) ?_
      refine ev_ss DX7_sendTone_1 5 18 (pc' := 230) (lv' := [(8, .int _), (7, .int _), (6, .int _), (0, .ref _), (1, .int _), (2, .int _), (3, .int _), (4, .int _), (5, .int _)]) (st' := [.long _, .int _, .ref _]) rfl ?_
      refine ev_ldc2 DX7_sendTone_1 23 rfl kX7_129 ?_
      refine ev_ss DX7_sendTone_1 1 24 (pc' := 234) (lv' := [(8, .int _), (7, .int _), (6, .int _), (0, .ref _), (1, .int _), (2, .int _), (3, .int _), (4, .int _), (5, .int _)]) (st' := [.long _, .int _, .ref _]) rfl ?_
      refine ev_lastv DX7_sendTone_1 25 (k0 := a) rfl (wset_o hl hz rfl) rfl (by omega) (by decide) rfl ?_
      refine ev_ss DX7_sendTone_1 1 26 (pc' := 237) (lv' := [(8, .int _), (7, .int _), (6, .int _), (0, .ref _), (1, .int _), (2, .int _), (3, .int _), (4, .int _), (5, .int _)]) (st' := [.int _]) rfl ?_
      exact ev_iret DX7_sendTone_1 27 rfl rfl (hP _ _ (wset_n (wset_get hz) (by decide)) (by rw [hne W, show (if W ≤ 0 then cntP (passP f A B) 0 else cntP (passP f A B) 1) = upd (upd (upd (passP f A B) (7 + 7) ((passP f A B) 14 + 0)) (7 + 8) ((passP f A B) 15 + 1)) (7 + 5) ((passP f A B) 12 + 1) from ((if_neg q2).trans ((if_pos e10).trans (if_neg (by decide)))).trans sgc_01.symm, hb]; exact (((((hG2.ac ha ht (j := 10) (by decide)).ac ha ht (j := 9) (by decide)).ac ha ht (j := 7) (by decide)).ac ha ht (j := 8) (by decide)).ac ha ht (j := 5) (by decide)).cnt ha) (by rw [hb]; exact wset_get (wset_n hl (by decide))) (fun j b c => by rw [List.getElem?_set_ne (Ne.symm c), List.getElem?_set_ne (Ne.symm b)]))
  · have e10 : ¬ f 10 ≤ 0 := by rw [hb]; exact q1
    by_cases q2 : W ≤ 0
    · refine ev_ss DX7_sendTone_0 5 29 (pc' := 55) (lv' := [(0, .ref _), (1, .int _), (2, .int _), (3, .int _), (4, .int _), (5, .int _)]) (st' := [.int _, .int _, .int _, .int _, .ref _]) rfl ?_
      refine ev_cS DX7_sendTone_0 34 m_X7_amplitude vX7_amplitude rfl qX7_117 rfl (hd_of rfl rfl rfl rfl) ?_
      rw [a1]
      refine ev_rV DX7_sendTone_0 35 (m_X7_hearG h hz (amp := A) ha ht hG hm) vX7_hear rfl qX7_84 rfl h rfl (hd_of rfl rfl rfl rfl) (fun v w hvw => ?_)
      obtain ⟨rfl, z2, rfl, hG2⟩ := hvw
      have hac2 : ∀ j, j < 11 → z2 (acA a t + j) = upd (upd (upd f 4 0) 6 (f 5)) 5 A (7 + j) := fun j hj => by rw [hG2.2.1 a t j ha ht hj, pT_same]
      have hcm : z2 (802 + a) = (pW q a).2.2.2.1 := (hG2.2.2.2.1 a ha).2.2.1.trans (congrArg (fun x : List Int32 × Int64 × Int32 × Int32 => x.2.2.1) (pT_rest2 ha))
      have hwr : z2 (804 + a) = (pW q a).2.2.2.2 := (hG2.2.2.2.1 a ha).2.2.2.trans (congrArg (fun x : List Int32 × Int64 × Int32 × Int32 => x.2.2.2) (pT_rest2 ha))
      refine ev_ss DX7_sendTone_0 5 36 (pc' := 68) (lv' := [(6, .int _), (0, .ref _), (1, .int _), (2, .int _), (3, .int _), (4, .int _), (5, .int _)]) (st' := [.int _, .int _, .int _, .ref _]) rfl ?_
      refine ev_cV DX7_sendTone_0 41 (m_X7_decide (f := upd (upd (upd f 4 0) 6 (f 5)) 5 A) (wset_o h hz rfl) (wset_get hz) ha ht hG2 hn hb hg hD) vX7_decide rfl qX7_123 rfl (wset_o h hz rfl) rfl (hd_of rfl rfl rfl rfl) ?_
      rw [show decP (upd (upd (upd f 4 0) 6 (f 5)) 5 A) (arrP f A (drwN q.1 f)) = H from eH.symm]
      refine ev_ss DX7_sendTone_0 4 42 (pc' := 78) (lv' := [(7, .int _), (6, .int _), (0, .ref _), (1, .int _), (2, .int _), (3, .int _), (4, .int _), (5, .int _)]) (st' := [.int _]) rfl ?_
      refine ev_cS DX7_sendTone_0 46 m_X7_ones vX7_ones rfl qX7_126 rfl (hd_of rfl rfl rfl rfl) ?_
      rw [eW]
      refine ev_ss DX7_sendTone_0 2 47 (pc' := 84) (lv' := [(8, .int _), (7, .int _), (6, .int _), (0, .ref _), (1, .int _), (2, .int _), (3, .int _), (4, .int _), (5, .int _)]) (st' := [.ref _]) rfl ?_
      refine ev_get DX7_sendTone_0 49 GX7 rfl (k0 := 0) (Nat.le_of_ble_eq_true rfl) fX7_7 (wset_o h hz rfl) rfl ?_
      refine ev_ss DX7_sendTone_0 4 50 (pc' := 92) (lv' := [(8, .int _), (7, .int _), (6, .int _), (0, .ref _), (1, .int _), (2, .int _), (3, .int _), (4, .int _), (5, .int _)]) (st' := [.ref _, .int _, .ref _]) rfl ?_
      refine ev_get DX7_sendTone_0 54 GX7 rfl (k0 := 0) (Nat.le_of_ble_eq_true rfl) fX7_7 (wset_o h hz rfl) rfl ?_
      refine ev_ss DX7_sendTone_0 3 55 (pc' := 99) (lv' := [(8, .int _), (7, .int _), (6, .int _), (0, .ref _), (1, .int _), (2, .int _), (3, .int _), (4, .int _), (5, .int _)]) (st' := [.int _, .ref _, .int _, .ref _]) rfl ?_
      refine ev_ialdv DX7_sendTone_0 58 (k0 := (acA a t + 9)) rfl (wset_get hz) (nx_add (a := acA a t) (b := 9) rfl rfl) (by omega) (by decide) ((hac2 9 (by decide))) ?_
      refine ev_iastv DX7_sendTone_0 59 (k0 := (acA a t + 10)) rfl (wset_get hz) (nx_add (a := acA a t) (b := 10) rfl rfl) (by omega) (by decide) wset_set ?_
      refine ev_ss DX7_sendTone_0 1 60 (pc' := 102) (lv' := [(8, .int _), (7, .int _), (6, .int _), (0, .ref _), (1, .int _), (2, .int _), (3, .int _), (4, .int _), (5, .int _)]) (st' := [.ref _]) rfl ?_
      refine ev_get DX7_sendTone_0 61 GX7 rfl (k0 := 0) (Nat.le_of_ble_eq_true rfl) fX7_7 (wset_o h hz rfl) rfl ?_
      refine ev_ss DX7_sendTone_0 5 62 (pc' := 113) (lv' := [(8, .int _), (7, .int _), (6, .int _), (0, .ref _), (1, .int _), (2, .int _), (3, .int _), (4, .int _), (5, .int _)]) (st' := [.int _, .int _, .int _, .ref _]) rfl ?_
      refine ev_cS DX7_sendTone_0 67 m_X7_amplitude vX7_amplitude rfl qX7_117 rfl (hd_of rfl rfl rfl rfl) ?_
      rw [a2]
      refine ev_iastv DX7_sendTone_0 68 (k0 := (acA a t + 9)) rfl (wset_get hz) (nx_add (a := acA a t) (b := 9) rfl rfl) (by omega) (by decide) wset_set ?_
      refine ev_ss DX7_sendTone_0 1 69 (pc' := 118) (lv' := [(8, .int _), (7, .int _), (6, .int _), (0, .ref _), (1, .int _), (2, .int _), (3, .int _), (4, .int _), (5, .int _)]) (st' := [.ref _]) rfl ?_
      refine ev_get DX7_sendTone_0 70 GX7 rfl (k0 := 0) (Nat.le_of_ble_eq_true rfl) fX7_7 (wset_o h hz rfl) rfl ?_
      refine ev_ss DX7_sendTone_0 4 71 (pc' := 126) (lv' := [(8, .int _), (7, .int _), (6, .int _), (0, .ref _), (1, .int _), (2, .int _), (3, .int _), (4, .int _), (5, .int _)]) (st' := [.int _, .ref _, .int _, .ref _]) rfl ?_
      refine ev_ialdv DX7_sendTone_0 75 (k0 := (acA a t + 7)) rfl (wset_get hz) (nx_add (a := acA a t) (b := 7) rfl rfl) (by omega) (by decide) ((upd_ne (by omega)).trans ((upd_ne (by omega)).trans ((hac2 7 (by decide))))) ?_
      refine ev_ss DX7_sendTone_0 1 76 (pc' := 129) (lv' := [(8, .int _), (7, .int _), (6, .int _), (0, .ref _), (1, .int _), (2, .int _), (3, .int _), (4, .int _), (5, .int _)]) (st' := [.int _, .int _, .int _, .ref _]) rfl ?_
      refine ev_ifle DX7_sendTone_0 77 rfl (tgt := 136) (by decide) (fun h => absurd h q1) (fun _ => ?_)
      refine ev_ss DX7_sendTone_0 1 78 (pc' := 133) (lv' := [(8, .int _), (7, .int _), (6, .int _), (0, .ref _), (1, .int _), (2, .int _), (3, .int _), (4, .int _), (5, .int _)]) (st' := [.int 1, .int _, .int _, .ref _]) rfl ?_
      refine ev_goto DX7_sendTone_0 79 rfl (tgt := 137) (by decide) ?_
      refine ev_ss DX7_sendTone_0 1 81 (pc' := 138) (lv' := [(8, .int _), (7, .int _), (6, .int _), (0, .ref _), (1, .int _), (2, .int _), (3, .int _), (4, .int _), (5, .int _)]) (st' := [.int _, .int _, .ref _]) rfl ?_
      refine ev_iastv DX7_sendTone_0 82 (k0 := (acA a t + 7)) rfl (wset_get hz) (nx_add (a := acA a t) (b := 7) rfl rfl) (by omega) (by decide) wset_set ?_
      refine ev_ss DX7_sendTone_0 1 83 (pc' := 140) (lv' := [(8, .int _), (7, .int _), (6, .int _), (0, .ref _), (1, .int _), (2, .int _), (3, .int _), (4, .int _), (5, .int _)]) (st' := [.ref _]) rfl ?_
      refine ev_get DX7_sendTone_0 84 GX7 rfl (k0 := 0) (Nat.le_of_ble_eq_true rfl) fX7_7 (wset_o h hz rfl) rfl ?_
      refine ev_ss DX7_sendTone_0 4 85 (pc' := 148) (lv' := [(8, .int _), (7, .int _), (6, .int _), (0, .ref _), (1, .int _), (2, .int _), (3, .int _), (4, .int _), (5, .int _)]) (st' := [.int _, .ref _, .int _, .ref _]) rfl ?_
      refine ev_ialdv DX7_sendTone_0 89 (k0 := (acA a t + 8)) rfl (wset_get hz) (nx_add (a := acA a t) (b := 8) rfl rfl) (by omega) (by decide) ((upd_ne (by omega)).trans ((upd_ne (by omega)).trans ((upd_ne (by omega)).trans ((hac2 8 (by decide)))))) ?_
      refine ev_ss DX7_sendTone_0 1 90 (pc' := 151) (lv' := [(8, .int _), (7, .int _), (6, .int _), (0, .ref _), (1, .int _), (2, .int _), (3, .int _), (4, .int _), (5, .int _)]) (st' := [.int _, .int _, .int _, .ref _]) rfl ?_
      refine ev_ifle DX7_sendTone_0 91 rfl (tgt := 158) (by decide) (fun _ => ?_) (fun h => h.elim q2)
      refine ev_ss DX7_sendTone_0 2 94 (pc' := 160) (lv' := [(8, .int _), (7, .int _), (6, .int _), (0, .ref _), (1, .int _), (2, .int _), (3, .int _), (4, .int _), (5, .int _)]) (st' := [.int _, .int _, .ref _]) rfl ?_
      refine ev_iastv DX7_sendTone_0 96 (k0 := (acA a t + 8)) rfl (wset_get hz) (nx_add (a := acA a t) (b := 8) rfl rfl) (by omega) (by decide) wset_set ?_
      refine ev_ss DX7_sendTone_0 1 97 (pc' := 162) (lv' := [(8, .int _), (7, .int _), (6, .int _), (0, .ref _), (1, .int _), (2, .int _), (3, .int _), (4, .int _), (5, .int _)]) (st' := [.ref _]) rfl ?_
      refine ev_get DX7_sendTone_0 98 GX7 rfl (k0 := 0) (Nat.le_of_ble_eq_true rfl) fX7_7 (wset_o h hz rfl) rfl ?_
      refine ev_ss DX7_sendTone_0 4 99 (pc' := 169) (lv' := [(8, .int _), (7, .int _), (6, .int _), (0, .ref _), (1, .int _), (2, .int _), (3, .int _), (4, .int _), (5, .int _)]) (st' := [.int _, .ref _, .int _, .ref _]) rfl ?_
      refine ev_ialdv DX7_sendTone_0 103 (k0 := (acA a t + 5)) rfl (wset_get hz) (nx_add (a := acA a t) (b := 5) rfl rfl) (by omega) (by decide) ((upd_ne (by omega)).trans ((upd_ne (by omega)).trans ((upd_ne (by omega)).trans ((upd_ne (by omega)).trans ((hac2 5 (by decide))))))) ?_
      refine ev_ss DX7_sendTone_0 1 104 (pc' := 172) (lv' := [(8, .int _), (7, .int _), (6, .int _), (0, .ref _), (1, .int _), (2, .int _), (3, .int _), (4, .int _), (5, .int _)]) (st' := [.int _, .int _, .int _, .ref _]) rfl ?_
      refine ev_ifle DX7_sendTone_0 105 rfl (tgt := 179) (by decide) (fun _ => ?_) (fun h => h.elim q2)
      refine ev_ss DX7_sendTone_0 2 108 (pc' := 181) (lv' := [(8, .int _), (7, .int _), (6, .int _), (0, .ref _), (1, .int _), (2, .int _), (3, .int _), (4, .int _), (5, .int _)]) (st' := [.int _, .int _, .ref _]) rfl ?_
      refine ev_iastv DX7_sendTone_0 110 (k0 := (acA a t + 5)) rfl (wset_get hz) (nx_add (a := acA a t) (b := 5) rfl rfl) (by omega) (by decide) wset_set ?_
      refine ev_ss DX7_sendTone_0 1 111 (pc' := 183) (lv' := [(8, .int _), (7, .int _), (6, .int _), (0, .ref _), (1, .int _), (2, .int _), (3, .int _), (4, .int _), (5, .int _)]) (st' := [.ref _]) rfl ?_
      refine ev_get DX7_sendTone_0 112 GX7 rfl (k0 := 0) (Nat.le_of_ble_eq_true rfl) fX7_7 (wset_o h hz rfl) rfl ?_
      refine ev_ss DX7_sendTone_0 4 113 (pc' := 192) (lv' := [(8, .int _), (7, .int _), (6, .int _), (0, .ref _), (1, .int _), (2, .int _), (3, .int _), (4, .int _), (5, .int _)]) (st' := [.int _, .ref _, .int _, .ref _]) rfl ?_
      refine ev_ialdv DX7_sendTone_0 117 (k0 := (802 + a)) rfl (wset_get hz) (nx_add (a := 802) (b := a) rfl rfl) (by omega) (by decide) ((upd_ne (by omega)).trans ((upd_ne (by omega)).trans ((upd_ne (by omega)).trans ((upd_ne (by omega)).trans ((upd_ne (by omega)).trans (hcm)))))) ?_
      refine ev_ss DX7_sendTone_0 2 118 (pc' := 196) (lv' := [(8, .int _), (7, .int _), (6, .int _), (0, .ref _), (1, .int _), (2, .int _), (3, .int _), (4, .int _), (5, .int _)]) (st' := [.int _, .int _, .ref _]) rfl ?_
      refine ev_iastv DX7_sendTone_1 0 (k0 := (802 + a)) rfl (wset_get hz) (nx_add (a := 802) (b := a) rfl rfl) (by omega) (by decide) wset_set ?_
      refine ev_ss DX7_sendTone_1 1 1 (pc' := 198) (lv' := [(8, .int _), (7, .int _), (6, .int _), (0, .ref _), (1, .int _), (2, .int _), (3, .int _), (4, .int _), (5, .int _)]) (st' := [.ref _]) rfl ?_
      refine ev_get DX7_sendTone_1 2 GX7 rfl (k0 := 0) (Nat.le_of_ble_eq_true rfl) fX7_7 (wset_o h hz rfl) rfl ?_
      refine ev_ss DX7_sendTone_1 4 3 (pc' := 207) (lv' := [(8, .int _), (7, .int _), (6, .int _), (0, .ref _), (1, .int _), (2, .int _), (3, .int _), (4, .int _), (5, .int _)]) (st' := [.int _, .ref _, .int _, .ref _]) rfl ?_
      refine ev_ialdv DX7_sendTone_1 7 (k0 := (804 + a)) rfl (wset_get hz) (nx_add (a := 804) (b := a) rfl rfl) (by omega) (by decide) ((upd_ne (by omega)).trans ((upd_ne (by omega)).trans ((upd_ne (by omega)).trans ((upd_ne (by omega)).trans ((upd_ne (by omega)).trans ((upd_ne (by omega)).trans (hwr))))))) ?_
      refine ev_ss DX7_sendTone_1 2 8 (pc' := 211) (lv' := [(8, .int _), (7, .int _), (6, .int _), (0, .ref _), (1, .int _), (2, .int _), (3, .int _), (4, .int _), (5, .int _)]) (st' := [.int _, .int _, .ref _]) rfl ?_
      refine ev_iastv DX7_sendTone_1 10 (k0 := (804 + a)) rfl (wset_get hz) (nx_add (a := 804) (b := a) rfl rfl) (by omega) (by decide) wset_set ?_
      refine ev_ss DX7_sendTone_1 1 11 (pc' := 213) (lv' := [(8, .int _), (7, .int _), (6, .int _), (0, .ref _), (1, .int _), (2, .int _), (3, .int _), (4, .int _), (5, .int _)]) (st' := [.ref _]) rfl ?_
      refine ev_get DX7_sendTone_1 12 GX7 rfl (k0 := 3) (Nat.le_of_ble_eq_true rfl) fX7_19 (wset_o h hz rfl) rfl ?_
      refine ev_ss DX7_sendTone_1 2 13 (pc' := 218) (lv' := [(8, .int _), (7, .int _), (6, .int _), (0, .ref _), (1, .int _), (2, .int _), (3, .int _), (4, .int _), (5, .int _)]) (st' := [.ref _, .int _, .ref _]) rfl ?_
      refine ev_get DX7_sendTone_1 15 GX7 rfl (k0 := 3) (Nat.le_of_ble_eq_true rfl) fX7_19 (wset_o h hz rfl) rfl ?_
      refine ev_ss DX7_sendTone_1 1 16 (pc' := 222) (lv' := [(8, .int _), (7, .int _), (6, .int _), (0, .ref _), (1, .int _), (2, .int _), (3, .int _), (4, .int _), (5, .int _)]) (st' := [.int _, .ref _, .int _, .ref _]) rfl ?_
      refine ev_laldv DX7_sendTone_1 17 (k0 := a) rfl (wset_o hl hz rfl) rfl (by omega) (by decide) (rfl) ?_
      refine ev_ss DX7_sendTone_1 5 18 (pc' := 230) (lv' := [(8, .int _), (7, .int _), (6, .int _), (0, .ref _), (1, .int _), (2, .int _), (3, .int _), (4, .int _), (5, .int _)]) (st' := [.long _, .int _, .ref _]) rfl ?_
      refine ev_ldc2 DX7_sendTone_1 23 rfl kX7_129 ?_
      refine ev_ss DX7_sendTone_1 1 24 (pc' := 234) (lv' := [(8, .int _), (7, .int _), (6, .int _), (0, .ref _), (1, .int _), (2, .int _), (3, .int _), (4, .int _), (5, .int _)]) (st' := [.long _, .int _, .ref _]) rfl ?_
      refine ev_lastv DX7_sendTone_1 25 (k0 := a) rfl (wset_o hl hz rfl) rfl (by omega) (by decide) rfl ?_
      refine ev_ss DX7_sendTone_1 1 26 (pc' := 237) (lv' := [(8, .int _), (7, .int _), (6, .int _), (0, .ref _), (1, .int _), (2, .int _), (3, .int _), (4, .int _), (5, .int _)]) (st' := [.int _]) rfl ?_
      exact ev_iret DX7_sendTone_1 27 rfl rfl (hP _ _ (wset_n (wset_get hz) (by decide)) (by rw [hne W, show (if W ≤ 0 then cntP (passP f A B) 0 else cntP (passP f A B) 1) = upd (upd (upd (passP f A B) (7 + 7) ((passP f A B) 14 + 1)) (7 + 8) ((passP f A B) 15 + 0)) (7 + 5) ((passP f A B) 12 + 0) from ((if_pos q2).trans ((if_neg e10).trans (if_pos rfl))).trans sgc_10.symm, hb]; exact (((((hG2.ac ha ht (j := 10) (by decide)).ac ha ht (j := 9) (by decide)).ac ha ht (j := 7) (by decide)).ac ha ht (j := 8) (by decide)).ac ha ht (j := 5) (by decide)).cnt ha) (by rw [hb]; exact wset_get (wset_n hl (by decide))) (fun j b c => by rw [List.getElem?_set_ne (Ne.symm c), List.getElem?_set_ne (Ne.symm b)]))
    · refine ev_ss DX7_sendTone_0 5 29 (pc' := 55) (lv' := [(0, .ref _), (1, .int _), (2, .int _), (3, .int _), (4, .int _), (5, .int _)]) (st' := [.int _, .int _, .int _, .int _, .ref _]) rfl ?_
      refine ev_cS DX7_sendTone_0 34 m_X7_amplitude vX7_amplitude rfl qX7_117 rfl (hd_of rfl rfl rfl rfl) ?_
      rw [a1]
      refine ev_rV DX7_sendTone_0 35 (m_X7_hearG h hz (amp := A) ha ht hG hm) vX7_hear rfl qX7_84 rfl h rfl (hd_of rfl rfl rfl rfl) (fun v w hvw => ?_)
      obtain ⟨rfl, z2, rfl, hG2⟩ := hvw
      have hac2 : ∀ j, j < 11 → z2 (acA a t + j) = upd (upd (upd f 4 0) 6 (f 5)) 5 A (7 + j) := fun j hj => by rw [hG2.2.1 a t j ha ht hj, pT_same]
      have hcm : z2 (802 + a) = (pW q a).2.2.2.1 := (hG2.2.2.2.1 a ha).2.2.1.trans (congrArg (fun x : List Int32 × Int64 × Int32 × Int32 => x.2.2.1) (pT_rest2 ha))
      have hwr : z2 (804 + a) = (pW q a).2.2.2.2 := (hG2.2.2.2.1 a ha).2.2.2.trans (congrArg (fun x : List Int32 × Int64 × Int32 × Int32 => x.2.2.2) (pT_rest2 ha))
      refine ev_ss DX7_sendTone_0 5 36 (pc' := 68) (lv' := [(6, .int _), (0, .ref _), (1, .int _), (2, .int _), (3, .int _), (4, .int _), (5, .int _)]) (st' := [.int _, .int _, .int _, .ref _]) rfl ?_
      refine ev_cV DX7_sendTone_0 41 (m_X7_decide (f := upd (upd (upd f 4 0) 6 (f 5)) 5 A) (wset_o h hz rfl) (wset_get hz) ha ht hG2 hn hb hg hD) vX7_decide rfl qX7_123 rfl (wset_o h hz rfl) rfl (hd_of rfl rfl rfl rfl) ?_
      rw [show decP (upd (upd (upd f 4 0) 6 (f 5)) 5 A) (arrP f A (drwN q.1 f)) = H from eH.symm]
      refine ev_ss DX7_sendTone_0 4 42 (pc' := 78) (lv' := [(7, .int _), (6, .int _), (0, .ref _), (1, .int _), (2, .int _), (3, .int _), (4, .int _), (5, .int _)]) (st' := [.int _]) rfl ?_
      refine ev_cS DX7_sendTone_0 46 m_X7_ones vX7_ones rfl qX7_126 rfl (hd_of rfl rfl rfl rfl) ?_
      rw [eW]
      refine ev_ss DX7_sendTone_0 2 47 (pc' := 84) (lv' := [(8, .int _), (7, .int _), (6, .int _), (0, .ref _), (1, .int _), (2, .int _), (3, .int _), (4, .int _), (5, .int _)]) (st' := [.ref _]) rfl ?_
      refine ev_get DX7_sendTone_0 49 GX7 rfl (k0 := 0) (Nat.le_of_ble_eq_true rfl) fX7_7 (wset_o h hz rfl) rfl ?_
      refine ev_ss DX7_sendTone_0 4 50 (pc' := 92) (lv' := [(8, .int _), (7, .int _), (6, .int _), (0, .ref _), (1, .int _), (2, .int _), (3, .int _), (4, .int _), (5, .int _)]) (st' := [.ref _, .int _, .ref _]) rfl ?_
      refine ev_get DX7_sendTone_0 54 GX7 rfl (k0 := 0) (Nat.le_of_ble_eq_true rfl) fX7_7 (wset_o h hz rfl) rfl ?_
      refine ev_ss DX7_sendTone_0 3 55 (pc' := 99) (lv' := [(8, .int _), (7, .int _), (6, .int _), (0, .ref _), (1, .int _), (2, .int _), (3, .int _), (4, .int _), (5, .int _)]) (st' := [.int _, .ref _, .int _, .ref _]) rfl ?_
      refine ev_ialdv DX7_sendTone_0 58 (k0 := (acA a t + 9)) rfl (wset_get hz) (nx_add (a := acA a t) (b := 9) rfl rfl) (by omega) (by decide) ((hac2 9 (by decide))) ?_
      refine ev_iastv DX7_sendTone_0 59 (k0 := (acA a t + 10)) rfl (wset_get hz) (nx_add (a := acA a t) (b := 10) rfl rfl) (by omega) (by decide) wset_set ?_
      refine ev_ss DX7_sendTone_0 1 60 (pc' := 102) (lv' := [(8, .int _), (7, .int _), (6, .int _), (0, .ref _), (1, .int _), (2, .int _), (3, .int _), (4, .int _), (5, .int _)]) (st' := [.ref _]) rfl ?_
      refine ev_get DX7_sendTone_0 61 GX7 rfl (k0 := 0) (Nat.le_of_ble_eq_true rfl) fX7_7 (wset_o h hz rfl) rfl ?_
      refine ev_ss DX7_sendTone_0 5 62 (pc' := 113) (lv' := [(8, .int _), (7, .int _), (6, .int _), (0, .ref _), (1, .int _), (2, .int _), (3, .int _), (4, .int _), (5, .int _)]) (st' := [.int _, .int _, .int _, .ref _]) rfl ?_
      refine ev_cS DX7_sendTone_0 67 m_X7_amplitude vX7_amplitude rfl qX7_117 rfl (hd_of rfl rfl rfl rfl) ?_
      rw [a2]
      refine ev_iastv DX7_sendTone_0 68 (k0 := (acA a t + 9)) rfl (wset_get hz) (nx_add (a := acA a t) (b := 9) rfl rfl) (by omega) (by decide) wset_set ?_
      refine ev_ss DX7_sendTone_0 1 69 (pc' := 118) (lv' := [(8, .int _), (7, .int _), (6, .int _), (0, .ref _), (1, .int _), (2, .int _), (3, .int _), (4, .int _), (5, .int _)]) (st' := [.ref _]) rfl ?_
      refine ev_get DX7_sendTone_0 70 GX7 rfl (k0 := 0) (Nat.le_of_ble_eq_true rfl) fX7_7 (wset_o h hz rfl) rfl ?_
      refine ev_ss DX7_sendTone_0 4 71 (pc' := 126) (lv' := [(8, .int _), (7, .int _), (6, .int _), (0, .ref _), (1, .int _), (2, .int _), (3, .int _), (4, .int _), (5, .int _)]) (st' := [.int _, .ref _, .int _, .ref _]) rfl ?_
      refine ev_ialdv DX7_sendTone_0 75 (k0 := (acA a t + 7)) rfl (wset_get hz) (nx_add (a := acA a t) (b := 7) rfl rfl) (by omega) (by decide) ((upd_ne (by omega)).trans ((upd_ne (by omega)).trans ((hac2 7 (by decide))))) ?_
      refine ev_ss DX7_sendTone_0 1 76 (pc' := 129) (lv' := [(8, .int _), (7, .int _), (6, .int _), (0, .ref _), (1, .int _), (2, .int _), (3, .int _), (4, .int _), (5, .int _)]) (st' := [.int _, .int _, .int _, .ref _]) rfl ?_
      refine ev_ifle DX7_sendTone_0 77 rfl (tgt := 136) (by decide) (fun h => absurd h q1) (fun _ => ?_)
      refine ev_ss DX7_sendTone_0 1 78 (pc' := 133) (lv' := [(8, .int _), (7, .int _), (6, .int _), (0, .ref _), (1, .int _), (2, .int _), (3, .int _), (4, .int _), (5, .int _)]) (st' := [.int 1, .int _, .int _, .ref _]) rfl ?_
      refine ev_goto DX7_sendTone_0 79 rfl (tgt := 137) (by decide) ?_
      refine ev_ss DX7_sendTone_0 1 81 (pc' := 138) (lv' := [(8, .int _), (7, .int _), (6, .int _), (0, .ref _), (1, .int _), (2, .int _), (3, .int _), (4, .int _), (5, .int _)]) (st' := [.int _, .int _, .ref _]) rfl ?_
      refine ev_iastv DX7_sendTone_0 82 (k0 := (acA a t + 7)) rfl (wset_get hz) (nx_add (a := acA a t) (b := 7) rfl rfl) (by omega) (by decide) wset_set ?_
      refine ev_ss DX7_sendTone_0 1 83 (pc' := 140) (lv' := [(8, .int _), (7, .int _), (6, .int _), (0, .ref _), (1, .int _), (2, .int _), (3, .int _), (4, .int _), (5, .int _)]) (st' := [.ref _]) rfl ?_
      refine ev_get DX7_sendTone_0 84 GX7 rfl (k0 := 0) (Nat.le_of_ble_eq_true rfl) fX7_7 (wset_o h hz rfl) rfl ?_
      refine ev_ss DX7_sendTone_0 4 85 (pc' := 148) (lv' := [(8, .int _), (7, .int _), (6, .int _), (0, .ref _), (1, .int _), (2, .int _), (3, .int _), (4, .int _), (5, .int _)]) (st' := [.int _, .ref _, .int _, .ref _]) rfl ?_
      refine ev_ialdv DX7_sendTone_0 89 (k0 := (acA a t + 8)) rfl (wset_get hz) (nx_add (a := acA a t) (b := 8) rfl rfl) (by omega) (by decide) ((upd_ne (by omega)).trans ((upd_ne (by omega)).trans ((upd_ne (by omega)).trans ((hac2 8 (by decide)))))) ?_
      refine ev_ss DX7_sendTone_0 1 90 (pc' := 151) (lv' := [(8, .int _), (7, .int _), (6, .int _), (0, .ref _), (1, .int _), (2, .int _), (3, .int _), (4, .int _), (5, .int _)]) (st' := [.int _, .int _, .int _, .ref _]) rfl ?_
      refine ev_ifle DX7_sendTone_0 91 rfl (tgt := 158) (by decide) (fun h => absurd h q2) (fun _ => ?_)
      refine ev_ss DX7_sendTone_0 1 92 (pc' := 155) (lv' := [(8, .int _), (7, .int _), (6, .int _), (0, .ref _), (1, .int _), (2, .int _), (3, .int _), (4, .int _), (5, .int _)]) (st' := [.int 1, .int _, .int _, .ref _]) rfl ?_
      refine ev_goto DX7_sendTone_0 93 rfl (tgt := 159) (by decide) ?_
      refine ev_ss DX7_sendTone_0 1 95 (pc' := 160) (lv' := [(8, .int _), (7, .int _), (6, .int _), (0, .ref _), (1, .int _), (2, .int _), (3, .int _), (4, .int _), (5, .int _)]) (st' := [.int _, .int _, .ref _]) rfl ?_
      refine ev_iastv DX7_sendTone_0 96 (k0 := (acA a t + 8)) rfl (wset_get hz) (nx_add (a := acA a t) (b := 8) rfl rfl) (by omega) (by decide) wset_set ?_
      refine ev_ss DX7_sendTone_0 1 97 (pc' := 162) (lv' := [(8, .int _), (7, .int _), (6, .int _), (0, .ref _), (1, .int _), (2, .int _), (3, .int _), (4, .int _), (5, .int _)]) (st' := [.ref _]) rfl ?_
      refine ev_get DX7_sendTone_0 98 GX7 rfl (k0 := 0) (Nat.le_of_ble_eq_true rfl) fX7_7 (wset_o h hz rfl) rfl ?_
      refine ev_ss DX7_sendTone_0 4 99 (pc' := 169) (lv' := [(8, .int _), (7, .int _), (6, .int _), (0, .ref _), (1, .int _), (2, .int _), (3, .int _), (4, .int _), (5, .int _)]) (st' := [.int _, .ref _, .int _, .ref _]) rfl ?_
      refine ev_ialdv DX7_sendTone_0 103 (k0 := (acA a t + 5)) rfl (wset_get hz) (nx_add (a := acA a t) (b := 5) rfl rfl) (by omega) (by decide) ((upd_ne (by omega)).trans ((upd_ne (by omega)).trans ((upd_ne (by omega)).trans ((upd_ne (by omega)).trans ((hac2 5 (by decide))))))) ?_
      refine ev_ss DX7_sendTone_0 1 104 (pc' := 172) (lv' := [(8, .int _), (7, .int _), (6, .int _), (0, .ref _), (1, .int _), (2, .int _), (3, .int _), (4, .int _), (5, .int _)]) (st' := [.int _, .int _, .int _, .ref _]) rfl ?_
      refine ev_ifle DX7_sendTone_0 105 rfl (tgt := 179) (by decide) (fun h => absurd h q2) (fun _ => ?_)
      refine ev_ss DX7_sendTone_0 1 106 (pc' := 176) (lv' := [(8, .int _), (7, .int _), (6, .int _), (0, .ref _), (1, .int _), (2, .int _), (3, .int _), (4, .int _), (5, .int _)]) (st' := [.int 1, .int _, .int _, .ref _]) rfl ?_
      refine ev_goto DX7_sendTone_0 107 rfl (tgt := 180) (by decide) ?_
      refine ev_ss DX7_sendTone_0 1 109 (pc' := 181) (lv' := [(8, .int _), (7, .int _), (6, .int _), (0, .ref _), (1, .int _), (2, .int _), (3, .int _), (4, .int _), (5, .int _)]) (st' := [.int _, .int _, .ref _]) rfl ?_
      refine ev_iastv DX7_sendTone_0 110 (k0 := (acA a t + 5)) rfl (wset_get hz) (nx_add (a := acA a t) (b := 5) rfl rfl) (by omega) (by decide) wset_set ?_
      refine ev_ss DX7_sendTone_0 1 111 (pc' := 183) (lv' := [(8, .int _), (7, .int _), (6, .int _), (0, .ref _), (1, .int _), (2, .int _), (3, .int _), (4, .int _), (5, .int _)]) (st' := [.ref _]) rfl ?_
      refine ev_get DX7_sendTone_0 112 GX7 rfl (k0 := 0) (Nat.le_of_ble_eq_true rfl) fX7_7 (wset_o h hz rfl) rfl ?_
      refine ev_ss DX7_sendTone_0 4 113 (pc' := 192) (lv' := [(8, .int _), (7, .int _), (6, .int _), (0, .ref _), (1, .int _), (2, .int _), (3, .int _), (4, .int _), (5, .int _)]) (st' := [.int _, .ref _, .int _, .ref _]) rfl ?_
      refine ev_ialdv DX7_sendTone_0 117 (k0 := (802 + a)) rfl (wset_get hz) (nx_add (a := 802) (b := a) rfl rfl) (by omega) (by decide) ((upd_ne (by omega)).trans ((upd_ne (by omega)).trans ((upd_ne (by omega)).trans ((upd_ne (by omega)).trans ((upd_ne (by omega)).trans (hcm)))))) ?_
      refine ev_ss DX7_sendTone_0 2 118 (pc' := 196) (lv' := [(8, .int _), (7, .int _), (6, .int _), (0, .ref _), (1, .int _), (2, .int _), (3, .int _), (4, .int _), (5, .int _)]) (st' := [.int _, .int _, .ref _]) rfl ?_
      refine ev_iastv DX7_sendTone_1 0 (k0 := (802 + a)) rfl (wset_get hz) (nx_add (a := 802) (b := a) rfl rfl) (by omega) (by decide) wset_set ?_
      refine ev_ss DX7_sendTone_1 1 1 (pc' := 198) (lv' := [(8, .int _), (7, .int _), (6, .int _), (0, .ref _), (1, .int _), (2, .int _), (3, .int _), (4, .int _), (5, .int _)]) (st' := [.ref _]) rfl ?_
      refine ev_get DX7_sendTone_1 2 GX7 rfl (k0 := 0) (Nat.le_of_ble_eq_true rfl) fX7_7 (wset_o h hz rfl) rfl ?_
      refine ev_ss DX7_sendTone_1 4 3 (pc' := 207) (lv' := [(8, .int _), (7, .int _), (6, .int _), (0, .ref _), (1, .int _), (2, .int _), (3, .int _), (4, .int _), (5, .int _)]) (st' := [.int _, .ref _, .int _, .ref _]) rfl ?_
      refine ev_ialdv DX7_sendTone_1 7 (k0 := (804 + a)) rfl (wset_get hz) (nx_add (a := 804) (b := a) rfl rfl) (by omega) (by decide) ((upd_ne (by omega)).trans ((upd_ne (by omega)).trans ((upd_ne (by omega)).trans ((upd_ne (by omega)).trans ((upd_ne (by omega)).trans ((upd_ne (by omega)).trans (hwr))))))) ?_
      refine ev_ss DX7_sendTone_1 2 8 (pc' := 211) (lv' := [(8, .int _), (7, .int _), (6, .int _), (0, .ref _), (1, .int _), (2, .int _), (3, .int _), (4, .int _), (5, .int _)]) (st' := [.int _, .int _, .ref _]) rfl ?_
      refine ev_iastv DX7_sendTone_1 10 (k0 := (804 + a)) rfl (wset_get hz) (nx_add (a := 804) (b := a) rfl rfl) (by omega) (by decide) wset_set ?_
      refine ev_ss DX7_sendTone_1 1 11 (pc' := 213) (lv' := [(8, .int _), (7, .int _), (6, .int _), (0, .ref _), (1, .int _), (2, .int _), (3, .int _), (4, .int _), (5, .int _)]) (st' := [.ref _]) rfl ?_
      refine ev_get DX7_sendTone_1 12 GX7 rfl (k0 := 3) (Nat.le_of_ble_eq_true rfl) fX7_19 (wset_o h hz rfl) rfl ?_
      refine ev_ss DX7_sendTone_1 2 13 (pc' := 218) (lv' := [(8, .int _), (7, .int _), (6, .int _), (0, .ref _), (1, .int _), (2, .int _), (3, .int _), (4, .int _), (5, .int _)]) (st' := [.ref _, .int _, .ref _]) rfl ?_
      refine ev_get DX7_sendTone_1 15 GX7 rfl (k0 := 3) (Nat.le_of_ble_eq_true rfl) fX7_19 (wset_o h hz rfl) rfl ?_
      refine ev_ss DX7_sendTone_1 1 16 (pc' := 222) (lv' := [(8, .int _), (7, .int _), (6, .int _), (0, .ref _), (1, .int _), (2, .int _), (3, .int _), (4, .int _), (5, .int _)]) (st' := [.int _, .ref _, .int _, .ref _]) rfl ?_
      refine ev_laldv DX7_sendTone_1 17 (k0 := a) rfl (wset_o hl hz rfl) rfl (by omega) (by decide) (rfl) ?_
      refine ev_ss DX7_sendTone_1 5 18 (pc' := 230) (lv' := [(8, .int _), (7, .int _), (6, .int _), (0, .ref _), (1, .int _), (2, .int _), (3, .int _), (4, .int _), (5, .int _)]) (st' := [.long _, .int _, .ref _]) rfl ?_
      refine ev_ldc2 DX7_sendTone_1 23 rfl kX7_129 ?_
      refine ev_ss DX7_sendTone_1 1 24 (pc' := 234) (lv' := [(8, .int _), (7, .int _), (6, .int _), (0, .ref _), (1, .int _), (2, .int _), (3, .int _), (4, .int _), (5, .int _)]) (st' := [.long _, .int _, .ref _]) rfl ?_
      refine ev_lastv DX7_sendTone_1 25 (k0 := a) rfl (wset_o hl hz rfl) rfl (by omega) (by decide) rfl ?_
      refine ev_ss DX7_sendTone_1 1 26 (pc' := 237) (lv' := [(8, .int _), (7, .int _), (6, .int _), (0, .ref _), (1, .int _), (2, .int _), (3, .int _), (4, .int _), (5, .int _)]) (st' := [.int _]) rfl ?_
      exact ev_iret DX7_sendTone_1 27 rfl rfl (hP _ _ (wset_n (wset_get hz) (by decide)) (by rw [hne W, show (if W ≤ 0 then cntP (passP f A B) 0 else cntP (passP f A B) 1) = upd (upd (upd (passP f A B) (7 + 7) ((passP f A B) 14 + 1)) (7 + 8) ((passP f A B) 15 + 1)) (7 + 5) ((passP f A B) 12 + 1) from ((if_neg q2).trans ((if_neg e10).trans (if_neg (by decide)))), hb]; exact (((((hG2.ac ha ht (j := 10) (by decide)).ac ha ht (j := 9) (by decide)).ac ha ht (j := 7) (by decide)).ac ha ht (j := 8) (by decide)).ac ha ht (j := 5) (by decide)).cnt ha) (by rw [hb]; exact wset_get (wset_n hl (by decide))) (fun j b c => by rw [List.getElem?_set_ne (Ne.symm c), List.getElem?_set_ne (Ne.symm b)]))
