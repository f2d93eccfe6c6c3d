theorem pSW_T2 {p : PS} {sd : Int32} {a i : Nat} {σ : WS} {F : TF} : pTone (pSW p sd a σ) a i F = pSW p sd a (va_up σ.1 i F, σ.2) := pSW_T (p := p) (sd := sd) (sd2 := sd)
theorem LW.T {zw zc : Nat → Int32} {zh : Nat → Int64} {p : PS} {a t : Nat} {F : TF} (h : LW zw zc zh p) (ha : a < 2) : LW zw zc zh (pTone p a t F) :=
  h.to (fun y hy => pT_rest ha hy) (fun _ _ => rfl) rfl h.2.2.2
theorem LSe.T2 {zt : Nat → Int32} {p : PS} {a t : Nat} {F : TF} (h : LSe zt p) : LSe zt (pTone p a t F) := fun j hj => h j hj
theorem LT_end {zq zu za zn zd : Nat → Int32} {p : PS} {a t : Nat} {f : TF} {wo mg : Int32} (ha : a < 2) (ht : t < 8) (hT : LT zq zu za zn zd (pTone p a t f)) : LT zq (upd zu (4 * (8 * a + t) + 3) wo) (upd za (4 * (8 * a + t) + 3) (bfP (f 7) (wo * mg / 4))) (upd zn (4 * (8 * a + t)) 0) zd (pTone p a t (endP f wo mg)) := by
  obtain ⟨h1, h2, h3, h4, h5⟩ := hT
  have b2 : ∀ j, j < 4 → zu (4 * (8 * a + t) + j) = f (mU j) := fun j hj => by rw [h2.at ha ht j hj, pT_same]
  have b3 : ∀ j, j < 4 → za (4 * (8 * a + t) + j) = f (mA j) := fun j hj => by rw [h3.at ha ht j hj, pT_same]
  have b4 : ∀ j, j < 4 → zn (4 * (8 * a + t) + j) = f (mN j) := fun j hj => by rw [h4.at ha ht j hj, pT_same]
  exact ⟨h1.keep ha ht (j4 rfl rfl rfl rfl), h2.set ha ht (j4 ((upd_ne (by omega)).trans (b2 0 (by decide))) ((upd_ne (by omega)).trans (b2 1 (by decide))) ((upd_ne (by omega)).trans (b2 2 (by decide))) upd_eq) (fun i hi => upd_ne (by omega)), h3.set ha ht (j4 ((upd_ne (by omega)).trans (b3 0 (by decide))) ((upd_ne (by omega)).trans (b3 1 (by decide))) ((upd_ne (by omega)).trans (b3 2 (by decide))) upd_eq) (fun i hi => upd_ne (by omega)), h4.set ha ht (j4 upd_eq ((upd_ne (by omega)).trans (b4 1 (by decide))) ((upd_ne (by omega)).trans (b4 2 (by decide))) ((upd_ne (by omega)).trans (b4 3 (by decide)))) (fun i hi => upd_ne (by omega)), h5.keep ha ht (j2 rfl rfl)⟩
theorem LT.beats {zq zu za zn zd : Nat → Int32} {p : PS} {v : Int32} (h : LT zq zu za zn zd p) : LT zq zu za zn zd (p.1, v, p.2.2) := ⟨fun y k j => h.1 y k j, fun y k j => h.2.1 y k j, fun y k j => h.2.2.1 y k j, fun y k j => h.2.2.2.1 y k j, fun y k j => h.2.2.2.2 y k j⟩
theorem LW.beats {zw zc : Nat → Int32} {zh : Nat → Int64} {p : PS} {v : Int32} (h : LW zw zc zh p) : LW zw (upd zc 0 v) zh (p.1, v, p.2.2) := by
  obtain ⟨h1, h2, h3, h4⟩ := h
  refine ⟨fun y i hy hi => h1 y i hy hi, fun y hy => ?_, upd_eq, ?_⟩
  · rw [upd_ne (by omega), upd_ne (by omega), upd_ne (by omega)]
    exact h2 y hy
  · rw [upd_ne (by decide)]
    exact h4
theorem LSe.beats {zt : Nat → Int32} {p : PS} {v : Int32} (h : LSe zt p) : LSe zt (p.1, v, p.2.2) := fun j hj => h j hj
theorem sumN_c {f g : Nat → Int32} : ∀ n, (∀ t, t < n → f t = g t) → sumN f n = sumN g n
  | 0, _ => rfl
  | n + 1, h => by
    show sumN f n + f n = sumN g n + g n
    rw [sumN_c n (fun t ht => h t (by omega)), h n (by omega)]
theorem enT_s {mg : Int32} {sz : Nat → Int32} {σ : WS} {i : Nat} : enT mg sz σ (i + 1) = (va_up (enT mg sz σ i).1 i (endP ((enT mg sz σ i).1 i) (worN sz i k8) mg), (enT mg sz σ i).2) := rfl
theorem enT_acc {mg : Int32} {sz : Nat → Int32} {σ : WS} {i : Nat} : sumN (fun t => (enT mg sz σ (i + 1)).1 t 10) (i + 1) = sumN (fun t => (enT mg sz σ i).1 t 10) i + bfP ((enT mg sz σ i).1 i 7) (worN sz i k8 * mg / 4) := by
  show sumN _ i + (enT mg sz σ (i + 1)).1 i 10 = _
  rw [sumN_c (f := fun t => (enT mg sz σ (i + 1)).1 t 10) (g := fun t => (enT mg sz σ i).1 t 10) i (fun t ht => by
    show (enT mg sz σ (i + 1)).1 t 10 = (enT mg sz σ i).1 t 10
    rw [enT_s]
    show va_up (enT mg sz σ i).1 i _ t 10 = _
    unfold va_up
    rw [if_neg (by omega)])]
  rw [enT_s]
  show _ + va_up (enT mg sz σ i).1 i _ i 10 = _
  unfold va_up
  rw [if_pos rfl]
  rfl
theorem pL_W {p : PS} {a n : Nat} : pW (pLearn p a n) a = tlW (p.2.2.1 0) (p.2.2.1 1) p.1 (pW p a) n := by
  unfold pLearn
  exact pW_set (p := p)
set_option maxRecDepth 100000 in
set_option maxHeartbeats 4000000 in
theorem lrn_K2 {E : gE} {ad : Nat → Nat} {ws : va_W} {p : PS} {ze er : Nat → Int32} {a n : Nat} (ha : a < 2) (hn : n < 128) (hw : ∀ t, t < 8 → wrM er t (min 8 n) = worN (lrN (p.2.2.1 0) p.1 (pW p a) n).2.2 t k8) :
    ∀ (m i : Nat) (x acc : Int32) (w : va_W), i + m = k8 → x = nI i → acc = sumN (fun t => (enT (p.2.2.1 1) (lrN (p.2.2.1 0) p.1 (pW p a) n).2.2 (lrN (p.2.2.1 0) p.1 (pW p a) n).2.1 i).1 t 10) i → LM E ad w (pSW p (lrN (p.2.2.1 0) p.1 (pW p a) n).1 a (enT (p.2.2.1 1) (lrN (p.2.2.1 0) p.1 (pW p a) n).2.2 (lrN (p.2.2.1 0) p.1 (pW p a) n).2.1 i)) er → MO ws w → Ev E YL_learn (fun v w => v = some (.int (sumN (fun t => (pW (pLearn p a n) a).1 t 10) 8)) ∧ (∃ ze2, LM E ad w (pLearn p a n) ze2) ∧ MO ws w) nX 0 0 61 [(0, .int (nI a)), (1, .int (nI n)), (2, .ref (ad 214)), (3, .ref (ad 215)), (4, .ref (ad 216)), (5, .ref (ad 217)), (6, .ref (ad 218)), (7, .ref (ad 222)), (8, .ref (ad 220)), (9, .ref (ad 221)), (10, .int acc), (11, .int x)] [] w := by
  have e8 := k8e
  intro m
  induction m with
  | zero =>
    intro i x acc w hm hx hq hM hO
    obtain rfl : i = k8 := by omega
    subst hx; subst hq
    obtain ⟨zq, zu, za, zn, zd, zw, zc, zt, zh, hC, hT, hW, hS⟩ := hM
    obtain ⟨hzq, hzu, hza, hzn, hzd, hzw, hzc, hzt, hze, hzh⟩ := id hC
    have hc0 : zc 0 = p.2.1 := hW.2.2.1
    have eV : sumN (fun t => (enT (p.2.2.1 1) (lrN (p.2.2.1 0) p.1 (pW p a) n).2.2 (lrN (p.2.2.1 0) p.1 (pW p a) n).2.1 k8).1 t 10) k8 = sumN (fun t => (pW (pLearn p a n) a).1 t 10) 8 := by rw [pL_W]; exact congrArg (sumN _) k8e
    refine ev_ss DL_learn_0 2 32 (pc' := 65) (lv' := [(0, .int _), (1, .int _), (2, .ref _), (3, .ref _), (4, .ref _), (5, .ref _), (6, .ref _), (7, .ref _), (8, .ref _), (9, .ref _), (10, .int _), (11, .int _)]) (st' := [.int 8, .int _]) rfl ?_
    refine ev_icge DL_learn_0 34 rfl (tgt := 228) (by decide) (fun _ => ?_) (fun h => h.elim (by rw [k8e]; decide))
    refine ev_ss DL_learn_1 3 6 (pc' := 232) (lv' := [(0, .int _), (1, .int _), (2, .ref _), (3, .ref _), (4, .ref _), (5, .ref _), (6, .ref _), (7, .ref _), (8, .ref _), (9, .ref _), (10, .int _), (11, .int _)]) (st' := [.int 0, .ref _, .int 0, .ref _]) rfl ?_
    refine ev_ialdv DL_learn_1 9 (k0 := 0) rfl hzc rfl (by omega) (by decide) (hc0) ?_
    refine ev_ss DL_learn_1 2 10 (pc' := 235) (lv' := [(0, .int _), (1, .int _), (2, .ref _), (3, .ref _), (4, .ref _), (5, .ref _), (6, .ref _), (7, .ref _), (8, .ref _), (9, .ref _), (10, .int _), (11, .int _)]) (st' := [.int _, .int 0, .ref _]) rfl ?_
    refine ev_iastv DL_learn_1 12 (k0 := 0) rfl hzc rfl (by omega) (by decide) rfl ?_
    refine ev_ss DL_learn_1 1 13 (pc' := 238) (lv' := [(0, .int _), (1, .int _), (2, .ref _), (3, .ref _), (4, .ref _), (5, .ref _), (6, .ref _), (7, .ref _), (8, .ref _), (9, .ref _), (10, .int _), (11, .int _)]) (st' := [.int _]) rfl ?_
    exact ev_iret DL_learn_1 14 rfl rfl ⟨congrArg (fun z => some (Value.int z)) eV, ⟨_, _, _, _, _, _, _, _, _, _, ⟨(wset_n hzq (by decide)), (wset_n hzu (by decide)), (wset_n hza (by decide)), (wset_n hzn (by decide)), (wset_n hzd (by decide)), (wset_n hzw (by decide)), (wset_get hzc), (wset_n hzt (by decide)), (wset_n hze (by decide)), (wset_n hzh (by decide))⟩, hT.beats, hW.beats, hS.beats⟩, hO.tr (MO.rf.st (by decide) (by decide))⟩
  | succ m ih =>
    intro i x acc w hm hx hq hM hO
    subst hx
    have hi : i < 8 := by omega
    obtain ⟨q, eq⟩ : ∃ q, q = pSW p (lrN (p.2.2.1 0) p.1 (pW p a) n).1 a (enT (p.2.2.1 1) (lrN (p.2.2.1 0) p.1 (pW p a) n).2.2 (lrN (p.2.2.1 0) p.1 (pW p a) n).2.1 i) := ⟨_, rfl⟩
    have eg : (pW q a).1 i 7 = (enT (p.2.2.1 1) (lrN (p.2.2.1 0) p.1 (pW p a) n).2.2 (lrN (p.2.2.1 0) p.1 (pW p a) n).2.1 i).1 i 7 := by rw [eq, pW_SW]
    have es : q.2.2.1 1 = p.2.2.1 1 := by rw [eq]; rfl
    rw [← eq] at hM
    obtain ⟨zq, zu, za, zn, zd, zw, zc, zt, zh, hC, hT, hW, hS⟩ := hM
    obtain ⟨hzq, hzu, hza, hzn, hzd, hzw, hzc, hzt, hze, hzh⟩ := id hC
    have hg : za (4 * (8 * a + i)) = (pW q a).1 i 7 := hT.2.2.1 a i 0 ha hi (by decide)
    have hmg : zt 1 = p.2.2.1 1 := (hS 1 (by decide)).trans es
    refine ev_ss DL_learn_0 2 32 (pc' := 65) (lv' := [(0, .int _), (1, .int _), (2, .ref _), (3, .ref _), (4, .ref _), (5, .ref _), (6, .ref _), (7, .ref _), (8, .ref _), (9, .ref _), (10, .int _), (11, .int _)]) (st' := [.int 8, .int _]) rfl ?_
    refine ev_icge DL_learn_0 34 rfl (tgt := 228) (by decide) (fun h => absurd h (nI_ge (b := 8) (by omega) (by decide))) (fun _ => ?_)
    refine ev_ss DL_learn_0 7 35 (pc' := 77) (lv' := [(0, .int _), (1, .int _), (2, .ref _), (3, .ref _), (4, .ref _), (5, .ref _), (6, .ref _), (7, .ref _), (8, .ref _), (9, .ref _), (10, .int _), (11, .int _)]) (st' := [.int _]) rfl ?_
    refine ev_topv (nx_mul (a := 4) (b := ((8 * a) + i)) rfl (nx_add (a := (8 * a)) (b := i) (nx_mul (a := 8) (b := a) rfl rfl) rfl)) ?_
    refine ev_ss DL_learn_0 5 42 (pc' := 85) (lv' := [(14, .int 0), (13, .int 0), (12, .int _), (0, .int _), (1, .int _), (2, .ref _), (3, .ref _), (4, .ref _), (5, .ref _), (6, .ref _), (7, .ref _), (8, .ref _), (9, .ref _), (10, .int _), (11, .int _)]) (st' := []) rfl ?_
    refine ev_lvp (lv2 := [(0, .int _), (1, .int _), (2, .ref _), (3, .ref _), (4, .ref _), (5, .ref _), (6, .ref _), (7, .ref _), (8, .ref _), (9, .ref _), (10, .int _), (11, .int _), (12, .int _), (13, .int _), (14, .int _)]) [3, 4, 5, 6, 7, 8, 9, 10, 11, 12, 13, 14, 2, 1, 0] rfl ?_
    refine lrn_wo hi (by omega) hze ?_ (min 8 n) 0 _ 0 (Nat.zero_add _) nI_0.symm rfl
    rw [hw i hi]
    generalize hwo : worN (lrN (p.2.2.1 0) p.1 (pW p a) n).2.2 i k8 = wo
    refine ev_ss DL_learn_0 5 74 (pc' := 145) (lv' := [(0, .int _), (1, .int _), (2, .ref _), (3, .ref _), (4, .ref _), (5, .ref _), (6, .ref _), (7, .ref _), (8, .ref _), (9, .ref _), (10, .int _), (11, .int _), (12, .int _), (13, .int _)]) (st' := [.int _, .int _, .ref _]) rfl ?_
    refine ev_iastv DL_learn_0 79 (k0 := ((4 * (8 * a + i)) + 3)) rfl hzu (nx_add (a := (4 * (8 * a + i))) (b := 3) rfl rfl) (by omega) (by decide) rfl ?_
    refine ev_ss DL_learn_0 4 80 (pc' := 152) (lv' := [(15, .int 1), (14, .int 0), (0, .int _), (1, .int _), (2, .ref _), (3, .ref _), (4, .ref _), (5, .ref _), (6, .ref _), (7, .ref _), (8, .ref _), (9, .ref _), (10, .int _), (11, .int _), (12, .int _), (13, .int _)]) (st' := []) rfl ?_
    refine ev_lvp (lv2 := [(0, .int _), (1, .int _), (2, .ref _), (3, .ref _), (4, .ref _), (5, .ref _), (6, .ref _), (7, .ref _), (8, .ref _), (9, .ref _), (10, .int _), (11, .int _), (12, .int _), (13, .int _), (14, .int _), (15, .int _)]) [2, 3, 4, 5, 6, 7, 8, 9, 10, 11, 12, 13, 14, 15, 1, 0] rfl ?_
    refine lrn_bi ha hi (wset_n hza (by decide)) (wset_n hzt (by decide)) hg hmg ?_ 4 0 _ 0 rfl rfl rfl
    refine ev_ss DL_learn_0 5 110 (pc' := 208) (lv' := [(0, .int _), (1, .int _), (2, .ref _), (3, .ref _), (4, .ref _), (5, .ref _), (6, .ref _), (7, .ref _), (8, .ref _), (9, .ref _), (10, .int _), (11, .int _), (12, .int _), (13, .int _), (14, .int _)]) (st' := [.int _, .int _, .ref _]) rfl ?_
    refine ev_iastv DL_learn_0 115 (k0 := ((4 * (8 * a + i)) + 3)) rfl (wset_n hza (by decide)) (nx_add (a := (4 * (8 * a + i))) (b := 3) rfl rfl) (by omega) (by decide) rfl ?_
    refine ev_ss DL_learn_0 3 116 (pc' := 214) (lv' := [(0, .int _), (1, .int _), (2, .ref _), (3, .ref _), (4, .ref _), (5, .ref _), (6, .ref _), (7, .ref _), (8, .ref _), (9, .ref _), (10, .int _), (11, .int _), (12, .int _), (13, .int _), (14, .int _)]) (st' := [.int 0, .int _, .ref _]) rfl ?_
    refine ev_iastv DL_learn_0 119 (k0 := (4 * (8 * a + i))) rfl (wset_n (wset_n hzn (by decide)) (by decide)) rfl (by omega) (by decide) rfl ?_
    refine ev_ss DL_learn_1 5 0 (pc' := 225) (lv' := [(11, .int _), (10, .int _), (0, .int _), (1, .int _), (2, .ref _), (3, .ref _), (4, .ref _), (5, .ref _), (6, .ref _), (7, .ref _), (8, .ref _), (9, .ref _), (12, .int _), (13, .int _), (14, .int _)]) (st' := []) rfl ?_
    refine ev_goto DL_learn_1 5 rfl (tgt := 61) (by decide) ?_
    refine ev_lvp (lv2 := [(0, .int _), (1, .int _), (2, .ref _), (3, .ref _), (4, .ref _), (5, .ref _), (6, .ref _), (7, .ref _), (8, .ref _), (9, .ref _), (10, .int _), (11, .int _)]) [2, 3, 4, 5, 6, 7, 8, 9, 10, 11, 1, 0] rfl ?_
    have hM3 : LM E ad _ (pTone q a i (endP ((pW q a).1 i) wo (p.2.2.1 1))) er := ⟨_, _, _, _, _, _, _, _, _, ⟨(wset_n (wset_n (wset_n hzq (by decide)) (by decide)) (by decide)), (wset_n (wset_n (wset_get hzu) (by decide)) (by decide)), (wset_n (wset_get (wset_n hza (by decide))) (by decide)), (wset_get (wset_n (wset_n hzn (by decide)) (by decide))), (wset_n (wset_n (wset_n hzd (by decide)) (by decide)) (by decide)), (wset_n (wset_n (wset_n hzw (by decide)) (by decide)) (by decide)), (wset_n (wset_n (wset_n hzc (by decide)) (by decide)) (by decide)), (wset_n (wset_n (wset_n hzt (by decide)) (by decide)) (by decide)), (wset_n (wset_n (wset_n hze (by decide)) (by decide)) (by decide)), (wset_n (wset_n (wset_n hzh (by decide)) (by decide)) (by decide))⟩, LT_end ha hi hT.id, hW.T ha, hS.T2⟩
    rw [eq, pSW_T2, pW_SW, ← hwo, ← enT_s] at hM3
    refine ih (i + 1) _ _ _ (by omega) (nI_1 i) ?_ (by rw [eg, ← hwo]; exact hM3) (hO.tr (((MO.rf.st (by decide) (by decide)).st (by decide) (by decide)).st (by decide) (by decide)))
    rw [enT_acc, ← hq, hwo, ← eg]
set_option maxRecDepth 100000 in
set_option maxHeartbeats 4000000 in
theorem m_L_learn {E : gE} {ad : Nat → Nat} {ws : va_W} {p : PS} {ze : Nat → Int32} {a n : Nat} (hM : LM E ad ws p ze) (ha : a < 2) (hn : n < 128) (hsn : SN p.1) (hN : LN p a) : C0 E YL_learn 0 0 [.int (nI a), .int (nI n), .ref (ad 214), .ref (ad 215), .ref (ad 216), .ref (ad 217), .ref (ad 218), .ref (ad 222), .ref (ad 220), .ref (ad 221)] ws (fun v w => v = some (.int (sumN (fun t => (pW (pLearn p a n) a).1 t 10) 8)) ∧ (∃ ze2, LM E ad w (pLearn p a n) ze2) ∧ MO ws w) := by
  have e8 := k8e
  obtain ⟨hN1, hN2, hN3⟩ := hN
  obtain ⟨r1, r2, r3⟩ := lrM_rel (p := p.2.2.1 0) (sd := p.1) (σ := pW p a) (er := ze) n
  have hw : ∀ t, t < 8 → wrM (lrM (p.2.2.1 0) p.1 (pW p a) ze n).2.2 t (min 8 n) = worN (lrN (p.2.2.1 0) p.1 (pW p a) n).2.2 t k8 := fun t ht => wor_k (fun j hj => r3 t j ht hj)
  refine c0S vL_learn (Nat.le_of_ble_eq_true rfl) (lv0 := [(0, .int (nI a)), (1, .int (nI n)), (2, .ref (ad 214)), (3, .ref (ad 215)), (4, .ref (ad 216)), (5, .ref (ad 217)), (6, .ref (ad 218)), (7, .ref (ad 222)), (8, .ref (ad 220)), (9, .ref (ad 221))]) rfl ?_
  suffices K : ∀ (m i : Nat) (x : Int32) (w : va_W), i + m = n → x = nI i → LM E ad w (pSW p (lrM (p.2.2.1 0) p.1 (pW p a) ze i).1 a (lrM (p.2.2.1 0) p.1 (pW p a) ze i).2.1) (lrM (p.2.2.1 0) p.1 (pW p a) ze i).2.2 → MO ws w →
      Ev E YL_learn (fun v w => v = some (.int (sumN (fun t => (pW (pLearn p a n) a).1 t 10) 8)) ∧ (∃ ze2, LM E ad w (pLearn p a n) ze2) ∧ MO ws w) nX 0 0 3 [(0, .int (nI a)), (1, .int (nI n)), (2, .ref (ad 214)), (3, .ref (ad 215)), (4, .ref (ad 216)), (5, .ref (ad 217)), (6, .ref (ad 218)), (7, .ref (ad 222)), (8, .ref (ad 220)), (9, .ref (ad 221)), (10, .int x)] [] w by
    refine ev_ss DL_learn_0 2 0 (pc' := 3) (lv' := [(10, .int 0), (0, .int _), (1, .int _), (2, .ref _), (3, .ref _), (4, .ref _), (5, .ref _), (6, .ref _), (7, .ref _), (8, .ref _), (9, .ref _)]) (st' := []) rfl ?_
    refine ev_lvp (lv2 := [(0, .int _), (1, .int _), (2, .ref _), (3, .ref _), (4, .ref _), (5, .ref _), (6, .ref _), (7, .ref _), (8, .ref _), (9, .ref _), (10, .int _)]) [1, 2, 3, 4, 5, 6, 7, 8, 9, 10, 0] rfl ?_
    exact K n 0 _ ws (Nat.zero_add n) nI_0.symm (by rw [lrM_0, pSW_id]; exact hM) MO.rf
  intro m
  induction m with
  | zero =>
    intro i x w hm hx hM1 hO
    obtain rfl : i = n := by omega
    subst hx
    rw [r1, r2] at hM1
    refine ev_ss DL_learn_0 2 2 (pc' := 6) (lv' := [(0, .int _), (1, .int _), (2, .ref _), (3, .ref _), (4, .ref _), (5, .ref _), (6, .ref _), (7, .ref _), (8, .ref _), (9, .ref _), (10, .int _)]) (st' := [.int _, .int _]) rfl ?_
    refine ev_icge DL_learn_0 4 rfl (tgt := 55) (by decide) (fun _ => ?_) (fun h => h.elim (nI_le (Nat.le_refl _) (by omega)))
    refine ev_ss DL_learn_0 4 28 (pc' := 61) (lv' := [(11, .int 0), (10, .int 0), (0, .int _), (1, .int _), (2, .ref _), (3, .ref _), (4, .ref _), (5, .ref _), (6, .ref _), (7, .ref _), (8, .ref _), (9, .ref _)]) (st' := []) rfl ?_
    refine ev_lvp (lv2 := [(0, .int _), (1, .int _), (2, .ref _), (3, .ref _), (4, .ref _), (5, .ref _), (6, .ref _), (7, .ref _), (8, .ref _), (9, .ref _), (10, .int _), (11, .int _)]) [2, 3, 4, 5, 6, 7, 8, 9, 10, 11, 1, 0] rfl ?_
    exact lrn_K2 (ze := ze) ha hn hw k8 0 _ _ w (Nat.zero_add k8) nI_0.symm rfl (by rw [enT_0]; exact hM1) hO
  | succ m ih =>
    intro i x w hm hx hM1 hO
    subst hx
    have hT : ∀ t, t < 8 → TN ((pW (pSW p (lrM (p.2.2.1 0) p.1 (pW p a) ze i).1 a (lrM (p.2.2.1 0) p.1 (pW p a) ze i).2.1) a).1 t) := by
      rw [pW_SW, (lrM_rel i).2.1]
      exact TN_lrN hN1 i
    refine ev_ss DL_learn_0 2 2 (pc' := 6) (lv' := [(0, .int _), (1, .int _), (2, .ref _), (3, .ref _), (4, .ref _), (5, .ref _), (6, .ref _), (7, .ref _), (8, .ref _), (9, .ref _), (10, .int _)]) (st' := [.int _, .int _]) rfl ?_
    refine ev_icge DL_learn_0 4 rfl (tgt := 55) (by decide) (fun h => absurd h (nI_ge (b := n) (by omega) (by omega))) (fun _ => ?_)
    refine ev_ss DL_learn_0 2 5 (pc' := 12) (lv' := [(11, .int 0), (0, .int _), (1, .int _), (2, .ref _), (3, .ref _), (4, .ref _), (5, .ref _), (6, .ref _), (7, .ref _), (8, .ref _), (9, .ref _), (10, .int _)]) (st' := []) rfl ?_
    refine ev_lvp (lv2 := [(0, .int _), (1, .int _), (2, .ref _), (3, .ref _), (4, .ref _), (5, .ref _), (6, .ref _), (7, .ref _), (8, .ref _), (9, .ref _), (10, .int _), (11, .int _)]) [1, 2, 3, 4, 5, 6, 7, 8, 9, 10, 11, 0] rfl ?_
    refine lrn_in (p := pSW p (lrM (p.2.2.1 0) p.1 (pW p a) ze i).1 a (lrM (p.2.2.1 0) p.1 (pW p a) ze i).2.1) (er := (lrM (p.2.2.1 0) p.1 (pW p a) ze i).2.2) ha (nb := i) (by omega) (SN_lrM hsn i) hT hN3 (fun w2 hM2 hO2 => ?_) k8 0 _ w (Nat.zero_add k8) nI_0.symm (by rw [lrT_0, pSW_id]; exact hM1) hO
    rw [pW_SW, pSW_se, pSW_pSW] at hM2
    refine ev_ss DL_learn_0 1 26 (pc' := 52) (lv' := [(10, .int _), (0, .int _), (1, .int _), (2, .ref _), (3, .ref _), (4, .ref _), (5, .ref _), (6, .ref _), (7, .ref _), (8, .ref _), (9, .ref _)]) (st' := []) rfl ?_
    refine ev_goto DL_learn_0 27 rfl (tgt := 3) (by decide) ?_
    refine ev_lvp (lv2 := [(0, .int _), (1, .int _), (2, .ref _), (3, .ref _), (4, .ref _), (5, .ref _), (6, .ref _), (7, .ref _), (8, .ref _), (9, .ref _), (10, .int _)]) [1, 2, 3, 4, 5, 6, 7, 8, 9, 10, 0] rfl ?_
    exact ih (i + 1) _ w2 (by omega) (nI_1 i) (by rw [lrM_s]; exact hM2) hO2
