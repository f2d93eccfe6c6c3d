noncomputable def lrM (p sd : Int32) (σ : WS) (er : Nat → Int32) : Nat → Int32 × WS × (Nat → Int32)
  | 0 => (sd, σ, er)
  | n + 1 => lrT p n (lrM p sd σ er n).1 (lrM p sd σ er n).2.1 (lrM p sd σ er n).2.2 k8
theorem lrM_0 {p sd : Int32} {σ : WS} {er : Nat → Int32} : lrM p sd σ er 0 = (sd, σ, er) := rfl
theorem lrM_s {p sd : Int32} {σ : WS} {er : Nat → Int32} {n : Nat} : lrM p sd σ er (n + 1) = lrT p n (lrM p sd σ er n).1 (lrM p sd σ er n).2.1 (lrM p sd σ er n).2.2 k8 := rfl
theorem lrT_s {p sd : Int32} {nb : Nat} {σ : WS} {sz : Nat → Int32} {i : Nat} : lrT p nb sd σ sz (i + 1) = (drwS (drwS (lrT p nb sd σ sz i).1), (va_up (lrT p nb sd σ sz i).2.1.1 i (lrF p (lrT p nb sd σ sz i).1 ((lrT p nb sd σ sz i).2.1.1 i)), (lrT p nb sd σ sz i).2.1.2), upd (lrT p nb sd σ sz i).2.2 (8 * i + nb % 8) (absP (lrE (lrT p nb sd σ sz i).1 ((lrT p nb sd σ sz i).2.1.1 i)))) := rfl
theorem lrT_ind {p sd : Int32} {nb : Nat} {σ : WS} {sz sz2 : Nat → Int32} : ∀ i, (lrT p nb sd σ sz i).1 = (lrT p nb sd σ sz2 i).1 ∧ (lrT p nb sd σ sz i).2.1 = (lrT p nb sd σ sz2 i).2.1
  | 0 => ⟨rfl, rfl⟩
  | i + 1 => by
    obtain ⟨h1, h2⟩ := lrT_ind (p := p) (sd := sd) (nb := nb) (σ := σ) (sz := sz) (sz2 := sz2) i
    rw [lrT_s, lrT_s, h1, h2]
    exact ⟨rfl, rfl⟩
theorem lrT_rel {p sd : Int32} {nb : Nat} {σ : WS} {sz sz2 : Nat → Int32} : ∀ i, i ≤ 8 → ∀ t j, t < 8 → j < 8 → (t < i ∧ j = nb % 8 → (lrT p nb sd σ sz i).2.2 (8 * t + j) = (lrT p nb sd σ sz2 i).2.2 (8 * t + j)) ∧ (¬ (t < i ∧ j = nb % 8) → (lrT p nb sd σ sz i).2.2 (8 * t + j) = sz (8 * t + j) ∧ (lrT p nb sd σ sz2 i).2.2 (8 * t + j) = sz2 (8 * t + j))
  | 0, _, t, j, ht, hj => ⟨fun h => absurd h.1 (Nat.not_lt_zero t), fun _ => ⟨rfl, rfl⟩⟩
  | i + 1, hi, t, j, ht, hj => by
    have ih := lrT_rel (p := p) (sd := sd) (nb := nb) (σ := σ) (sz := sz) (sz2 := sz2) i (by omega) t j ht hj
    obtain ⟨h1, h2⟩ := lrT_ind (p := p) (sd := sd) (nb := nb) (σ := σ) (sz := sz) (sz2 := sz2) i
    have hb : nb % 8 < 8 := Nat.mod_lt _ (by decide)
    rw [lrT_s, lrT_s, h1, h2]
    show (t < i + 1 ∧ j = nb % 8 → upd _ _ _ (8 * t + j) = upd _ _ _ (8 * t + j)) ∧ (¬ (t < i + 1 ∧ j = nb % 8) → upd _ _ _ (8 * t + j) = _ ∧ upd _ _ _ (8 * t + j) = _)
    by_cases e : 8 * t + j = 8 * i + nb % 8
    · obtain ⟨rfl, rfl⟩ : t = i ∧ j = nb % 8 := by omega
      refine ⟨fun _ => ?_, fun h => absurd ⟨Nat.lt_succ_self _, rfl⟩ h⟩
      rw [upd_eq, upd_eq]
    · rw [upd_ne e, upd_ne e]
      refine ⟨fun h => ih.1 ⟨by omega, h.2⟩, fun h => ih.2 (fun q => h ⟨by omega, q.2⟩)⟩
theorem lrM_rel {p sd : Int32} {σ : WS} {er : Nat → Int32} : ∀ n, (lrM p sd σ er n).1 = (lrN p sd σ n).1 ∧ (lrM p sd σ er n).2.1 = (lrN p sd σ n).2.1 ∧ ∀ t j, t < 8 → j < 8 → (j < n → (lrM p sd σ er n).2.2 (8 * t + j) = (lrN p sd σ n).2.2 (8 * t + j)) ∧ (n ≤ j → (lrN p sd σ n).2.2 (8 * t + j) = 0)
  | 0 => ⟨rfl, rfl, fun t j ht hj => ⟨fun h => absurd h (Nat.not_lt_zero j), fun _ => rfl⟩⟩
  | n + 1 => by
    have e8 := k8e
    obtain ⟨h1, h2, h3⟩ := lrM_rel (p := p) (sd := sd) (σ := σ) (er := er) n
    rw [lrM_s, lrN_s, h1, h2]
    obtain ⟨g1, g2⟩ := lrT_ind (p := p) (sd := (lrN p sd σ n).1) (nb := n) (σ := (lrN p sd σ n).2.1) (sz := (lrM p sd σ er n).2.2) (sz2 := (lrN p sd σ n).2.2) k8
    refine ⟨g1, g2, fun t j ht hj => ?_⟩
    have g3 := lrT_rel (p := p) (sd := (lrN p sd σ n).1) (nb := n) (σ := (lrN p sd σ n).2.1) (sz := (lrM p sd σ er n).2.2) (sz2 := (lrN p sd σ n).2.2) k8 (by omega) t j ht hj
    have g4 := h3 t j ht hj
    by_cases e : j = n % 8
    · refine ⟨fun _ => g3.1 ⟨by omega, e⟩, fun h => ?_⟩
      omega
    · obtain ⟨q1, q2⟩ := g3.2 (fun q => e q.2)
      rw [q1, q2]
      exact ⟨fun h => g4.1 (by omega), fun h => g4.2 (by omega)⟩
theorem mxP_ge {a b : Int32} (h : 0 ≤ a) : 0 ≤ mxP a b := by
  unfold mxP
  split
  · rename_i e
    exact Int32.le_trans h (Int32.le_of_lt e)
  · exact h
theorem wrM_nn {er : Nat → Int32} {t : Nat} : ∀ i, 0 ≤ wrM er t i
  | 0 => (by decide : (0 : Int32) ≤ 0)
  | i + 1 => mxP_ge (wrM_nn i)
theorem wor_rel {er sz : Nat → Int32} {t n : Nat} (h : ∀ j, j < 8 → (j < n → er (8 * t + j) = sz (8 * t + j)) ∧ (n ≤ j → sz (8 * t + j) = 0)) : ∀ i, i ≤ 8 → worN sz t i = wrM er t (min i n)
  | 0, _ => by rw [Nat.zero_min]; rfl
  | i + 1, hi => by
    have ih := wor_rel h i (by omega)
    show mxP (worN sz t i) (sz (8 * t + i)) = _
    rw [ih]
    by_cases e : i < n
    · rw [show min i n = i by omega, show min (i + 1) n = i + 1 by omega, wrM_s, (h i (by omega)).1 e]
    · rw [(h i (by omega)).2 (by omega), show min i n = n by omega, show min (i + 1) n = n by omega]
      exact (mxP_p (wrM_nn n)).symm
theorem wor_k {er sz : Nat → Int32} {t n : Nat} (h : ∀ j, j < 8 → (j < n → er (8 * t + j) = sz (8 * t + j)) ∧ (n ≤ j → sz (8 * t + j) = 0)) : wrM er t (min 8 n) = worN sz t k8 := by
  rw [k8e]
  exact (wor_rel h 8 (Nat.le_refl 8)).symm
set_option maxRecDepth 100000 in
set_option maxHeartbeats 4000000 in
theorem m_X7_lessonBits {E : gE} {ad : Nat → Nat} {ws : va_W} {sm bm tw ea iw : Int32} {hh : Int64} {z : Nat → Int32} (h : ws[214]? = some (ad 214, moC ad sm bm tw ea iw hh)) (hz : ws[215]? = some (ad 215, iaC E 811 z)) {er : Nat → Int32} (he : ws[222]? = some (ad 222, iaC E 64 er)) {p : PS} {a n : Nat} {sz : Nat → Int32} (ha : a < 2) (hn : n < 2 ^ 31) (hG : ZG z p) (hw : ∀ t, t < 8 → wrM er t (min 8 n) = worN sz t k8) : CD E YX7_lessonBits 0 0 [.ref (ad 214), .int (nI a), .int (nI n)] ws (some (.int (bbN (p.2.2.1 1) sz (pW p a) k8))) ws := by
  have e8 := k8e
  have hmg : z 809 = p.2.2.1 1 := hG.2.2.2.2.2.2 1 (by decide)
  refine cdV vX7_lessonBits (Nat.le_of_ble_eq_true rfl) (lv0 := [(0, .ref (ad 214)), (1, .int (nI a)), (2, .int (nI n))]) rfl ?_
  suffices K : ∀ (m i : Nat) (x acc : Int32), i + m = k8 → x = nI i → acc = bbN (p.2.2.1 1) sz (pW p a) i → Ev E YX7_lessonBits (fun v2 w2 => v2 = some (.int (bbN (p.2.2.1 1) sz (pW p a) k8)) ∧ w2 = ws) nX 0 0 5 [(0, .ref (ad 214)), (1, .int (nI a)), (2, .int (nI n)), (3, .int acc), (4, .int x)] [] ws by
    refine ev_ss DX7_lessonBits 4 0 (pc' := 5) (lv' := [(4, .int 0), (3, .int 0), (0, .ref _), (1, .int _), (2, .int _)]) (st' := []) rfl ?_
    refine ev_lvp (lv2 := [(0, .ref _), (1, .int _), (2, .int _), (3, .int _), (4, .int _)]) [2, 3, 4, 1, 0] rfl ?_
    exact K k8 0 _ _ (Nat.zero_add k8) nI_0.symm bbN_0.symm
  intro m
  induction m with
  | zero =>
    intro i x acc hm hx hq
    obtain rfl : i = k8 := by omega
    subst hx; subst hq
    refine ev_ss DX7_lessonBits 2 4 (pc' := 9) (lv' := [(0, .ref _), (1, .int _), (2, .int _), (3, .int _), (4, .int _)]) (st' := [.int 8, .int _]) rfl ?_
    refine ev_icge DX7_lessonBits 6 rfl (tgt := 46) (by decide) (fun _ => ?_) (fun h => h.elim (by rw [k8e]; decide))
    refine ev_ss DX7_lessonBits 1 27 (pc' := 47) (lv' := [(0, .ref _), (1, .int _), (2, .int _), (3, .int _), (4, .int _)]) (st' := [.int _]) rfl ?_
    exact ev_iret DX7_lessonBits 28 rfl rfl ⟨rfl, rfl⟩
  | succ m ih =>
    intro i x acc hm hx hq
    subst hx
    have hc1 : acA a i + 11 ≤ 288 := by unfold acA; omega
    refine ev_ss DX7_lessonBits 2 4 (pc' := 9) (lv' := [(0, .ref _), (1, .int _), (2, .int _), (3, .int _), (4, .int _)]) (st' := [.int 8, .int _]) rfl ?_
    refine ev_icge DX7_lessonBits 6 rfl (tgt := 46) (by decide) (fun h => absurd h (nI_ge (b := 8) (by omega) (by decide))) (fun _ => ?_)
    refine ev_ss DX7_lessonBits 5 7 (pc' := 18) (lv' := [(0, .ref _), (1, .int _), (2, .int _), (3, .int _), (4, .int _)]) (st' := [.int _, .int _, .ref _, .ref _, .int _]) rfl ?_
    refine ev_cV DX7_lessonBits 12 (m_X7_worstOf h he (t := i) (by omega) hn) vX7_worstOf rfl qX7_98 rfl h rfl (hd_of rfl rfl rfl rfl) ?_
    refine ev_ss DX7_lessonBits 1 13 (pc' := 22) (lv' := [(0, .ref _), (1, .int _), (2, .int _), (3, .int _), (4, .int _)]) (st' := [.ref _, .int _, .ref _, .int _]) rfl ?_
    refine ev_get DX7_lessonBits 14 GX7 rfl (k0 := 0) (Nat.le_of_ble_eq_true rfl) fX7_7 h rfl ?_
    refine ev_ss DX7_lessonBits 3 15 (pc' := 29) (lv' := [(0, .ref _), (1, .int _), (2, .int _), (3, .int _), (4, .int _)]) (st' := [.int _, .int _, .ref _, .ref _, .int _, .ref _, .int _]) rfl ?_
    refine ev_cV DX7_lessonBits 18 (m_X7_accentAt h) vX7_accentAt rfl qX7_68 rfl h rfl (hd_of rfl rfl rfl rfl) ?_
    refine ev_ss DX7_lessonBits 2 19 (pc' := 34) (lv' := [(0, .ref _), (1, .int _), (2, .int _), (3, .int _), (4, .int _)]) (st' := [.int _, .ref _, .int _, .ref _, .int _]) rfl ?_
    refine ev_ialdv DX7_lessonBits 21 (k0 := (acA a i + 0)) rfl hz (nx_add (a := acA a i) (b := 0) rfl rfl) (by omega) (by decide) ((hG.2.1 a i 0 ha (by omega) (by decide))) ?_
    refine ev_cV DX7_lessonBits 22 (m_X7_bitsBy h hz hmg) vX7_bitsBy rfl qX7_101 rfl h rfl (hd_of rfl rfl rfl rfl) ?_
    refine ev_ss DX7_lessonBits 3 23 (pc' := 43) (lv' := [(4, .int _), (3, .int _), (0, .ref _), (1, .int _), (2, .int _)]) (st' := []) rfl ?_
    refine ev_goto DX7_lessonBits 26 rfl (tgt := 5) (by decide) ?_
    refine ev_lvp (lv2 := [(0, .ref _), (1, .int _), (2, .int _), (3, .int _), (4, .int _)]) [2, 3, 4, 1, 0] rfl ?_
    exact ih (i + 1) _ _ (by omega) (nI_1 i) (by show acc + bfP ((pW p a).1 i 7) (wrM er i (min 8 n) * p.2.2.1 1 / 4) = bbN (p.2.2.1 1) sz (pW p a) i + bfP ((pW p a).1 i 7) (worN sz i k8 * p.2.2.1 1 / 4); rw [hq, hw i (by omega)])
theorem pL_eq {p : PS} {a n : Nat} : ((pSW p (lrN (p.2.2.1 0) p.1 (pW p a) n).1 a (tlW (p.2.2.1 0) (p.2.2.1 1) p.1 (pW p a) n)).1, (pSW p (lrN (p.2.2.1 0) p.1 (pW p a) n).1 a (tlW (p.2.2.1 0) (p.2.2.1 1) p.1 (pW p a) n)).2.1 + nI n, (pSW p (lrN (p.2.2.1 0) p.1 (pW p a) n).1 a (tlW (p.2.2.1 0) (p.2.2.1 1) p.1 (pW p a) n)).2.2) = pLearn p a n := rfl
theorem pSW_pSW {p : PS} {sd sd2 : Int32} {a : Nat} {σ τ : WS} : pSW (pSW p sd a σ) sd2 a τ = pSW p sd2 a τ := by
  unfold pSW pSet
  by_cases h : a = 0
  · simp [h]
  · simp [h]
set_option maxRecDepth 100000 in
set_option maxHeartbeats 4000000 in
theorem m_X7_learnAll {E : gE} {ad : Nat → Nat} {ws : va_W} {sm bm tw ea iw : Int32} {hh : Int64} {z : Nat → Int32} (h : ws[214]? = some (ad 214, moC ad sm bm tw ea iw hh)) (hz : ws[215]? = some (ad 215, iaC E 811 z)) {er : Nat → Int32} (he : ws[222]? = some (ad 222, iaC E 64 er)) {p : PS} {a n : Nat} (ha : a < 2) (hn : n < 128) (hG : ZG z p) (hN : LN p a) : C0 E YX7_learnAll 0 0 [.ref (ad 214), .int (nI a), .int (nI n)] ws (fun v w => v = some (.int (sumN (fun t => (pW (pLearn p a n) a).1 t 10) 8)) ∧ (∃ z2, w[215]? = some (ad 215, iaC E 811 z2) ∧ ZG z2 (pLearn p a n)) ∧ (∃ er2, w[222]? = some (ad 222, iaC E 64 er2)) ∧ NE ws w) := by
  have e8 := k8e
  obtain ⟨hN1, hN2, hN3⟩ := hN
  obtain ⟨r1, r2, r3⟩ := lrM_rel (p := p.2.2.1 0) (sd := p.1) (σ := pW p a) (er := er) n
  have hw : ∀ t, t < 8 → wrM (lrM (p.2.2.1 0) p.1 (pW p a) er n).2.2 t (min 8 n) = worN (lrN (p.2.2.1 0) p.1 (pW p a) n).2.2 t k8 := fun t ht => wor_k (fun j hj => r3 t j ht hj)
  refine c0V vX7_learnAll (Nat.le_of_ble_eq_true rfl) (lv0 := [(0, .ref (ad 214)), (1, .int (nI a)), (2, .int (nI n))]) rfl ?_
  have K2 : ∀ (m i : Nat) (x : Int32) (w : va_W) (z1 : Nat → Int32), i + m = k8 → x = nI i → w[215]? = some (ad 215, iaC E 811 z1) → ZG z1 (pSW p (lrN (p.2.2.1 0) p.1 (pW p a) n).1 a (enT (p.2.2.1 1) (lrN (p.2.2.1 0) p.1 (pW p a) n).2.2 (lrN (p.2.2.1 0) p.1 (pW p a) n).2.1 i)) → w[222]? = some (ad 222, iaC E 64 (lrM (p.2.2.1 0) p.1 (pW p a) er n).2.2) → NE ws w →
      Ev E YX7_learnAll (fun v w => v = some (.int (sumN (fun t => (pW (pLearn p a n) a).1 t 10) 8)) ∧ (∃ z2, w[215]? = some (ad 215, iaC E 811 z2) ∧ ZG z2 (pLearn p a n)) ∧ (∃ er2, w[222]? = some (ad 222, iaC E 64 er2)) ∧ NE ws w) nX 0 0 21 [(0, .ref (ad 214)), (1, .int (nI a)), (2, .int (nI n)), (3, .int x)] [] w := by
    intro m
    induction m with
    | zero =>
      intro i x w z1 hm hx hz1 hg1 he1 hO
      obtain rfl : i = k8 := by omega
      subst hx
      have h1 := (hO 214 (by decide) (by decide)).trans h
      have q6 : z1 806 = p.2.1 := hg1.2.2.2.2.1
      have hg2 := hg1.beats (v := p.2.1 + nI n)
      refine ev_ss DX7_learnAll 2 13 (pc' := 24) (lv' := [(0, .ref _), (1, .int _), (2, .int _), (3, .int _)]) (st' := [.int 8, .int _]) rfl ?_
      refine ev_icge DX7_learnAll 15 rfl (tgt := 97) (by decide) (fun _ => ?_) (fun h => h.elim (by rw [k8e]; decide))
      refine ev_ss DX7_learnAll 1 60 (pc' := 98) (lv' := [(0, .ref _), (1, .int _), (2, .int _), (3, .int _)]) (st' := [.ref _]) rfl ?_
      refine ev_get DX7_learnAll 61 GX7 rfl (k0 := 0) (Nat.le_of_ble_eq_true rfl) fX7_7 h1 rfl ?_
      refine ev_ss DX7_learnAll 2 62 (pc' := 105) (lv' := [(0, .ref _), (1, .int _), (2, .int _), (3, .int _)]) (st' := [.int 806, .ref _, .int 806, .ref _]) rfl ?_
      refine ev_ialdv DX7_learnAll 64 (k0 := 806) rfl hz1 rfl (by omega) (by decide) (q6) ?_
      refine ev_ss DX7_learnAll 2 65 (pc' := 108) (lv' := [(0, .ref _), (1, .int _), (2, .int _), (3, .int _)]) (st' := [.int _, .int 806, .ref _]) rfl ?_
      refine ev_iastv DX7_learnAll 67 (k0 := 806) rfl hz1 rfl (by omega) (by decide) rfl ?_
      refine ev_ss DX7_learnAll 2 68 (pc' := 111) (lv' := [(0, .ref _), (1, .int _), (2, .int _), (3, .int _)]) (st' := [.int _, .ref _]) rfl ?_
      refine ev_cV DX7_learnAll 70 (m_X7_carried (wset_o h1 hz1 rfl) (wset_get hz1) ha (p := pLearn p a n) hg2) vX7_carried rfl qX7_108 rfl (wset_o h1 hz1 rfl) rfl (hd_of rfl rfl rfl rfl) ?_
      exact ev_iret DX7_learnAll 71 rfl rfl ⟨rfl, ⟨_, wset_get hz1, hg2⟩, ⟨_, wset_n he1 (by decide)⟩, hO.tr (fun j b c => List.getElem?_set_ne (Ne.symm b))⟩
    | succ m ih =>
      intro i x w z1 hm hx hz1 hg1 he1 hO
      subst hx
      have h1 := (hO 214 (by decide) (by decide)).trans h
      have hc1 : acA a i + 11 ≤ 288 := by unfold acA; omega
      obtain ⟨q, eq⟩ : ∃ q, q = pSW p (lrN (p.2.2.1 0) p.1 (pW p a) n).1 a (enT (p.2.2.1 1) (lrN (p.2.2.1 0) p.1 (pW p a) n).2.2 (lrN (p.2.2.1 0) p.1 (pW p a) n).2.1 i) := ⟨_, rfl⟩
      rw [← eq] at hg1
      have hmg : z1 809 = p.2.2.1 1 := by rw [hg1.2.2.2.2.2.2 1 (by decide), eq]; rfl
      have hg2 : ZG z1 (pTone q a i ((pW q a).1 i)) := by rw [pT_id]; exact hg1
      have hg3 := ((hg2.ac ha (show i < 8 by omega) (j := 4) (v := worN (lrN (p.2.2.1 0) p.1 (pW p a) n).2.2 i k8) (by decide)).ac ha (by omega) (j := 3) (v := bfP ((pW q a).1 i 7) (worN (lrN (p.2.2.1 0) p.1 (pW p a) n).2.2 i k8 * p.2.2.1 1 / 4)) (by decide)).ac ha (by omega) (j := 5) (v := 0) (by decide)
      refine ev_ss DX7_learnAll 2 13 (pc' := 24) (lv' := [(0, .ref _), (1, .int _), (2, .int _), (3, .int _)]) (st' := [.int 8, .int _]) rfl ?_
      refine ev_icge DX7_learnAll 15 rfl (tgt := 97) (by decide) (fun h => absurd h (nI_ge (b := 8) (by omega) (by decide))) (fun _ => ?_)
      refine ev_ss DX7_learnAll 3 16 (pc' := 30) (lv' := [(0, .ref _), (1, .int _), (2, .int _), (3, .int _)]) (st' := [.int _, .int _, .ref _]) rfl ?_
      refine ev_cV DX7_learnAll 19 (m_X7_accentAt h1) vX7_accentAt rfl qX7_68 rfl h1 rfl (hd_of rfl rfl rfl rfl) ?_
      refine ev_ss DX7_learnAll 2 20 (pc' := 36) (lv' := [(4, .int _), (0, .ref _), (1, .int _), (2, .int _), (3, .int _)]) (st' := [.ref _]) rfl ?_
      refine ev_get DX7_learnAll 22 GX7 rfl (k0 := 0) (Nat.le_of_ble_eq_true rfl) fX7_7 h1 rfl ?_
      refine ev_ss DX7_learnAll 6 23 (pc' := 46) (lv' := [(4, .int _), (0, .ref _), (1, .int _), (2, .int _), (3, .int _)]) (st' := [.int _, .int _, .ref _, .int _, .ref _]) rfl ?_
      refine ev_cV DX7_learnAll 29 (m_X7_worstOf h1 he1 (t := i) (by omega) (n := n) (by omega)) vX7_worstOf rfl qX7_98 rfl h1 rfl (hd_of rfl rfl rfl rfl) ?_
      rw [hw i (by omega)]
      refine ev_iastv DX7_learnAll 30 (k0 := (acA a i + 4)) rfl hz1 (nx_add (a := acA a i) (b := 4) rfl rfl) (by omega) (by decide) rfl ?_
      refine ev_ss DX7_learnAll 1 31 (pc' := 51) (lv' := [(4, .int _), (0, .ref _), (1, .int _), (2, .int _), (3, .int _)]) (st' := [.ref _]) rfl ?_
      refine ev_get DX7_learnAll 32 GX7 rfl (k0 := 0) (Nat.le_of_ble_eq_true rfl) fX7_7 (wset_o h1 hz1 rfl) rfl ?_
      refine ev_ss DX7_learnAll 5 33 (pc' := 60) (lv' := [(4, .int _), (0, .ref _), (1, .int _), (2, .int _), (3, .int _)]) (st' := [.ref _, .ref _, .int _, .ref _]) rfl ?_
      refine ev_get DX7_learnAll 38 GX7 rfl (k0 := 0) (Nat.le_of_ble_eq_true rfl) fX7_7 (wset_o h1 hz1 rfl) rfl ?_
      refine ev_ss DX7_learnAll 3 39 (pc' := 67) (lv' := [(4, .int _), (0, .ref _), (1, .int _), (2, .int _), (3, .int _)]) (st' := [.int _, .ref _, .ref _, .int _, .ref _]) rfl ?_
      refine ev_ialdv DX7_learnAll 42 (k0 := (acA a i + 4)) rfl (wset_get hz1) (nx_add (a := acA a i) (b := 4) rfl rfl) (by omega) (by decide) (upd_eq) ?_
      refine ev_ss DX7_learnAll 1 43 (pc' := 69) (lv' := [(4, .int _), (0, .ref _), (1, .int _), (2, .int _), (3, .int _)]) (st' := [.ref _, .int _, .ref _, .int _, .ref _]) rfl ?_
      refine ev_get DX7_learnAll 44 GX7 rfl (k0 := 0) (Nat.le_of_ble_eq_true rfl) fX7_7 (wset_o h1 hz1 rfl) rfl ?_
      refine ev_ss DX7_learnAll 3 45 (pc' := 76) (lv' := [(4, .int _), (0, .ref _), (1, .int _), (2, .int _), (3, .int _)]) (st' := [.int _, .ref _, .int _, .ref _, .int _, .ref _]) rfl ?_
      refine ev_ialdv DX7_learnAll 48 (k0 := (acA a i + 0)) rfl (wset_get hz1) (nx_add (a := acA a i) (b := 0) rfl rfl) (by omega) (by decide) ((upd_ne (by omega)).trans ((hg1.2.1 a i 0 ha (by omega) (by decide)))) ?_
      refine ev_cV DX7_learnAll 49 (m_X7_bitsBy (mg := p.2.2.1 1) (wset_o h1 hz1 rfl) (wset_get hz1) (by rw [upd_ne (by omega)]; exact hmg)) vX7_bitsBy rfl qX7_101 rfl (wset_o h1 hz1 rfl) rfl (hd_of rfl rfl rfl rfl) ?_
      refine ev_iastv DX7_learnAll 50 (k0 := (acA a i + 3)) rfl (wset_get hz1) (nx_add (a := acA a i) (b := 3) rfl rfl) (by omega) (by decide) wset_set ?_
      refine ev_ss DX7_learnAll 1 51 (pc' := 82) (lv' := [(4, .int _), (0, .ref _), (1, .int _), (2, .int _), (3, .int _)]) (st' := [.ref _]) rfl ?_
      refine ev_get DX7_learnAll 52 GX7 rfl (k0 := 0) (Nat.le_of_ble_eq_true rfl) fX7_7 (wset_o h1 hz1 rfl) rfl ?_
      refine ev_ss DX7_learnAll 4 53 (pc' := 90) (lv' := [(4, .int _), (0, .ref _), (1, .int _), (2, .int _), (3, .int _)]) (st' := [.int 0, .int _, .ref _]) rfl ?_
      refine ev_iastv DX7_learnAll 57 (k0 := (acA a i + 5)) rfl (wset_get hz1) (nx_add (a := acA a i) (b := 5) rfl rfl) (by omega) (by decide) wset_set ?_
      refine ev_ss DX7_learnAll 1 58 (pc' := 94) (lv' := [(3, .int _), (4, .int _), (0, .ref _), (1, .int _), (2, .int _)]) (st' := []) rfl ?_
      refine ev_goto DX7_learnAll 59 rfl (tgt := 21) (by decide) ?_
      refine ev_lvp (lv2 := [(0, .ref _), (1, .int _), (2, .int _), (3, .int _)]) [2, 3, 4, 0] rfl ?_
      refine ih (i + 1) _ _ _ (by omega) (nI_1 i) (wset_get hz1) ?_ (wset_n he1 (by decide)) (hO.tr (fun j b c => List.getElem?_set_ne (Ne.symm b)))
      show ZG _ (pSW p (lrN (p.2.2.1 0) p.1 (pW p a) n).1 a (va_up (enT (p.2.2.1 1) (lrN (p.2.2.1 0) p.1 (pW p a) n).2.2 (lrN (p.2.2.1 0) p.1 (pW p a) n).2.1 i).1 i (endP ((enT (p.2.2.1 1) (lrN (p.2.2.1 0) p.1 (pW p a) n).2.2 (lrN (p.2.2.1 0) p.1 (pW p a) n).2.1 i).1 i) (worN (lrN (p.2.2.1 0) p.1 (pW p a) n).2.2 i k8) (p.2.2.1 1)), (enT (p.2.2.1 1) (lrN (p.2.2.1 0) p.1 (pW p a) n).2.2 (lrN (p.2.2.1 0) p.1 (pW p a) n).2.1 i).2))
      rw [← pSW_T (sd := (lrN (p.2.2.1 0) p.1 (pW p a) n).1)]
      rw [eq, pW_SW] at hg3
      rw [eq, pW_SW]
      exact hg3
  have K1 : ∀ (m i : Nat) (x : Int32) (w : va_W) (z1 : Nat → Int32), i + m = n → x = nI i → w[215]? = some (ad 215, iaC E 811 z1) → ZG z1 (pSW p (lrM (p.2.2.1 0) p.1 (pW p a) er i).1 a (lrM (p.2.2.1 0) p.1 (pW p a) er i).2.1) → w[222]? = some (ad 222, iaC E 64 (lrM (p.2.2.1 0) p.1 (pW p a) er i).2.2) → NE ws w →
      Ev E YX7_learnAll (fun v w => v = some (.int (sumN (fun t => (pW (pLearn p a n) a).1 t 10) 8)) ∧ (∃ z2, w[215]? = some (ad 215, iaC E 811 z2) ∧ ZG z2 (pLearn p a n)) ∧ (∃ er2, w[222]? = some (ad 222, iaC E 64 er2)) ∧ NE ws w) nX 0 0 2 [(0, .ref (ad 214)), (1, .int (nI a)), (2, .int (nI n)), (3, .int x)] [] w := by
    intro m
    induction m with
    | zero =>
      intro i x w z1 hm hx hz1 hg1 he1 hO
      obtain rfl : i = n := by omega
      subst hx
      rw [r1, r2] at hg1
      refine ev_ss DX7_learnAll 2 2 (pc' := 4) (lv' := [(0, .ref _), (1, .int _), (2, .int _), (3, .int _)]) (st' := [.int _, .int _]) rfl ?_
      refine ev_icge DX7_learnAll 4 rfl (tgt := 19) (by decide) (fun _ => ?_) (fun h => h.elim (nI_le (Nat.le_refl _) (by omega)))
      refine ev_ss DX7_learnAll 2 11 (pc' := 21) (lv' := [(3, .int 0), (0, .ref _), (1, .int _), (2, .int _)]) (st' := []) rfl ?_
      refine ev_lvp (lv2 := [(0, .ref _), (1, .int _), (2, .int _), (3, .int _)]) [1, 2, 3, 0] rfl ?_
      exact K2 k8 0 _ w z1 (Nat.zero_add k8) nI_0.symm hz1 (by rw [enT_0]; exact hg1) he1 hO
    | succ m ih =>
      intro i x w z1 hm hx hz1 hg1 he1 hO
      subst hx
      have h1 := (hO 214 (by decide) (by decide)).trans h
      have hT : ∀ t, t < 8 → TN ((pW (pSW p (lrM (p.2.2.1 0) p.1 (pW p a) er i).1 a (lrM (p.2.2.1 0) p.1 (pW p a) er i).2.1) a).1 t) := by
        rw [pW_SW, (lrM_rel i).2.1]
        exact TN_lrN hN1 i
      refine ev_ss DX7_learnAll 2 2 (pc' := 4) (lv' := [(0, .ref _), (1, .int _), (2, .int _), (3, .int _)]) (st' := [.int _, .int _]) rfl ?_
      refine ev_icge DX7_learnAll 4 rfl (tgt := 19) (by decide) (fun h => absurd h (nI_ge (b := n) (by omega) (by omega))) (fun _ => ?_)
      refine ev_ss DX7_learnAll 3 5 (pc' := 10) (lv' := [(0, .ref _), (1, .int _), (2, .int _), (3, .int _)]) (st' := [.int _, .int _, .ref _]) rfl ?_
      refine ev_rV DX7_learnAll 8 (m_X7_learnBeat h1 hz1 he1 ha (nb := i) (by omega) hg1 hT hN3) vX7_learnBeat rfl qX7_104 rfl h1 rfl (hd_of rfl rfl rfl rfl) (fun v w2 hvw => ?_)
      obtain ⟨rfl, ⟨z2, hz2, hg2⟩, he2, hO2⟩ := hvw
      rw [pW_SW, pSW_se] at hg2 he2
      refine ev_ss DX7_learnAll 1 9 (pc' := 16) (lv' := [(3, .int _), (0, .ref _), (1, .int _), (2, .int _)]) (st' := []) rfl ?_
      refine ev_goto DX7_learnAll 10 rfl (tgt := 2) (by decide) ?_
      refine ev_lvp (lv2 := [(0, .ref _), (1, .int _), (2, .int _), (3, .int _)]) [1, 2, 3, 0] rfl ?_
      exact ih (i + 1) _ w2 z2 (by omega) (nI_1 i) hz2 (by rw [lrM_s]; exact pSW_pSW ▸ hg2) (by rw [lrM_s]; exact he2) (hO.tr hO2)
  refine ev_ss DX7_learnAll 2 0 (pc' := 2) (lv' := [(3, .int 0), (0, .ref _), (1, .int _), (2, .int _)]) (st' := []) rfl ?_
  refine ev_lvp (lv2 := [(0, .ref _), (1, .int _), (2, .int _), (3, .int _)]) [1, 2, 3, 0] rfl ?_
  exact K1 n 0 _ ws z (Nat.zero_add n) nI_0.symm hz (by rw [lrM_0, pSW_id]; exact hG) (by rw [lrM_0]; exact he) NE.rf
