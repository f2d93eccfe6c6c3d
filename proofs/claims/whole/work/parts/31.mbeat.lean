/-- a state with another seed and another way -/
def pSW (p : PS) (sd : Int32) (a : Nat) (σ : WS) : PS := (sd, p.2.1, (pSet p a σ).2.2)
theorem pSW_id {p : PS} {a : Nat} : pSW p p.1 a (pW p a) = p := by
  unfold pSW
  rw [pSet_id]
theorem pW_SW {p : PS} {sd : Int32} {a : Nat} {σ : WS} : pW (pSW p sd a σ) a = σ := pW_set (p := p)
theorem pSW_se {p : PS} {sd : Int32} {a : Nat} {σ : WS} : (pSW p sd a σ).2.2.1 = p.2.2.1 := rfl
theorem pSW_T {p : PS} {sd sd2 : Int32} {a i : Nat} {σ : WS} {F : TF} : pTone (sd2, (pSW p sd a σ).2) a i F = pSW p sd2 a (va_up σ.1 i F, σ.2) := by
  unfold pTone
  have e : pW (sd2, (pSW p sd a σ).2) a = σ := pW_SW (p := p) (sd := sd)
  rw [e]
  unfold pSW pSet
  by_cases h : a = 0
  · simp [h]
  · simp [h]
/-- nothing has changed but the numbers and the errors -/
def NE (ws w : va_W) : Prop := ∀ j, j ≠ 215 → j ≠ 222 → w[j]? = ws[j]?
theorem NE.rf {ws : va_W} : NE ws ws := fun _ _ _ => rfl
theorem NE.tr {ws w w2 : va_W} (h : NE ws w) (h2 : NE w w2) : NE ws w2 := fun j a b => (h2 j a b).trans (h j a b)
set_option maxRecDepth 100000 in
set_option maxHeartbeats 4000000 in
theorem m_X7_learnBeat {E : gE} {ad : Nat → Nat} {ws : va_W} {sm bm tw ea iw : Int32} {hh : Int64} {z : Nat → Int32} (h : ws[214]? = some (ad 214, moC ad sm bm tw ea iw hh)) (hz : ws[215]? = some (ad 215, iaC E 811 z)) {er : Nat → Int32} (he : ws[222]? = some (ad 222, iaC E 64 er)) {p : PS} {a nb : Nat} (ha : a < 2) (hnb : nb < 128) (hG : ZG z p) (hN : ∀ t, t < 8 → TN ((pW p a).1 t)) (hp2 : ¬ (128 : Int32) * p.2.2.1 0 = 0) : C0 E YX7_learnBeat 0 0 [.ref (ad 214), .int (nI a), .int (nI nb)] ws (fun v w => v = none ∧ (∃ z2, w[215]? = some (ad 215, iaC E 811 z2) ∧ ZG z2 (pSW p (lrT (p.2.2.1 0) nb p.1 (pW p a) er k8).1 a (lrT (p.2.2.1 0) nb p.1 (pW p a) er k8).2.1)) ∧ w[222]? = some (ad 222, iaC E 64 (lrT (p.2.2.1 0) nb p.1 (pW p a) er k8).2.2) ∧ NE ws w) := by
  have e8 := k8e
  refine c0V vX7_learnBeat (Nat.le_of_ble_eq_true rfl) (lv0 := [(0, .ref (ad 214)), (1, .int (nI a)), (2, .int (nI nb))]) rfl ?_
  suffices K : ∀ (m i : Nat) (x : Int32) (w : va_W) (z1 : Nat → Int32), i + m = k8 → x = nI i → w[215]? = some (ad 215, iaC E 811 z1) → ZG z1 (pSW p (lrT (p.2.2.1 0) nb p.1 (pW p a) er i).1 a (lrT (p.2.2.1 0) nb p.1 (pW p a) er i).2.1) → w[222]? = some (ad 222, iaC E 64 (lrT (p.2.2.1 0) nb p.1 (pW p a) er i).2.2) → NE ws w →
      Ev E YX7_learnBeat (fun v w => v = none ∧ (∃ z2, w[215]? = some (ad 215, iaC E 811 z2) ∧ ZG z2 (pSW p (lrT (p.2.2.1 0) nb p.1 (pW p a) er k8).1 a (lrT (p.2.2.1 0) nb p.1 (pW p a) er k8).2.1)) ∧ w[222]? = some (ad 222, iaC E 64 (lrT (p.2.2.1 0) nb p.1 (pW p a) er k8).2.2) ∧ NE ws w) nX 0 0 2 [(0, .ref (ad 214)), (1, .int (nI a)), (2, .int (nI nb)), (3, .int x)] [] w by
    refine ev_ss DX7_learnBeat 2 0 (pc' := 2) (lv' := [(3, .int 0), (0, .ref _), (1, .int _), (2, .int _)]) (st' := []) rfl ?_
    refine ev_lvp (lv2 := [(0, .ref _), (1, .int _), (2, .int _), (3, .int _)]) [1, 2, 3, 0] rfl ?_
    exact K k8 0 _ ws z (Nat.zero_add k8) nI_0.symm hz (by rw [lrT_0, pSW_id]; exact hG) (by rw [lrT_0]; exact he) NE.rf
  intro m
  induction m with
  | zero =>
    intro i x w z1 hm hx hz1 hg1 he1 hO
    obtain rfl : i = k8 := by omega
    subst hx
    refine ev_ss DX7_learnBeat 2 2 (pc' := 5) (lv' := [(0, .ref _), (1, .int _), (2, .int _), (3, .int _)]) (st' := [.int 8, .int _]) rfl ?_
    refine ev_icge DX7_learnBeat 4 rfl (tgt := 21) (by decide) (fun _ => ?_) (fun h => h.elim (by rw [k8e]; decide))
    exact ev_vret DX7_learnBeat 12 rfl rfl ⟨rfl, ⟨z1, hz1, hg1⟩, he1, hO⟩
  | succ m ih =>
    intro i x w z1 hm hx hz1 hg1 he1 hO
    subst hx
    have h1 := (hO 214 (by decide) (by decide)).trans h
    obtain ⟨q, eq⟩ : ∃ q, q = pSW p (lrT (p.2.2.1 0) nb p.1 (pW p a) er i).1 a (lrT (p.2.2.1 0) nb p.1 (pW p a) er i).2.1 := ⟨_, rfl⟩
    have hT : TN ((pW q a).1 i) := by rw [eq, pW_SW]; exact TN_lrT hN i (by omega) i (by omega)
    have hq2 : ¬ (128 : Int32) * q.2.2.1 0 = 0 := by rw [eq]; exact hp2
    rw [← eq] at hg1
    have hg2 : ZG z1 (pTone q a i ((pW q a).1 i)) := by rw [pT_id]; exact hg1
    refine ev_ss DX7_learnBeat 2 2 (pc' := 5) (lv' := [(0, .ref _), (1, .int _), (2, .int _), (3, .int _)]) (st' := [.int 8, .int _]) rfl ?_
    refine ev_icge DX7_learnBeat 4 rfl (tgt := 21) (by decide) (fun h => absurd h (nI_ge (b := 8) (by omega) (by decide))) (fun _ => ?_)
    refine ev_ss DX7_learnBeat 4 5 (pc' := 12) (lv' := [(0, .ref _), (1, .int _), (2, .int _), (3, .int _)]) (st' := [.int _, .int _, .int _, .ref _]) rfl ?_
    refine ev_rV DX7_learnBeat 9 (m_X7_learnTone h1 hz1 he1 ha (t := i) (by omega) hnb hg2 hT hq2) vX7_learnTone rfl qX7_94 rfl h1 rfl (hd_of rfl rfl rfl rfl) (fun v w2 hvw => ?_)
    obtain ⟨rfl, z2, rfl, hg3⟩ := hvw
    refine ev_ss DX7_learnBeat 1 10 (pc' := 18) (lv' := [(3, .int _), (0, .ref _), (1, .int _), (2, .int _)]) (st' := []) rfl ?_
    refine ev_goto DX7_learnBeat 11 rfl (tgt := 2) (by decide) ?_
    refine ev_lvp (lv2 := [(0, .ref _), (1, .int _), (2, .int _), (3, .int _)]) [1, 2, 3, 0] rfl ?_
    refine ih (i + 1) _ _ z2 (by omega) (nI_1 i) (wset_n (wset_get hz1) (by decide)) ?_ ?_ (hO.tr (fun j a b => by rw [List.getElem?_set_ne (Ne.symm b), List.getElem?_set_ne (Ne.symm a)]))
    · rw [eq, pSW_T, pW_SW, pSW_se] at hg3
      exact hg3
    · have e5 := wset_get (wset_n (x := (ad 215, iaC E 811 z2)) he1 (show 215 ≠ 222 by decide)) (e2 := iaC E 64 (upd (lrT (p.2.2.1 0) nb p.1 (pW p a) er i).2.2 (8 * i + nb % 8) (absP (lrE q.1 ((pW q a).1 i)))))
      rw [eq, pW_SW] at e5 ⊢
      exact e5
def bfQ (g d : Int32) : Int32 := if d < roomP g 4 then 4 else if d < roomP g 3 then 3 else if d < roomP g 2 then 2 else if d < roomP g 1 then 1 else 0
theorem bfQ_P {g d : Int32} : bfQ g d = bfP g d := by
  have nl : ∀ {x y : Int32}, ¬ x < y → y ≤ x := fun h => Int32.not_lt.mp h
  have nn : ∀ {x y : Int32}, x < y → ¬ y ≤ x := fun h => Int32.not_le.mpr h
  unfold bfQ bfP
  by_cases h4 : d < roomP g 4
  · rw [if_pos h4, if_neg (nn h4)]
  · rw [if_neg h4, if_pos (nl h4)]
    by_cases h3 : d < roomP g 3
    · rw [if_pos h3, if_neg (nn h3)]
    · rw [if_neg h3, if_pos (nl h3)]
      by_cases h2 : d < roomP g 2
      · rw [if_pos h2, if_neg (nn h2)]
      · rw [if_neg h2, if_pos (nl h2)]
        by_cases h1 : d < roomP g 1
        · rw [if_pos h1, if_neg (nn h1)]
        · rw [if_neg h1, if_pos (nl h1)]
set_option maxRecDepth 100000 in
set_option maxHeartbeats 4000000 in
theorem m_X7_bitsBy {E : gE} {ad : Nat → Nat} {ws : va_W} {sm bm tw ea iw : Int32} {hh : Int64} {z : Nat → Int32} (h : ws[214]? = some (ad 214, moC ad sm bm tw ea iw hh)) (hz : ws[215]? = some (ad 215, iaC E 811 z)) {wo g mg : Int32} (hmg : z 809 = mg) : CD E YX7_bitsBy 0 0 [.ref (ad 214), .int wo, .int g] ws (some (.int (bfP g (wo * mg / 4)))) ws := by
  rw [← bfQ_P]
  refine cdV vX7_bitsBy (Nat.le_of_ble_eq_true rfl) (lv0 := [(0, .ref (ad 214)), (1, .int wo), (2, .int g)]) rfl ?_
  refine ev_ss DX7_bitsBy 3 0 (pc' := 3) (lv' := [(3, .int 4), (0, .ref _), (1, .int _), (2, .int _)]) (st' := [.int 4]) rfl ?_
  refine ev_ifle DX7_bitsBy 3 rfl (tgt := 37) (by decide) (fun h => absurd h (by decide)) (fun _ => ?_)
  refine ev_ss DX7_bitsBy 2 4 (pc' := 8) (lv' := [(3, .int 4), (0, .ref _), (1, .int _), (2, .int _)]) (st' := [.ref _, .int _]) rfl ?_
  refine ev_get DX7_bitsBy 6 GX7 rfl (k0 := 0) (Nat.le_of_ble_eq_true rfl) fX7_7 h rfl ?_
  refine ev_ss DX7_bitsBy 1 7 (pc' := 14) (lv' := [(3, .int 4), (0, .ref _), (1, .int _), (2, .int _)]) (st' := [.int 809, .ref _, .int _]) rfl ?_
  refine ev_ialdv DX7_bitsBy 8 (k0 := 809) rfl hz rfl (by omega) (by decide) (hmg) ?_
  refine ev_ss DX7_bitsBy 2 9 (pc' := 17) (lv' := [(3, .int 4), (0, .ref _), (1, .int _), (2, .int _)]) (st' := [.int 4, .int _]) rfl ?_
  refine ev_idiv DX7_bitsBy 11 rfl (by decide) ?_
  refine ev_ss DX7_bitsBy 6 12 (pc' := 27) (lv' := [(3, .int 4), (0, .ref _), (1, .int _), (2, .int _)]) (st' := [.int 64, .int _, .int _]) rfl ?_
  refine ev_idiv DX7_bitsBy 18 rfl (by decide) ?_
  refine ev_iclt DX7_bitsBy 19 rfl (tgt := 37) (by decide) (fun c_2 => ?_) (fun c_2 => ?_)
  · refine ev_ss DX7_bitsBy 1 22 (pc' := 38) (lv' := [(3, .int 4), (0, .ref _), (1, .int _), (2, .int _)]) (st' := [.int 4]) rfl ?_
    exact ev_iret DX7_bitsBy 23 rfl rfl ⟨congrArg (fun z => some (Value.int z)) (Eq.symm (if_pos c_2)), rfl⟩
  · refine ev_ss DX7_bitsBy 1 20 (pc' := 34) (lv' := [(3, .int 3), (0, .ref _), (1, .int _), (2, .int _)]) (st' := []) rfl ?_
    refine ev_goto DX7_bitsBy 21 rfl (tgt := 2) (by decide) ?_
    refine ev_ss DX7_bitsBy 1 2 (pc' := 3) (lv' := [(3, .int 3), (0, .ref _), (1, .int _), (2, .int _)]) (st' := [.int 3]) rfl ?_
    refine ev_ifle DX7_bitsBy 3 rfl (tgt := 37) (by decide) (fun h => absurd h (by decide)) (fun _ => ?_)
    refine ev_ss DX7_bitsBy 2 4 (pc' := 8) (lv' := [(3, .int 3), (0, .ref _), (1, .int _), (2, .int _)]) (st' := [.ref _, .int _]) rfl ?_
    refine ev_get DX7_bitsBy 6 GX7 rfl (k0 := 0) (Nat.le_of_ble_eq_true rfl) fX7_7 h rfl ?_
    refine ev_ss DX7_bitsBy 1 7 (pc' := 14) (lv' := [(3, .int 3), (0, .ref _), (1, .int _), (2, .int _)]) (st' := [.int 809, .ref _, .int _]) rfl ?_
    refine ev_ialdv DX7_bitsBy 8 (k0 := 809) rfl hz rfl (by omega) (by decide) (hmg) ?_
    refine ev_ss DX7_bitsBy 2 9 (pc' := 17) (lv' := [(3, .int 3), (0, .ref _), (1, .int _), (2, .int _)]) (st' := [.int 4, .int _]) rfl ?_
    refine ev_idiv DX7_bitsBy 11 rfl (by decide) ?_
    refine ev_ss DX7_bitsBy 6 12 (pc' := 27) (lv' := [(3, .int 3), (0, .ref _), (1, .int _), (2, .int _)]) (st' := [.int 64, .int _, .int _]) rfl ?_
    refine ev_idiv DX7_bitsBy 18 rfl (by decide) ?_
    refine ev_iclt DX7_bitsBy 19 rfl (tgt := 37) (by decide) (fun c_4 => ?_) (fun c_4 => ?_)
    · refine ev_ss DX7_bitsBy 1 22 (pc' := 38) (lv' := [(3, .int 3), (0, .ref _), (1, .int _), (2, .int _)]) (st' := [.int 3]) rfl ?_
      exact ev_iret DX7_bitsBy 23 rfl rfl ⟨congrArg (fun z => some (Value.int z)) (Eq.symm ((if_neg c_2).trans (if_pos c_4))), rfl⟩
    · refine ev_ss DX7_bitsBy 1 20 (pc' := 34) (lv' := [(3, .int 2), (0, .ref _), (1, .int _), (2, .int _)]) (st' := []) rfl ?_
      refine ev_goto DX7_bitsBy 21 rfl (tgt := 2) (by decide) ?_
      refine ev_ss DX7_bitsBy 1 2 (pc' := 3) (lv' := [(3, .int 2), (0, .ref _), (1, .int _), (2, .int _)]) (st' := [.int 2]) rfl ?_
      refine ev_ifle DX7_bitsBy 3 rfl (tgt := 37) (by decide) (fun h => absurd h (by decide)) (fun _ => ?_)
      refine ev_ss DX7_bitsBy 2 4 (pc' := 8) (lv' := [(3, .int 2), (0, .ref _), (1, .int _), (2, .int _)]) (st' := [.ref _, .int _]) rfl ?_
      refine ev_get DX7_bitsBy 6 GX7 rfl (k0 := 0) (Nat.le_of_ble_eq_true rfl) fX7_7 h rfl ?_
      refine ev_ss DX7_bitsBy 1 7 (pc' := 14) (lv' := [(3, .int 2), (0, .ref _), (1, .int _), (2, .int _)]) (st' := [.int 809, .ref _, .int _]) rfl ?_
      refine ev_ialdv DX7_bitsBy 8 (k0 := 809) rfl hz rfl (by omega) (by decide) (hmg) ?_
      refine ev_ss DX7_bitsBy 2 9 (pc' := 17) (lv' := [(3, .int 2), (0, .ref _), (1, .int _), (2, .int _)]) (st' := [.int 4, .int _]) rfl ?_
      refine ev_idiv DX7_bitsBy 11 rfl (by decide) ?_
      refine ev_ss DX7_bitsBy 6 12 (pc' := 27) (lv' := [(3, .int 2), (0, .ref _), (1, .int _), (2, .int _)]) (st' := [.int 64, .int _, .int _]) rfl ?_
      refine ev_idiv DX7_bitsBy 18 rfl (by decide) ?_
      refine ev_iclt DX7_bitsBy 19 rfl (tgt := 37) (by decide) (fun c_6 => ?_) (fun c_6 => ?_)
      · refine ev_ss DX7_bitsBy 1 22 (pc' := 38) (lv' := [(3, .int 2), (0, .ref _), (1, .int _), (2, .int _)]) (st' := [.int 2]) rfl ?_
        exact ev_iret DX7_bitsBy 23 rfl rfl ⟨congrArg (fun z => some (Value.int z)) (Eq.symm ((if_neg c_2).trans ((if_neg c_4).trans (if_pos c_6)))), rfl⟩
      · refine ev_ss DX7_bitsBy 1 20 (pc' := 34) (lv' := [(3, .int 1), (0, .ref _), (1, .int _), (2, .int _)]) (st' := []) rfl ?_
        refine ev_goto DX7_bitsBy 21 rfl (tgt := 2) (by decide) ?_
        refine ev_ss DX7_bitsBy 1 2 (pc' := 3) (lv' := [(3, .int 1), (0, .ref _), (1, .int _), (2, .int _)]) (st' := [.int 1]) rfl ?_
        refine ev_ifle DX7_bitsBy 3 rfl (tgt := 37) (by decide) (fun h => absurd h (by decide)) (fun _ => ?_)
        refine ev_ss DX7_bitsBy 2 4 (pc' := 8) (lv' := [(3, .int 1), (0, .ref _), (1, .int _), (2, .int _)]) (st' := [.ref _, .int _]) rfl ?_
        refine ev_get DX7_bitsBy 6 GX7 rfl (k0 := 0) (Nat.le_of_ble_eq_true rfl) fX7_7 h rfl ?_
        refine ev_ss DX7_bitsBy 1 7 (pc' := 14) (lv' := [(3, .int 1), (0, .ref _), (1, .int _), (2, .int _)]) (st' := [.int 809, .ref _, .int _]) rfl ?_
        refine ev_ialdv DX7_bitsBy 8 (k0 := 809) rfl hz rfl (by omega) (by decide) (hmg) ?_
        refine ev_ss DX7_bitsBy 2 9 (pc' := 17) (lv' := [(3, .int 1), (0, .ref _), (1, .int _), (2, .int _)]) (st' := [.int 4, .int _]) rfl ?_
        refine ev_idiv DX7_bitsBy 11 rfl (by decide) ?_
        refine ev_ss DX7_bitsBy 6 12 (pc' := 27) (lv' := [(3, .int 1), (0, .ref _), (1, .int _), (2, .int _)]) (st' := [.int 64, .int _, .int _]) rfl ?_
        refine ev_idiv DX7_bitsBy 18 rfl (by decide) ?_
        refine ev_iclt DX7_bitsBy 19 rfl (tgt := 37) (by decide) (fun c_8 => ?_) (fun c_8 => ?_)
        · refine ev_ss DX7_bitsBy 1 22 (pc' := 38) (lv' := [(3, .int 1), (0, .ref _), (1, .int _), (2, .int _)]) (st' := [.int 1]) rfl ?_
          exact ev_iret DX7_bitsBy 23 rfl rfl ⟨congrArg (fun z => some (Value.int z)) (Eq.symm ((if_neg c_2).trans ((if_neg c_4).trans ((if_neg c_6).trans (if_pos c_8))))), rfl⟩
        · refine ev_ss DX7_bitsBy 1 20 (pc' := 34) (lv' := [(3, .int 0), (0, .ref _), (1, .int _), (2, .int _)]) (st' := []) rfl ?_
          refine ev_goto DX7_bitsBy 21 rfl (tgt := 2) (by decide) ?_
          refine ev_ss DX7_bitsBy 1 2 (pc' := 3) (lv' := [(3, .int 0), (0, .ref _), (1, .int _), (2, .int _)]) (st' := [.int 0]) rfl ?_
          refine ev_ifle DX7_bitsBy 3 rfl (tgt := 37) (by decide) (fun _ => ?_) (fun h => h.elim (by decide))
          refine ev_ss DX7_bitsBy 1 22 (pc' := 38) (lv' := [(3, .int 0), (0, .ref _), (1, .int _), (2, .int _)]) (st' := [.int 0]) rfl ?_
          exact ev_iret DX7_bitsBy 23 rfl rfl ⟨congrArg (fun z => some (Value.int z)) (Eq.symm ((if_neg c_2).trans ((if_neg c_4).trans ((if_neg c_6).trans (if_neg c_8))))), rfl⟩
set_option maxRecDepth 100000 in
set_option maxHeartbeats 4000000 in
theorem m_X7_carried {E : gE} {ad : Nat → Nat} {ws : va_W} {sm bm tw ea iw : Int32} {hh : Int64} {z : Nat → Int32} (h : ws[214]? = some (ad 214, moC ad sm bm tw ea iw hh)) (hz : ws[215]? = some (ad 215, iaC E 811 z)) {p : PS} {a : Nat} (ha : a < 2) (hG : ZG z p) : CD E YX7_carried 0 0 [.ref (ad 214), .int (nI a)] ws (some (.int (sumN (fun t => (pW p a).1 t 10) 8))) ws := by
  refine cdV vX7_carried (Nat.le_of_ble_eq_true rfl) (lv0 := [(0, .ref (ad 214)), (1, .int (nI a))]) rfl ?_
  suffices K : ∀ (m i : Nat) (x acc : Int32), i + m = 8 → x = nI i → acc = sumN (fun t => (pW p a).1 t 10) i → Ev E YX7_carried (fun v2 w2 => v2 = some (.int (sumN (fun t => (pW p a).1 t 10) 8)) ∧ w2 = ws) nX 0 0 4 [(0, .ref (ad 214)), (1, .int (nI a)), (2, .int acc), (3, .int x)] [] ws by
    refine ev_ss DX7_carried 4 0 (pc' := 4) (lv' := [(3, .int 0), (2, .int 0), (0, .ref _), (1, .int _)]) (st' := []) rfl ?_
    refine ev_lvp (lv2 := [(0, .ref _), (1, .int _), (2, .int _), (3, .int _)]) [2, 3, 1, 0] rfl ?_
    exact K 8 0 _ _ rfl nI_0.symm rfl
  intro m
  induction m with
  | zero =>
    intro i x acc hm hx hq
    obtain rfl : i = 8 := by omega
    subst hx; subst hq
    refine ev_ss DX7_carried 2 4 (pc' := 7) (lv' := [(0, .ref _), (1, .int _), (2, .int _), (3, .int _)]) (st' := [.int 8, .int _]) rfl ?_
    refine ev_icge DX7_carried 6 rfl (tgt := 32) (by decide) (fun _ => ?_) (fun h => h.elim (by decide))
    refine ev_ss DX7_carried 1 21 (pc' := 33) (lv' := [(0, .ref _), (1, .int _), (2, .int _), (3, .int _)]) (st' := [.int _]) rfl ?_
    exact ev_iret DX7_carried 22 rfl rfl ⟨rfl, rfl⟩
  | succ m ih =>
    intro i x acc hm hx hq
    subst hx
    have hc1 : acA a i + 11 ≤ 288 := by unfold acA; omega
    refine ev_ss DX7_carried 2 4 (pc' := 7) (lv' := [(0, .ref _), (1, .int _), (2, .int _), (3, .int _)]) (st' := [.int 8, .int _]) rfl ?_
    refine ev_icge DX7_carried 6 rfl (tgt := 32) (by decide) (fun h => absurd h (nI_ge (b := 8) (by omega) (by decide))) (fun _ => ?_)
    refine ev_ss DX7_carried 2 7 (pc' := 12) (lv' := [(0, .ref _), (1, .int _), (2, .int _), (3, .int _)]) (st' := [.ref _, .int _]) rfl ?_
    refine ev_get DX7_carried 9 GX7 rfl (k0 := 0) (Nat.le_of_ble_eq_true rfl) fX7_7 h rfl ?_
    refine ev_ss DX7_carried 3 10 (pc' := 18) (lv' := [(0, .ref _), (1, .int _), (2, .int _), (3, .int _)]) (st' := [.int _, .int _, .ref _, .ref _, .int _]) rfl ?_
    refine ev_cV DX7_carried 13 (m_X7_accentAt h) vX7_accentAt rfl qX7_68 rfl h rfl (hd_of rfl rfl rfl rfl) ?_
    refine ev_ss DX7_carried 2 14 (pc' := 23) (lv' := [(0, .ref _), (1, .int _), (2, .int _), (3, .int _)]) (st' := [.int _, .ref _, .int _]) rfl ?_
    refine ev_ialdv DX7_carried 16 (k0 := (acA a i + 3)) rfl hz (nx_add (a := acA a i) (b := 3) rfl rfl) (by omega) (by decide) ((hG.2.1 a i 3 ha (by omega) (by decide))) ?_
    refine ev_ss DX7_carried 3 17 (pc' := 29) (lv' := [(3, .int _), (2, .int _), (0, .ref _), (1, .int _)]) (st' := []) rfl ?_
    refine ev_goto DX7_carried 20 rfl (tgt := 4) (by decide) ?_
    refine ev_lvp (lv2 := [(0, .ref _), (1, .int _), (2, .int _), (3, .int _)]) [2, 3, 1, 0] rfl ?_
    exact ih (i + 1) _ _ (by omega) (nI_1 i) (by show acc + (pW p a).1 i 10 = sumN (fun t => (pW p a).1 t 10) i + (pW p a).1 i 10; rw [hq])
def wrM (er : Nat → Int32) (t : Nat) : Nat → Int32
  | 0 => 0
  | i + 1 => mxP (wrM er t i) (er (8 * t + i))
theorem wrM_s {er : Nat → Int32} {t i : Nat} : wrM er t (i + 1) = mxP (wrM er t i) (er (8 * t + i)) := rfl
theorem mxP_n {a b : Int32} (h : ¬ b ≤ a) : b = mxP a b := (if_pos (Int32.not_le.mp h)).symm
theorem mxP_p {a b : Int32} (h : b ≤ a) : a = mxP a b := (if_neg (Int32.not_lt.mpr h)).symm
set_option maxRecDepth 100000 in
set_option maxHeartbeats 4000000 in
theorem m_X7_worstOf {E : gE} {ad : Nat → Nat} {ws : va_W} {sm bm tw ea iw : Int32} {hh : Int64} (h : ws[214]? = some (ad 214, moC ad sm bm tw ea iw hh)) {er : Nat → Int32} (he : ws[222]? = some (ad 222, iaC E 64 er)) {t n : Nat} (ht : t < 8) (hn : n < 2 ^ 31) : CD E YX7_worstOf 0 0 [.ref (ad 214), .int (nI t), .int (nI n)] ws (some (.int (wrM er t (min 8 n)))) ws := by
  refine cdV vX7_worstOf (Nat.le_of_ble_eq_true rfl) (lv0 := [(0, .ref (ad 214)), (1, .int (nI t)), (2, .int (nI n))]) rfl ?_
  suffices K : ∀ (m i : Nat) (x acc : Int32), i + m = min 8 n → x = nI i → acc = wrM er t i → Ev E YX7_worstOf (fun v2 w2 => v2 = some (.int (wrM er t (min 8 n))) ∧ w2 = ws) nX 0 0 5 [(0, .ref (ad 214)), (1, .int (nI t)), (2, .int (nI n)), (3, .int acc), (4, .int x)] [] ws by
    refine ev_ss DX7_worstOf 4 0 (pc' := 5) (lv' := [(4, .int 0), (3, .int 0), (0, .ref _), (1, .int _), (2, .int _)]) (st' := []) rfl ?_
    refine ev_lvp (lv2 := [(0, .ref _), (1, .int _), (2, .int _), (3, .int _), (4, .int _)]) [2, 3, 4, 1, 0] rfl ?_
    exact K _ 0 _ _ (Nat.zero_add _) nI_0.symm rfl
  intro m
  induction m with
  | zero =>
    intro i x acc hm hx hq
    have hi : i = min 8 n := by omega
    subst hx; subst hq
    by_cases h8 : 8 ≤ n
    · obtain rfl : i = 8 := by omega
      refine ev_ss DX7_worstOf 2 4 (pc' := 9) (lv' := [(0, .ref _), (1, .int _), (2, .int _), (3, .int _), (4, .int _)]) (st' := [.int 8, .int _]) rfl ?_
      refine ev_icge DX7_worstOf 6 rfl (tgt := 57) (by decide) (fun _ => ?_) (fun h => h.elim (by decide))
      refine ev_ss DX7_worstOf 1 33 (pc' := 58) (lv' := [(0, .ref _), (1, .int _), (2, .int _), (3, .int _), (4, .int _)]) (st' := [.int _]) rfl ?_
      exact ev_iret DX7_worstOf 34 rfl rfl ⟨by rw [← hi], rfl⟩
    · obtain rfl : i = n := by omega
      refine ev_ss DX7_worstOf 2 4 (pc' := 9) (lv' := [(0, .ref _), (1, .int _), (2, .int _), (3, .int _), (4, .int _)]) (st' := [.int 8, .int _]) rfl ?_
      refine ev_icge DX7_worstOf 6 rfl (tgt := 57) (by decide) (fun h => absurd h (nI_ge (b := 8) (by omega) (by decide))) (fun _ => ?_)
      refine ev_ss DX7_worstOf 2 7 (pc' := 15) (lv' := [(0, .ref _), (1, .int _), (2, .int _), (3, .int _), (4, .int _)]) (st' := [.int _, .int _]) rfl ?_
      refine ev_icge DX7_worstOf 9 rfl (tgt := 57) (by decide) (fun _ => ?_) (fun h => h.elim (nI_le (Nat.le_refl _) (by omega)))
      refine ev_ss DX7_worstOf 1 33 (pc' := 58) (lv' := [(0, .ref _), (1, .int _), (2, .int _), (3, .int _), (4, .int _)]) (st' := [.int _]) rfl ?_
      exact ev_iret DX7_worstOf 34 rfl rfl ⟨by rw [← hi], rfl⟩
  | succ m ih =>
    intro i x acc hm hx hq
    subst hx
    refine ev_ss DX7_worstOf 2 4 (pc' := 9) (lv' := [(0, .ref _), (1, .int _), (2, .int _), (3, .int _), (4, .int _)]) (st' := [.int 8, .int _]) rfl ?_
    refine ev_icge DX7_worstOf 6 rfl (tgt := 57) (by decide) (fun h => absurd h (nI_ge (b := 8) (by omega) (by decide))) (fun _ => ?_)
    refine ev_ss DX7_worstOf 2 7 (pc' := 15) (lv' := [(0, .ref _), (1, .int _), (2, .int _), (3, .int _), (4, .int _)]) (st' := [.int _, .int _]) rfl ?_
    refine ev_icge DX7_worstOf 9 rfl (tgt := 57) (by decide) (fun h => absurd h (nI_ge (b := n) (by omega) (by omega))) (fun _ => ?_)
    refine ev_ss DX7_worstOf 1 10 (pc' := 19) (lv' := [(0, .ref _), (1, .int _), (2, .int _), (3, .int _), (4, .int _)]) (st' := [.ref _]) rfl ?_
    refine ev_get DX7_worstOf 11 GX7 rfl (k0 := 10) (Nat.le_of_ble_eq_true rfl) fX7_32 h rfl ?_
    refine ev_ss DX7_worstOf 5 12 (pc' := 29) (lv' := [(0, .ref _), (1, .int _), (2, .int _), (3, .int _), (4, .int _)]) (st' := [.int _, .ref _]) rfl ?_
    refine ev_ialdv DX7_worstOf 17 (k0 := ((8 * t) + i)) rfl he (nx_add (a := (8 * t)) (b := i) (nx_mul (a := 8) (b := t) rfl rfl) rfl) (by omega) (by decide) (rfl) ?_
    refine ev_ss DX7_worstOf 1 18 (pc' := 31) (lv' := [(0, .ref _), (1, .int _), (2, .int _), (3, .int _), (4, .int _)]) (st' := [.int _, .int _]) rfl ?_
    refine ev_icle DX7_worstOf 19 rfl (tgt := 49) (by decide) (fun c_3 => ?_) (fun c_3 => ?_)
    · refine ev_ss DX7_worstOf 3 29 (pc' := 54) (lv' := [(4, .int _), (3, .int _), (0, .ref _), (1, .int _), (2, .int _)]) (st' := []) rfl ?_
      refine ev_goto DX7_worstOf 32 rfl (tgt := 5) (by decide) ?_
      refine ev_lvp (lv2 := [(0, .ref _), (1, .int _), (2, .int _), (3, .int _), (4, .int _)]) [2, 3, 4, 1, 0] rfl ?_
      exact ih (i + 1) _ _ (by omega) (nI_1 i) (by rw [wrM_s, ← hq]; exact mxP_p c_3)
    · refine ev_ss DX7_worstOf 1 20 (pc' := 35) (lv' := [(0, .ref _), (1, .int _), (2, .int _), (3, .int _), (4, .int _)]) (st' := [.ref _]) rfl ?_
      refine ev_get DX7_worstOf 21 GX7 rfl (k0 := 10) (Nat.le_of_ble_eq_true rfl) fX7_32 h rfl ?_
      refine ev_ss DX7_worstOf 5 22 (pc' := 45) (lv' := [(0, .ref _), (1, .int _), (2, .int _), (3, .int _), (4, .int _)]) (st' := [.int _, .ref _]) rfl ?_
      refine ev_ialdv DX7_worstOf 27 (k0 := ((8 * t) + i)) rfl he (nx_add (a := (8 * t)) (b := i) (nx_mul (a := 8) (b := t) rfl rfl) rfl) (by omega) (by decide) (rfl) ?_
      refine ev_goto DX7_worstOf 28 rfl (tgt := 50) (by decide) ?_
      refine ev_ss DX7_worstOf 2 30 (pc' := 54) (lv' := [(4, .int _), (3, .int _), (0, .ref _), (1, .int _), (2, .int _)]) (st' := []) rfl ?_
      refine ev_goto DX7_worstOf 32 rfl (tgt := 5) (by decide) ?_
      refine ev_lvp (lv2 := [(0, .ref _), (1, .int _), (2, .int _), (3, .int _), (4, .int _)]) [2, 3, 4, 1, 0] rfl ?_
      exact ih (i + 1) _ _ (by omega) (nI_1 i) (by rw [wrM_s, ← hq]; exact mxP_n c_3)
