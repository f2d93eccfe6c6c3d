/-- the law's modems show this state; ze: the errors of the latest lesson -/
def LM (E : gE) (ad : Nat → Nat) (ws : va_W) (p : PS) (ze : Nat → Int32) : Prop := ∃ (zq zu za zn zd zw zc zt : Nat → Int32) (zh : Nat → Int64), LC E ad ws zq zu za zn zd zw zc zt ze zh ∧ LT zq zu za zn zd p ∧ LW zw zc zh p ∧ LSe zt p
theorem LSe.T {zt : Nat → Int32} {p : PS} {v : Int32} {a t : Nat} {F : TF} (h : LSe zt p) : LSe zt (pTone (v, p.2) a t F) := fun j hj => h j hj
theorem LM.of {E : gE} {ad : Nat → Nat} {ws w : va_W} {p : PS} {ze : Nat → Int32} (h : LM E ad ws p ze) (hf : ∀ j, 214 ≤ j → j < 224 → w[j]? = ws[j]?) : LM E ad w p ze := by
  obtain ⟨zq, zu, za, zn, zd, zw, zc, zt, zh, hC, hT, hW, hS⟩ := h
  exact ⟨zq, zu, za, zn, zd, zw, zc, zt, zh, hC.of hf, hT, hW, hS⟩
set_option maxRecDepth 100000 in
set_option maxHeartbeats 4000000 in
theorem m_L_lessonM {E : gE} {ad : Nat → Nat} {ws : va_W} {p : PS} {ze : Nat → Int32} {a t nb : Nat} (hM : LM E ad ws p ze) (ha : a < 2) (ht : t < 8) (hnb : nb < 128) (hsn : SN p.1) (hm : TN ((pW p a).1 t)) (hp2 : ¬ (128 : Int32) * p.2.2.1 0 = 0) : C0 E YL_lesson 0 0 [.int (nI (8 * a + t)), .int (nI nb), .ref (ad 214), .ref (ad 215), .ref (ad 216), .ref (ad 218), .ref (ad 222), .ref (ad 220), .ref (ad 221)] ws (fun v w => v = none ∧ LM E ad w (pTone (drwS (drwS p.1), p.2) a t (lrF (p.2.2.1 0) p.1 ((pW p a).1 t))) (upd ze (8 * t + nb % 8) (absP (lrE p.1 ((pW p a).1 t)))) ∧ MO ws w) := by
  obtain ⟨zq, zu, za, zn, zd, zw, zc, zt, zh, hC, hT, hW, hS⟩ := id hM
  refine c0_mono (m_L_lesson hC ha ht hnb hT hW hS hsn hm hp2) (fun v w h => ?_)
  obtain ⟨e, zu2, za2, zd2, zc2, c1, c2, c3, c4⟩ := h
  exact ⟨e, ⟨zq, zu2, za2, zn, zd2, zw, zc2, zt, zh, c1, c2, c3, hS.T⟩, c4⟩
theorem SN_lrT {p sd : Int32} {nb : Nat} {σ : WS} {sz : Nat → Int32} (h : SN sd) : ∀ i, SN (lrT p nb sd σ sz i).1
  | 0 => h
  | i + 1 => SN_drw (SN_drw (SN_lrT h i))
theorem SN_lrM {p sd : Int32} {σ : WS} {er : Nat → Int32} (h : SN sd) : ∀ i, SN (lrM p sd σ er i).1
  | 0 => h
  | i + 1 => SN_lrT (SN_lrM h i) k8
theorem SN_lrN {p sd : Int32} {σ : WS} (h : SN sd) (n : Nat) : SN (lrN p sd σ n).1 := (lrM_rel (er := fun _ => 0) n).1 ▸ SN_lrM h n
set_option maxRecDepth 100000 in
set_option maxHeartbeats 4000000 in
theorem lrn_in {E : gE} {ad : Nat → Nat} {ws : va_W} {Pr : Option Value → va_W → Prop} {p : PS} {er : Nat → Int32} {a n nb : Nat} (ha : a < 2) (hnb : nb < 128) (hsn : SN p.1) (hN : ∀ t, t < 8 → TN ((pW p a).1 t)) (hp2 : ¬ (128 : Int32) * p.2.2.1 0 = 0)
    (hP : ∀ w, LM E ad w (pSW p (lrT (p.2.2.1 0) nb p.1 (pW p a) er k8).1 a (lrT (p.2.2.1 0) nb p.1 (pW p a) er k8).2.1) (lrT (p.2.2.1 0) nb p.1 (pW p a) er k8).2.2 → MO ws w → Ev E YL_learn Pr nX 0 0 49 [(0, .int (nI a)), (1, .int (nI n)), (2, .ref (ad 214)), (3, .ref (ad 215)), (4, .ref (ad 216)), (5, .ref (ad 217)), (6, .ref (ad 218)), (7, .ref (ad 222)), (8, .ref (ad 220)), (9, .ref (ad 221)), (10, .int (nI nb))] [] w) :
    ∀ (m i : Nat) (x : Int32) (w : va_W), i + m = k8 → x = nI i → LM E ad w (pSW p (lrT (p.2.2.1 0) nb p.1 (pW p a) er i).1 a (lrT (p.2.2.1 0) nb p.1 (pW p a) er i).2.1) (lrT (p.2.2.1 0) nb p.1 (pW p a) er i).2.2 → MO ws w → Ev E YL_learn Pr nX 0 0 12 [(0, .int (nI a)), (1, .int (nI n)), (2, .ref (ad 214)), (3, .ref (ad 215)), (4, .ref (ad 216)), (5, .ref (ad 217)), (6, .ref (ad 218)), (7, .ref (ad 222)), (8, .ref (ad 220)), (9, .ref (ad 221)), (10, .int (nI nb)), (11, .int x)] [] w := by
  have e8 := k8e
  intro m
  induction m with
  | zero =>
    intro i x w hm hx hM hO
    obtain rfl : i = k8 := by omega
    subst hx
    refine ev_ss DL_learn_0 2 7 (pc' := 16) (lv' := [(0, .int _), (1, .int _), (2, .ref _), (3, .ref _), (4, .ref _), (5, .ref _), (6, .ref _), (7, .ref _), (8, .ref _), (9, .ref _), (10, .int _), (11, .int _)]) (st' := [.int 8, .int _]) rfl ?_
    refine ev_icge DL_learn_0 9 rfl (tgt := 49) (by decide) (fun _ => ?_) (fun h => h.elim (by rw [k8e]; decide))
    refine ev_lvp (lv2 := [(0, .int _), (1, .int _), (2, .ref _), (3, .ref _), (4, .ref _), (5, .ref _), (6, .ref _), (7, .ref _), (8, .ref _), (9, .ref _), (10, .int _)]) [0, 1, 2, 3, 4, 5, 6, 7, 8, 9, 10] rfl ?_
    exact hP w hM hO
  | succ m ih =>
    intro i x w hm hx hM hO
    subst hx
    have hT : TN ((pW (pSW p (lrT (p.2.2.1 0) nb p.1 (pW p a) er i).1 a (lrT (p.2.2.1 0) nb p.1 (pW p a) er i).2.1) a).1 i) := by rw [pW_SW]; exact TN_lrT hN i (by omega) i (by omega)
    refine ev_ss DL_learn_0 2 7 (pc' := 16) (lv' := [(0, .int _), (1, .int _), (2, .ref _), (3, .ref _), (4, .ref _), (5, .ref _), (6, .ref _), (7, .ref _), (8, .ref _), (9, .ref _), (10, .int _), (11, .int _)]) (st' := [.int 8, .int _]) rfl ?_
    refine ev_icge DL_learn_0 9 rfl (tgt := 49) (by decide) (fun h => absurd h (nI_ge (b := 8) (by omega) (by decide))) (fun _ => ?_)
    refine ev_ss DL_learn_0 5 10 (pc' := 26) (lv' := [(0, .int _), (1, .int _), (2, .ref _), (3, .ref _), (4, .ref _), (5, .ref _), (6, .ref _), (7, .ref _), (8, .ref _), (9, .ref _), (10, .int _), (11, .int _)]) (st' := [.int _]) rfl ?_
    refine ev_topv (nx_add (a := (8 * a)) (b := i) (nx_mul (a := 8) (b := a) rfl rfl) rfl) ?_
    refine ev_ss DL_learn_0 8 15 (pc' := 40) (lv' := [(0, .int _), (1, .int _), (2, .ref _), (3, .ref _), (4, .ref _), (5, .ref _), (6, .ref _), (7, .ref _), (8, .ref _), (9, .ref _), (10, .int _), (11, .int _)]) (st' := [.ref _, .ref _, .ref _, .ref _, .ref _, .ref _, .ref _, .int _, .int _]) rfl ?_
    refine ev_rS DL_learn_0 23 (m_L_lessonM hM ha (t := i) (by omega) hnb (SN_lrT hsn i) hT hp2) vL_lesson rfl qL_33 rfl (hd_of rfl rfl rfl rfl) (fun v w2 hvw => ?_)
    obtain ⟨rfl, hM2, hO2⟩ := hvw
    rw [pSW_T, pW_SW, pSW_se] at hM2
    refine ev_ss DL_learn_0 1 24 (pc' := 46) (lv' := [(11, .int _), (0, .int _), (1, .int _), (2, .ref _), (3, .ref _), (4, .ref _), (5, .ref _), (6, .ref _), (7, .ref _), (8, .ref _), (9, .ref _), (10, .int _)]) (st' := []) rfl ?_
    refine ev_goto DL_learn_0 25 rfl (tgt := 12) (by decide) ?_
    refine ev_lvp (lv2 := [(0, .int _), (1, .int _), (2, .ref _), (3, .ref _), (4, .ref _), (5, .ref _), (6, .ref _), (7, .ref _), (8, .ref _), (9, .ref _), (10, .int _), (11, .int _)]) [1, 2, 3, 4, 5, 6, 7, 8, 9, 10, 11, 0] rfl ?_
    exact ih (i + 1) _ w2 (by omega) (nI_1 i) hM2 (hO.tr hO2)
set_option maxRecDepth 100000 in
set_option maxHeartbeats 4000000 in
theorem lrn_wo {E : gE} {ad : Nat → Nat} {w : va_W} {Pr : Option Value → va_W → Prop} {er : Nat → Int32} {a n i : Nat} {acc : Int32} (hi : i < 8) (hn : n < 2 ^ 31) (hze : w[222]? = some (ad 222, iaC E 64 er))
    (hP : Ev E YL_learn Pr nX 0 0 138 [(0, .int (nI a)), (1, .int (nI n)), (2, .ref (ad 214)), (3, .ref (ad 215)), (4, .ref (ad 216)), (5, .ref (ad 217)), (6, .ref (ad 218)), (7, .ref (ad 222)), (8, .ref (ad 220)), (9, .ref (ad 221)), (10, .int acc), (11, .int (nI i)), (12, .int (nI (4 * (8 * a + i)))), (13, .int (wrM er i (min 8 n)))] [] w) :
    ∀ (m j : Nat) (x wo : Int32), j + m = min 8 n → x = nI j → wo = wrM er i j → Ev E YL_learn Pr nX 0 0 85 [(0, .int (nI a)), (1, .int (nI n)), (2, .ref (ad 214)), (3, .ref (ad 215)), (4, .ref (ad 216)), (5, .ref (ad 217)), (6, .ref (ad 218)), (7, .ref (ad 222)), (8, .ref (ad 220)), (9, .ref (ad 221)), (10, .int acc), (11, .int (nI i)), (12, .int (nI (4 * (8 * a + i)))), (13, .int wo), (14, .int x)] [] w := by
  intro m
  induction m with
  | zero =>
    intro j x wo hm hx hq
    have hj : j = min 8 n := by omega
    subst hx; subst hq
    by_cases h8 : 8 ≤ n
    · obtain rfl : j = 8 := by omega
      refine ev_ss DL_learn_0 2 47 (pc' := 89) (lv' := [(0, .int _), (1, .int _), (2, .ref _), (3, .ref _), (4, .ref _), (5, .ref _), (6, .ref _), (7, .ref _), (8, .ref _), (9, .ref _), (10, .int _), (11, .int _), (12, .int _), (13, .int _), (14, .int _)]) (st' := [.int 8, .int _]) rfl ?_
      refine ev_icge DL_learn_0 49 rfl (tgt := 138) (by decide) (fun _ => ?_) (fun h => h.elim (by decide))
      refine ev_lvp (lv2 := [(0, .int _), (1, .int _), (2, .ref _), (3, .ref _), (4, .ref _), (5, .ref _), (6, .ref _), (7, .ref _), (8, .ref _), (9, .ref _), (10, .int _), (11, .int _), (12, .int _), (13, .int _)]) [0, 1, 2, 3, 4, 5, 6, 7, 8, 9, 10, 11, 12, 13] rfl ?_
      have hq2 := hP; rw [← hj] at hq2; exact hq2
    · obtain rfl : j = n := by omega
      refine ev_ss DL_learn_0 2 47 (pc' := 89) (lv' := [(0, .int _), (1, .int _), (2, .ref _), (3, .ref _), (4, .ref _), (5, .ref _), (6, .ref _), (7, .ref _), (8, .ref _), (9, .ref _), (10, .int _), (11, .int _), (12, .int _), (13, .int _), (14, .int _)]) (st' := [.int 8, .int _]) rfl ?_
      refine ev_icge DL_learn_0 49 rfl (tgt := 138) (by decide) (fun h => absurd h (nI_ge (b := 8) (by omega) (by decide))) (fun _ => ?_)
      refine ev_ss DL_learn_0 2 50 (pc' := 95) (lv' := [(0, .int _), (1, .int _), (2, .ref _), (3, .ref _), (4, .ref _), (5, .ref _), (6, .ref _), (7, .ref _), (8, .ref _), (9, .ref _), (10, .int _), (11, .int _), (12, .int _), (13, .int _), (14, .int _)]) (st' := [.int _, .int _]) rfl ?_
      refine ev_icge DL_learn_0 52 rfl (tgt := 138) (by decide) (fun _ => ?_) (fun h => h.elim (nI_le (Nat.le_refl _) (by omega)))
      refine ev_lvp (lv2 := [(0, .int _), (1, .int _), (2, .ref _), (3, .ref _), (4, .ref _), (5, .ref _), (6, .ref _), (7, .ref _), (8, .ref _), (9, .ref _), (10, .int _), (11, .int _), (12, .int _), (13, .int _)]) [0, 1, 2, 3, 4, 5, 6, 7, 8, 9, 10, 11, 12, 13] rfl ?_
      have hq2 := hP; rw [← hj] at hq2; exact hq2
  | succ m ih =>
    intro j x wo hm hx hq
    subst hx
    refine ev_ss DL_learn_0 2 47 (pc' := 89) (lv' := [(0, .int _), (1, .int _), (2, .ref _), (3, .ref _), (4, .ref _), (5, .ref _), (6, .ref _), (7, .ref _), (8, .ref _), (9, .ref _), (10, .int _), (11, .int _), (12, .int _), (13, .int _), (14, .int _)]) (st' := [.int 8, .int _]) rfl ?_
    refine ev_icge DL_learn_0 49 rfl (tgt := 138) (by decide) (fun h => absurd h (nI_ge (b := 8) (by omega) (by decide))) (fun _ => ?_)
    refine ev_ss DL_learn_0 2 50 (pc' := 95) (lv' := [(0, .int _), (1, .int _), (2, .ref _), (3, .ref _), (4, .ref _), (5, .ref _), (6, .ref _), (7, .ref _), (8, .ref _), (9, .ref _), (10, .int _), (11, .int _), (12, .int _), (13, .int _), (14, .int _)]) (st' := [.int _, .int _]) rfl ?_
    refine ev_icge DL_learn_0 52 rfl (tgt := 138) (by decide) (fun h => absurd h (nI_ge (b := n) (by omega) (by omega))) (fun _ => ?_)
    refine ev_ss DL_learn_0 6 53 (pc' := 108) (lv' := [(0, .int _), (1, .int _), (2, .ref _), (3, .ref _), (4, .ref _), (5, .ref _), (6, .ref _), (7, .ref _), (8, .ref _), (9, .ref _), (10, .int _), (11, .int _), (12, .int _), (13, .int _), (14, .int _)]) (st' := [.int _, .ref _]) rfl ?_
    refine ev_ialdv DL_learn_0 59 (k0 := ((8 * i) + j)) rfl hze (nx_add (a := (8 * i)) (b := j) (nx_mul (a := 8) (b := i) rfl rfl) rfl) (by omega) (by decide) (rfl) ?_
    refine ev_ss DL_learn_0 1 60 (pc' := 111) (lv' := [(0, .int _), (1, .int _), (2, .ref _), (3, .ref _), (4, .ref _), (5, .ref _), (6, .ref _), (7, .ref _), (8, .ref _), (9, .ref _), (10, .int _), (11, .int _), (12, .int _), (13, .int _), (14, .int _)]) (st' := [.int _, .int _]) rfl ?_
    refine ev_icle DL_learn_0 61 rfl (tgt := 128) (by decide) (fun c_3 => ?_) (fun c_3 => ?_)
    · refine ev_ss DL_learn_0 3 70 (pc' := 135) (lv' := [(14, .int _), (13, .int _), (0, .int _), (1, .int _), (2, .ref _), (3, .ref _), (4, .ref _), (5, .ref _), (6, .ref _), (7, .ref _), (8, .ref _), (9, .ref _), (10, .int _), (11, .int _), (12, .int _)]) (st' := []) rfl ?_
      refine ev_goto DL_learn_0 73 rfl (tgt := 85) (by decide) ?_
      refine ev_lvp (lv2 := [(0, .int _), (1, .int _), (2, .ref _), (3, .ref _), (4, .ref _), (5, .ref _), (6, .ref _), (7, .ref _), (8, .ref _), (9, .ref _), (10, .int _), (11, .int _), (12, .int _), (13, .int _), (14, .int _)]) [2, 3, 4, 5, 6, 7, 8, 9, 10, 11, 12, 13, 14, 1, 0] rfl ?_
      exact ih (j + 1) _ _ (by omega) (nI_1 j) (by rw [wrM_s, ← hq]; exact mxP_p c_3)
    · refine ev_ss DL_learn_0 6 62 (pc' := 124) (lv' := [(0, .int _), (1, .int _), (2, .ref _), (3, .ref _), (4, .ref _), (5, .ref _), (6, .ref _), (7, .ref _), (8, .ref _), (9, .ref _), (10, .int _), (11, .int _), (12, .int _), (13, .int _), (14, .int _)]) (st' := [.int _, .ref _]) rfl ?_
      refine ev_ialdv DL_learn_0 68 (k0 := ((8 * i) + j)) rfl hze (nx_add (a := (8 * i)) (b := j) (nx_mul (a := 8) (b := i) rfl rfl) rfl) (by omega) (by decide) (rfl) ?_
      refine ev_goto DL_learn_0 69 rfl (tgt := 130) (by decide) ?_
      refine ev_ss DL_learn_0 2 71 (pc' := 135) (lv' := [(14, .int _), (13, .int _), (0, .int _), (1, .int _), (2, .ref _), (3, .ref _), (4, .ref _), (5, .ref _), (6, .ref _), (7, .ref _), (8, .ref _), (9, .ref _), (10, .int _), (11, .int _), (12, .int _)]) (st' := []) rfl ?_
      refine ev_goto DL_learn_0 73 rfl (tgt := 85) (by decide) ?_
      refine ev_lvp (lv2 := [(0, .int _), (1, .int _), (2, .ref _), (3, .ref _), (4, .ref _), (5, .ref _), (6, .ref _), (7, .ref _), (8, .ref _), (9, .ref _), (10, .int _), (11, .int _), (12, .int _), (13, .int _), (14, .int _)]) [2, 3, 4, 5, 6, 7, 8, 9, 10, 11, 12, 13, 14, 1, 0] rfl ?_
      exact ih (j + 1) _ _ (by omega) (nI_1 j) (by rw [wrM_s, ← hq]; exact mxP_n c_3)
def bQN (g d : Int32) : Nat → Int32
  | 0 => 0
  | b + 1 => if roomP g (nI (b + 1)) ≤ d then bQN g d b else nI (b + 1)
theorem bQN_s {g d : Int32} {b : Nat} : bQN g d (b + 1) = if roomP g (nI (b + 1)) ≤ d then bQN g d b else nI (b + 1) := rfl
theorem bQN_4 {g d : Int32} : bQN g d 4 = bfP g d := rfl
set_option maxRecDepth 100000 in
set_option maxHeartbeats 4000000 in
theorem lrn_bi {E : gE} {ad : Nat → Nat} {w : va_W} {Pr : Option Value → va_W → Prop} {za zt : Nat → Int32} {a n i : Nat} {acc wo g mg : Int32} (ha : a < 2) (hi : i < 8) (hza : w[216]? = some (ad 216, iaC E 64 za)) (hzt : w[221]? = some (ad 221, iaC E 3 zt)) (hg : za (4 * (8 * a + i)) = g) (hmg : zt 1 = mg)
    (hP : Ev E YL_learn Pr nX 0 0 200 [(0, .int (nI a)), (1, .int (nI n)), (2, .ref (ad 214)), (3, .ref (ad 215)), (4, .ref (ad 216)), (5, .ref (ad 217)), (6, .ref (ad 218)), (7, .ref (ad 222)), (8, .ref (ad 220)), (9, .ref (ad 221)), (10, .int acc), (11, .int (nI i)), (12, .int (nI (4 * (8 * a + i)))), (13, .int wo), (14, .int (bfP g (wo * mg / 4)))] [] w) :
    ∀ (m j : Nat) (x bi : Int32), j + m = 4 → x = nI (j + 1) → bi = bQN g (wo * mg / 4) j → Ev E YL_learn Pr nX 0 0 152 [(0, .int (nI a)), (1, .int (nI n)), (2, .ref (ad 214)), (3, .ref (ad 215)), (4, .ref (ad 216)), (5, .ref (ad 217)), (6, .ref (ad 218)), (7, .ref (ad 222)), (8, .ref (ad 220)), (9, .ref (ad 221)), (10, .int acc), (11, .int (nI i)), (12, .int (nI (4 * (8 * a + i)))), (13, .int wo), (14, .int bi), (15, .int x)] [] w := by
  intro m
  induction m with
  | zero =>
    intro j x bi hm hx hq
    obtain rfl : j = 4 := by omega
    subst hx; subst hq
    refine ev_ss DL_learn_0 2 84 (pc' := 155) (lv' := [(0, .int _), (1, .int _), (2, .ref _), (3, .ref _), (4, .ref _), (5, .ref _), (6, .ref _), (7, .ref _), (8, .ref _), (9, .ref _), (10, .int _), (11, .int _), (12, .int _), (13, .int _), (14, .int _), (15, .int _)]) (st' := [.int 4, .int _]) rfl ?_
    refine ev_icgt DL_learn_0 86 rfl (tgt := 200) (by decide) (fun _ => ?_) (fun h => h.elim (by decide))
    refine ev_lvp (lv2 := [(0, .int _), (1, .int _), (2, .ref _), (3, .ref _), (4, .ref _), (5, .ref _), (6, .ref _), (7, .ref _), (8, .ref _), (9, .ref _), (10, .int _), (11, .int _), (12, .int _), (13, .int _), (14, .int _)]) [0, 1, 2, 3, 4, 5, 6, 7, 8, 9, 10, 11, 12, 13, 14] rfl ?_
    exact hP
  | succ m ih =>
    intro j x bi hm hx hq
    subst hx
    refine ev_ss DL_learn_0 2 84 (pc' := 155) (lv' := [(0, .int _), (1, .int _), (2, .ref _), (3, .ref _), (4, .ref _), (5, .ref _), (6, .ref _), (7, .ref _), (8, .ref _), (9, .ref _), (10, .int _), (11, .int _), (12, .int _), (13, .int _), (14, .int _), (15, .int _)]) (st' := [.int 4, .int _]) rfl ?_
    refine ev_icgt DL_learn_0 86 rfl (tgt := 200) (by decide) (fun h => absurd h (fun h => absurd (show nI (j + 1) ≤ nI 4 from nI_le (by omega) (by decide)) (Int32.not_le.mpr h))) (fun _ => ?_)
    refine ev_ss DL_learn_0 3 87 (pc' := 163) (lv' := [(0, .int _), (1, .int _), (2, .ref _), (3, .ref _), (4, .ref _), (5, .ref _), (6, .ref _), (7, .ref _), (8, .ref _), (9, .ref _), (10, .int _), (11, .int _), (12, .int _), (13, .int _), (14, .int _), (15, .int _)]) (st' := [.int 1, .ref _, .int _]) rfl ?_
    refine ev_ialdv DL_learn_0 90 (k0 := 1) rfl hzt rfl (by omega) (by decide) (hmg) ?_
    refine ev_ss DL_learn_0 2 91 (pc' := 166) (lv' := [(0, .int _), (1, .int _), (2, .ref _), (3, .ref _), (4, .ref _), (5, .ref _), (6, .ref _), (7, .ref _), (8, .ref _), (9, .ref _), (10, .int _), (11, .int _), (12, .int _), (13, .int _), (14, .int _), (15, .int _)]) (st' := [.int 4, .int _]) rfl ?_
    refine ev_idiv DL_learn_0 93 rfl (by decide) ?_
    refine ev_ss DL_learn_0 5 94 (pc' := 177) (lv' := [(0, .int _), (1, .int _), (2, .ref _), (3, .ref _), (4, .ref _), (5, .ref _), (6, .ref _), (7, .ref _), (8, .ref _), (9, .ref _), (10, .int _), (11, .int _), (12, .int _), (13, .int _), (14, .int _), (15, .int _)]) (st' := [.int _, .ref _, .int _, .int _]) rfl ?_
    refine ev_ialdv DL_learn_0 99 (k0 := (4 * (8 * a + i))) rfl hza rfl (by omega) (by decide) (hg) ?_
    refine ev_ss DL_learn_0 2 100 (pc' := 181) (lv' := [(0, .int _), (1, .int _), (2, .ref _), (3, .ref _), (4, .ref _), (5, .ref _), (6, .ref _), (7, .ref _), (8, .ref _), (9, .ref _), (10, .int _), (11, .int _), (12, .int _), (13, .int _), (14, .int _), (15, .int _)]) (st' := [.int 64, .int _, .int _]) rfl ?_
    refine ev_idiv DL_learn_0 102 rfl (by decide) ?_
    refine ev_icge DL_learn_0 103 rfl (tgt := 190) (by decide) (fun c_2 => ?_) (fun c_2 => ?_)
    · refine ev_ss DL_learn_0 3 106 (pc' := 197) (lv' := [(15, .int _), (14, .int _), (0, .int _), (1, .int _), (2, .ref _), (3, .ref _), (4, .ref _), (5, .ref _), (6, .ref _), (7, .ref _), (8, .ref _), (9, .ref _), (10, .int _), (11, .int _), (12, .int _), (13, .int _)]) (st' := []) rfl ?_
      refine ev_goto DL_learn_0 109 rfl (tgt := 152) (by decide) ?_
      refine ev_lvp (lv2 := [(0, .int _), (1, .int _), (2, .ref _), (3, .ref _), (4, .ref _), (5, .ref _), (6, .ref _), (7, .ref _), (8, .ref _), (9, .ref _), (10, .int _), (11, .int _), (12, .int _), (13, .int _), (14, .int _), (15, .int _)]) [2, 3, 4, 5, 6, 7, 8, 9, 10, 11, 12, 13, 14, 15, 1, 0] rfl ?_
      exact ih (j + 1) _ _ (by omega) (nI_1 (j + 1)) (by rw [bQN_s, ← hq]; exact (if_pos c_2).symm)
    · refine ev_ss DL_learn_0 1 104 (pc' := 187) (lv' := [(0, .int _), (1, .int _), (2, .ref _), (3, .ref _), (4, .ref _), (5, .ref _), (6, .ref _), (7, .ref _), (8, .ref _), (9, .ref _), (10, .int _), (11, .int _), (12, .int _), (13, .int _), (14, .int _), (15, .int _)]) (st' := [.int _]) rfl ?_
      refine ev_goto DL_learn_0 105 rfl (tgt := 192) (by decide) ?_
      refine ev_ss DL_learn_0 2 107 (pc' := 197) (lv' := [(15, .int _), (14, .int _), (0, .int _), (1, .int _), (2, .ref _), (3, .ref _), (4, .ref _), (5, .ref _), (6, .ref _), (7, .ref _), (8, .ref _), (9, .ref _), (10, .int _), (11, .int _), (12, .int _), (13, .int _)]) (st' := []) rfl ?_
      refine ev_goto DL_learn_0 109 rfl (tgt := 152) (by decide) ?_
      refine ev_lvp (lv2 := [(0, .int _), (1, .int _), (2, .ref _), (3, .ref _), (4, .ref _), (5, .ref _), (6, .ref _), (7, .ref _), (8, .ref _), (9, .ref _), (10, .int _), (11, .int _), (12, .int _), (13, .int _), (14, .int _), (15, .int _)]) [2, 3, 4, 5, 6, 7, 8, 9, 10, 11, 12, 13, 14, 15, 1, 0] rfl ?_
      exact ih (j + 1) _ _ (by omega) (nI_1 (j + 1)) (by rw [bQN_s, ← hq]; exact (if_neg c_2).symm)
