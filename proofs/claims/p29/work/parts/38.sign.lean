theorem bitor : ∀ c, c < 8 → ∀ b, b < 2 → ((nI c) <<< ((1 : Int32) &&& 31)) ||| nI b = 2 * nI c + nI b ∧ 2 * nI c + nI b = nI (2 * c + b) := by decide +kernel
def onN (x : Int32) : Nat → Int32
  | 0 => 0
  | k + 1 => onN x k + ((x >>> (nI k &&& 31)) &&& 1)
theorem onN_s {x : Int32} {k : Nat} : onN x (k + 1) = onN x k + ((x >>> (nI k &&& 31)) &&& 1) := rfl
theorem onN_bc : ∀ n, n < 5 → ∀ k, k < 2 ^ n → onN (nI k) n = bcP (nI k) := by decide +kernel
theorem cntB_xy {f : TF} {A B W x y : Int32} (hx : x = if W ≤ 0 then 0 else 1) (hy : y = if f 10 ≤ 0 then 0 else 1) : cntB (passP f A B) W = upd (upd (upd (passP f A B) 14 (f 14 + y)) 15 (f 15 + x)) 12 (f 12 + x) := by
  have hne : cntB (passP f A B) W = if W ≤ 0 then cntP (passP f A B) 0 else cntP (passP f A B) 1 := rfl
  subst hx; subst hy
  rw [hne]
  by_cases q2 : W ≤ 0
  · rw [if_pos q2, if_pos q2]
    by_cases e10 : f 10 ≤ 0
    · rw [if_pos e10]
      exact ((if_pos e10).trans (if_pos rfl)).trans (sgc_00 (g := passP f A B)).symm
    · rw [if_neg e10]
      exact ((if_neg e10).trans (if_pos rfl)).trans (sgc_10 (g := passP f A B)).symm
  · rw [if_neg q2, if_neg q2]
    by_cases e10 : f 10 ≤ 0
    · rw [if_pos e10]
      exact ((if_pos e10).trans (if_neg (by decide))).trans (sgc_01 (g := passP f A B)).symm
    · rw [if_neg e10]
      exact (if_neg e10).trans (if_neg (by decide))
theorem A4.pw {m : Nat → Nat} {g : Nat → Int32} {p p2 : PS} (h : A4 m g p) (e : ∀ y, y < 2 → (pW p2 y).1 = (pW p y).1) : A4 m g p2 := fun y k j hy hk hj => by rw [e y hy]; exact h y k j hy hk hj
theorem A2.pw {m : Nat → Nat} {g : Nat → Int32} {p p2 : PS} (h : A2 m g p) (e : ∀ y, y < 2 → (pW p2 y).1 = (pW p y).1) : A2 m g p2 := fun y k j hy hk hj => by rw [e y hy]; exact h y k j hy hk hj
theorem LT.pw {zq zu za zn zd : Nat → Int32} {p p2 : PS} (h : LT zq zu za zn zd p) (e : ∀ y, y < 2 → (pW p2 y).1 = (pW p y).1) : LT zq zu za zn zd p2 := ⟨h.1.pw e, h.2.1.pw e, h.2.2.1.pw e, h.2.2.2.1.pw e, h.2.2.2.2.pw e⟩
theorem pSW_other {p : PS} {sd : Int32} {a y : Nat} {σ : WS} (ha : a < 2) (hy : y < 2) (h : y ≠ a) : pW (pSW p sd a σ) y = pW p y := pW_other (p := p) ha hy h
theorem pT_pSW {p : PS} {sd : Int32} {a t y : Nat} {F : TF} {r : List Int32 × Int64 × Int32 × Int32} (ha : a < 2) (hy : y < 2) : (pW (pSW p sd a (va_up (pW p a).1 t F, r)) y).1 = (pW (pTone p a t F) y).1 := by
  by_cases e : y = a
  · subst e
    rw [pW_SW]
    unfold pTone
    rw [pW_set]
  · rw [pSW_other ha hy e]
    unfold pTone
    rw [pW_other ha hy e]
theorem LT_sgn {zq zu za zn zd : Nat → Int32} {p : PS} {a t : Nat} {f : TF} {A B x y : Int32} (ha : a < 2) (ht : t < 8) (hT : LT zq zu za zn zd (pTone p a t f)) : LT zq (upd (upd (upd zu (4 * (8 * a + t)) 0) (4 * (8 * a + t) + 2) (f 5)) (4 * (8 * a + t) + 1) A) za (upd (upd (upd zn (4 * (8 * a + t)) (f 12 + x)) (4 * (8 * a + t) + 2) (f 14 + y)) (4 * (8 * a + t) + 3) (f 15 + x)) (upd (upd zd (2 * (8 * a + t) + 1) (f 16)) (2 * (8 * a + t)) B) (pTone p a t (upd (upd (upd (passP f A B) 14 (f 14 + y)) 15 (f 15 + x)) 12 (f 12 + x))) := by
  obtain ⟨h1, h2, h3, h4, h5⟩ := hT
  have b2 : zu (4 * (8 * a + t) + 3) = f 11 := by rw [h2.at ha ht 3 (by decide), pT_same]; rfl
  have b4 : zn (4 * (8 * a + t) + 1) = f 13 := by rw [h4.at ha ht 1 (by decide), pT_same]; rfl
  exact ⟨h1.keep ha ht (j4 rfl rfl rfl rfl), (h2.set ha ht (j4 ((upd_ne (by omega)).trans ((upd_ne (by omega)).trans (upd_eq))) (upd_eq) ((upd_ne (by omega)).trans (upd_eq)) ((upd_ne (by omega)).trans ((upd_ne (by omega)).trans ((upd_ne (by omega)).trans (b2))))) (fun i hi => ((upd_ne (by omega)).trans ((upd_ne (by omega)).trans ((upd_ne (by omega)).trans (rfl)))))), h3.keep ha ht (j4 rfl rfl rfl rfl), (h4.set ha ht (j4 ((upd_ne (by omega)).trans ((upd_ne (by omega)).trans (upd_eq))) ((upd_ne (by omega)).trans ((upd_ne (by omega)).trans ((upd_ne (by omega)).trans (b4)))) ((upd_ne (by omega)).trans (upd_eq)) (upd_eq)) (fun i hi => ((upd_ne (by omega)).trans ((upd_ne (by omega)).trans ((upd_ne (by omega)).trans (rfl)))))), (h5.set ha ht (j2 (upd_eq) ((upd_ne (by omega)).trans (upd_eq))) (fun i hi => ((upd_ne (by omega)).trans ((upd_ne (by omega)).trans (rfl)))))⟩
theorem updL_eq {f : Nat → Int64} {k : Nat} {x : Int64} : vp_updL f k x k = x := if_pos rfl
theorem updL_ne {f : Nat → Int64} {k j : Nat} {x : Int64} (h : j ≠ k) : vp_updL f k x j = f j := if_neg h
theorem LW_sgn {zw zc : Nat → Int32} {zh : Nat → Int64} {p : PS} {a : Nat} {g : Nat → TF} {s cm wr : Int32} {L : Int64} (h : LW zw zc zh p) (ha : a < 2) : LW zw (upd (upd (upd zc 1 s) (4 + a) cm) (6 + a) wr) (vp_updL zh a L) (pSW p s a (g, (pW p a).2.1, L, cm, wr)) := by
  obtain ⟨h1, h2, h3, h4⟩ := h
  refine ⟨fun y i hy hi => ?_, fun y hy => ?_, ?_, ?_⟩
  · by_cases e : y = a
    · subst e
      rw [pW_SW] at hi ⊢
      exact h1 y i hy hi
    · rw [pSW_other ha hy e] at hi ⊢
      exact h1 y i hy hi
  · obtain ⟨q1, q2, q3, q4, q5⟩ := h2 y hy
    by_cases e : y = a
    · subst e
      rw [pW_SW]
      refine ⟨q1, ?_, ?_, ?_, updL_eq⟩
      · rw [upd_ne (by omega), upd_ne (by omega), upd_ne (by omega)]; exact q2
      · rw [upd_ne (by omega), upd_eq]
      · rw [upd_eq]
    · rw [pSW_other ha hy e]
      refine ⟨q1, ?_, ?_, ?_, ?_⟩
      · rw [upd_ne (by omega), upd_ne (by omega), upd_ne (by omega)]; exact q2
      · rw [upd_ne (by omega), upd_ne (by omega), upd_ne (by omega)]; exact q3
      · rw [upd_ne (by omega), upd_ne (by omega), upd_ne (by omega)]; exact q4
      · rw [updL_ne e]; exact q5
  · rw [upd_ne (by omega), upd_ne (by omega), upd_ne (by omega)]; exact h3
  · rw [upd_ne (by omega), upd_ne (by omega), upd_eq]; rfl
theorem LSe.SW {zt : Nat → Int32} {p : PS} {sd : Int32} {a : Nat} {σ : WS} (h : LSe zt p) : LSe zt (pSW p sd a σ) := fun j hj => h j hj
theorem pSW_bits {p : PS} {sd : Int32} {a : Nat} {bs : List Int32} {σ : WS} : pSW (pBits p a bs) sd a σ = pSW p sd a σ := by
  unfold pBits pSW
  rw [pSet_set]
  rfl
set_option maxRecDepth 100000 in
set_option maxHeartbeats 4000000 in
theorem sgn_on {E : gE} {ad : Nat → Nat} {w : va_W} {Pr : Option Value → va_W → Prop} {a t n : Nat} {sg H : Int32} (hn : n ≤ 4) (hP : Ev E YL_sign Pr nX 0 0 112 [(0, .int (nI (8 * a + t))), (1, .ref (ad 214)), (2, .ref (ad 215)), (3, .ref (ad 216)), (4, .ref (ad 217)), (5, .ref (ad 218)), (6, .ref (ad 219)), (7, .ref (ad 220)), (8, .ref (ad 223)), (9, .int (nI (4 * (8 * a + t)))), (10, .int (nI a)), (11, .int (nI n)), (12, .int sg), (13, .int H), (14, .int (onN (sg ^^^ H) n))] [] w) :
    ∀ (m j : Nat) (x wo : Int32), j + m = n → x = nI j → wo = onN (sg ^^^ H) j → Ev E YL_sign Pr nX 0 0 84 [(0, .int (nI (8 * a + t))), (1, .ref (ad 214)), (2, .ref (ad 215)), (3, .ref (ad 216)), (4, .ref (ad 217)), (5, .ref (ad 218)), (6, .ref (ad 219)), (7, .ref (ad 220)), (8, .ref (ad 223)), (9, .int (nI (4 * (8 * a + t)))), (10, .int (nI a)), (11, .int (nI n)), (12, .int sg), (13, .int H), (14, .int wo), (15, .int x)] [] w := by
  intro m
  induction m with
  | zero =>
    intro j x wo hm hx hq
    obtain rfl : j = n := by omega
    subst hx; subst hq
    refine ev_ss DL_sign_0 2 49 (pc' := 88) (lv' := [(0, .int _), (1, .ref _), (2, .ref _), (3, .ref _), (4, .ref _), (5, .ref _), (6, .ref _), (7, .ref _), (8, .ref _), (9, .int _), (10, .int _), (11, .int _), (12, .int _), (13, .int _), (14, .int _), (15, .int _)]) (st' := [.int _, .int _]) rfl ?_
    refine ev_icge DL_sign_0 51 rfl (tgt := 112) (by decide) (fun _ => ?_) (fun h => h.elim (nI_le (Nat.le_refl _) (by omega)))
    refine ev_lvp (lv2 := [(0, .int _), (1, .ref _), (2, .ref _), (3, .ref _), (4, .ref _), (5, .ref _), (6, .ref _), (7, .ref _), (8, .ref _), (9, .int _), (10, .int _), (11, .int _), (12, .int _), (13, .int _), (14, .int _)]) [0, 1, 2, 3, 4, 5, 6, 7, 8, 9, 10, 11, 12, 13, 14] rfl ?_
    exact hP
  | succ m ih =>
    intro j x wo hm hx hq
    subst hx
    refine ev_ss DL_sign_0 2 49 (pc' := 88) (lv' := [(0, .int _), (1, .ref _), (2, .ref _), (3, .ref _), (4, .ref _), (5, .ref _), (6, .ref _), (7, .ref _), (8, .ref _), (9, .int _), (10, .int _), (11, .int _), (12, .int _), (13, .int _), (14, .int _), (15, .int _)]) (st' := [.int _, .int _]) rfl ?_
    refine ev_icge DL_sign_0 51 rfl (tgt := 112) (by decide) (fun h => absurd h (nI_ge (b := n) (by omega) (by omega))) (fun _ => ?_)
    refine ev_ss DL_sign_0 11 52 (pc' := 109) (lv' := [(15, .int _), (14, .int _), (0, .int _), (1, .ref _), (2, .ref _), (3, .ref _), (4, .ref _), (5, .ref _), (6, .ref _), (7, .ref _), (8, .ref _), (9, .int _), (10, .int _), (11, .int _), (12, .int _), (13, .int _)]) (st' := []) rfl ?_
    refine ev_goto DL_sign_0 63 rfl (tgt := 84) (by decide) ?_
    refine ev_lvp (lv2 := [(0, .int _), (1, .ref _), (2, .ref _), (3, .ref _), (4, .ref _), (5, .ref _), (6, .ref _), (7, .ref _), (8, .ref _), (9, .int _), (10, .int _), (11, .int _), (12, .int _), (13, .int _), (14, .int _), (15, .int _)]) [2, 3, 4, 5, 6, 7, 8, 9, 10, 11, 12, 13, 14, 15, 1, 0] rfl ?_
    exact ih (j + 1) _ _ (by omega) (nI_1 j) (by rw [onN_s, ← hq]; rfl)
set_option maxRecDepth 100000 in
set_option maxHeartbeats 4000000 in
theorem sgn_B {E : gE} {ad : Nat → Nat} {ws : va_W} {zq zu za zn zd zw zc zt ze : Nat → Int32} {zh : Nat → Int64} (hC : LC E ad ws zq zu za zn zd zw zc zt ze zh) {Pr : Option Value → va_W → Prop} {q : PS} {a t n : Nat} {f : TF} {sg : Int32} (ha : a < 2) (ht : t < 8) (hn : n ≤ 4) (hT : LT zq zu za zn zd (pTone q a t f)) (hW : LW zw zc zh q) (hS : LSe zt q) (hb : f 10 = nI n) (hg : ¬ f 7 ≤ 0) (hm : TN f) (h0 : n = 0 → sg = 0) (hD : DR f (arrP f (ampP (f 10) sg) (drwN q.1 f))) (hX : ∃ k, k < 2 ^ n ∧ sg ^^^ (decP f (arrP f (ampP (f 10) sg) (drwN q.1 f))) = nI k) (hP : ∀ w, LM E ad w (pSW q (drwS q.1) a (va_up (pW q a).1 t (cntB (passP f (ampP (f 10) sg) (ampP (f 10) (decP f (arrP f (ampP (f 10) sg) (drwN q.1 f))))) (bcP (sg ^^^ (decP f (arrP f (ampP (f 10) sg) (drwN q.1 f)))))), (pW q a).2.1, recL (pW q a).2.2.1 (f 10) (decP f (arrP f (ampP (f 10) sg) (drwN q.1 f))), (pW q a).2.2.2.1 + f 10, (pW q a).2.2.2.2 + (bcP (sg ^^^ (decP f (arrP f (ampP (f 10) sg) (drwN q.1 f))))))) ze → MO ws w → Pr (some (.int (bcP (sg ^^^ (decP f (arrP f (ampP (f 10) sg) (drwN q.1 f))))))) w) : Ev E YL_sign Pr nX 0 0 54 [(0, .int (nI (8 * a + t))), (1, .ref (ad 214)), (2, .ref (ad 215)), (3, .ref (ad 216)), (4, .ref (ad 217)), (5, .ref (ad 218)), (6, .ref (ad 219)), (7, .ref (ad 220)), (8, .ref (ad 223)), (9, .int (nI (4 * (8 * a + t)))), (10, .int (nI a)), (11, .int (nI n)), (12, .int sg)] [] ws := by
  obtain ⟨hzq, hzu, hza, hzn, hzd, hzw, hzc, hzt, hze, hzh⟩ := id hC
  have hi : 8 * a + t < 16 := by omega
  have hQ : ∀ j, j < 4 → zq (4 * (8 * a + t) + j) = f j := fun j hj => by rw [hT.1.at ha ht j hj, pT_same]; rfl
  have hU : ∀ j, j < 3 → zu (4 * (8 * a + t) + j) = f (4 + j) := fun j hj => by rw [hT.2.1.at ha ht j (by omega), pT_same]; unfold mU; rw [if_neg (by omega)]
  have hA : ∀ j, j < 4 → za (4 * (8 * a + t) + j) = f (7 + j) := fun j hj => by rw [hT.2.2.1.at ha ht j hj, pT_same]; rfl
  have hN : ∀ j, j < 4 → zn (4 * (8 * a + t) + j) = f (12 + j) := fun j hj => by rw [hT.2.2.2.1.at ha ht j hj, pT_same]; rfl
  have hDd : ∀ j, j < 2 → zd (2 * (8 * a + t) + j) = f (16 + j) := fun j hj => by rw [hT.2.2.2.2.at ha ht j hj, pT_same]; rfl
  have hsd : zc 1 = q.1 := hW.2.2.2
  have hcm : zc (4 + a) = (pW q a).2.2.2.1 := (hW.2.1 a ha).2.2.1
  have hwr : zc (6 + a) = (pW q a).2.2.2.2 := (hW.2.1 a ha).2.2.2.1
  have hhl : zh a = (pW q a).2.2.1 := (hW.2.1 a ha).2.2.2.2
  obtain ⟨A, eA⟩ : ∃ A, A = ampP (f 10) sg := ⟨_, rfl⟩
  obtain ⟨R, eR⟩ : ∃ R, R = arrP f (ampP (f 10) sg) (drwN q.1 f) := ⟨_, rfl⟩
  obtain ⟨H, eH⟩ : ∃ H, H = decP f R := ⟨_, rfl⟩
  obtain ⟨B, eB⟩ : ∃ B, B = ampP (f 10) H := ⟨_, rfl⟩
  rw [← eR, ← eH, ← eA] at hP
  rw [← eR] at hD hX
  rw [← eH] at hX
  rw [← eA] at eR
  have eW : onN (sg ^^^ H) n = bcP (sg ^^^ H) := by obtain ⟨k, hk, e⟩ := hX; rw [e]; exact onN_bc n (by omega) k hk
  obtain ⟨W, eWW⟩ : ∃ W, W = bcP (sg ^^^ H) := ⟨_, rfl⟩
  rw [← eWW] at hP eW
  rw [← eB] at hP
  have a1 : amQ (nI n) sg = A := by rw [amQ_P hn h0, eA, hb]
  have a2 : amQ (nI n) H = B := by rw [amQ_P hn (fun e => by rw [eH]; exact dec_n0 (by rw [hb, e])), eB, hb]
  have hP2 : ∀ w zu2 zn2 zd2 zc2 zh2 x y, x = (if W ≤ 0 then 0 else 1) → y = (if f 10 ≤ 0 then 0 else 1) → LC E ad w zq zu2 za zn2 zd2 zw zc2 zt ze zh2 → LT zq zu2 za zn2 zd2 (pTone q a t (upd (upd (upd (passP f A B) 14 (f 14 + y)) 15 (f 15 + x)) 12 (f 12 + x))) → LW zw zc2 zh2 (pSW q (drwS q.1) a (va_up (pW q a).1 t (cntB (passP f A B) W), (pW q a).2.1, recL (pW q a).2.2.1 (f 10) H, (pW q a).2.2.2.1 + f 10, (pW q a).2.2.2.2 + W)) → MO ws w → Pr (some (.int W)) w := fun w zu2 zn2 zd2 zc2 zh2 x y hx hy c1 c2 c3 c4 => by
    rw [← cntB_xy hx hy] at c2
    exact hP w ⟨_, _, _, _, _, _, _, _, _, c1, c2.pw (fun y hy => pT_pSW ha hy), c3, hS.SW⟩ c4
  clear hP
  refine ev_ss DL_sign_0 4 32 (pc' := 60) (lv' := [(0, .int _), (1, .ref _), (2, .ref _), (3, .ref _), (4, .ref _), (5, .ref _), (6, .ref _), (7, .ref _), (8, .ref _), (9, .int _), (10, .int _), (11, .int _), (12, .int _)]) (st' := [.int _, .int _, .int _, .int _]) rfl ?_
  refine ev_cS DL_sign_0 36 m_L_amp vL_amp rfl qL_37 rfl (hd_of rfl rfl rfl rfl) ?_
  rw [a1]
  refine ev_ss DL_sign_0 3 37 (pc' := 67) (lv' := [(0, .int _), (1, .ref _), (2, .ref _), (3, .ref _), (4, .ref _), (5, .ref _), (6, .ref _), (7, .ref _), (8, .ref _), (9, .int _), (10, .int _), (11, .int _), (12, .int _)]) (st' := [.ref _, .ref _, .ref _, .int _, .int _, .int _]) rfl ?_
  refine ev_cS DL_sign_0 40 (m_L_come hzq hzu hzc hi (f := f) hQ hU hsd hm) vL_come rfl qL_21 rfl (hd_of rfl rfl rfl rfl) ?_
  rw [← eR]
  generalize drwS q.1 = sd2 at hP2 ⊢
  refine ev_ss DL_sign_0 2 41 (pc' := 73) (lv' := [(0, .int _), (1, .ref _), (2, .ref _), (3, .ref _), (4, .ref _), (5, .ref _), (6, .ref _), (7, .ref _), (8, .ref _), (9, .int _), (10, .int _), (11, .int _), (12, .int _)]) (st' := [.ref _, .ref _, .int _, .int _]) rfl ?_
  refine ev_cS DL_sign_0 43 (m_L_taken (wset_n (wset_n hza (by decide)) (by decide)) (wset_n (wset_n hzd (by decide)) (by decide)) hi (f := f) hA hDd hn hb hg hD) vL_taken rfl qL_45 rfl (hd_of rfl rfl rfl rfl) ?_
  rw [← eH]
  refine ev_ss DL_sign_0 5 44 (pc' := 84) (lv' := [(15, .int 0), (14, .int 0), (13, .int _), (0, .int _), (1, .ref _), (2, .ref _), (3, .ref _), (4, .ref _), (5, .ref _), (6, .ref _), (7, .ref _), (8, .ref _), (9, .int _), (10, .int _), (11, .int _), (12, .int _)]) (st' := []) rfl ?_
  refine ev_lvp (lv2 := [(0, .int _), (1, .ref _), (2, .ref _), (3, .ref _), (4, .ref _), (5, .ref _), (6, .ref _), (7, .ref _), (8, .ref _), (9, .int _), (10, .int _), (11, .int _), (12, .int _), (13, .int _), (14, .int _), (15, .int _)]) [3, 4, 5, 6, 7, 8, 9, 10, 11, 12, 13, 14, 15, 2, 1, 0] rfl ?_
  refine sgn_on hn ?_ n 0 _ 0 (Nat.zero_add n) nI_0.symm rfl
  rw [eW]
  by_cases q1 : nI n ≤ 0
  · have e10 : f 10 ≤ 0 := by rw [hb]; exact q1
    by_cases q2 : W ≤ 0
    · refine ev_ss DL_sign_0 10 64 (pc' := 124) (lv' := [(0, .int _), (1, .ref _), (2, .ref _), (3, .ref _), (4, .ref _), (5, .ref _), (6, .ref _), (7, .ref _), (8, .ref _), (9, .int _), (10, .int _), (11, .int _), (12, .int _), (13, .int _), (14, .int _)]) (st' := [.int _, .ref _, .int _, .ref _]) rfl ?_
      refine ev_ialdv DL_sign_0 74 (k0 := (2 * (8 * a + t))) rfl (wset_n (wset_n hzd (by decide)) (by decide)) (nx_mul (a := 2) (b := (8 * a + t)) rfl rfl) (by omega) (by decide) ((hDd 0 (by decide))) ?_
      refine ev_iastv DL_sign_0 75 (k0 := ((2 * (8 * a + t)) + 1)) rfl (wset_n (wset_n hzd (by decide)) (by decide)) (nx_add (a := (2 * (8 * a + t))) (b := 1) (nx_mul (a := 2) (b := (8 * a + t)) rfl rfl) rfl) (by omega) (by decide) rfl ?_
      refine ev_ss DL_sign_0 6 76 (pc' := 135) (lv' := [(0, .int _), (1, .ref _), (2, .ref _), (3, .ref _), (4, .ref _), (5, .ref _), (6, .ref _), (7, .ref _), (8, .ref _), (9, .int _), (10, .int _), (11, .int _), (12, .int _), (13, .int _), (14, .int _)]) (st' := [.int _, .int _, .int _, .ref _]) rfl ?_
      refine ev_cS DL_sign_0 82 m_L_amp vL_amp rfl qL_37 rfl (hd_of rfl rfl rfl rfl) ?_
      rw [a2]
      refine ev_iastv DL_sign_0 83 (k0 := (2 * (8 * a + t))) rfl (wset_get (wset_n (wset_n hzd (by decide)) (by decide))) (nx_mul (a := 2) (b := (8 * a + t)) rfl rfl) (by omega) (by decide) wset_set ?_
      refine ev_ss DL_sign_0 3 84 (pc' := 144) (lv' := [(0, .int _), (1, .ref _), (2, .ref _), (3, .ref _), (4, .ref _), (5, .ref _), (6, .ref _), (7, .ref _), (8, .ref _), (9, .int _), (10, .int _), (11, .int _), (12, .int _), (13, .int _), (14, .int _)]) (st' := [.int _, .ref _, .int _, .ref _]) rfl ?_
      refine ev_ialdv DL_sign_0 87 (k0 := (4 * (8 * a + t))) rfl (wset_n (wset_n (wset_n hzn (by decide)) (by decide)) (by decide)) rfl (by omega) (by decide) ((hN 0 (by decide))) ?_
      refine ev_ss DL_sign_0 1 88 (pc' := 147) (lv' := [(0, .int _), (1, .ref _), (2, .ref _), (3, .ref _), (4, .ref _), (5, .ref _), (6, .ref _), (7, .ref _), (8, .ref _), (9, .int _), (10, .int _), (11, .int _), (12, .int _), (13, .int _), (14, .int _)]) (st' := [.int _, .int _, .int _, .ref _]) rfl ?_
      refine ev_ifle DL_sign_0 89 rfl (tgt := 154) (by decide) (fun _ => ?_) (fun h => h.elim q2)
      refine ev_ss DL_sign_0 2 92 (pc' := 156) (lv' := [(0, .int _), (1, .ref _), (2, .ref _), (3, .ref _), (4, .ref _), (5, .ref _), (6, .ref _), (7, .ref _), (8, .ref _), (9, .int _), (10, .int _), (11, .int _), (12, .int _), (13, .int _), (14, .int _)]) (st' := [.int _, .int _, .ref _]) rfl ?_
      refine ev_iastv DL_sign_0 94 (k0 := (4 * (8 * a + t))) rfl (wset_n (wset_n (wset_n hzn (by decide)) (by decide)) (by decide)) rfl (by omega) (by decide) rfl ?_
      refine ev_ss DL_sign_0 5 95 (pc' := 164) (lv' := [(0, .int _), (1, .ref _), (2, .ref _), (3, .ref _), (4, .ref _), (5, .ref _), (6, .ref _), (7, .ref _), (8, .ref _), (9, .int _), (10, .int _), (11, .int _), (12, .int _), (13, .int _), (14, .int _)]) (st' := [.int _, .ref _, .int _, .ref _]) rfl ?_
      refine ev_ialdv DL_sign_0 100 (k0 := ((4 * (8 * a + t)) + 2)) rfl (wset_get (wset_n (wset_n (wset_n hzn (by decide)) (by decide)) (by decide))) (nx_add (a := (4 * (8 * a + t))) (b := 2) rfl rfl) (by omega) (by decide) ((upd_ne (by omega)).trans ((hN 2 (by decide)))) ?_
      refine ev_ss DL_sign_0 1 101 (pc' := 167) (lv' := [(0, .int _), (1, .ref _), (2, .ref _), (3, .ref _), (4, .ref _), (5, .ref _), (6, .ref _), (7, .ref _), (8, .ref _), (9, .int _), (10, .int _), (11, .int _), (12, .int _), (13, .int _), (14, .int _)]) (st' := [.int _, .int _, .int _, .ref _]) rfl ?_
      refine ev_ifle DL_sign_0 102 rfl (tgt := 174) (by decide) (fun _ => ?_) (fun h => h.elim q1)
      refine ev_ss DL_sign_0 2 105 (pc' := 176) (lv' := [(0, .int _), (1, .ref _), (2, .ref _), (3, .ref _), (4, .ref _), (5, .ref _), (6, .ref _), (7, .ref _), (8, .ref _), (9, .int _), (10, .int _), (11, .int _), (12, .int _), (13, .int _), (14, .int _)]) (st' := [.int _, .int _, .ref _]) rfl ?_
      refine ev_iastv DL_sign_0 107 (k0 := ((4 * (8 * a + t)) + 2)) rfl (wset_get (wset_n (wset_n (wset_n hzn (by decide)) (by decide)) (by decide))) (nx_add (a := (4 * (8 * a + t))) (b := 2) rfl rfl) (by omega) (by decide) wset_set ?_
      refine ev_ss DL_sign_0 5 108 (pc' := 184) (lv' := [(0, .int _), (1, .ref _), (2, .ref _), (3, .ref _), (4, .ref _), (5, .ref _), (6, .ref _), (7, .ref _), (8, .ref _), (9, .int _), (10, .int _), (11, .int _), (12, .int _), (13, .int _), (14, .int _)]) (st' := [.int _, .ref _, .int _, .ref _]) rfl ?_
      refine ev_ialdv DL_sign_0 113 (k0 := ((4 * (8 * a + t)) + 3)) rfl (wset_get (wset_n (wset_n (wset_n hzn (by decide)) (by decide)) (by decide))) (nx_add (a := (4 * (8 * a + t))) (b := 3) rfl rfl) (by omega) (by decide) ((upd_ne (by omega)).trans ((upd_ne (by omega)).trans ((hN 3 (by decide))))) ?_
      refine ev_ss DL_sign_0 1 114 (pc' := 187) (lv' := [(0, .int _), (1, .ref _), (2, .ref _), (3, .ref _), (4, .ref _), (5, .ref _), (6, .ref _), (7, .ref _), (8, .ref _), (9, .int _), (10, .int _), (11, .int _), (12, .int _), (13, .int _), (14, .int _)]) (st' := [.int _, .int _, .int _, .ref _]) rfl ?_
      refine ev_ifle DL_sign_0 115 rfl (tgt := 194) (by decide) (fun _ => ?_) (fun h => h.elim q2)
      refine ev_ss DL_sign_0 2 118 (pc' := 196) (lv' := [(0, .int _), (1, .ref _), (2, .ref _), (3, .ref _), (4, .ref _), (5, .ref _), (6, .ref _), (7, .ref _), (8, .ref _), (9, .int _), (10, .int _), (11, .int _), (12, .int _), (13, .int _), (14, .int _)]) (st' := [.int _, .int _, .ref _]) rfl ?_
      refine ev_iastv DL_sign_1 0 (k0 := ((4 * (8 * a + t)) + 3)) rfl (wset_get (wset_n (wset_n (wset_n hzn (by decide)) (by decide)) (by decide))) (nx_add (a := (4 * (8 * a + t))) (b := 3) rfl rfl) (by omega) (by decide) wset_set ?_
      refine ev_ss DL_sign_1 5 1 (pc' := 204) (lv' := [(0, .int _), (1, .ref _), (2, .ref _), (3, .ref _), (4, .ref _), (5, .ref _), (6, .ref _), (7, .ref _), (8, .ref _), (9, .int _), (10, .int _), (11, .int _), (12, .int _), (13, .int _), (14, .int _)]) (st' := [.int _, .ref _, .int _, .ref _]) rfl ?_
      refine ev_ialdv DL_sign_1 6 (k0 := (4 + a)) rfl (wset_n (wset_n (wset_n (wset_get hzc) (by decide)) (by decide)) (by decide)) (nx_add (a := 4) (b := a) rfl rfl) (by omega) (by decide) ((upd_ne (by omega)).trans (hcm)) ?_
      refine ev_ss DL_sign_1 2 7 (pc' := 208) (lv' := [(0, .int _), (1, .ref _), (2, .ref _), (3, .ref _), (4, .ref _), (5, .ref _), (6, .ref _), (7, .ref _), (8, .ref _), (9, .int _), (10, .int _), (11, .int _), (12, .int _), (13, .int _), (14, .int _)]) (st' := [.int _, .int _, .ref _]) rfl ?_
      refine ev_iastv DL_sign_1 9 (k0 := (4 + a)) rfl (wset_n (wset_n (wset_n (wset_get hzc) (by decide)) (by decide)) (by decide)) (nx_add (a := 4) (b := a) rfl rfl) (by omega) (by decide) rfl ?_
      refine ev_ss DL_sign_1 5 10 (pc' := 217) (lv' := [(0, .int _), (1, .ref _), (2, .ref _), (3, .ref _), (4, .ref _), (5, .ref _), (6, .ref _), (7, .ref _), (8, .ref _), (9, .int _), (10, .int _), (11, .int _), (12, .int _), (13, .int _), (14, .int _)]) (st' := [.int _, .ref _, .int _, .ref _]) rfl ?_
      refine ev_ialdv DL_sign_1 15 (k0 := (6 + a)) rfl (wset_get (wset_n (wset_n (wset_n (wset_get hzc) (by decide)) (by decide)) (by decide))) (nx_add (a := 6) (b := a) rfl rfl) (by omega) (by decide) ((upd_ne (by omega)).trans ((upd_ne (by omega)).trans (hwr))) ?_
      refine ev_ss DL_sign_1 2 16 (pc' := 221) (lv' := [(0, .int _), (1, .ref _), (2, .ref _), (3, .ref _), (4, .ref _), (5, .ref _), (6, .ref _), (7, .ref _), (8, .ref _), (9, .int _), (10, .int _), (11, .int _), (12, .int _), (13, .int _), (14, .int _)]) (st' := [.int _, .int _, .ref _]) rfl ?_
      refine ev_iastv DL_sign_1 18 (k0 := (6 + a)) rfl (wset_get (wset_n (wset_n (wset_n (wset_get hzc) (by decide)) (by decide)) (by decide))) (nx_add (a := 6) (b := a) rfl rfl) (by omega) (by decide) wset_set ?_
      refine ev_ss DL_sign_1 4 19 (pc' := 230) (lv' := [(0, .int _), (1, .ref _), (2, .ref _), (3, .ref _), (4, .ref _), (5, .ref _), (6, .ref _), (7, .ref _), (8, .ref _), (9, .int _), (10, .int _), (11, .int _), (12, .int _), (13, .int _), (14, .int _)]) (st' := [.int _, .ref _, .int _, .ref _]) rfl ?_
      refine ev_laldv DL_sign_1 23 (k0 := a) rfl (wset_n (wset_n (wset_n (wset_n (wset_n hzh (by decide)) (by decide)) (by decide)) (by decide)) (by decide)) rfl (by omega) (by decide) (hhl) ?_
      refine ev_ss DL_sign_1 5 24 (pc' := 238) (lv' := [(0, .int _), (1, .ref _), (2, .ref _), (3, .ref _), (4, .ref _), (5, .ref _), (6, .ref _), (7, .ref _), (8, .ref _), (9, .int _), (10, .int _), (11, .int _), (12, .int _), (13, .int _), (14, .int _)]) (st' := [.long _, .int _, .ref _]) rfl ?_
      refine ev_ldc2 DL_sign_1 29 rfl kL_49 ?_
      refine ev_ss DL_sign_1 1 30 (pc' := 242) (lv' := [(0, .int _), (1, .ref _), (2, .ref _), (3, .ref _), (4, .ref _), (5, .ref _), (6, .ref _), (7, .ref _), (8, .ref _), (9, .int _), (10, .int _), (11, .int _), (12, .int _), (13, .int _), (14, .int _)]) (st' := [.long _, .int _, .ref _]) rfl ?_
      refine ev_lastv DL_sign_1 31 (k0 := a) rfl (wset_n (wset_n (wset_n (wset_n (wset_n hzh (by decide)) (by decide)) (by decide)) (by decide)) (by decide)) rfl (by omega) (by decide) rfl ?_
      refine ev_ss DL_sign_1 1 32 (pc' := 245) (lv' := [(0, .int _), (1, .ref _), (2, .ref _), (3, .ref _), (4, .ref _), (5, .ref _), (6, .ref _), (7, .ref _), (8, .ref _), (9, .int _), (10, .int _), (11, .int _), (12, .int _), (13, .int _), (14, .int _)]) (st' := [.int _]) rfl ?_
      exact ev_iret DL_sign_1 33 rfl rfl (hP2 _ _ _ _ _ _ _ _ ((if_pos q2).symm) ((if_pos e10).symm) ⟨(wset_n (wset_n (wset_n (wset_n (wset_n (wset_n hzq (by decide)) (by decide)) (by decide)) (by decide)) (by decide)) (by decide)), (wset_n (wset_n (wset_n (wset_n (wset_get (wset_n hzu (by decide))) (by decide)) (by decide)) (by decide)) (by decide)), (wset_n (wset_n (wset_n (wset_n (wset_n (wset_n hza (by decide)) (by decide)) (by decide)) (by decide)) (by decide)) (by decide)), (wset_n (wset_n (wset_get (wset_n (wset_n (wset_n hzn (by decide)) (by decide)) (by decide))) (by decide)) (by decide)), (wset_n (wset_n (wset_n (wset_get (wset_n (wset_n hzd (by decide)) (by decide))) (by decide)) (by decide)) (by decide)), (wset_n (wset_n (wset_n (wset_n (wset_n (wset_n hzw (by decide)) (by decide)) (by decide)) (by decide)) (by decide)) (by decide)), (wset_n (wset_get (wset_n (wset_n (wset_n (wset_get hzc) (by decide)) (by decide)) (by decide))) (by decide)), (wset_n (wset_n (wset_n (wset_n (wset_n (wset_n hzt (by decide)) (by decide)) (by decide)) (by decide)) (by decide)) (by decide)), (wset_n (wset_n (wset_n (wset_n (wset_n (wset_n hze (by decide)) (by decide)) (by decide)) (by decide)) (by decide)) (by decide)), (wset_get (wset_n (wset_n (wset_n (wset_n (wset_n hzh (by decide)) (by decide)) (by decide)) (by decide)) (by decide)))⟩ (LT_sgn ha ht hT) (by rw [hb]; exact LW_sgn hW ha) ((((((MO.rf.st (by decide) (by decide)).st (by decide) (by decide)).st (by decide) (by decide)).st (by decide) (by decide)).st (by decide) (by decide)).st (by decide) (by decide)))
    · refine ev_ss DL_sign_0 10 64 (pc' := 124) (lv' := [(0, .int _), (1, .ref _), (2, .ref _), (3, .ref _), (4, .ref _), (5, .ref _), (6, .ref _), (7, .ref _), (8, .ref _), (9, .int _), (10, .int _), (11, .int _), (12, .int _), (13, .int _), (14, .int _)]) (st' := [.int _, .ref _, .int _, .ref _]) rfl ?_
      refine ev_ialdv DL_sign_0 74 (k0 := (2 * (8 * a + t))) rfl (wset_n (wset_n hzd (by decide)) (by decide)) (nx_mul (a := 2) (b := (8 * a + t)) rfl rfl) (by omega) (by decide) ((hDd 0 (by decide))) ?_
      refine ev_iastv DL_sign_0 75 (k0 := ((2 * (8 * a + t)) + 1)) rfl (wset_n (wset_n hzd (by decide)) (by decide)) (nx_add (a := (2 * (8 * a + t))) (b := 1) (nx_mul (a := 2) (b := (8 * a + t)) rfl rfl) rfl) (by omega) (by decide) rfl ?_
      refine ev_ss DL_sign_0 6 76 (pc' := 135) (lv' := [(0, .int _), (1, .ref _), (2, .ref _), (3, .ref _), (4, .ref _), (5, .ref _), (6, .ref _), (7, .ref _), (8, .ref _), (9, .int _), (10, .int _), (11, .int _), (12, .int _), (13, .int _), (14, .int _)]) (st' := [.int _, .int _, .int _, .ref _]) rfl ?_
      refine ev_cS DL_sign_0 82 m_L_amp vL_amp rfl qL_37 rfl (hd_of rfl rfl rfl rfl) ?_
      rw [a2]
      refine ev_iastv DL_sign_0 83 (k0 := (2 * (8 * a + t))) rfl (wset_get (wset_n (wset_n hzd (by decide)) (by decide))) (nx_mul (a := 2) (b := (8 * a + t)) rfl rfl) (by omega) (by decide) wset_set ?_
      refine ev_ss DL_sign_0 3 84 (pc' := 144) (lv' := [(0, .int _), (1, .ref _), (2, .ref _), (3, .ref _), (4, .ref _), (5, .ref _), (6, .ref _), (7, .ref _), (8, .ref _), (9, .int _), (10, .int _), (11, .int _), (12, .int _), (13, .int _), (14, .int _)]) (st' := [.int _, .ref _, .int _, .ref _]) rfl ?_
      refine ev_ialdv DL_sign_0 87 (k0 := (4 * (8 * a + t))) rfl (wset_n (wset_n (wset_n hzn (by decide)) (by decide)) (by decide)) rfl (by omega) (by decide) ((hN 0 (by decide))) ?_
      refine ev_ss DL_sign_0 1 88 (pc' := 147) (lv' := [(0, .int _), (1, .ref _), (2, .ref _), (3, .ref _), (4, .ref _), (5, .ref _), (6, .ref _), (7, .ref _), (8, .ref _), (9, .int _), (10, .int _), (11, .int _), (12, .int _), (13, .int _), (14, .int _)]) (st' := [.int _, .int _, .int _, .ref _]) rfl ?_
      refine ev_ifle DL_sign_0 89 rfl (tgt := 154) (by decide) (fun h => absurd h q2) (fun _ => ?_)
      refine ev_ss DL_sign_0 1 90 (pc' := 151) (lv' := [(0, .int _), (1, .ref _), (2, .ref _), (3, .ref _), (4, .ref _), (5, .ref _), (6, .ref _), (7, .ref _), (8, .ref _), (9, .int _), (10, .int _), (11, .int _), (12, .int _), (13, .int _), (14, .int _)]) (st' := [.int 1, .int _, .int _, .ref _]) rfl ?_
      refine ev_goto DL_sign_0 91 rfl (tgt := 155) (by decide) ?_
      refine ev_ss DL_sign_0 1 93 (pc' := 156) (lv' := [(0, .int _), (1, .ref _), (2, .ref _), (3, .ref _), (4, .ref _), (5, .ref _), (6, .ref _), (7, .ref _), (8, .ref _), (9, .int _), (10, .int _), (11, .int _), (12, .int _), (13, .int _), (14, .int _)]) (st' := [.int _, .int _, .ref _]) rfl ?_
      refine ev_iastv DL_sign_0 94 (k0 := (4 * (8 * a + t))) rfl (wset_n (wset_n (wset_n hzn (by decide)) (by decide)) (by decide)) rfl (by omega) (by decide) rfl ?_
      refine ev_ss DL_sign_0 5 95 (pc' := 164) (lv' := [(0, .int _), (1, .ref _), (2, .ref _), (3, .ref _), (4, .ref _), (5, .ref _), (6, .ref _), (7, .ref _), (8, .ref _), (9, .int _), (10, .int _), (11, .int _), (12, .int _), (13, .int _), (14, .int _)]) (st' := [.int _, .ref _, .int _, .ref _]) rfl ?_
      refine ev_ialdv DL_sign_0 100 (k0 := ((4 * (8 * a + t)) + 2)) rfl (wset_get (wset_n (wset_n (wset_n hzn (by decide)) (by decide)) (by decide))) (nx_add (a := (4 * (8 * a + t))) (b := 2) rfl rfl) (by omega) (by decide) ((upd_ne (by omega)).trans ((hN 2 (by decide)))) ?_
      refine ev_ss DL_sign_0 1 101 (pc' := 167) (lv' := [(0, .int _), (1, .ref _), (2, .ref _), (3, .ref _), (4, .ref _), (5, .ref _), (6, .ref _), (7, .ref _), (8, .ref _), (9, .int _), (10, .int _), (11, .int _), (12, .int _), (13, .int _), (14, .int _)]) (st' := [.int _, .int _, .int _, .ref _]) rfl ?_
      refine ev_ifle DL_sign_0 102 rfl (tgt := 174) (by decide) (fun _ => ?_) (fun h => h.elim q1)
      refine ev_ss DL_sign_0 2 105 (pc' := 176) (lv' := [(0, .int _), (1, .ref _), (2, .ref _), (3, .ref _), (4, .ref _), (5, .ref _), (6, .ref _), (7, .ref _), (8, .ref _), (9, .int _), (10, .int _), (11, .int _), (12, .int _), (13, .int _), (14, .int _)]) (st' := [.int _, .int _, .ref _]) rfl ?_
      refine ev_iastv DL_sign_0 107 (k0 := ((4 * (8 * a + t)) + 2)) rfl (wset_get (wset_n (wset_n (wset_n hzn (by decide)) (by decide)) (by decide))) (nx_add (a := (4 * (8 * a + t))) (b := 2) rfl rfl) (by omega) (by decide) wset_set ?_
      refine ev_ss DL_sign_0 5 108 (pc' := 184) (lv' := [(0, .int _), (1, .ref _), (2, .ref _), (3, .ref _), (4, .ref _), (5, .ref _), (6, .ref _), (7, .ref _), (8, .ref _), (9, .int _), (10, .int _), (11, .int _), (12, .int _), (13, .int _), (14, .int _)]) (st' := [.int _, .ref _, .int _, .ref _]) rfl ?_
      refine ev_ialdv DL_sign_0 113 (k0 := ((4 * (8 * a + t)) + 3)) rfl (wset_get (wset_n (wset_n (wset_n hzn (by decide)) (by decide)) (by decide))) (nx_add (a := (4 * (8 * a + t))) (b := 3) rfl rfl) (by omega) (by decide) ((upd_ne (by omega)).trans ((upd_ne (by omega)).trans ((hN 3 (by decide))))) ?_
      refine ev_ss DL_sign_0 1 114 (pc' := 187) (lv' := [(0, .int _), (1, .ref _), (2, .ref _), (3, .ref _), (4, .ref _), (5, .ref _), (6, .ref _), (7, .ref _), (8, .ref _), (9, .int _), (10, .int _), (11, .int _), (12, .int _), (13, .int _), (14, .int _)]) (st' := [.int _, .int _, .int _, .ref _]) rfl ?_
      refine ev_ifle DL_sign_0 115 rfl (tgt := 194) (by decide) (fun h => absurd h q2) (fun _ => ?_)
      refine ev_ss DL_sign_0 1 116 (pc' := 191) (lv' := [(0, .int _), (1, .ref _), (2, .ref _), (3, .ref _), (4, .ref _), (5, .ref _), (6, .ref _), (7, .ref _), (8, .ref _), (9, .int _), (10, .int _), (11, .int _), (12, .int _), (13, .int _), (14, .int _)]) (st' := [.int 1, .int _, .int _, .ref _]) rfl ?_
      refine ev_goto DL_sign_0 117 rfl (tgt := 195) (by decide) ?_
      refine ev_ss DL_sign_0 1 119 (pc' := 196) (lv' := [(0, .int _), (1, .ref _), (2, .ref _), (3, .ref _), (4, .ref _), (5, .ref _), (6, .ref _), (7, .ref _), (8, .ref _), (9, .int _), (10, .int _), (11, .int _), (12, .int _), (13, .int _), (14, .int _)]) (st' := [.int _, .int _, .ref _]) rfl ?_
      refine ev_iastv DL_sign_1 0 (k0 := ((4 * (8 * a + t)) + 3)) rfl (wset_get (wset_n (wset_n (wset_n hzn (by decide)) (by decide)) (by decide))) (nx_add (a := (4 * (8 * a + t))) (b := 3) rfl rfl) (by omega) (by decide) wset_set ?_
      refine ev_ss DL_sign_1 5 1 (pc' := 204) (lv' := [(0, .int _), (1, .ref _), (2, .ref _), (3, .ref _), (4, .ref _), (5, .ref _), (6, .ref _), (7, .ref _), (8, .ref _), (9, .int _), (10, .int _), (11, .int _), (12, .int _), (13, .int _), (14, .int _)]) (st' := [.int _, .ref _, .int _, .ref _]) rfl ?_
      refine ev_ialdv DL_sign_1 6 (k0 := (4 + a)) rfl (wset_n (wset_n (wset_n (wset_get hzc) (by decide)) (by decide)) (by decide)) (nx_add (a := 4) (b := a) rfl rfl) (by omega) (by decide) ((upd_ne (by omega)).trans (hcm)) ?_
      refine ev_ss DL_sign_1 2 7 (pc' := 208) (lv' := [(0, .int _), (1, .ref _), (2, .ref _), (3, .ref _), (4, .ref _), (5, .ref _), (6, .ref _), (7, .ref _), (8, .ref _), (9, .int _), (10, .int _), (11, .int _), (12, .int _), (13, .int _), (14, .int _)]) (st' := [.int _, .int _, .ref _]) rfl ?_
      refine ev_iastv DL_sign_1 9 (k0 := (4 + a)) rfl (wset_n (wset_n (wset_n (wset_get hzc) (by decide)) (by decide)) (by decide)) (nx_add (a := 4) (b := a) rfl rfl) (by omega) (by decide) rfl ?_
      refine ev_ss DL_sign_1 5 10 (pc' := 217) (lv' := [(0, .int _), (1, .ref _), (2, .ref _), (3, .ref _), (4, .ref _), (5, .ref _), (6, .ref _), (7, .ref _), (8, .ref _), (9, .int _), (10, .int _), (11, .int _), (12, .int _), (13, .int _), (14, .int _)]) (st' := [.int _, .ref _, .int _, .ref _]) rfl ?_
      refine ev_ialdv DL_sign_1 15 (k0 := (6 + a)) rfl (wset_get (wset_n (wset_n (wset_n (wset_get hzc) (by decide)) (by decide)) (by decide))) (nx_add (a := 6) (b := a) rfl rfl) (by omega) (by decide) ((upd_ne (by omega)).trans ((upd_ne (by omega)).trans (hwr))) ?_
      refine ev_ss DL_sign_1 2 16 (pc' := 221) (lv' := [(0, .int _), (1, .ref _), (2, .ref _), (3, .ref _), (4, .ref _), (5, .ref _), (6, .ref _), (7, .ref _), (8, .ref _), (9, .int _), (10, .int _), (11, .int _), (12, .int _), (13, .int _), (14, .int _)]) (st' := [.int _, .int _, .ref _]) rfl ?_
      refine ev_iastv DL_sign_1 18 (k0 := (6 + a)) rfl (wset_get (wset_n (wset_n (wset_n (wset_get hzc) (by decide)) (by decide)) (by decide))) (nx_add (a := 6) (b := a) rfl rfl) (by omega) (by decide) wset_set ?_
      refine ev_ss DL_sign_1 4 19 (pc' := 230) (lv' := [(0, .int _), (1, .ref _), (2, .ref _), (3, .ref _), (4, .ref _), (5, .ref _), (6, .ref _), (7, .ref _), (8, .ref _), (9, .int _), (10, .int _), (11, .int _), (12, .int _), (13, .int _), (14, .int _)]) (st' := [.int _, .ref _, .int _, .ref _]) rfl ?_
      refine ev_laldv DL_sign_1 23 (k0 := a) rfl (wset_n (wset_n (wset_n (wset_n (wset_n hzh (by decide)) (by decide)) (by decide)) (by decide)) (by decide)) rfl (by omega) (by decide) (hhl) ?_
      refine ev_ss DL_sign_1 5 24 (pc' := 238) (lv' := [(0, .int _), (1, .ref _), (2, .ref _), (3, .ref _), (4, .ref _), (5, .ref _), (6, .ref _), (7, .ref _), (8, .ref _), (9, .int _), (10, .int _), (11, .int _), (12, .int _), (13, .int _), (14, .int _)]) (st' := [.long _, .int _, .ref _]) rfl ?_
      refine ev_ldc2 DL_sign_1 29 rfl kL_49 ?_
      refine ev_ss DL_sign_1 1 30 (pc' := 242) (lv' := [(0, .int _), (1, .ref _), (2, .ref _), (3, .ref _), (4, .ref _), (5, .ref _), (6, .ref _), (7, .ref _), (8, .ref _), (9, .int _), (10, .int _), (11, .int _), (12, .int _), (13, .int _), (14, .int _)]) (st' := [.long _, .int _, .ref _]) rfl ?_
      refine ev_lastv DL_sign_1 31 (k0 := a) rfl (wset_n (wset_n (wset_n (wset_n (wset_n hzh (by decide)) (by decide)) (by decide)) (by decide)) (by decide)) rfl (by omega) (by decide) rfl ?_
      refine ev_ss DL_sign_1 1 32 (pc' := 245) (lv' := [(0, .int _), (1, .ref _), (2, .ref _), (3, .ref _), (4, .ref _), (5, .ref _), (6, .ref _), (7, .ref _), (8, .ref _), (9, .int _), (10, .int _), (11, .int _), (12, .int _), (13, .int _), (14, .int _)]) (st' := [.int _]) rfl ?_
      exact ev_iret DL_sign_1 33 rfl rfl (hP2 _ _ _ _ _ _ _ _ ((if_neg q2).symm) ((if_pos e10).symm) ⟨(wset_n (wset_n (wset_n (wset_n (wset_n (wset_n hzq (by decide)) (by decide)) (by decide)) (by decide)) (by decide)) (by decide)), (wset_n (wset_n (wset_n (wset_n (wset_get (wset_n hzu (by decide))) (by decide)) (by decide)) (by decide)) (by decide)), (wset_n (wset_n (wset_n (wset_n (wset_n (wset_n hza (by decide)) (by decide)) (by decide)) (by decide)) (by decide)) (by decide)), (wset_n (wset_n (wset_get (wset_n (wset_n (wset_n hzn (by decide)) (by decide)) (by decide))) (by decide)) (by decide)), (wset_n (wset_n (wset_n (wset_get (wset_n (wset_n hzd (by decide)) (by decide))) (by decide)) (by decide)) (by decide)), (wset_n (wset_n (wset_n (wset_n (wset_n (wset_n hzw (by decide)) (by decide)) (by decide)) (by decide)) (by decide)) (by decide)), (wset_n (wset_get (wset_n (wset_n (wset_n (wset_get hzc) (by decide)) (by decide)) (by decide))) (by decide)), (wset_n (wset_n (wset_n (wset_n (wset_n (wset_n hzt (by decide)) (by decide)) (by decide)) (by decide)) (by decide)) (by decide)), (wset_n (wset_n (wset_n (wset_n (wset_n (wset_n hze (by decide)) (by decide)) (by decide)) (by decide)) (by decide)) (by decide)), (wset_get (wset_n (wset_n (wset_n (wset_n (wset_n hzh (by decide)) (by decide)) (by decide)) (by decide)) (by decide)))⟩ (LT_sgn ha ht hT) (by rw [hb]; exact LW_sgn hW ha) ((((((MO.rf.st (by decide) (by decide)).st (by decide) (by decide)).st (by decide) (by decide)).st (by decide) (by decide)).st (by decide) (by decide)).st (by decide) (by decide)))
  · have e10 : ¬ f 10 ≤ 0 := by rw [hb]; exact q1
    by_cases q2 : W ≤ 0
    · refine ev_ss DL_sign_0 10 64 (pc' := 124) (lv' := [(0, .int _), (1, .ref _), (2, .ref _), (3, .ref _), (4, .ref _), (5, .ref _), (6, .ref _), (7, .ref _), (8, .ref _), (9, .int _), (10, .int _), (11, .int _), (12, .int _), (13, .int _), (14, .int _)]) (st' := [.int _, .ref _, .int _, .ref _]) rfl ?_
      refine ev_ialdv DL_sign_0 74 (k0 := (2 * (8 * a + t))) rfl (wset_n (wset_n hzd (by decide)) (by decide)) (nx_mul (a := 2) (b := (8 * a + t)) rfl rfl) (by omega) (by decide) ((hDd 0 (by decide))) ?_
      refine ev_iastv DL_sign_0 75 (k0 := ((2 * (8 * a + t)) + 1)) rfl (wset_n (wset_n hzd (by decide)) (by decide)) (nx_add (a := (2 * (8 * a + t))) (b := 1) (nx_mul (a := 2) (b := (8 * a + t)) rfl rfl) rfl) (by omega) (by decide) rfl ?_
      refine ev_ss DL_sign_0 6 76 (pc' := 135) (lv' := [(0, .int _), (1, .ref _), (2, .ref _), (3, .ref _), (4, .ref _), (5, .ref _), (6, .ref _), (7, .ref _), (8, .ref _), (9, .int _), (10, .int _), (11, .int _), (12, .int _), (13, .int _), (14, .int _)]) (st' := [.int _, .int _, .int _, .ref _]) rfl ?_
      refine ev_cS DL_sign_0 82 m_L_amp vL_amp rfl qL_37 rfl (hd_of rfl rfl rfl rfl) ?_
      rw [a2]
      refine ev_iastv DL_sign_0 83 (k0 := (2 * (8 * a + t))) rfl (wset_get (wset_n (wset_n hzd (by decide)) (by decide))) (nx_mul (a := 2) (b := (8 * a + t)) rfl rfl) (by omega) (by decide) wset_set ?_
      refine ev_ss DL_sign_0 3 84 (pc' := 144) (lv' := [(0, .int _), (1, .ref _), (2, .ref _), (3, .ref _), (4, .ref _), (5, .ref _), (6, .ref _), (7, .ref _), (8, .ref _), (9, .int _), (10, .int _), (11, .int _), (12, .int _), (13, .int _), (14, .int _)]) (st' := [.int _, .ref _, .int _, .ref _]) rfl ?_
      refine ev_ialdv DL_sign_0 87 (k0 := (4 * (8 * a + t))) rfl (wset_n (wset_n (wset_n hzn (by decide)) (by decide)) (by decide)) rfl (by omega) (by decide) ((hN 0 (by decide))) ?_
      refine ev_ss DL_sign_0 1 88 (pc' := 147) (lv' := [(0, .int _), (1, .ref _), (2, .ref _), (3, .ref _), (4, .ref _), (5, .ref _), (6, .ref _), (7, .ref _), (8, .ref _), (9, .int _), (10, .int _), (11, .int _), (12, .int _), (13, .int _), (14, .int _)]) (st' := [.int _, .int _, .int _, .ref _]) rfl ?_
      refine ev_ifle DL_sign_0 89 rfl (tgt := 154) (by decide) (fun _ => ?_) (fun h => h.elim q2)
      refine ev_ss DL_sign_0 2 92 (pc' := 156) (lv' := [(0, .int _), (1, .ref _), (2, .ref _), (3, .ref _), (4, .ref _), (5, .ref _), (6, .ref _), (7, .ref _), (8, .ref _), (9, .int _), (10, .int _), (11, .int _), (12, .int _), (13, .int _), (14, .int _)]) (st' := [.int _, .int _, .ref _]) rfl ?_
      refine ev_iastv DL_sign_0 94 (k0 := (4 * (8 * a + t))) rfl (wset_n (wset_n (wset_n hzn (by decide)) (by decide)) (by decide)) rfl (by omega) (by decide) rfl ?_
      refine ev_ss DL_sign_0 5 95 (pc' := 164) (lv' := [(0, .int _), (1, .ref _), (2, .ref _), (3, .ref _), (4, .ref _), (5, .ref _), (6, .ref _), (7, .ref _), (8, .ref _), (9, .int _), (10, .int _), (11, .int _), (12, .int _), (13, .int _), (14, .int _)]) (st' := [.int _, .ref _, .int _, .ref _]) rfl ?_
      refine ev_ialdv DL_sign_0 100 (k0 := ((4 * (8 * a + t)) + 2)) rfl (wset_get (wset_n (wset_n (wset_n hzn (by decide)) (by decide)) (by decide))) (nx_add (a := (4 * (8 * a + t))) (b := 2) rfl rfl) (by omega) (by decide) ((upd_ne (by omega)).trans ((hN 2 (by decide)))) ?_
      refine ev_ss DL_sign_0 1 101 (pc' := 167) (lv' := [(0, .int _), (1, .ref _), (2, .ref _), (3, .ref _), (4, .ref _), (5, .ref _), (6, .ref _), (7, .ref _), (8, .ref _), (9, .int _), (10, .int _), (11, .int _), (12, .int _), (13, .int _), (14, .int _)]) (st' := [.int _, .int _, .int _, .ref _]) rfl ?_
      refine ev_ifle DL_sign_0 102 rfl (tgt := 174) (by decide) (fun h => absurd h q1) (fun _ => ?_)
      refine ev_ss DL_sign_0 1 103 (pc' := 171) (lv' := [(0, .int _), (1, .ref _), (2, .ref _), (3, .ref _), (4, .ref _), (5, .ref _), (6, .ref _), (7, .ref _), (8, .ref _), (9, .int _), (10, .int _), (11, .int _), (12, .int _), (13, .int _), (14, .int _)]) (st' := [.int 1, .int _, .int _, .ref _]) rfl ?_
      refine ev_goto DL_sign_0 104 rfl (tgt := 175) (by decide) ?_
      refine ev_ss DL_sign_0 1 106 (pc' := 176) (lv' := [(0, .int _), (1, .ref _), (2, .ref _), (3, .ref _), (4, .ref _), (5, .ref _), (6, .ref _), (7, .ref _), (8, .ref _), (9, .int _), (10, .int _), (11, .int _), (12, .int _), (13, .int _), (14, .int _)]) (st' := [.int _, .int _, .ref _]) rfl ?_
      refine ev_iastv DL_sign_0 107 (k0 := ((4 * (8 * a + t)) + 2)) rfl (wset_get (wset_n (wset_n (wset_n hzn (by decide)) (by decide)) (by decide))) (nx_add (a := (4 * (8 * a + t))) (b := 2) rfl rfl) (by omega) (by decide) wset_set ?_
      refine ev_ss DL_sign_0 5 108 (pc' := 184) (lv' := [(0, .int _), (1, .ref _), (2, .ref _), (3, .ref _), (4, .ref _), (5, .ref _), (6, .ref _), (7, .ref _), (8, .ref _), (9, .int _), (10, .int _), (11, .int _), (12, .int _), (13, .int _), (14, .int _)]) (st' := [.int _, .ref _, .int _, .ref _]) rfl ?_
      refine ev_ialdv DL_sign_0 113 (k0 := ((4 * (8 * a + t)) + 3)) rfl (wset_get (wset_n (wset_n (wset_n hzn (by decide)) (by decide)) (by decide))) (nx_add (a := (4 * (8 * a + t))) (b := 3) rfl rfl) (by omega) (by decide) ((upd_ne (by omega)).trans ((upd_ne (by omega)).trans ((hN 3 (by decide))))) ?_
      refine ev_ss DL_sign_0 1 114 (pc' := 187) (lv' := [(0, .int _), (1, .ref _), (2, .ref _), (3, .ref _), (4, .ref _), (5, .ref _), (6, .ref _), (7, .ref _), (8, .ref _), (9, .int _), (10, .int _), (11, .int _), (12, .int _), (13, .int _), (14, .int _)]) (st' := [.int _, .int _, .int _, .ref _]) rfl ?_
      refine ev_ifle DL_sign_0 115 rfl (tgt := 194) (by decide) (fun _ => ?_) (fun h => h.elim q2)
      refine ev_ss DL_sign_0 2 118 (pc' := 196) (lv' := [(0, .int _), (1, .ref _), (2, .ref _), (3, .ref _), (4, .ref _), (5, .ref _), (6, .ref _), (7, .ref _), (8, .ref _), (9, .int _), (10, .int _), (11, .int _), (12, .int _), (13, .int _), (14, .int _)]) (st' := [.int _, .int _, .ref _]) rfl ?_
      refine ev_iastv DL_sign_1 0 (k0 := ((4 * (8 * a + t)) + 3)) rfl (wset_get (wset_n (wset_n (wset_n hzn (by decide)) (by decide)) (by decide))) (nx_add (a := (4 * (8 * a + t))) (b := 3) rfl rfl) (by omega) (by decide) wset_set ?_
      refine ev_ss DL_sign_1 5 1 (pc' := 204) (lv' := [(0, .int _), (1, .ref _), (2, .ref _), (3, .ref _), (4, .ref _), (5, .ref _), (6, .ref _), (7, .ref _), (8, .ref _), (9, .int _), (10, .int _), (11, .int _), (12, .int _), (13, .int _), (14, .int _)]) (st' := [.int _, .ref _, .int _, .ref _]) rfl ?_
      refine ev_ialdv DL_sign_1 6 (k0 := (4 + a)) rfl (wset_n (wset_n (wset_n (wset_get hzc) (by decide)) (by decide)) (by decide)) (nx_add (a := 4) (b := a) rfl rfl) (by omega) (by decide) ((upd_ne (by omega)).trans (hcm)) ?_
      refine ev_ss DL_sign_1 2 7 (pc' := 208) (lv' := [(0, .int _), (1, .ref _), (2, .ref _), (3, .ref _), (4, .ref _), (5, .ref _), (6, .ref _), (7, .ref _), (8, .ref _), (9, .int _), (10, .int _), (11, .int _), (12, .int _), (13, .int _), (14, .int _)]) (st' := [.int _, .int _, .ref _]) rfl ?_
      refine ev_iastv DL_sign_1 9 (k0 := (4 + a)) rfl (wset_n (wset_n (wset_n (wset_get hzc) (by decide)) (by decide)) (by decide)) (nx_add (a := 4) (b := a) rfl rfl) (by omega) (by decide) rfl ?_
      refine ev_ss DL_sign_1 5 10 (pc' := 217) (lv' := [(0, .int _), (1, .ref _), (2, .ref _), (3, .ref _), (4, .ref _), (5, .ref _), (6, .ref _), (7, .ref _), (8, .ref _), (9, .int _), (10, .int _), (11, .int _), (12, .int _), (13, .int _), (14, .int _)]) (st' := [.int _, .ref _, .int _, .ref _]) rfl ?_
      refine ev_ialdv DL_sign_1 15 (k0 := (6 + a)) rfl (wset_get (wset_n (wset_n (wset_n (wset_get hzc) (by decide)) (by decide)) (by decide))) (nx_add (a := 6) (b := a) rfl rfl) (by omega) (by decide) ((upd_ne (by omega)).trans ((upd_ne (by omega)).trans (hwr))) ?_
      refine ev_ss DL_sign_1 2 16 (pc' := 221) (lv' := [(0, .int _), (1, .ref _), (2, .ref _), (3, .ref _), (4, .ref _), (5, .ref _), (6, .ref _), (7, .ref _), (8, .ref _), (9, .int _), (10, .int _), (11, .int _), (12, .int _), (13, .int _), (14, .int _)]) (st' := [.int _, .int _, .ref _]) rfl ?_
      refine ev_iastv DL_sign_1 18 (k0 := (6 + a)) rfl (wset_get (wset_n (wset_n (wset_n (wset_get hzc) (by decide)) (by decide)) (by decide))) (nx_add (a := 6) (b := a) rfl rfl) (by omega) (by decide) wset_set ?_
      refine ev_ss DL_sign_1 4 19 (pc' := 230) (lv' := [(0, .int _), (1, .ref _), (2, .ref _), (3, .ref _), (4, .ref _), (5, .ref _), (6, .ref _), (7, .ref _), (8, .ref _), (9, .int _), (10, .int _), (11, .int _), (12, .int _), (13, .int _), (14, .int _)]) (st' := [.int _, .ref _, .int _, .ref _]) rfl ?_
      refine ev_laldv DL_sign_1 23 (k0 := a) rfl (wset_n (wset_n (wset_n (wset_n (wset_n hzh (by decide)) (by decide)) (by decide)) (by decide)) (by decide)) rfl (by omega) (by decide) (hhl) ?_
      refine ev_ss DL_sign_1 5 24 (pc' := 238) (lv' := [(0, .int _), (1, .ref _), (2, .ref _), (3, .ref _), (4, .ref _), (5, .ref _), (6, .ref _), (7, .ref _), (8, .ref _), (9, .int _), (10, .int _), (11, .int _), (12, .int _), (13, .int _), (14, .int _)]) (st' := [.long _, .int _, .ref _]) rfl ?_
      refine ev_ldc2 DL_sign_1 29 rfl kL_49 ?_
      refine ev_ss DL_sign_1 1 30 (pc' := 242) (lv' := [(0, .int _), (1, .ref _), (2, .ref _), (3, .ref _), (4, .ref _), (5, .ref _), (6, .ref _), (7, .ref _), (8, .ref _), (9, .int _), (10, .int _), (11, .int _), (12, .int _), (13, .int _), (14, .int _)]) (st' := [.long _, .int _, .ref _]) rfl ?_
      refine ev_lastv DL_sign_1 31 (k0 := a) rfl (wset_n (wset_n (wset_n (wset_n (wset_n hzh (by decide)) (by decide)) (by decide)) (by decide)) (by decide)) rfl (by omega) (by decide) rfl ?_
      refine ev_ss DL_sign_1 1 32 (pc' := 245) (lv' := [(0, .int _), (1, .ref _), (2, .ref _), (3, .ref _), (4, .ref _), (5, .ref _), (6, .ref _), (7, .ref _), (8, .ref _), (9, .int _), (10, .int _), (11, .int _), (12, .int _), (13, .int _), (14, .int _)]) (st' := [.int _]) rfl ?_
      exact ev_iret DL_sign_1 33 rfl rfl (hP2 _ _ _ _ _ _ _ _ ((if_pos q2).symm) ((if_neg e10).symm) ⟨(wset_n (wset_n (wset_n (wset_n (wset_n (wset_n hzq (by decide)) (by decide)) (by decide)) (by decide)) (by decide)) (by decide)), (wset_n (wset_n (wset_n (wset_n (wset_get (wset_n hzu (by decide))) (by decide)) (by decide)) (by decide)) (by decide)), (wset_n (wset_n (wset_n (wset_n (wset_n (wset_n hza (by decide)) (by decide)) (by decide)) (by decide)) (by decide)) (by decide)), (wset_n (wset_n (wset_get (wset_n (wset_n (wset_n hzn (by decide)) (by decide)) (by decide))) (by decide)) (by decide)), (wset_n (wset_n (wset_n (wset_get (wset_n (wset_n hzd (by decide)) (by decide))) (by decide)) (by decide)) (by decide)), (wset_n (wset_n (wset_n (wset_n (wset_n (wset_n hzw (by decide)) (by decide)) (by decide)) (by decide)) (by decide)) (by decide)), (wset_n (wset_get (wset_n (wset_n (wset_n (wset_get hzc) (by decide)) (by decide)) (by decide))) (by decide)), (wset_n (wset_n (wset_n (wset_n (wset_n (wset_n hzt (by decide)) (by decide)) (by decide)) (by decide)) (by decide)) (by decide)), (wset_n (wset_n (wset_n (wset_n (wset_n (wset_n hze (by decide)) (by decide)) (by decide)) (by decide)) (by decide)) (by decide)), (wset_get (wset_n (wset_n (wset_n (wset_n (wset_n hzh (by decide)) (by decide)) (by decide)) (by decide)) (by decide)))⟩ (LT_sgn ha ht hT) (by rw [hb]; exact LW_sgn hW ha) ((((((MO.rf.st (by decide) (by decide)).st (by decide) (by decide)).st (by decide) (by decide)).st (by decide) (by decide)).st (by decide) (by decide)).st (by decide) (by decide)))
    · refine ev_ss DL_sign_0 10 64 (pc' := 124) (lv' := [(0, .int _), (1, .ref _), (2, .ref _), (3, .ref _), (4, .ref _), (5, .ref _), (6, .ref _), (7, .ref _), (8, .ref _), (9, .int _), (10, .int _), (11, .int _), (12, .int _), (13, .int _), (14, .int _)]) (st' := [.int _, .ref _, .int _, .ref _]) rfl ?_
      refine ev_ialdv DL_sign_0 74 (k0 := (2 * (8 * a + t))) rfl (wset_n (wset_n hzd (by decide)) (by decide)) (nx_mul (a := 2) (b := (8 * a + t)) rfl rfl) (by omega) (by decide) ((hDd 0 (by decide))) ?_
      refine ev_iastv DL_sign_0 75 (k0 := ((2 * (8 * a + t)) + 1)) rfl (wset_n (wset_n hzd (by decide)) (by decide)) (nx_add (a := (2 * (8 * a + t))) (b := 1) (nx_mul (a := 2) (b := (8 * a + t)) rfl rfl) rfl) (by omega) (by decide) rfl ?_
      refine ev_ss DL_sign_0 6 76 (pc' := 135) (lv' := [(0, .int _), (1, .ref _), (2, .ref _), (3, .ref _), (4, .ref _), (5, .ref _), (6, .ref _), (7, .ref _), (8, .ref _), (9, .int _), (10, .int _), (11, .int _), (12, .int _), (13, .int _), (14, .int _)]) (st' := [.int _, .int _, .int _, .ref _]) rfl ?_
      refine ev_cS DL_sign_0 82 m_L_amp vL_amp rfl qL_37 rfl (hd_of rfl rfl rfl rfl) ?_
      rw [a2]
      refine ev_iastv DL_sign_0 83 (k0 := (2 * (8 * a + t))) rfl (wset_get (wset_n (wset_n hzd (by decide)) (by decide))) (nx_mul (a := 2) (b := (8 * a + t)) rfl rfl) (by omega) (by decide) wset_set ?_
      refine ev_ss DL_sign_0 3 84 (pc' := 144) (lv' := [(0, .int _), (1, .ref _), (2, .ref _), (3, .ref _), (4, .ref _), (5, .ref _), (6, .ref _), (7, .ref _), (8, .ref _), (9, .int _), (10, .int _), (11, .int _), (12, .int _), (13, .int _), (14, .int _)]) (st' := [.int _, .ref _, .int _, .ref _]) rfl ?_
      refine ev_ialdv DL_sign_0 87 (k0 := (4 * (8 * a + t))) rfl (wset_n (wset_n (wset_n hzn (by decide)) (by decide)) (by decide)) rfl (by omega) (by decide) ((hN 0 (by decide))) ?_
      refine ev_ss DL_sign_0 1 88 (pc' := 147) (lv' := [(0, .int _), (1, .ref _), (2, .ref _), (3, .ref _), (4, .ref _), (5, .ref _), (6, .ref _), (7, .ref _), (8, .ref _), (9, .int _), (10, .int _), (11, .int _), (12, .int _), (13, .int _), (14, .int _)]) (st' := [.int _, .int _, .int _, .ref _]) rfl ?_
      refine ev_ifle DL_sign_0 89 rfl (tgt := 154) (by decide) (fun h => absurd h q2) (fun _ => ?_)
      refine ev_ss DL_sign_0 1 90 (pc' := 151) (lv' := [(0, .int _), (1, .ref _), (2, .ref _), (3, .ref _), (4, .ref _), (5, .ref _), (6, .ref _), (7, .ref _), (8, .ref _), (9, .int _), (10, .int _), (11, .int _), (12, .int _), (13, .int _), (14, .int _)]) (st' := [.int 1, .int _, .int _, .ref _]) rfl ?_
      refine ev_goto DL_sign_0 91 rfl (tgt := 155) (by decide) ?_
      refine ev_ss DL_sign_0 1 93 (pc' := 156) (lv' := [(0, .int _), (1, .ref _), (2, .ref _), (3, .ref _), (4, .ref _), (5, .ref _), (6, .ref _), (7, .ref _), (8, .ref _), (9, .int _), (10, .int _), (11, .int _), (12, .int _), (13, .int _), (14, .int _)]) (st' := [.int _, .int _, .ref _]) rfl ?_
      refine ev_iastv DL_sign_0 94 (k0 := (4 * (8 * a + t))) rfl (wset_n (wset_n (wset_n hzn (by decide)) (by decide)) (by decide)) rfl (by omega) (by decide) rfl ?_
      refine ev_ss DL_sign_0 5 95 (pc' := 164) (lv' := [(0, .int _), (1, .ref _), (2, .ref _), (3, .ref _), (4, .ref _), (5, .ref _), (6, .ref _), (7, .ref _), (8, .ref _), (9, .int _), (10, .int _), (11, .int _), (12, .int _), (13, .int _), (14, .int _)]) (st' := [.int _, .ref _, .int _, .ref _]) rfl ?_
      refine ev_ialdv DL_sign_0 100 (k0 := ((4 * (8 * a + t)) + 2)) rfl (wset_get (wset_n (wset_n (wset_n hzn (by decide)) (by decide)) (by decide))) (nx_add (a := (4 * (8 * a + t))) (b := 2) rfl rfl) (by omega) (by decide) ((upd_ne (by omega)).trans ((hN 2 (by decide)))) ?_
      refine ev_ss DL_sign_0 1 101 (pc' := 167) (lv' := [(0, .int _), (1, .ref _), (2, .ref _), (3, .ref _), (4, .ref _), (5, .ref _), (6, .ref _), (7, .ref _), (8, .ref _), (9, .int _), (10, .int _), (11, .int _), (12, .int _), (13, .int _), (14, .int _)]) (st' := [.int _, .int _, .int _, .ref _]) rfl ?_
      refine ev_ifle DL_sign_0 102 rfl (tgt := 174) (by decide) (fun h => absurd h q1) (fun _ => ?_)
      refine ev_ss DL_sign_0 1 103 (pc' := 171) (lv' := [(0, .int _), (1, .ref _), (2, .ref _), (3, .ref _), (4, .ref _), (5, .ref _), (6, .ref _), (7, .ref _), (8, .ref _), (9, .int _), (10, .int _), (11, .int _), (12, .int _), (13, .int _), (14, .int _)]) (st' := [.int 1, .int _, .int _, .ref _]) rfl ?_
      refine ev_goto DL_sign_0 104 rfl (tgt := 175) (by decide) ?_
      refine ev_ss DL_sign_0 1 106 (pc' := 176) (lv' := [(0, .int _), (1, .ref _), (2, .ref _), (3, .ref _), (4, .ref _), (5, .ref _), (6, .ref _), (7, .ref _), (8, .ref _), (9, .int _), (10, .int _), (11, .int _), (12, .int _), (13, .int _), (14, .int _)]) (st' := [.int _, .int _, .ref _]) rfl ?_
      refine ev_iastv DL_sign_0 107 (k0 := ((4 * (8 * a + t)) + 2)) rfl (wset_get (wset_n (wset_n (wset_n hzn (by decide)) (by decide)) (by decide))) (nx_add (a := (4 * (8 * a + t))) (b := 2) rfl rfl) (by omega) (by decide) wset_set ?_
      refine ev_ss DL_sign_0 5 108 (pc' := 184) (lv' := [(0, .int _), (1, .ref _), (2, .ref _), (3, .ref _), (4, .ref _), (5, .ref _), (6, .ref _), (7, .ref _), (8, .ref _), (9, .int _), (10, .int _), (11, .int _), (12, .int _), (13, .int _), (14, .int _)]) (st' := [.int _, .ref _, .int _, .ref _]) rfl ?_
      refine ev_ialdv DL_sign_0 113 (k0 := ((4 * (8 * a + t)) + 3)) rfl (wset_get (wset_n (wset_n (wset_n hzn (by decide)) (by decide)) (by decide))) (nx_add (a := (4 * (8 * a + t))) (b := 3) rfl rfl) (by omega) (by decide) ((upd_ne (by omega)).trans ((upd_ne (by omega)).trans ((hN 3 (by decide))))) ?_
      refine ev_ss DL_sign_0 1 114 (pc' := 187) (lv' := [(0, .int _), (1, .ref _), (2, .ref _), (3, .ref _), (4, .ref _), (5, .ref _), (6, .ref _), (7, .ref _), (8, .ref _), (9, .int _), (10, .int _), (11, .int _), (12, .int _), (13, .int _), (14, .int _)]) (st' := [.int _, .int _, .int _, .ref _]) rfl ?_
      refine ev_ifle DL_sign_0 115 rfl (tgt := 194) (by decide) (fun h => absurd h q2) (fun _ => ?_)
      refine ev_ss DL_sign_0 1 116 (pc' := 191) (lv' := [(0, .int _), (1, .ref _), (2, .ref _), (3, .ref _), (4, .ref _), (5, .ref _), (6, .ref _), (7, .ref _), (8, .ref _), (9, .int _), (10, .int _), (11, .int _), (12, .int _), (13, .int _), (14, .int _)]) (st' := [.int 1, .int _, .int _, .ref _]) rfl ?_
      refine ev_goto DL_sign_0 117 rfl (tgt := 195) (by decide) ?_
      refine ev_ss DL_sign_0 1 119 (pc' := 196) (lv' := [(0, .int _), (1, .ref _), (2, .ref _), (3, .ref _), (4, .ref _), (5, .ref _), (6, .ref _), (7, .ref _), (8, .ref _), (9, .int _), (10, .int _), (11, .int _), (12, .int _), (13, .int _), (14, .int _)]) (st' := [.int _, .int _, .ref _]) rfl ?_
      refine ev_iastv DL_sign_1 0 (k0 := ((4 * (8 * a + t)) + 3)) rfl (wset_get (wset_n (wset_n (wset_n hzn (by decide)) (by decide)) (by decide))) (nx_add (a := (4 * (8 * a + t))) (b := 3) rfl rfl) (by omega) (by decide) wset_set ?_
      refine ev_ss DL_sign_1 5 1 (pc' := 204) (lv' := [(0, .int _), (1, .ref _), (2, .ref _), (3, .ref _), (4, .ref _), (5, .ref _), (6, .ref _), (7, .ref _), (8, .ref _), (9, .int _), (10, .int _), (11, .int _), (12, .int _), (13, .int _), (14, .int _)]) (st' := [.int _, .ref _, .int _, .ref _]) rfl ?_
      refine ev_ialdv DL_sign_1 6 (k0 := (4 + a)) rfl (wset_n (wset_n (wset_n (wset_get hzc) (by decide)) (by decide)) (by decide)) (nx_add (a := 4) (b := a) rfl rfl) (by omega) (by decide) ((upd_ne (by omega)).trans (hcm)) ?_
      refine ev_ss DL_sign_1 2 7 (pc' := 208) (lv' := [(0, .int _), (1, .ref _), (2, .ref _), (3, .ref _), (4, .ref _), (5, .ref _), (6, .ref _), (7, .ref _), (8, .ref _), (9, .int _), (10, .int _), (11, .int _), (12, .int _), (13, .int _), (14, .int _)]) (st' := [.int _, .int _, .ref _]) rfl ?_
      refine ev_iastv DL_sign_1 9 (k0 := (4 + a)) rfl (wset_n (wset_n (wset_n (wset_get hzc) (by decide)) (by decide)) (by decide)) (nx_add (a := 4) (b := a) rfl rfl) (by omega) (by decide) rfl ?_
      refine ev_ss DL_sign_1 5 10 (pc' := 217) (lv' := [(0, .int _), (1, .ref _), (2, .ref _), (3, .ref _), (4, .ref _), (5, .ref _), (6, .ref _), (7, .ref _), (8, .ref _), (9, .int _), (10, .int _), (11, .int _), (12, .int _), (13, .int _), (14, .int _)]) (st' := [.int _, .ref _, .int _, .ref _]) rfl ?_
      refine ev_ialdv DL_sign_1 15 (k0 := (6 + a)) rfl (wset_get (wset_n (wset_n (wset_n (wset_get hzc) (by decide)) (by decide)) (by decide))) (nx_add (a := 6) (b := a) rfl rfl) (by omega) (by decide) ((upd_ne (by omega)).trans ((upd_ne (by omega)).trans (hwr))) ?_
      refine ev_ss DL_sign_1 2 16 (pc' := 221) (lv' := [(0, .int _), (1, .ref _), (2, .ref _), (3, .ref _), (4, .ref _), (5, .ref _), (6, .ref _), (7, .ref _), (8, .ref _), (9, .int _), (10, .int _), (11, .int _), (12, .int _), (13, .int _), (14, .int _)]) (st' := [.int _, .int _, .ref _]) rfl ?_
      refine ev_iastv DL_sign_1 18 (k0 := (6 + a)) rfl (wset_get (wset_n (wset_n (wset_n (wset_get hzc) (by decide)) (by decide)) (by decide))) (nx_add (a := 6) (b := a) rfl rfl) (by omega) (by decide) wset_set ?_
      refine ev_ss DL_sign_1 4 19 (pc' := 230) (lv' := [(0, .int _), (1, .ref _), (2, .ref _), (3, .ref _), (4, .ref _), (5, .ref _), (6, .ref _), (7, .ref _), (8, .ref _), (9, .int _), (10, .int _), (11, .int _), (12, .int _), (13, .int _), (14, .int _)]) (st' := [.int _, .ref _, .int _, .ref _]) rfl ?_
      refine ev_laldv DL_sign_1 23 (k0 := a) rfl (wset_n (wset_n (wset_n (wset_n (wset_n hzh (by decide)) (by decide)) (by decide)) (by decide)) (by decide)) rfl (by omega) (by decide) (hhl) ?_
      refine ev_ss DL_sign_1 5 24 (pc' := 238) (lv' := [(0, .int _), (1, .ref _), (2, .ref _), (3, .ref _), (4, .ref _), (5, .ref _), (6, .ref _), (7, .ref _), (8, .ref _), (9, .int _), (10, .int _), (11, .int _), (12, .int _), (13, .int _), (14, .int _)]) (st' := [.long _, .int _, .ref _]) rfl ?_
      refine ev_ldc2 DL_sign_1 29 rfl kL_49 ?_
      refine ev_ss DL_sign_1 1 30 (pc' := 242) (lv' := [(0, .int _), (1, .ref _), (2, .ref _), (3, .ref _), (4, .ref _), (5, .ref _), (6, .ref _), (7, .ref _), (8, .ref _), (9, .int _), (10, .int _), (11, .int _), (12, .int _), (13, .int _), (14, .int _)]) (st' := [.long _, .int _, .ref _]) rfl ?_
      refine ev_lastv DL_sign_1 31 (k0 := a) rfl (wset_n (wset_n (wset_n (wset_n (wset_n hzh (by decide)) (by decide)) (by decide)) (by decide)) (by decide)) rfl (by omega) (by decide) rfl ?_
      refine ev_ss DL_sign_1 1 32 (pc' := 245) (lv' := [(0, .int _), (1, .ref _), (2, .ref _), (3, .ref _), (4, .ref _), (5, .ref _), (6, .ref _), (7, .ref _), (8, .ref _), (9, .int _), (10, .int _), (11, .int _), (12, .int _), (13, .int _), (14, .int _)]) (st' := [.int _]) rfl ?_
      exact ev_iret DL_sign_1 33 rfl rfl (hP2 _ _ _ _ _ _ _ _ ((if_neg q2).symm) ((if_neg e10).symm) ⟨(wset_n (wset_n (wset_n (wset_n (wset_n (wset_n hzq (by decide)) (by decide)) (by decide)) (by decide)) (by decide)) (by decide)), (wset_n (wset_n (wset_n (wset_n (wset_get (wset_n hzu (by decide))) (by decide)) (by decide)) (by decide)) (by decide)), (wset_n (wset_n (wset_n (wset_n (wset_n (wset_n hza (by decide)) (by decide)) (by decide)) (by decide)) (by decide)) (by decide)), (wset_n (wset_n (wset_get (wset_n (wset_n (wset_n hzn (by decide)) (by decide)) (by decide))) (by decide)) (by decide)), (wset_n (wset_n (wset_n (wset_get (wset_n (wset_n hzd (by decide)) (by decide))) (by decide)) (by decide)) (by decide)), (wset_n (wset_n (wset_n (wset_n (wset_n (wset_n hzw (by decide)) (by decide)) (by decide)) (by decide)) (by decide)) (by decide)), (wset_n (wset_get (wset_n (wset_n (wset_n (wset_get hzc) (by decide)) (by decide)) (by decide))) (by decide)), (wset_n (wset_n (wset_n (wset_n (wset_n (wset_n hzt (by decide)) (by decide)) (by decide)) (by decide)) (by decide)) (by decide)), (wset_n (wset_n (wset_n (wset_n (wset_n (wset_n hze (by decide)) (by decide)) (by decide)) (by decide)) (by decide)) (by decide)), (wset_get (wset_n (wset_n (wset_n (wset_n (wset_n hzh (by decide)) (by decide)) (by decide)) (by decide)) (by decide)))⟩ (LT_sgn ha ht hT) (by rw [hb]; exact LW_sgn hW ha) ((((((MO.rf.st (by decide) (by decide)).st (by decide) (by decide)).st (by decide) (by decide)).st (by decide) (by decide)).st (by decide) (by decide)).st (by decide) (by decide)))
