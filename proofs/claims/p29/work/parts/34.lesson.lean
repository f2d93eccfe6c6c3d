section EVT
variable {E : gE} {Y : MI} {Pr : Option Value → va_W → Prop} {Px : String → va_W → Prop} {k n : Nat} {ws : va_W} {pc : Nat} {lv : List (Nat × Value)} {st : List Value}
/-- the number on top has another name -/
theorem ev_topv {x y : Int32} (h : x = y) (kt : Ev E Y Pr Px k n pc lv (.int y :: st) ws) : Ev E Y Pr Px k n pc lv (.int x :: st) ws := h ▸ kt
end EVT
theorem LT.seed {zq zu za zn zd : Nat → Int32} {p : PS} {a t : Nat} {f : TF} {v : Int32} (h : LT zq zu za zn zd (pTone p a t f)) : LT zq zu za zn zd (pTone (v, p.2) a t f) := by
  rw [← pT_seed]
  exact h
theorem pT_rest3 {q : PS} {v : Int32} {a t y : Nat} {f : TF} (ha : a < 2) (hy : y < 2) : (pW (pTone (v, q.2) a t f) y).2 = (pW q y).2 := pT_rest (p := (v, q.2)) ha hy
theorem LW.sdT {zw zc zc2 : Nat → Int32} {zh : Nat → Int64} {p : PS} {a t : Nat} {F : TF} {v : Int32} (h : LW zw zc zh p) (ha : a < 2) (ec : ∀ j, j ≠ 1 → zc2 j = zc j) (hs : zc2 1 = v) : LW zw zc2 zh (pTone (v, p.2) a t F) :=
  h.to (fun y hy => pT_rest3 ha hy) ec rfl hs
theorem LT_les {zq zu za zn zd : Nat → Int32} {p : PS} {a t : Nat} {f : TF} {er am p0 : Int32} (ha : a < 2) (ht : t < 8) (hT : LT zq zu za zn zd (pTone p a t f)) : LT zq (upd (upd (upd zu (4 * (8 * a + t)) 0) (4 * (8 * a + t) + 2) (f 5)) (4 * (8 * a + t) + 1) am) (upd (upd (upd za (4 * (8 * a + t)) (heldP (f 7 + stepP (er * am) p0) 8 128)) (4 * (8 * a + t) + 1) (heldP (f 8 + stepP (er * f 5) p0) (-48) 48)) (4 * (8 * a + t) + 2) (heldP (f 9 + stepP (er * f 6) p0) (-48) 48)) zn (upd (upd zd (2 * (8 * a + t)) am) (2 * (8 * a + t) + 1) (f 5)) (pTone p a t (knowP (passP (impP f er am p0) am am))) := by
  obtain ⟨h1, h2, h3, h4, h5⟩ := hT
  have b2 : zu (4 * (8 * a + t) + 3) = f 11 := by rw [h2.at ha ht 3 (by decide), pT_same]; rfl
  have b3 : za (4 * (8 * a + t) + 3) = f 10 := by rw [h3.at ha ht 3 (by decide), pT_same]; rfl
  exact ⟨h1.keep ha ht (j4 rfl rfl rfl rfl), (h2.set ha ht (j4 ((upd_ne (by omega)).trans ((upd_ne (by omega)).trans (upd_eq))) (upd_eq) ((upd_ne (by omega)).trans (upd_eq)) ((upd_ne (by omega)).trans ((upd_ne (by omega)).trans ((upd_ne (by omega)).trans (b2))))) (fun i hi => ((upd_ne (by omega)).trans ((upd_ne (by omega)).trans ((upd_ne (by omega)).trans (rfl)))))), (h3.set ha ht (j4 ((upd_ne (by omega)).trans ((upd_ne (by omega)).trans (upd_eq))) ((upd_ne (by omega)).trans (upd_eq)) (upd_eq) ((upd_ne (by omega)).trans ((upd_ne (by omega)).trans ((upd_ne (by omega)).trans (b3))))) (fun i hi => ((upd_ne (by omega)).trans ((upd_ne (by omega)).trans ((upd_ne (by omega)).trans (rfl)))))), h4.keep ha ht (j4 rfl rfl rfl rfl), (h5.set ha ht (j2 ((upd_ne (by omega)).trans (upd_eq)) (upd_eq)) (fun i hi => ((upd_ne (by omega)).trans ((upd_ne (by omega)).trans (rfl)))))⟩
set_option maxRecDepth 100000 in
set_option maxHeartbeats 4000000 in
theorem m_L_lesson {E : gE} {ad : Nat → Nat} {ws : va_W} {zq zu za zn zd zw zc zt ze : Nat → Int32} {zh : Nat → Int64} (hC : LC E ad ws zq zu za zn zd zw zc zt ze zh) {p : PS} {a t nb : Nat} (ha : a < 2) (ht : t < 8) (hnb : nb < 128) (hT : LT zq zu za zn zd p) (hW : LW zw zc zh p) (hS : LSe zt p) (hsn : SN p.1) (hm : TN ((pW p a).1 t)) (hp2 : ¬ (128 : Int32) * p.2.2.1 0 = 0) : C0 E YL_lesson 0 0 [.int (nI (8 * a + t)), .int (nI nb), .ref (ad 214), .ref (ad 215), .ref (ad 216), .ref (ad 218), .ref (ad 222), .ref (ad 220), .ref (ad 221)] ws (fun v w => v = none ∧ ∃ zu2 za2 zd2 zc2, LC E ad w zq zu2 za2 zn zd2 zw zc2 zt (upd ze (8 * t + nb % 8) (absP (lrE p.1 ((pW p a).1 t)))) zh ∧ LT zq zu2 za2 zn zd2 (pTone (drwS (drwS p.1), p.2) a t (lrF (p.2.2.1 0) p.1 ((pW p a).1 t))) ∧ LW zw zc2 zh (pTone (drwS (drwS p.1), p.2) a t (lrF (p.2.2.1 0) p.1 ((pW p a).1 t))) ∧ MO ws w) := by
  obtain ⟨hzq, hzu, hza, hzn, hzd, hzw, hzc, hzt, hze, hzh⟩ := id hC
  have hi : 8 * a + t < 16 := by omega
  have e8 : (8 * a + t) % 8 * 8 + nb % 8 = 8 * t + nb % 8 := by omega
  have hsd : zc 1 = p.1 := hW.2.2.2
  have hse : zt 0 = p.2.2.1 0 := hS 0 (by decide)
  obtain ⟨f, ef⟩ : ∃ f, f = (pW p a).1 t := ⟨_, rfl⟩
  have hT2 : LT zq zu za zn zd (pTone p a t f) := by rw [ef]; exact hT.id
  rw [← ef] at hm ⊢
  have hQ : ∀ j, j < 4 → zq (4 * (8 * a + t) + j) = f j := fun j hj => by rw [ef]; exact hT.1.at ha ht j hj
  have hU : ∀ j, j < 4 → zu (4 * (8 * a + t) + j) = f (mU j) := fun j hj => by rw [ef]; exact hT.2.1.at ha ht j hj
  have hU3 : ∀ j, j < 3 → zu (4 * (8 * a + t) + j) = f (4 + j) := fun j hj => by
    rw [hU j (by omega)]
    unfold mU
    rw [if_neg (by omega)]
  have hA : ∀ j, j < 4 → za (4 * (8 * a + t) + j) = f (7 + j) := fun j hj => by rw [ef]; exact hT.2.2.1.at ha ht j hj
  have eE : lrE p.1 f = arrP f (lrA p.1) (drwN (drwS p.1) f) - expP f (lrA p.1) := rfl
  have eF : lrF (p.2.2.1 0) p.1 f = knowP (passP (impP f (lrE p.1 f) (lrA p.1) (p.2.2.1 0)) (lrA p.1) (lrA p.1)) := rfl
  rw [eF, eE]
  refine c0S vL_lesson (Nat.le_of_ble_eq_true rfl) (lv0 := [(0, .int (nI (8 * a + t))), (1, .int (nI nb)), (2, .ref (ad 214)), (3, .ref (ad 215)), (4, .ref (ad 216)), (5, .ref (ad 218)), (6, .ref (ad 222)), (7, .ref (ad 220)), (8, .ref (ad 221))]) rfl ?_
  refine ev_ss DL_lesson_0 6 0 (pc' := 8) (lv' := [(9, .int _), (0, .int _), (1, .int _), (2, .ref _), (3, .ref _), (4, .ref _), (5, .ref _), (6, .ref _), (7, .ref _), (8, .ref _)]) (st' := [.ref _, .int 2]) rfl ?_
  refine ev_cS DL_lesson_0 6 (m_L_draw hzc hsd (by decide)) vL_draw rfl qL_15 rfl (hd_of rfl rfl rfl rfl) ?_
  refine ev_ss DL_lesson_0 4 7 (pc' := 19) (lv' := [(9, .int _), (0, .int _), (1, .int _), (2, .ref _), (3, .ref _), (4, .ref _), (5, .ref _), (6, .ref _), (7, .ref _), (8, .ref _)]) (st' := [.int _]) rfl ?_
  refine ev_topv (drw_2 hsn) ?_
  refine ev_ss DL_lesson_0 5 11 (pc' := 26) (lv' := [(10, .int _), (9, .int _), (0, .int _), (1, .int _), (2, .ref _), (3, .ref _), (4, .ref _), (5, .ref _), (6, .ref _), (7, .ref _), (8, .ref _)]) (st' := [.int _, .ref _]) rfl ?_
  refine ev_ialdv DL_lesson_0 16 (k0 := ((4 * (8 * a + t)) + 1)) rfl (wset_n hzu (by decide)) (nx_add (a := (4 * (8 * a + t))) (b := 1) (nx_mul (a := 4) (b := (8 * a + t)) rfl rfl) rfl) (by omega) (by decide) ((hU3 1 (by decide))) ?_
  refine ev_ss DL_lesson_0 5 17 (pc' := 34) (lv' := [(11, .int _), (10, .int _), (9, .int _), (0, .int _), (1, .int _), (2, .ref _), (3, .ref _), (4, .ref _), (5, .ref _), (6, .ref _), (7, .ref _), (8, .ref _)]) (st' := [.int _, .ref _]) rfl ?_
  refine ev_ialdv DL_lesson_0 22 (k0 := ((4 * (8 * a + t)) + 2)) rfl (wset_n hzu (by decide)) (nx_add (a := (4 * (8 * a + t))) (b := 2) (nx_mul (a := 4) (b := (8 * a + t)) rfl rfl) rfl) (by omega) (by decide) ((hU3 2 (by decide))) ?_
  refine ev_ss DL_lesson_0 6 23 (pc' := 44) (lv' := [(12, .int _), (11, .int _), (10, .int _), (9, .int _), (0, .int _), (1, .int _), (2, .ref _), (3, .ref _), (4, .ref _), (5, .ref _), (6, .ref _), (7, .ref _), (8, .ref _)]) (st' := [.ref _, .ref _, .ref _, .int _, .int _]) rfl ?_
  refine ev_cS DL_lesson_0 29 (m_L_come (wset_n hzq (by decide)) (wset_n hzu (by decide)) (wset_get hzc) hi (f := f) hQ hU3 (sd := drwS p.1) upd_eq hm) vL_come rfl qL_21 rfl (hd_of rfl rfl rfl rfl) ?_
  rw [wset_set]
  generalize drwS (drwS p.1) = sd2
  generalize arrP f (lrA p.1) (drwN (drwS p.1) f) = R
  generalize lrA p.1 = am
  refine ev_ss DL_lesson_0 4 30 (pc' := 55) (lv' := [(13, .int _), (12, .int _), (11, .int _), (10, .int _), (9, .int _), (0, .int _), (1, .int _), (2, .ref _), (3, .ref _), (4, .ref _), (5, .ref _), (6, .ref _), (7, .ref _), (8, .ref _)]) (st' := [.int _, .ref _, .int _]) rfl ?_
  refine ev_ialdv DL_lesson_0 34 (k0 := (4 * (8 * a + t))) rfl (wset_n (wset_n hza (by decide)) (by decide)) (nx_mul (a := 4) (b := (8 * a + t)) rfl rfl) (by omega) (by decide) ((hA 0 (by decide))) ?_
  refine ev_ss DL_lesson_0 6 35 (pc' := 65) (lv' := [(13, .int _), (12, .int _), (11, .int _), (10, .int _), (9, .int _), (0, .int _), (1, .int _), (2, .ref _), (3, .ref _), (4, .ref _), (5, .ref _), (6, .ref _), (7, .ref _), (8, .ref _)]) (st' := [.int _, .ref _, .int _, .int _]) rfl ?_
  refine ev_ialdv DL_lesson_0 41 (k0 := ((4 * (8 * a + t)) + 1)) rfl (wset_n (wset_n hza (by decide)) (by decide)) (nx_add (a := (4 * (8 * a + t))) (b := 1) (nx_mul (a := 4) (b := (8 * a + t)) rfl rfl) rfl) (by omega) (by decide) ((hA 1 (by decide))) ?_
  refine ev_ss DL_lesson_0 7 42 (pc' := 76) (lv' := [(13, .int _), (12, .int _), (11, .int _), (10, .int _), (9, .int _), (0, .int _), (1, .int _), (2, .ref _), (3, .ref _), (4, .ref _), (5, .ref _), (6, .ref _), (7, .ref _), (8, .ref _)]) (st' := [.int _, .ref _, .int _, .int _]) rfl ?_
  refine ev_ialdv DL_lesson_0 49 (k0 := ((4 * (8 * a + t)) + 2)) rfl (wset_n (wset_n hza (by decide)) (by decide)) (nx_add (a := (4 * (8 * a + t))) (b := 2) (nx_mul (a := 4) (b := (8 * a + t)) rfl rfl) rfl) (by omega) (by decide) ((hA 2 (by decide))) ?_
  refine ev_ss DL_lesson_0 4 50 (pc' := 83) (lv' := [(13, .int _), (12, .int _), (11, .int _), (10, .int _), (9, .int _), (0, .int _), (1, .int _), (2, .ref _), (3, .ref _), (4, .ref _), (5, .ref _), (6, .ref _), (7, .ref _), (8, .ref _)]) (st' := [.int 64, .int _, .int _]) rfl ?_
  refine ev_idiv DL_lesson_0 54 rfl (by decide) ?_
  refine ev_ss DL_lesson_0 5 55 (pc' := 93) (lv' := [(14, .int _), (13, .int _), (12, .int _), (11, .int _), (10, .int _), (9, .int _), (0, .int _), (1, .int _), (2, .ref _), (3, .ref _), (4, .ref _), (5, .ref _), (6, .ref _), (7, .ref _), (8, .ref _)]) (st' := [.int 0, .ref _, .int 128]) rfl ?_
  refine ev_ialdv DL_lesson_0 60 (k0 := 0) rfl (wset_n (wset_n hzt (by decide)) (by decide)) rfl (by omega) (by decide) (hse) ?_
  refine ev_ss DL_lesson_0 6 61 (pc' := 105) (lv' := [(15, .int _), (14, .int _), (13, .int _), (12, .int _), (11, .int _), (10, .int _), (9, .int _), (0, .int _), (1, .int _), (2, .ref _), (3, .ref _), (4, .ref _), (5, .ref _), (6, .ref _), (7, .ref _), (8, .ref _)]) (st' := [.int _, .ref _, .int _, .ref _]) rfl ?_
  refine ev_ialdv DL_lesson_0 67 (k0 := (4 * (8 * a + t))) rfl (wset_n (wset_n hza (by decide)) (by decide)) (nx_mul (a := 4) (b := (8 * a + t)) rfl rfl) (by omega) (by decide) ((hA 0 (by decide))) ?_
  refine ev_ss DL_lesson_0 4 68 (pc' := 113) (lv' := [(15, .int _), (14, .int _), (13, .int _), (12, .int _), (11, .int _), (10, .int _), (9, .int _), (0, .int _), (1, .int _), (2, .ref _), (3, .ref _), (4, .ref _), (5, .ref _), (6, .ref _), (7, .ref _), (8, .ref _)]) (st' := [.int _, .int _, .int _, .int _, .ref _]) rfl ?_
  refine ev_idiv DL_lesson_0 72 rfl hp2 ?_
  refine ev_ss DL_lesson_0 3 73 (pc' := 120) (lv' := [(15, .int _), (14, .int _), (13, .int _), (12, .int _), (11, .int _), (10, .int _), (9, .int _), (0, .int _), (1, .int _), (2, .ref _), (3, .ref _), (4, .ref _), (5, .ref _), (6, .ref _), (7, .ref _), (8, .ref _)]) (st' := [.int 128, .int 8, .int _, .int _, .ref _]) rfl ?_
  refine ev_cS DL_lesson_0 76 m_L_held vL_held rfl qL_25 rfl (hd_of rfl rfl rfl rfl) ?_
  refine ev_iastv DL_lesson_0 77 (k0 := (4 * (8 * a + t))) rfl (wset_n (wset_n hza (by decide)) (by decide)) (nx_mul (a := 4) (b := (8 * a + t)) rfl rfl) (by omega) (by decide) rfl ?_
  refine ev_ss DL_lesson_0 8 78 (pc' := 136) (lv' := [(15, .int _), (14, .int _), (13, .int _), (12, .int _), (11, .int _), (10, .int _), (9, .int _), (0, .int _), (1, .int _), (2, .ref _), (3, .ref _), (4, .ref _), (5, .ref _), (6, .ref _), (7, .ref _), (8, .ref _)]) (st' := [.int _, .ref _, .int _, .ref _]) rfl ?_
  refine ev_ialdv DL_lesson_0 86 (k0 := ((4 * (8 * a + t)) + 1)) rfl (wset_get (wset_n (wset_n hza (by decide)) (by decide))) (nx_add (a := (4 * (8 * a + t))) (b := 1) (nx_mul (a := 4) (b := (8 * a + t)) rfl rfl) rfl) (by omega) (by decide) ((upd_ne (by omega)).trans ((hA 1 (by decide)))) ?_
  refine ev_ss DL_lesson_0 4 87 (pc' := 144) (lv' := [(15, .int _), (14, .int _), (13, .int _), (12, .int _), (11, .int _), (10, .int _), (9, .int _), (0, .int _), (1, .int _), (2, .ref _), (3, .ref _), (4, .ref _), (5, .ref _), (6, .ref _), (7, .ref _), (8, .ref _)]) (st' := [.int _, .int _, .int _, .int _, .ref _]) rfl ?_
  refine ev_idiv DL_lesson_0 91 rfl hp2 ?_
  refine ev_ss DL_lesson_0 3 92 (pc' := 150) (lv' := [(15, .int _), (14, .int _), (13, .int _), (12, .int _), (11, .int _), (10, .int _), (9, .int _), (0, .int _), (1, .int _), (2, .ref _), (3, .ref _), (4, .ref _), (5, .ref _), (6, .ref _), (7, .ref _), (8, .ref _)]) (st' := [.int 48, .int (-48), .int _, .int _, .ref _]) rfl ?_
  refine ev_cS DL_lesson_0 95 m_L_held vL_held rfl qL_25 rfl (hd_of rfl rfl rfl rfl) ?_
  refine ev_iastv DL_lesson_0 96 (k0 := ((4 * (8 * a + t)) + 1)) rfl (wset_get (wset_n (wset_n hza (by decide)) (by decide))) (nx_add (a := (4 * (8 * a + t))) (b := 1) (nx_mul (a := 4) (b := (8 * a + t)) rfl rfl) rfl) (by omega) (by decide) wset_set ?_
  refine ev_ss DL_lesson_0 8 97 (pc' := 166) (lv' := [(15, .int _), (14, .int _), (13, .int _), (12, .int _), (11, .int _), (10, .int _), (9, .int _), (0, .int _), (1, .int _), (2, .ref _), (3, .ref _), (4, .ref _), (5, .ref _), (6, .ref _), (7, .ref _), (8, .ref _)]) (st' := [.int _, .ref _, .int _, .ref _]) rfl ?_
  refine ev_ialdv DL_lesson_0 105 (k0 := ((4 * (8 * a + t)) + 2)) rfl (wset_get (wset_n (wset_n hza (by decide)) (by decide))) (nx_add (a := (4 * (8 * a + t))) (b := 2) (nx_mul (a := 4) (b := (8 * a + t)) rfl rfl) rfl) (by omega) (by decide) ((upd_ne (by omega)).trans ((upd_ne (by omega)).trans ((hA 2 (by decide))))) ?_
  refine ev_ss DL_lesson_0 4 106 (pc' := 174) (lv' := [(15, .int _), (14, .int _), (13, .int _), (12, .int _), (11, .int _), (10, .int _), (9, .int _), (0, .int _), (1, .int _), (2, .ref _), (3, .ref _), (4, .ref _), (5, .ref _), (6, .ref _), (7, .ref _), (8, .ref _)]) (st' := [.int _, .int _, .int _, .int _, .ref _]) rfl ?_
  refine ev_idiv DL_lesson_0 110 rfl hp2 ?_
  refine ev_ss DL_lesson_0 3 111 (pc' := 180) (lv' := [(15, .int _), (14, .int _), (13, .int _), (12, .int _), (11, .int _), (10, .int _), (9, .int _), (0, .int _), (1, .int _), (2, .ref _), (3, .ref _), (4, .ref _), (5, .ref _), (6, .ref _), (7, .ref _), (8, .ref _)]) (st' := [.int 48, .int (-48), .int _, .int _, .ref _]) rfl ?_
  refine ev_cS DL_lesson_0 114 m_L_held vL_held rfl qL_25 rfl (hd_of rfl rfl rfl rfl) ?_
  refine ev_iastv DL_lesson_0 115 (k0 := ((4 * (8 * a + t)) + 2)) rfl (wset_get (wset_n (wset_n hza (by decide)) (by decide))) (nx_add (a := (4 * (8 * a + t))) (b := 2) (nx_mul (a := 4) (b := (8 * a + t)) rfl rfl) rfl) (by omega) (by decide) wset_set ?_
  refine ev_ss DL_lesson_0 4 116 (pc' := 189) (lv' := [(15, .int _), (14, .int _), (13, .int _), (12, .int _), (11, .int _), (10, .int _), (9, .int _), (0, .int _), (1, .int _), (2, .ref _), (3, .ref _), (4, .ref _), (5, .ref _), (6, .ref _), (7, .ref _), (8, .ref _)]) (st' := [.int _, .ref _]) rfl ?_
  refine ev_ss DL_lesson_1 1 0 (pc' := 191) (lv' := [(15, .int _), (14, .int _), (13, .int _), (12, .int _), (11, .int _), (10, .int _), (9, .int _), (0, .int _), (1, .int _), (2, .ref _), (3, .ref _), (4, .ref _), (5, .ref _), (6, .ref _), (7, .ref _), (8, .ref _)]) (st' := [.int _, .int _, .ref _]) rfl ?_
  refine ev_iastv DL_lesson_1 1 (k0 := (2 * (8 * a + t))) rfl (wset_n (wset_n (wset_n hzd (by decide)) (by decide)) (by decide)) (nx_mul (a := 2) (b := (8 * a + t)) rfl rfl) (by omega) (by decide) rfl ?_
  refine ev_ss DL_lesson_1 7 2 (pc' := 201) (lv' := [(15, .int _), (14, .int _), (13, .int _), (12, .int _), (11, .int _), (10, .int _), (9, .int _), (0, .int _), (1, .int _), (2, .ref _), (3, .ref _), (4, .ref _), (5, .ref _), (6, .ref _), (7, .ref _), (8, .ref _)]) (st' := [.int _, .int _, .ref _]) rfl ?_
  refine ev_iastv DL_lesson_1 9 (k0 := ((2 * (8 * a + t)) + 1)) rfl (wset_get (wset_n (wset_n (wset_n hzd (by decide)) (by decide)) (by decide))) (nx_add (a := (2 * (8 * a + t))) (b := 1) (nx_mul (a := 2) (b := (8 * a + t)) rfl rfl) rfl) (by omega) (by decide) wset_set ?_
  refine ev_ss DL_lesson_1 3 10 (pc' := 207) (lv' := [(15, .int _), (14, .int _), (13, .int _), (12, .int _), (11, .int _), (10, .int _), (9, .int _), (0, .int _), (1, .int _), (2, .ref _), (3, .ref _), (4, .ref _), (5, .ref _), (6, .ref _), (7, .ref _), (8, .ref _)]) (st' := [.int 8, .int _, .ref _]) rfl ?_
  refine ev_irem DL_lesson_1 13 rfl (by decide) ?_
  refine ev_ss DL_lesson_1 4 14 (pc' := 214) (lv' := [(15, .int _), (14, .int _), (13, .int _), (12, .int _), (11, .int _), (10, .int _), (9, .int _), (0, .int _), (1, .int _), (2, .ref _), (3, .ref _), (4, .ref _), (5, .ref _), (6, .ref _), (7, .ref _), (8, .ref _)]) (st' := [.int 8, .int _, .int _, .ref _]) rfl ?_
  refine ev_irem DL_lesson_1 18 rfl (by decide) ?_
  refine ev_ss DL_lesson_1 2 19 (pc' := 218) (lv' := [(15, .int _), (14, .int _), (13, .int _), (12, .int _), (11, .int _), (10, .int _), (9, .int _), (0, .int _), (1, .int _), (2, .ref _), (3, .ref _), (4, .ref _), (5, .ref _), (6, .ref _), (7, .ref _), (8, .ref _)]) (st' := [.int _, .int _, .ref _]) rfl ?_
  refine ev_cS DL_lesson_1 21 m_L_size vL_size rfl qL_29 rfl (hd_of rfl rfl rfl rfl) ?_
  refine ev_iastv DL_lesson_1 22 (k0 := ((((8 * a + t) % 8) * 8) + (nb % 8))) rfl (wset_n (wset_n (wset_n (wset_n hze (by decide)) (by decide)) (by decide)) (by decide)) (nx_add (a := (((8 * a + t) % 8) * 8)) (b := (nb % 8)) (nx_mul (a := ((8 * a + t) % 8)) (b := 8) (nx_rem (a := (8 * a + t)) (d := 8) rfl rfl (by omega) (by decide) (by decide)) rfl) (nx_rem (a := nb) (d := 8) rfl rfl (by omega) (by decide) (by decide))) (by omega) (by decide) rfl ?_
  exact ev_vret DL_lesson_1 23 rfl rfl ⟨rfl, _, _, _, _, ⟨(wset_n (wset_n (wset_n (wset_n (wset_n hzq (by decide)) (by decide)) (by decide)) (by decide)) (by decide)), (wset_n (wset_n (wset_n (wset_get (wset_n hzu (by decide))) (by decide)) (by decide)) (by decide)), (wset_n (wset_n (wset_get (wset_n (wset_n hza (by decide)) (by decide))) (by decide)) (by decide)), (wset_n (wset_n (wset_n (wset_n (wset_n hzn (by decide)) (by decide)) (by decide)) (by decide)) (by decide)), (wset_n (wset_get (wset_n (wset_n (wset_n hzd (by decide)) (by decide)) (by decide))) (by decide)), (wset_n (wset_n (wset_n (wset_n (wset_n hzw (by decide)) (by decide)) (by decide)) (by decide)) (by decide)), (wset_n (wset_n (wset_n (wset_n (wset_get hzc) (by decide)) (by decide)) (by decide)) (by decide)), (wset_n (wset_n (wset_n (wset_n (wset_n hzt (by decide)) (by decide)) (by decide)) (by decide)) (by decide)), (by rw [← e8]; exact (wset_get (wset_n (wset_n (wset_n (wset_n hze (by decide)) (by decide)) (by decide)) (by decide)))), (wset_n (wset_n (wset_n (wset_n (wset_n hzh (by decide)) (by decide)) (by decide)) (by decide)) (by decide))⟩, LT_les (er := R - expP f am) ha ht hT2.seed, hW.sdT ha (fun j hj => (upd_ne hj).trans (upd_ne hj)) upd_eq, (((((MO.rf.st (by decide) (by decide)).st (by decide) (by decide)).st (by decide) (by decide)).st (by decide) (by decide)).st (by decide) (by decide))⟩
