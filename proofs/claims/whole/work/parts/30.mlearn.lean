theorem nx_rem {x y : Int32} {a d : Nat} (hx : x = nI a) (hy : y = nI d) (ha : a < 2 ^ 31) (h0 : 0 < d) (hd : d < 2 ^ 31) : x - x / y * y = nI (a % d) := by
  rw [hx, hy]
  exact pk_rem ha h0 hd
theorem lr_chain {f : TF} {err amp p0 : Int32} : upd (upd (upd (upd (upd (upd (upd (upd f 4 0) 6 (f 5)) 5 amp) (7 + 0) (heldP (f 7 + stepP (err * amp) p0) 8 128)) (7 + 1) (heldP (f 8 + stepP (err * f 5) p0) (-48) 48)) (7 + 2) (heldP (f 9 + stepP (err * f 6) p0) (-48) 48)) (7 + 9) amp) (7 + 10) (f 5) = knowP (passP (impP f err amp p0) amp amp) := by
  funext j
  by_cases h4 : j = 4
  · subst h4; rfl
  by_cases h5 : j = 5
  · subst h5; rfl
  by_cases h6 : j = 6
  · subst h6; rfl
  by_cases h7 : j = 7
  · subst h7; rfl
  by_cases h8 : j = 8
  · subst h8; rfl
  by_cases h9 : j = 9
  · subst h9; rfl
  by_cases h16 : j = 16
  · subst h16; rfl
  by_cases h17 : j = 17
  · subst h17; rfl
  unfold knowP passP impP
  simp only [upd, if_neg h4, if_neg h5, if_neg h6, if_neg h7, if_neg h8, if_neg h9, if_neg h16, if_neg h17, Nat.reduceAdd]
set_option maxRecDepth 100000 in
set_option maxHeartbeats 4000000 in
theorem lt_B {E : gE} {ad : Nat → Nat} {ws : va_W} {sm bm tw ea iw : Int32} {hh : Int64} {z : Nat → Int32} (h : ws[214]? = some (ad 214, moC ad sm bm tw ea iw hh)) (hz : ws[215]? = some (ad 215, iaC E 811 z)) {er : Nat → Int32} (he : ws[222]? = some (ad 222, iaC E 64 er)) {Pr : Option Value → va_W → Prop} {p : PS} {a t nb : Nat} {f : TF} {amp : Int32} (ha : a < 2) (ht : t < 8) (hnb : nb < 128) (hG : ZG z (pTone p a t f)) (hm : TN f) (hp2 : ¬ (128 : Int32) * p.2.2.1 0 = 0) (hP : ∀ z2, ZG z2 (pTone (drwS p.1, p.2) a t (knowP (passP (impP f (arrP f amp (drwN p.1 f) - expP f amp) amp (p.2.2.1 0)) amp amp))) → Pr none ((ws.set 215 (ad 215, iaC E 811 z2)).set 222 (ad 222, iaC E 64 (upd er (8 * t + nb % 8) (absP (arrP f amp (drwN p.1 f) - expP f amp)))))) : Ev E YX7_learnTone Pr nX 0 0 33 [(0, .ref (ad 214)), (1, .int (nI a)), (2, .int (nI t)), (3, .int (nI nb)), (4, .int (nI (stA a t))), (5, .int (nI (acA a t)))] [.int amp] ws := by
  have hs : stA a t + 7 ≤ 112 := by unfold stA; omega
  have hc1 : 112 ≤ acA a t := by unfold acA; omega
  have hc2 : acA a t + 11 ≤ 288 := by unfold acA; omega
  have hst : ∀ j, j < 7 → z (stA a t + j) = f j := fun j hj => by rw [hG.1 a t j ha ht hj, pT_same]
  refine ev_ss DX7_learnTone_0 2 18 (pc' := 36) (lv' := [(6, .int _), (0, .ref _), (1, .int _), (2, .int _), (3, .int _), (4, .int _), (5, .int _)]) (st' := [.ref _]) rfl ?_
  refine ev_get DX7_learnTone_0 20 GX7 rfl (k0 := 0) (Nat.le_of_ble_eq_true rfl) fX7_7 h rfl ?_
  refine ev_ss DX7_learnTone_0 3 21 (pc' := 43) (lv' := [(6, .int _), (0, .ref _), (1, .int _), (2, .int _), (3, .int _), (4, .int _), (5, .int _)]) (st' := [.int _, .ref _]) rfl ?_
  refine ev_ialdv DX7_learnTone_0 24 (k0 := (stA a t + 5)) rfl hz (nx_add (a := stA a t) (b := 5) rfl rfl) (by omega) (by decide) ((hst 5 (by decide))) ?_
  refine ev_ss DX7_learnTone_0 2 25 (pc' := 47) (lv' := [(7, .int _), (6, .int _), (0, .ref _), (1, .int _), (2, .int _), (3, .int _), (4, .int _), (5, .int _)]) (st' := [.ref _]) rfl ?_
  refine ev_get DX7_learnTone_0 27 GX7 rfl (k0 := 0) (Nat.le_of_ble_eq_true rfl) fX7_7 h rfl ?_
  refine ev_ss DX7_learnTone_0 3 28 (pc' := 55) (lv' := [(7, .int _), (6, .int _), (0, .ref _), (1, .int _), (2, .int _), (3, .int _), (4, .int _), (5, .int _)]) (st' := [.int _, .ref _]) rfl ?_
  refine ev_ialdv DX7_learnTone_0 31 (k0 := (stA a t + 6)) rfl hz (nx_add (a := stA a t) (b := 6) rfl rfl) (by omega) (by decide) ((hst 6 (by decide))) ?_
  refine ev_ss DX7_learnTone_0 5 32 (pc' := 63) (lv' := [(8, .int _), (7, .int _), (6, .int _), (0, .ref _), (1, .int _), (2, .int _), (3, .int _), (4, .int _), (5, .int _)]) (st' := [.int _, .int _, .int _, .ref _]) rfl ?_
  refine ev_rV DX7_learnTone_0 37 (m_X7_hearG h hz (amp := amp) ha ht hG hm) vX7_hear rfl qX7_84 rfl h rfl (hd_of rfl rfl rfl rfl) (fun v w hvw => ?_)
  obtain ⟨rfl, z2, rfl, hG2⟩ := hvw
  have hst2 : ∀ j, j < 7 → z2 (stA a t + j) = upd (upd (upd f 4 0) 6 (f 5)) 5 amp j := fun j hj => by rw [hG2.1 a t j ha ht hj, pT_same]
  have hac2 : ∀ j, j < 11 → z2 (acA a t + j) = upd (upd (upd f 4 0) 6 (f 5)) 5 amp (7 + j) := fun j hj => by rw [hG2.2.1 a t j ha ht hj, pT_same]
  have hse : z2 808 = p.2.2.1 0 := hG2.2.2.2.2.2.2 0 (by decide)
  refine ev_ss DX7_learnTone_0 3 38 (pc' := 71) (lv' := [(9, .int _), (8, .int _), (7, .int _), (6, .int _), (0, .ref _), (1, .int _), (2, .int _), (3, .int _), (4, .int _), (5, .int _)]) (st' := [.ref _, .int _]) rfl ?_
  refine ev_get DX7_learnTone_0 41 GX7 rfl (k0 := 0) (Nat.le_of_ble_eq_true rfl) fX7_7 (wset_o h hz rfl) rfl ?_
  refine ev_ss DX7_learnTone_0 3 42 (pc' := 78) (lv' := [(9, .int _), (8, .int _), (7, .int _), (6, .int _), (0, .ref _), (1, .int _), (2, .int _), (3, .int _), (4, .int _), (5, .int _)]) (st' := [.int _, .ref _, .int _]) rfl ?_
  refine ev_ialdv DX7_learnTone_0 45 (k0 := (acA a t + 0)) rfl (wset_get hz) (nx_add (a := acA a t) (b := 0) rfl rfl) (by omega) (by decide) ((hac2 0 (by decide))) ?_
  refine ev_ss DX7_learnTone_0 3 46 (pc' := 83) (lv' := [(9, .int _), (8, .int _), (7, .int _), (6, .int _), (0, .ref _), (1, .int _), (2, .int _), (3, .int _), (4, .int _), (5, .int _)]) (st' := [.ref _, .int _, .int _]) rfl ?_
  refine ev_get DX7_learnTone_0 49 GX7 rfl (k0 := 0) (Nat.le_of_ble_eq_true rfl) fX7_7 (wset_o h hz rfl) rfl ?_
  refine ev_ss DX7_learnTone_0 3 50 (pc' := 90) (lv' := [(9, .int _), (8, .int _), (7, .int _), (6, .int _), (0, .ref _), (1, .int _), (2, .int _), (3, .int _), (4, .int _), (5, .int _)]) (st' := [.int _, .ref _, .int _, .int _]) rfl ?_
  refine ev_ialdv DX7_learnTone_0 53 (k0 := (acA a t + 1)) rfl (wset_get hz) (nx_add (a := acA a t) (b := 1) rfl rfl) (by omega) (by decide) ((hac2 1 (by decide))) ?_
  refine ev_ss DX7_learnTone_0 4 54 (pc' := 96) (lv' := [(9, .int _), (8, .int _), (7, .int _), (6, .int _), (0, .ref _), (1, .int _), (2, .int _), (3, .int _), (4, .int _), (5, .int _)]) (st' := [.ref _, .int _, .int _]) rfl ?_
  refine ev_get DX7_learnTone_0 58 GX7 rfl (k0 := 0) (Nat.le_of_ble_eq_true rfl) fX7_7 (wset_o h hz rfl) rfl ?_
  refine ev_ss DX7_learnTone_0 3 59 (pc' := 103) (lv' := [(9, .int _), (8, .int _), (7, .int _), (6, .int _), (0, .ref _), (1, .int _), (2, .int _), (3, .int _), (4, .int _), (5, .int _)]) (st' := [.int _, .ref _, .int _, .int _]) rfl ?_
  refine ev_ialdv DX7_learnTone_0 62 (k0 := (acA a t + 2)) rfl (wset_get hz) (nx_add (a := acA a t) (b := 2) rfl rfl) (by omega) (by decide) ((hac2 2 (by decide))) ?_
  refine ev_ss DX7_learnTone_0 4 63 (pc' := 110) (lv' := [(9, .int _), (8, .int _), (7, .int _), (6, .int _), (0, .ref _), (1, .int _), (2, .int _), (3, .int _), (4, .int _), (5, .int _)]) (st' := [.int 64, .int _, .int _]) rfl ?_
  refine ev_idiv DX7_learnTone_0 67 rfl (by decide) ?_
  refine ev_ss DX7_learnTone_0 4 68 (pc' := 118) (lv' := [(10, .int _), (9, .int _), (8, .int _), (7, .int _), (6, .int _), (0, .ref _), (1, .int _), (2, .int _), (3, .int _), (4, .int _), (5, .int _)]) (st' := [.ref _, .int 128]) rfl ?_
  refine ev_get DX7_learnTone_0 72 GX7 rfl (k0 := 0) (Nat.le_of_ble_eq_true rfl) fX7_7 (wset_o h hz rfl) rfl ?_
  refine ev_ss DX7_learnTone_0 1 73 (pc' := 124) (lv' := [(10, .int _), (9, .int _), (8, .int _), (7, .int _), (6, .int _), (0, .ref _), (1, .int _), (2, .int _), (3, .int _), (4, .int _), (5, .int _)]) (st' := [.int 808, .ref _, .int 128]) rfl ?_
  refine ev_ialdv DX7_learnTone_0 74 (k0 := 808) rfl (wset_get hz) rfl (by omega) (by decide) (hse) ?_
  refine ev_ss DX7_learnTone_0 3 75 (pc' := 129) (lv' := [(11, .int _), (10, .int _), (9, .int _), (8, .int _), (7, .int _), (6, .int _), (0, .ref _), (1, .int _), (2, .int _), (3, .int _), (4, .int _), (5, .int _)]) (st' := [.ref _]) rfl ?_
  refine ev_get DX7_learnTone_0 78 GX7 rfl (k0 := 0) (Nat.le_of_ble_eq_true rfl) fX7_7 (wset_o h hz rfl) rfl ?_
  refine ev_ss DX7_learnTone_0 4 79 (pc' := 137) (lv' := [(11, .int _), (10, .int _), (9, .int _), (8, .int _), (7, .int _), (6, .int _), (0, .ref _), (1, .int _), (2, .int _), (3, .int _), (4, .int _), (5, .int _)]) (st' := [.ref _, .int _, .ref _]) rfl ?_
  refine ev_get DX7_learnTone_0 83 GX7 rfl (k0 := 0) (Nat.le_of_ble_eq_true rfl) fX7_7 (wset_o h hz rfl) rfl ?_
  refine ev_ss DX7_learnTone_0 3 84 (pc' := 144) (lv' := [(11, .int _), (10, .int _), (9, .int _), (8, .int _), (7, .int _), (6, .int _), (0, .ref _), (1, .int _), (2, .int _), (3, .int _), (4, .int _), (5, .int _)]) (st' := [.int _, .ref _, .int _, .ref _]) rfl ?_
  refine ev_ialdv DX7_learnTone_0 87 (k0 := (acA a t + 0)) rfl (wset_get hz) (nx_add (a := acA a t) (b := 0) rfl rfl) (by omega) (by decide) ((hac2 0 (by decide))) ?_
  refine ev_ss DX7_learnTone_0 4 88 (pc' := 152) (lv' := [(11, .int _), (10, .int _), (9, .int _), (8, .int _), (7, .int _), (6, .int _), (0, .ref _), (1, .int _), (2, .int _), (3, .int _), (4, .int _), (5, .int _)]) (st' := [.int _, .int _, .int _, .int _, .ref _]) rfl ?_
  refine ev_idiv DX7_learnTone_0 92 rfl hp2 ?_
  refine ev_ss DX7_learnTone_0 3 93 (pc' := 159) (lv' := [(11, .int _), (10, .int _), (9, .int _), (8, .int _), (7, .int _), (6, .int _), (0, .ref _), (1, .int _), (2, .int _), (3, .int _), (4, .int _), (5, .int _)]) (st' := [.int 128, .int 8, .int _, .int _, .ref _]) rfl ?_
  refine ev_cS DX7_learnTone_0 96 m_X7_held vX7_held rfl qX7_88 rfl (hd_of rfl rfl rfl rfl) ?_
  refine ev_iastv DX7_learnTone_0 97 (k0 := (acA a t + 0)) rfl (wset_get hz) (nx_add (a := acA a t) (b := 0) rfl rfl) (by omega) (by decide) wset_set ?_
  refine ev_ss DX7_learnTone_0 1 98 (pc' := 164) (lv' := [(11, .int _), (10, .int _), (9, .int _), (8, .int _), (7, .int _), (6, .int _), (0, .ref _), (1, .int _), (2, .int _), (3, .int _), (4, .int _), (5, .int _)]) (st' := [.ref _]) rfl ?_
  refine ev_get DX7_learnTone_0 99 GX7 rfl (k0 := 0) (Nat.le_of_ble_eq_true rfl) fX7_7 (wset_o h hz rfl) rfl ?_
  refine ev_ss DX7_learnTone_0 4 100 (pc' := 172) (lv' := [(11, .int _), (10, .int _), (9, .int _), (8, .int _), (7, .int _), (6, .int _), (0, .ref _), (1, .int _), (2, .int _), (3, .int _), (4, .int _), (5, .int _)]) (st' := [.ref _, .int _, .ref _]) rfl ?_
  refine ev_get DX7_learnTone_0 104 GX7 rfl (k0 := 0) (Nat.le_of_ble_eq_true rfl) fX7_7 (wset_o h hz rfl) rfl ?_
  refine ev_ss DX7_learnTone_0 3 105 (pc' := 179) (lv' := [(11, .int _), (10, .int _), (9, .int _), (8, .int _), (7, .int _), (6, .int _), (0, .ref _), (1, .int _), (2, .int _), (3, .int _), (4, .int _), (5, .int _)]) (st' := [.int _, .ref _, .int _, .ref _]) rfl ?_
  refine ev_ialdv DX7_learnTone_0 108 (k0 := (acA a t + 1)) rfl (wset_get hz) (nx_add (a := acA a t) (b := 1) rfl rfl) (by omega) (by decide) ((upd_ne (by omega)).trans ((hac2 1 (by decide)))) ?_
  refine ev_ss DX7_learnTone_0 4 109 (pc' := 187) (lv' := [(11, .int _), (10, .int _), (9, .int _), (8, .int _), (7, .int _), (6, .int _), (0, .ref _), (1, .int _), (2, .int _), (3, .int _), (4, .int _), (5, .int _)]) (st' := [.int _, .int _, .int _, .int _, .ref _]) rfl ?_
  refine ev_idiv DX7_learnTone_0 113 rfl hp2 ?_
  refine ev_ss DX7_learnTone_0 3 114 (pc' := 193) (lv' := [(11, .int _), (10, .int _), (9, .int _), (8, .int _), (7, .int _), (6, .int _), (0, .ref _), (1, .int _), (2, .int _), (3, .int _), (4, .int _), (5, .int _)]) (st' := [.int 48, .int (-48), .int _, .int _, .ref _]) rfl ?_
  refine ev_cS DX7_learnTone_0 117 m_X7_held vX7_held rfl qX7_88 rfl (hd_of rfl rfl rfl rfl) ?_
  refine ev_iastv DX7_learnTone_0 118 (k0 := (acA a t + 1)) rfl (wset_get hz) (nx_add (a := acA a t) (b := 1) rfl rfl) (by omega) (by decide) wset_set ?_
  refine ev_ss DX7_learnTone_0 1 119 (pc' := 198) (lv' := [(11, .int _), (10, .int _), (9, .int _), (8, .int _), (7, .int _), (6, .int _), (0, .ref _), (1, .int _), (2, .int _), (3, .int _), (4, .int _), (5, .int _)]) (st' := [.ref _]) rfl ?_
  refine ev_get DX7_learnTone_1 0 GX7 rfl (k0 := 0) (Nat.le_of_ble_eq_true rfl) fX7_7 (wset_o h hz rfl) rfl ?_
  refine ev_ss DX7_learnTone_1 4 1 (pc' := 206) (lv' := [(11, .int _), (10, .int _), (9, .int _), (8, .int _), (7, .int _), (6, .int _), (0, .ref _), (1, .int _), (2, .int _), (3, .int _), (4, .int _), (5, .int _)]) (st' := [.ref _, .int _, .ref _]) rfl ?_
  refine ev_get DX7_learnTone_1 5 GX7 rfl (k0 := 0) (Nat.le_of_ble_eq_true rfl) fX7_7 (wset_o h hz rfl) rfl ?_
  refine ev_ss DX7_learnTone_1 3 6 (pc' := 213) (lv' := [(11, .int _), (10, .int _), (9, .int _), (8, .int _), (7, .int _), (6, .int _), (0, .ref _), (1, .int _), (2, .int _), (3, .int _), (4, .int _), (5, .int _)]) (st' := [.int _, .ref _, .int _, .ref _]) rfl ?_
  refine ev_ialdv DX7_learnTone_1 9 (k0 := (acA a t + 2)) rfl (wset_get hz) (nx_add (a := acA a t) (b := 2) rfl rfl) (by omega) (by decide) ((upd_ne (by omega)).trans ((upd_ne (by omega)).trans ((hac2 2 (by decide))))) ?_
  refine ev_ss DX7_learnTone_1 4 10 (pc' := 221) (lv' := [(11, .int _), (10, .int _), (9, .int _), (8, .int _), (7, .int _), (6, .int _), (0, .ref _), (1, .int _), (2, .int _), (3, .int _), (4, .int _), (5, .int _)]) (st' := [.int _, .int _, .int _, .int _, .ref _]) rfl ?_
  refine ev_idiv DX7_learnTone_1 14 rfl hp2 ?_
  refine ev_ss DX7_learnTone_1 3 15 (pc' := 227) (lv' := [(11, .int _), (10, .int _), (9, .int _), (8, .int _), (7, .int _), (6, .int _), (0, .ref _), (1, .int _), (2, .int _), (3, .int _), (4, .int _), (5, .int _)]) (st' := [.int 48, .int (-48), .int _, .int _, .ref _]) rfl ?_
  refine ev_cS DX7_learnTone_1 18 m_X7_held vX7_held rfl qX7_88 rfl (hd_of rfl rfl rfl rfl) ?_
  refine ev_iastv DX7_learnTone_1 19 (k0 := (acA a t + 2)) rfl (wset_get hz) (nx_add (a := acA a t) (b := 2) rfl rfl) (by omega) (by decide) wset_set ?_
  refine ev_ss DX7_learnTone_1 1 20 (pc' := 232) (lv' := [(11, .int _), (10, .int _), (9, .int _), (8, .int _), (7, .int _), (6, .int _), (0, .ref _), (1, .int _), (2, .int _), (3, .int _), (4, .int _), (5, .int _)]) (st' := [.ref _]) rfl ?_
  refine ev_get DX7_learnTone_1 21 GX7 rfl (k0 := 0) (Nat.le_of_ble_eq_true rfl) fX7_7 (wset_o h hz rfl) rfl ?_
  refine ev_ss DX7_learnTone_1 4 22 (pc' := 241) (lv' := [(11, .int _), (10, .int _), (9, .int _), (8, .int _), (7, .int _), (6, .int _), (0, .ref _), (1, .int _), (2, .int _), (3, .int _), (4, .int _), (5, .int _)]) (st' := [.ref _, .int _, .ref _]) rfl ?_
  refine ev_get DX7_learnTone_1 26 GX7 rfl (k0 := 0) (Nat.le_of_ble_eq_true rfl) fX7_7 (wset_o h hz rfl) rfl ?_
  refine ev_ss DX7_learnTone_1 3 27 (pc' := 248) (lv' := [(11, .int _), (10, .int _), (9, .int _), (8, .int _), (7, .int _), (6, .int _), (0, .ref _), (1, .int _), (2, .int _), (3, .int _), (4, .int _), (5, .int _)]) (st' := [.int _, .ref _, .int _, .ref _]) rfl ?_
  refine ev_ialdv DX7_learnTone_1 30 (k0 := (stA a t + 5)) rfl (wset_get hz) (nx_add (a := stA a t) (b := 5) rfl rfl) (by omega) (by decide) ((upd_ne (by omega)).trans ((upd_ne (by omega)).trans ((upd_ne (by omega)).trans ((hst2 5 (by decide)))))) ?_
  refine ev_iastv DX7_learnTone_1 31 (k0 := (acA a t + 9)) rfl (wset_get hz) (nx_add (a := acA a t) (b := 9) rfl rfl) (by omega) (by decide) wset_set ?_
  refine ev_ss DX7_learnTone_1 1 32 (pc' := 251) (lv' := [(11, .int _), (10, .int _), (9, .int _), (8, .int _), (7, .int _), (6, .int _), (0, .ref _), (1, .int _), (2, .int _), (3, .int _), (4, .int _), (5, .int _)]) (st' := [.ref _]) rfl ?_
  refine ev_get DX7_learnTone_1 33 GX7 rfl (k0 := 0) (Nat.le_of_ble_eq_true rfl) fX7_7 (wset_o h hz rfl) rfl ?_
  refine ev_ss DX7_learnTone_1 4 34 (pc' := 260) (lv' := [(11, .int _), (10, .int _), (9, .int _), (8, .int _), (7, .int _), (6, .int _), (0, .ref _), (1, .int _), (2, .int _), (3, .int _), (4, .int _), (5, .int _)]) (st' := [.ref _, .int _, .ref _]) rfl ?_
  refine ev_get DX7_learnTone_1 38 GX7 rfl (k0 := 0) (Nat.le_of_ble_eq_true rfl) fX7_7 (wset_o h hz rfl) rfl ?_
  refine ev_ss DX7_learnTone_1 3 39 (pc' := 268) (lv' := [(11, .int _), (10, .int _), (9, .int _), (8, .int _), (7, .int _), (6, .int _), (0, .ref _), (1, .int _), (2, .int _), (3, .int _), (4, .int _), (5, .int _)]) (st' := [.int _, .ref _, .int _, .ref _]) rfl ?_
  refine ev_ialdv DX7_learnTone_1 42 (k0 := (stA a t + 6)) rfl (wset_get hz) (nx_add (a := stA a t) (b := 6) rfl rfl) (by omega) (by decide) ((upd_ne (by omega)).trans ((upd_ne (by omega)).trans ((upd_ne (by omega)).trans ((upd_ne (by omega)).trans ((hst2 6 (by decide))))))) ?_
  refine ev_iastv DX7_learnTone_1 43 (k0 := (acA a t + 10)) rfl (wset_get hz) (nx_add (a := acA a t) (b := 10) rfl rfl) (by omega) (by decide) wset_set ?_
  refine ev_ss DX7_learnTone_1 1 44 (pc' := 271) (lv' := [(11, .int _), (10, .int _), (9, .int _), (8, .int _), (7, .int _), (6, .int _), (0, .ref _), (1, .int _), (2, .int _), (3, .int _), (4, .int _), (5, .int _)]) (st' := [.ref _]) rfl ?_
  refine ev_get DX7_learnTone_1 45 GX7 rfl (k0 := 10) (Nat.le_of_ble_eq_true rfl) fX7_32 (wset_o h hz rfl) rfl ?_
  refine ev_ss DX7_learnTone_1 5 46 (pc' := 281) (lv' := [(11, .int _), (10, .int _), (9, .int _), (8, .int _), (7, .int _), (6, .int _), (0, .ref _), (1, .int _), (2, .int _), (3, .int _), (4, .int _), (5, .int _)]) (st' := [.int 8, .int _, .int _, .ref _]) rfl ?_
  refine ev_irem DX7_learnTone_1 51 rfl (by decide) ?_
  refine ev_ss DX7_learnTone_1 2 52 (pc' := 285) (lv' := [(11, .int _), (10, .int _), (9, .int _), (8, .int _), (7, .int _), (6, .int _), (0, .ref _), (1, .int _), (2, .int _), (3, .int _), (4, .int _), (5, .int _)]) (st' := [.int _, .int _, .ref _]) rfl ?_
  refine ev_cS DX7_learnTone_1 54 m_X7_size vX7_size rfl qX7_91 rfl (hd_of rfl rfl rfl rfl) ?_
  refine ev_iastv DX7_learnTone_1 55 (k0 := ((8 * t) + (nb % 8))) rfl (wset_o he hz rfl) (nx_add (a := (8 * t)) (b := (nb % 8)) (nx_mul (a := 8) (b := t) rfl rfl) (nx_rem (a := nb) (d := 8) rfl rfl (by omega) (by decide) (by decide))) (by omega) (by decide) rfl ?_
  exact ev_vret DX7_learnTone_1 56 rfl rfl (by rw [← lr_chain] at hP; exact hP _ (((((hG2.ac ha ht (j := 0) (by decide)).ac ha ht (j := 1) (by decide)).ac ha ht (j := 2) (by decide)).ac ha ht (j := 9) (by decide)).ac ha ht (j := 10) (by decide)))
set_option maxRecDepth 100000 in
set_option maxHeartbeats 4000000 in
theorem m_X7_learnTone {E : gE} {ad : Nat → Nat} {ws : va_W} {sm bm tw ea iw : Int32} {hh : Int64} {z : Nat → Int32} (h : ws[214]? = some (ad 214, moC ad sm bm tw ea iw hh)) (hz : ws[215]? = some (ad 215, iaC E 811 z)) {er : Nat → Int32} (he : ws[222]? = some (ad 222, iaC E 64 er)) {p : PS} {a t nb : Nat} {f : TF} (ha : a < 2) (ht : t < 8) (hnb : nb < 128) (hG : ZG z (pTone p a t f)) (hm : TN f) (hp2 : ¬ (128 : Int32) * p.2.2.1 0 = 0) : C0 E YX7_learnTone 0 0 [.ref (ad 214), .int (nI a), .int (nI t), .int (nI nb)] ws (fun v w => v = none ∧ ∃ z2, w = (ws.set 215 (ad 215, iaC E 811 z2)).set 222 (ad 222, iaC E 64 (upd er (8 * t + nb % 8) (absP (lrE p.1 f)))) ∧ ZG z2 (pTone (drwS (drwS p.1), p.2) a t (lrF (p.2.2.1 0) p.1 f))) := by
  have q7 : z 807 = p.1 := hG.2.2.2.2.2.1
  refine c0V vX7_learnTone (Nat.le_of_ble_eq_true rfl) (lv0 := [(0, .ref (ad 214)), (1, .int (nI a)), (2, .int (nI t)), (3, .int (nI nb))]) rfl ?_
  refine ev_ss DX7_learnTone_0 3 0 (pc' := 3) (lv' := [(0, .ref _), (1, .int _), (2, .int _), (3, .int _)]) (st' := [.int _, .int _, .ref _]) rfl ?_
  refine ev_cV DX7_learnTone_0 3 (m_X7_streetAt h) vX7_streetAt rfl qX7_64 rfl h rfl (hd_of rfl rfl rfl rfl) ?_
  refine ev_ss DX7_learnTone_0 4 4 (pc' := 11) (lv' := [(4, .int _), (0, .ref _), (1, .int _), (2, .int _), (3, .int _)]) (st' := [.int _, .int _, .ref _]) rfl ?_
  refine ev_cV DX7_learnTone_0 8 (m_X7_accentAt h) vX7_accentAt rfl qX7_68 rfl h rfl (hd_of rfl rfl rfl rfl) ?_
  refine ev_ss DX7_learnTone_0 3 9 (pc' := 18) (lv' := [(5, .int _), (4, .int _), (0, .ref _), (1, .int _), (2, .int _), (3, .int _)]) (st' := [.int 2, .ref _]) rfl ?_
  refine ev_cV DX7_learnTone_0 12 (m_X7_draw h hz (by decide)) vX7_draw rfl qX7_81 rfl h rfl (hd_of rfl rfl rfl rfl) ?_
  rw [q7]
  suffices J : ∀ amp : Int32, lrA p.1 = amp → Ev E YX7_learnTone (fun v w => v = none ∧ ∃ z2, w = (ws.set 215 (ad 215, iaC E 811 z2)).set 222 (ad 222, iaC E 64 (upd er (8 * t + nb % 8) (absP (lrE p.1 f)))) ∧ ZG z2 (pTone (drwS (drwS p.1), p.2) a t (lrF (p.2.2.1 0) p.1 f))) nX 0 0 33 [(0, .ref (ad 214)), (1, .int (nI a)), (2, .int (nI t)), (3, .int (nI nb)), (4, .int (nI (stA a t))), (5, .int (nI (acA a t)))] [.int amp] (ws.set 215 (ad 215, iaC E 811 (upd z 807 (drwS p.1)))) by
    refine ev_ss DX7_learnTone_0 1 13 (pc' := 22) (lv' := [(5, .int _), (4, .int _), (0, .ref _), (1, .int _), (2, .int _), (3, .int _)]) (st' := [.int 1, .int _]) rfl ?_
    refine ev_icne DX7_learnTone_0 14 rfl (tgt := 31) (by decide) (fun c_1 => ?_) (fun c_1 => ?_)
    · refine ev_ss DX7_learnTone_0 1 17 (pc' := 33) (lv' := [(5, .int _), (4, .int _), (0, .ref _), (1, .int _), (2, .int _), (3, .int _)]) (st' := [.int (-128)]) rfl ?_
      refine ev_lvp (lv2 := [(0, .ref _), (1, .int _), (2, .int _), (3, .int _), (4, .int _), (5, .int _)]) [2, 3, 4, 5, 1, 0] rfl ?_
      refine J _ (if_neg c_1)
    · refine ev_ss DX7_learnTone_0 1 15 (pc' := 28) (lv' := [(5, .int _), (4, .int _), (0, .ref _), (1, .int _), (2, .int _), (3, .int _)]) (st' := [.int 128]) rfl ?_
      refine ev_goto DX7_learnTone_0 16 rfl (tgt := 33) (by decide) ?_
      refine ev_lvp (lv2 := [(0, .ref _), (1, .int _), (2, .int _), (3, .int _), (4, .int _), (5, .int _)]) [2, 3, 4, 5, 1, 0] rfl ?_
      refine J _ (if_pos c_1)
  intro amp hamp
  refine lt_B (wset_n h (by decide)) (wset_get hz) (wset_n he (by decide)) ha ht hnb (p := (drwS p.1, p.2)) (f := f) hG.seedT hm hp2 (fun z2 hz2 => ⟨rfl, z2, ?_, ?_⟩)
  · rw [wset_set, ← hamp]; rfl
  · rw [← hamp] at hz2; exact hz2
