theorem sndT_s {sd : Int32} {σ : WS} {i : Nat} : sndT sd σ (i + 1) = ((sndT sd σ i).1 + sgW (sndT sd σ i).2.1 ((sndT sd σ i).2.2.1 i) (sndT sd σ i).2.2.2.1, drwS (sndT sd σ i).2.1, ssW (sndT sd σ i).2.1 (sndT sd σ i).2.2 i) := rfl
theorem shyT_s {m : Int32} {σ : WS} {i : Nat} : shyT m σ (i + 1) = (va_up (shyT m σ i).1 i (shyP ((shyT m σ i).1 i) m), (shyT m σ i).2) := rfl
theorem SN_sndT {sd : Int32} {σ : WS} (h : SN sd) : ∀ i, SN (sndT sd σ i).2.1
  | 0 => h
  | i + 1 => SN_drw (SN_sndT h i)
theorem SN_btN {m sd : Int32} {σ : WS} (h : SN sd) : ∀ n, SN (btN m sd σ n).2.1
  | 0 => h
  | n + 1 => SN_sndT (SN_btN h n) k8
theorem btP_1 {m sd : Int32} {σ : WS} : btP m sd σ = ((sndT sd σ k8).1, (sndT sd σ k8).2.1, shyT m (sndT sd σ k8).2.2 k8) := rfl
theorem btN_t {m sd : Int32} {σ : WS} {i : Nat} : btN m sd σ (i + 1) = ((btN m sd σ i).1 + (btP m (btN m sd σ i).2.1 (btN m sd σ i).2.2).1, (btP m (btN m sd σ i).2.1 (btN m sd σ i).2.2).2) := rfl
theorem LT_shy {zq zu za zn zd : Nat → Int32} {p : PS} {a t : Nat} {f : TF} (ha : a < 2) (ht : t < 8) (hT : LT zq zu za zn zd (pTone p a t f)) : LT zq zu (upd za (4 * (8 * a + t) + 3) (f 10 - 1)) (upd (upd zn (4 * (8 * a + t)) 0) (4 * (8 * a + t) + 1) (f 13 + 1)) zd (pTone p a t (upd (upd (upd f 10 (f 10 - 1)) 13 (f 13 + 1)) 12 0)) := by
  obtain ⟨h1, h2, h3, h4, h5⟩ := hT
  have b3 : ∀ j, j < 4 → za (4 * (8 * a + t) + j) = f (mA j) := fun j hj => by rw [h3.at ha ht j hj, pT_same]
  have b4 : ∀ j, j < 4 → zn (4 * (8 * a + t) + j) = f (mN j) := fun j hj => by rw [h4.at ha ht j hj, pT_same]
  exact ⟨h1.keep ha ht (j4 rfl rfl rfl rfl), h2.keep ha ht (j4 rfl rfl rfl rfl), (h3.set ha ht (j4 ((upd_ne (by omega)).trans (b3 0 (by decide))) ((upd_ne (by omega)).trans (b3 1 (by decide))) ((upd_ne (by omega)).trans (b3 2 (by decide))) (upd_eq)) (fun i hi => ((upd_ne (by omega)).trans (rfl)))), (h4.set ha ht (j4 ((upd_ne (by omega)).trans (upd_eq)) (upd_eq) ((upd_ne (by omega)).trans ((upd_ne (by omega)).trans (b4 2 (by decide)))) ((upd_ne (by omega)).trans ((upd_ne (by omega)).trans (b4 3 (by decide))))) (fun i hi => ((upd_ne (by omega)).trans ((upd_ne (by omega)).trans (rfl))))), h5.keep ha ht (j2 rfl rfl)⟩
set_option maxRecDepth 100000 in
set_option maxHeartbeats 4000000 in
theorem snd_l1 {E : gE} {ad : Nat → Nat} {ws : va_W} {Pr : Option Value → va_W → Prop} {q : PS} {ze : Nat → Int32} {a n : Nat} {B bt : Int32} (ha : a < 2) (hI : WI (pW q a))
    (hP : ∀ w, LM E ad w (pSW q (sndT q.1 (pW q a) k8).2.1 a (sndT q.1 (pW q a) k8).2.2) ze → MO ws w → Ev E YL_send Pr nX 0 0 57 [(0, .int (nI a)), (1, .int (nI n)), (2, .ref (ad 214)), (3, .ref (ad 215)), (4, .ref (ad 216)), (5, .ref (ad 217)), (6, .ref (ad 218)), (7, .ref (ad 219)), (8, .ref (ad 220)), (9, .ref (ad 221)), (10, .ref (ad 223)), (11, .int (B + (sndT q.1 (pW q a) k8).1)), (12, .int bt)] [] w) :
    ∀ (m i : Nat) (x acc : Int32) (w : va_W), i + m = k8 → x = nI i → acc = B + (sndT q.1 (pW q a) i).1 → LM E ad w (pSW q (sndT q.1 (pW q a) i).2.1 a (sndT q.1 (pW q a) i).2.2) ze → MO ws w → Ev E YL_send Pr nX 0 0 15 [(0, .int (nI a)), (1, .int (nI n)), (2, .ref (ad 214)), (3, .ref (ad 215)), (4, .ref (ad 216)), (5, .ref (ad 217)), (6, .ref (ad 218)), (7, .ref (ad 219)), (8, .ref (ad 220)), (9, .ref (ad 221)), (10, .ref (ad 223)), (11, .int acc), (12, .int bt), (13, .int x)] [] w := by
  have e8 := k8e
  intro m
  induction m with
  | zero =>
    intro i x acc w hm hx hq hM hO
    obtain rfl : i = k8 := by omega
    subst hx; subst hq
    refine ev_ss DL_send 2 9 (pc' := 19) (lv' := [(0, .int _), (1, .int _), (2, .ref _), (3, .ref _), (4, .ref _), (5, .ref _), (6, .ref _), (7, .ref _), (8, .ref _), (9, .ref _), (10, .ref _), (11, .int _), (12, .int _), (13, .int _)]) (st' := [.int 8, .int _]) rfl ?_
    refine ev_icge DL_send 11 rfl (tgt := 57) (by decide) (fun _ => ?_) (fun h => h.elim (by rw [k8e]; decide))
    refine ev_lvp (lv2 := [(0, .int _), (1, .int _), (2, .ref _), (3, .ref _), (4, .ref _), (5, .ref _), (6, .ref _), (7, .ref _), (8, .ref _), (9, .ref _), (10, .ref _), (11, .int _), (12, .int _)]) [0, 1, 2, 3, 4, 5, 6, 7, 8, 9, 10, 11, 12] rfl ?_
    exact hP w hM hO
  | succ m ih =>
    intro i x acc w hm hx hq hM hO
    subst hx
    have hI1 : WI (pW (pSW q (sndT q.1 (pW q a) i).2.1 a (sndT q.1 (pW q a) i).2.2) a) := by rw [pW_SW]; exact WI_sndT hI i (by omega)
    refine ev_ss DL_send 2 9 (pc' := 19) (lv' := [(0, .int _), (1, .int _), (2, .ref _), (3, .ref _), (4, .ref _), (5, .ref _), (6, .ref _), (7, .ref _), (8, .ref _), (9, .ref _), (10, .ref _), (11, .int _), (12, .int _), (13, .int _)]) (st' := [.int 8, .int _]) rfl ?_
    refine ev_icge DL_send 11 rfl (tgt := 57) (by decide) (fun h => absurd h (nI_ge (b := 8) (by omega) (by decide))) (fun _ => ?_)
    refine ev_ss DL_send 6 12 (pc' := 31) (lv' := [(0, .int _), (1, .int _), (2, .ref _), (3, .ref _), (4, .ref _), (5, .ref _), (6, .ref _), (7, .ref _), (8, .ref _), (9, .ref _), (10, .ref _), (11, .int _), (12, .int _), (13, .int _)]) (st' := [.int _, .int _]) rfl ?_
    refine ev_topv (nx_add (a := (8 * a)) (b := i) (nx_mul (a := 8) (b := a) rfl rfl) rfl) ?_
    refine ev_ss DL_send 8 18 (pc' := 45) (lv' := [(0, .int _), (1, .int _), (2, .ref _), (3, .ref _), (4, .ref _), (5, .ref _), (6, .ref _), (7, .ref _), (8, .ref _), (9, .ref _), (10, .ref _), (11, .int _), (12, .int _), (13, .int _)]) (st' := [.ref _, .ref _, .ref _, .ref _, .ref _, .ref _, .ref _, .ref _, .int _, .int _]) rfl ?_
    refine ev_rS DL_send 26 (m_L_sign hM ha (t := i) (by omega) hI1) vL_sign rfl qL_51 rfl (hd_of rfl rfl rfl rfl) (fun v w2 hvw => ?_)
    obtain ⟨rfl, hM2, hO2⟩ := hvw
    rw [pW_SW, pSW_pSW] at hM2
    refine ev_ss DL_send 3 27 (pc' := 54) (lv' := [(13, .int _), (11, .int _), (0, .int _), (1, .int _), (2, .ref _), (3, .ref _), (4, .ref _), (5, .ref _), (6, .ref _), (7, .ref _), (8, .ref _), (9, .ref _), (10, .ref _), (12, .int _)]) (st' := []) rfl ?_
    refine ev_goto DL_send 30 rfl (tgt := 15) (by decide) ?_
    refine ev_lvp (lv2 := [(0, .int _), (1, .int _), (2, .ref _), (3, .ref _), (4, .ref _), (5, .ref _), (6, .ref _), (7, .ref _), (8, .ref _), (9, .ref _), (10, .ref _), (11, .int _), (12, .int _), (13, .int _)]) [2, 3, 4, 5, 6, 7, 8, 9, 10, 11, 12, 1, 13, 0] rfl ?_
    refine ih (i + 1) _ _ w2 (by omega) (nI_1 i) ?_ (by rw [sndT_s]; exact hM2) (hO.tr hO2)
    rw [pW_SW, sndT_s, ← Int32.add_assoc, ← hq]
    rfl
set_option maxRecDepth 100000 in
set_option maxHeartbeats 4000000 in
theorem snd_l2 {E : gE} {ad : Nat → Nat} {ws : va_W} {Pr : Option Value → va_W → Prop} {q : PS} {σ : WS} {sd : Int32} {ze : Nat → Int32} {a n : Nat} {acc bt : Int32} (ha : a < 2) (hI : WI σ)
    (hP : ∀ w, LM E ad w (pSW q sd a (shyT (q.2.2.1 2) σ k8)) ze → MO ws w → Ev E YL_send Pr nX 0 0 137 [(0, .int (nI a)), (1, .int (nI n)), (2, .ref (ad 214)), (3, .ref (ad 215)), (4, .ref (ad 216)), (5, .ref (ad 217)), (6, .ref (ad 218)), (7, .ref (ad 219)), (8, .ref (ad 220)), (9, .ref (ad 221)), (10, .ref (ad 223)), (11, .int acc), (12, .int bt)] [] w) :
    ∀ (m i : Nat) (x : Int32) (w : va_W), i + m = k8 → x = nI i → LM E ad w (pSW q sd a (shyT (q.2.2.1 2) σ i)) ze → MO ws w → Ev E YL_send Pr nX 0 0 60 [(0, .int (nI a)), (1, .int (nI n)), (2, .ref (ad 214)), (3, .ref (ad 215)), (4, .ref (ad 216)), (5, .ref (ad 217)), (6, .ref (ad 218)), (7, .ref (ad 219)), (8, .ref (ad 220)), (9, .ref (ad 221)), (10, .ref (ad 223)), (11, .int acc), (12, .int bt), (13, .int x)] [] w := by
  have e8 := k8e
  intro m
  induction m with
  | zero =>
    intro i x w hm hx hM hO
    obtain rfl : i = k8 := by omega
    subst hx
    refine ev_ss DL_send 2 33 (pc' := 64) (lv' := [(0, .int _), (1, .int _), (2, .ref _), (3, .ref _), (4, .ref _), (5, .ref _), (6, .ref _), (7, .ref _), (8, .ref _), (9, .ref _), (10, .ref _), (11, .int _), (12, .int _), (13, .int _)]) (st' := [.int 8, .int _]) rfl ?_
    refine ev_icge DL_send 35 rfl (tgt := 137) (by decide) (fun _ => ?_) (fun h => h.elim (by rw [k8e]; decide))
    refine ev_lvp (lv2 := [(0, .int _), (1, .int _), (2, .ref _), (3, .ref _), (4, .ref _), (5, .ref _), (6, .ref _), (7, .ref _), (8, .ref _), (9, .ref _), (10, .ref _), (11, .int _), (12, .int _)]) [0, 1, 2, 3, 4, 5, 6, 7, 8, 9, 10, 11, 12] rfl ?_
    exact hP w hM hO
  | succ m ih =>
    intro i x w hm hx hM hO
    subst hx
    have hi : i < 8 := by omega
    obtain ⟨r, er⟩ : ∃ r, r = pSW q sd a (shyT (q.2.2.1 2) σ i) := ⟨_, rfl⟩
    obtain ⟨f, ef⟩ : ∃ f, f = (shyT (q.2.2.1 2) σ i).1 i := ⟨_, rfl⟩
    have ef2 : (pW r a).1 i = f := by rw [er, pW_SW, ef]
    have hnx : ∀ F : TF, shyP f (q.2.2.1 2) = F → pSW q sd a (shyT (q.2.2.1 2) σ (i + 1)) = pTone r a i F := fun F hF => by rw [er, pSW_T2, shyT_s, ← ef, hF]
    obtain ⟨nb, hnb, eb, -⟩ := (WI_shyT (m := q.2.2.1 2) hI i (by omega)).1 i hi |>.2.2.2.2.2
    rw [← ef] at eb
    rw [← er] at hM
    have es : r.2.2.1 2 = q.2.2.1 2 := by rw [er]; rfl
    obtain ⟨zq, zu, za, zn, zd, zw, zc, zt, zh, hC, hT, hW, hS⟩ := id hM
    obtain ⟨hzq, hzu, hza, hzn, hzd, hzw, hzc, hzt, hze, hzh⟩ := id hC
    have hA : ∀ j, j < 4 → za (4 * (8 * a + i) + j) = f (7 + j) := fun j hj => by rw [hT.2.2.1.at ha hi j hj, ef2]; rfl
    have hN : ∀ j, j < 4 → zn (4 * (8 * a + i) + j) = f (12 + j) := fun j hj => by rw [hT.2.2.2.1.at ha hi j hj, ef2]; rfl
    have hm2 : zt 2 = q.2.2.1 2 := (hS 2 (by decide)).trans es
    have hT2 : LT zq zu za zn zd (pTone r a i f) := by rw [← ef2]; exact hT.id
    have ek : shyP f (q.2.2.1 2) = f → LM E ad w (pSW q sd a (shyT (q.2.2.1 2) σ (i + 1))) ze := fun e => by rw [hnx f e, ← ef2, pT_id]; exact hM
    have e0 : f 10 = 0 → shyP f (q.2.2.1 2) = f := fun e => if_pos (by rw [e]; decide)
    have e1 : ¬ f 10 = 0 → ¬ f 10 ≤ 0 := fun e => by rw [eb] at e ⊢; exact nI_nle (Nat.pos_of_ne_zero (fun h => e (by rw [h]; rfl))) (by omega)
    refine ev_ss DL_send 2 33 (pc' := 64) (lv' := [(0, .int _), (1, .int _), (2, .ref _), (3, .ref _), (4, .ref _), (5, .ref _), (6, .ref _), (7, .ref _), (8, .ref _), (9, .ref _), (10, .ref _), (11, .int _), (12, .int _), (13, .int _)]) (st' := [.int 8, .int _]) rfl ?_
    refine ev_icge DL_send 35 rfl (tgt := 137) (by decide) (fun h => absurd h (nI_ge (b := 8) (by omega) (by decide))) (fun _ => ?_)
    refine ev_ss DL_send 7 36 (pc' := 76) (lv' := [(0, .int _), (1, .int _), (2, .ref _), (3, .ref _), (4, .ref _), (5, .ref _), (6, .ref _), (7, .ref _), (8, .ref _), (9, .ref _), (10, .ref _), (11, .int _), (12, .int _), (13, .int _)]) (st' := [.int _]) rfl ?_
    refine ev_topv (nx_mul (a := 4) (b := ((8 * a) + i)) rfl (nx_add (a := (8 * a)) (b := i) (nx_mul (a := 8) (b := a) rfl rfl) rfl)) ?_
    refine ev_ss DL_send 5 43 (pc' := 84) (lv' := [(14, .int _), (0, .int _), (1, .int _), (2, .ref _), (3, .ref _), (4, .ref _), (5, .ref _), (6, .ref _), (7, .ref _), (8, .ref _), (9, .ref _), (10, .ref _), (11, .int _), (12, .int _), (13, .int _)]) (st' := [.int _, .ref _]) rfl ?_
    refine ev_ialdv DL_send 48 (k0 := ((4 * ((8 * a) + i)) + 3)) rfl hza (nx_add (a := (4 * ((8 * a) + i))) (b := 3) rfl rfl) (by omega) (by decide) ((hA 3 (by decide))) ?_
    refine ev_ifeq DL_send 49 rfl (tgt := 131) (by decide) (fun c_1 => ?_) (fun c_1 => ?_)
    · refine ev_ss DL_send 1 80 (pc' := 134) (lv' := [(13, .int _), (14, .int _), (0, .int _), (1, .int _), (2, .ref _), (3, .ref _), (4, .ref _), (5, .ref _), (6, .ref _), (7, .ref _), (8, .ref _), (9, .ref _), (10, .ref _), (11, .int _), (12, .int _)]) (st' := []) rfl ?_
      refine ev_goto DL_send 81 rfl (tgt := 60) (by decide) ?_
      refine ev_lvp (lv2 := [(0, .int _), (1, .int _), (2, .ref _), (3, .ref _), (4, .ref _), (5, .ref _), (6, .ref _), (7, .ref _), (8, .ref _), (9, .ref _), (10, .ref _), (11, .int _), (12, .int _), (13, .int _)]) [2, 3, 4, 5, 6, 7, 8, 9, 10, 11, 12, 13, 14, 0] rfl ?_
      exact ih (i + 1) _ _ (by omega) (nI_1 i) (ek (e0 c_1)) hO
    · refine ev_ss DL_send 2 50 (pc' := 92) (lv' := [(14, .int _), (0, .int _), (1, .int _), (2, .ref _), (3, .ref _), (4, .ref _), (5, .ref _), (6, .ref _), (7, .ref _), (8, .ref _), (9, .ref _), (10, .ref _), (11, .int _), (12, .int _), (13, .int _)]) (st' := [.int _, .ref _]) rfl ?_
      refine ev_ialdv DL_send 52 (k0 := (4 * ((8 * a) + i))) rfl hzn rfl (by omega) (by decide) ((hN 0 (by decide))) ?_
      refine ev_ss DL_send 2 53 (pc' := 96) (lv' := [(14, .int _), (0, .int _), (1, .int _), (2, .ref _), (3, .ref _), (4, .ref _), (5, .ref _), (6, .ref _), (7, .ref _), (8, .ref _), (9, .ref _), (10, .ref _), (11, .int _), (12, .int _), (13, .int _)]) (st' := [.int 2, .ref _, .int _]) rfl ?_
      refine ev_ialdv DL_send 55 (k0 := 2) rfl hzt rfl (by omega) (by decide) (hm2) ?_
      refine ev_icge DL_send 56 rfl (tgt := 103) (by decide) (fun c_2 => ?_) (fun c_2 => ?_)
      · refine ev_ss DL_send 5 58 (pc' := 110) (lv' := [(14, .int _), (0, .int _), (1, .int _), (2, .ref _), (3, .ref _), (4, .ref _), (5, .ref _), (6, .ref _), (7, .ref _), (8, .ref _), (9, .ref _), (10, .ref _), (11, .int _), (12, .int _), (13, .int _)]) (st' := [.int _, .ref _, .int _, .ref _]) rfl ?_
        refine ev_ialdv DL_send 63 (k0 := ((4 * ((8 * a) + i)) + 3)) rfl hza (nx_add (a := (4 * ((8 * a) + i))) (b := 3) rfl rfl) (by omega) (by decide) ((hA 3 (by decide))) ?_
        refine ev_ss DL_send 2 64 (pc' := 113) (lv' := [(14, .int _), (0, .int _), (1, .int _), (2, .ref _), (3, .ref _), (4, .ref _), (5, .ref _), (6, .ref _), (7, .ref _), (8, .ref _), (9, .ref _), (10, .ref _), (11, .int _), (12, .int _), (13, .int _)]) (st' := [.int _, .int _, .ref _]) rfl ?_
        refine ev_iastv DL_send 66 (k0 := ((4 * ((8 * a) + i)) + 3)) rfl hza (nx_add (a := (4 * ((8 * a) + i))) (b := 3) rfl rfl) (by omega) (by decide) rfl ?_
        refine ev_ss DL_send 3 67 (pc' := 119) (lv' := [(14, .int _), (0, .int _), (1, .int _), (2, .ref _), (3, .ref _), (4, .ref _), (5, .ref _), (6, .ref _), (7, .ref _), (8, .ref _), (9, .ref _), (10, .ref _), (11, .int _), (12, .int _), (13, .int _)]) (st' := [.int 0, .int _, .ref _]) rfl ?_
        refine ev_iastv DL_send 70 (k0 := (4 * ((8 * a) + i))) rfl (wset_n hzn (by decide)) rfl (by omega) (by decide) rfl ?_
        refine ev_ss DL_send 5 71 (pc' := 127) (lv' := [(14, .int _), (0, .int _), (1, .int _), (2, .ref _), (3, .ref _), (4, .ref _), (5, .ref _), (6, .ref _), (7, .ref _), (8, .ref _), (9, .ref _), (10, .ref _), (11, .int _), (12, .int _), (13, .int _)]) (st' := [.int _, .ref _, .int _, .ref _]) rfl ?_
        refine ev_ialdv DL_send 76 (k0 := ((4 * ((8 * a) + i)) + 1)) rfl (wset_get (wset_n hzn (by decide))) (nx_add (a := (4 * ((8 * a) + i))) (b := 1) rfl rfl) (by omega) (by decide) ((upd_ne (by omega)).trans ((hN 1 (by decide)))) ?_
        refine ev_ss DL_send 2 77 (pc' := 130) (lv' := [(14, .int _), (0, .int _), (1, .int _), (2, .ref _), (3, .ref _), (4, .ref _), (5, .ref _), (6, .ref _), (7, .ref _), (8, .ref _), (9, .ref _), (10, .ref _), (11, .int _), (12, .int _), (13, .int _)]) (st' := [.int _, .int _, .ref _]) rfl ?_
        refine ev_iastv DL_send 79 (k0 := ((4 * ((8 * a) + i)) + 1)) rfl (wset_get (wset_n hzn (by decide))) (nx_add (a := (4 * ((8 * a) + i))) (b := 1) rfl rfl) (by omega) (by decide) wset_set ?_
        refine ev_ss DL_send 1 80 (pc' := 134) (lv' := [(13, .int _), (14, .int _), (0, .int _), (1, .int _), (2, .ref _), (3, .ref _), (4, .ref _), (5, .ref _), (6, .ref _), (7, .ref _), (8, .ref _), (9, .ref _), (10, .ref _), (11, .int _), (12, .int _)]) (st' := []) rfl ?_
        refine ev_goto DL_send 81 rfl (tgt := 60) (by decide) ?_
        refine ev_lvp (lv2 := [(0, .int _), (1, .int _), (2, .ref _), (3, .ref _), (4, .ref _), (5, .ref _), (6, .ref _), (7, .ref _), (8, .ref _), (9, .ref _), (10, .ref _), (11, .int _), (12, .int _), (13, .int _)]) [2, 3, 4, 5, 6, 7, 8, 9, 10, 11, 12, 13, 14, 0] rfl ?_
        exact ih (i + 1) _ _ (by omega) (nI_1 i) (by rw [hnx _ ((if_neg (e1 c_1)).trans (if_neg (Int32.not_lt.mpr c_2)))]; exact ⟨_, _, _, _, _, _, _, _, _, ⟨(wset_n (wset_n hzq (by decide)) (by decide)), (wset_n (wset_n hzu (by decide)) (by decide)), (wset_n (wset_get hza) (by decide)), (wset_get (wset_n hzn (by decide))), (wset_n (wset_n hzd (by decide)) (by decide)), (wset_n (wset_n hzw (by decide)) (by decide)), (wset_n (wset_n hzc (by decide)) (by decide)), (wset_n (wset_n hzt (by decide)) (by decide)), (wset_n (wset_n hze (by decide)) (by decide)), (wset_n (wset_n hzh (by decide)) (by decide))⟩, LT_shy ha hi hT2, hW.T ha, hS.T2⟩) (hO.tr ((MO.rf.st (by decide) (by decide)).st (by decide) (by decide)))
      · refine ev_goto DL_send 57 rfl (tgt := 131) (by decide) ?_
        refine ev_ss DL_send 1 80 (pc' := 134) (lv' := [(13, .int _), (14, .int _), (0, .int _), (1, .int _), (2, .ref _), (3, .ref _), (4, .ref _), (5, .ref _), (6, .ref _), (7, .ref _), (8, .ref _), (9, .ref _), (10, .ref _), (11, .int _), (12, .int _)]) (st' := []) rfl ?_
        refine ev_goto DL_send 81 rfl (tgt := 60) (by decide) ?_
        refine ev_lvp (lv2 := [(0, .int _), (1, .int _), (2, .ref _), (3, .ref _), (4, .ref _), (5, .ref _), (6, .ref _), (7, .ref _), (8, .ref _), (9, .ref _), (10, .ref _), (11, .int _), (12, .int _), (13, .int _)]) [2, 3, 4, 5, 6, 7, 8, 9, 10, 11, 12, 13, 14, 0] rfl ?_
        exact ih (i + 1) _ _ (by omega) (nI_1 i) (ek ((if_neg (e1 c_1)).trans (if_pos (Int32.not_le.mp c_2)))) hO
set_option maxRecDepth 100000 in
set_option maxHeartbeats 4000000 in
theorem m_L_send {E : gE} {ad : Nat → Nat} {ws : va_W} {p : PS} {ze : Nat → Int32} {a n : Nat} (hM : LM E ad ws p ze) (ha : a < 2) (hn : n < 128) (hI : WI (pW p a)) : C0 E YL_send 0 0 [.int (nI a), .int (nI n), .ref (ad 214), .ref (ad 215), .ref (ad 216), .ref (ad 217), .ref (ad 218), .ref (ad 219), .ref (ad 220), .ref (ad 221), .ref (ad 223)] ws (fun v w => v = some (.int (btN (p.2.2.1 2) p.1 (pW p a) n).1) ∧ LM E ad w (pSend p a n) ze ∧ MO ws w) := by
  refine c0S vL_send (Nat.le_of_ble_eq_true rfl) (lv0 := [(0, .int (nI a)), (1, .int (nI n)), (2, .ref (ad 214)), (3, .ref (ad 215)), (4, .ref (ad 216)), (5, .ref (ad 217)), (6, .ref (ad 218)), (7, .ref (ad 219)), (8, .ref (ad 220)), (9, .ref (ad 221)), (10, .ref (ad 223))]) rfl ?_
  suffices K : ∀ (m i : Nat) (x acc : Int32) (w : va_W), i + m = n → x = nI i → acc = (btN (p.2.2.1 2) p.1 (pW p a) i).1 → LM E ad w (pSW p (btN (p.2.2.1 2) p.1 (pW p a) i).2.1 a (btN (p.2.2.1 2) p.1 (pW p a) i).2.2) ze → MO ws w →
      Ev E YL_send (fun v w => v = some (.int (btN (p.2.2.1 2) p.1 (pW p a) n).1) ∧ LM E ad w (pSend p a n) ze ∧ MO ws w) nX 0 0 6 [(0, .int (nI a)), (1, .int (nI n)), (2, .ref (ad 214)), (3, .ref (ad 215)), (4, .ref (ad 216)), (5, .ref (ad 217)), (6, .ref (ad 218)), (7, .ref (ad 219)), (8, .ref (ad 220)), (9, .ref (ad 221)), (10, .ref (ad 223)), (11, .int acc), (12, .int x)] [] w by
    refine ev_ss DL_send 4 0 (pc' := 6) (lv' := [(12, .int 0), (11, .int 0), (0, .int _), (1, .int _), (2, .ref _), (3, .ref _), (4, .ref _), (5, .ref _), (6, .ref _), (7, .ref _), (8, .ref _), (9, .ref _), (10, .ref _)]) (st' := []) rfl ?_
    refine ev_lvp (lv2 := [(0, .int _), (1, .int _), (2, .ref _), (3, .ref _), (4, .ref _), (5, .ref _), (6, .ref _), (7, .ref _), (8, .ref _), (9, .ref _), (10, .ref _), (11, .int _), (12, .int _)]) [2, 3, 4, 5, 6, 7, 8, 9, 10, 11, 12, 1, 0] rfl ?_
    exact K n 0 _ _ ws (Nat.zero_add n) nI_0.symm (by rw [btN_0]) (by rw [btN_0, pSW_id]; exact hM) MO.rf
  intro m
  induction m with
  | zero =>
    intro i x acc w hm hx hq hM1 hO
    obtain rfl : i = n := by omega
    subst hx; subst hq
    obtain ⟨zq, zu, za, zn, zd, zw, zc, zt, zh, hC, hT, hW, hS⟩ := hM1
    obtain ⟨hzq, hzu, hza, hzn, hzd, hzw, hzc, hzt, hze, hzh⟩ := id hC
    have hc0 : zc 0 = p.2.1 := hW.2.2.1
    refine ev_ss DL_send 2 4 (pc' := 9) (lv' := [(0, .int _), (1, .int _), (2, .ref _), (3, .ref _), (4, .ref _), (5, .ref _), (6, .ref _), (7, .ref _), (8, .ref _), (9, .ref _), (10, .ref _), (11, .int _), (12, .int _)]) (st' := [.int _, .int _]) rfl ?_
    refine ev_icge DL_send 6 rfl (tgt := 143) (by decide) (fun _ => ?_) (fun h => h.elim (nI_le (Nat.le_refl _) (by omega)))
    refine ev_ss DL_send 3 84 (pc' := 147) (lv' := [(0, .int _), (1, .int _), (2, .ref _), (3, .ref _), (4, .ref _), (5, .ref _), (6, .ref _), (7, .ref _), (8, .ref _), (9, .ref _), (10, .ref _), (11, .int _), (12, .int _)]) (st' := [.int 0, .ref _, .int 0, .ref _]) rfl ?_
    refine ev_ialdv DL_send 87 (k0 := 0) rfl hzc rfl (by omega) (by decide) (hc0) ?_
    refine ev_ss DL_send 2 88 (pc' := 150) (lv' := [(0, .int _), (1, .int _), (2, .ref _), (3, .ref _), (4, .ref _), (5, .ref _), (6, .ref _), (7, .ref _), (8, .ref _), (9, .ref _), (10, .ref _), (11, .int _), (12, .int _)]) (st' := [.int _, .int 0, .ref _]) rfl ?_
    refine ev_iastv DL_send 90 (k0 := 0) rfl hzc rfl (by omega) (by decide) rfl ?_
    refine ev_ss DL_send 1 91 (pc' := 153) (lv' := [(0, .int _), (1, .int _), (2, .ref _), (3, .ref _), (4, .ref _), (5, .ref _), (6, .ref _), (7, .ref _), (8, .ref _), (9, .ref _), (10, .ref _), (11, .int _), (12, .int _)]) (st' := [.int _]) rfl ?_
    exact ev_iret DL_send 92 rfl rfl ⟨rfl, ⟨_, _, _, _, _, _, _, _, _, ⟨(wset_n hzq (by decide)), (wset_n hzu (by decide)), (wset_n hza (by decide)), (wset_n hzn (by decide)), (wset_n hzd (by decide)), (wset_n hzw (by decide)), (wset_get hzc), (wset_n hzt (by decide)), (wset_n hze (by decide)), (wset_n hzh (by decide))⟩, hT.beats, hW.beats, hS.beats⟩, hO.tr (MO.rf.st (by decide) (by decide))⟩
  | succ m ih =>
    intro i x acc w hm hx hq hM1 hO
    subst hx
    have hI1 : WI (pW (pSW p (btN (p.2.2.1 2) p.1 (pW p a) i).2.1 a (btN (p.2.2.1 2) p.1 (pW p a) i).2.2) a) := by rw [pW_SW]; exact WI_btN hI i
    refine ev_ss DL_send 2 4 (pc' := 9) (lv' := [(0, .int _), (1, .int _), (2, .ref _), (3, .ref _), (4, .ref _), (5, .ref _), (6, .ref _), (7, .ref _), (8, .ref _), (9, .ref _), (10, .ref _), (11, .int _), (12, .int _)]) (st' := [.int _, .int _]) rfl ?_
    refine ev_icge DL_send 6 rfl (tgt := 143) (by decide) (fun h => absurd h (nI_ge (b := n) (by omega) (by omega))) (fun _ => ?_)
    refine ev_ss DL_send 2 7 (pc' := 15) (lv' := [(13, .int 0), (0, .int _), (1, .int _), (2, .ref _), (3, .ref _), (4, .ref _), (5, .ref _), (6, .ref _), (7, .ref _), (8, .ref _), (9, .ref _), (10, .ref _), (11, .int _), (12, .int _)]) (st' := []) rfl ?_
    refine ev_lvp (lv2 := [(0, .int _), (1, .int _), (2, .ref _), (3, .ref _), (4, .ref _), (5, .ref _), (6, .ref _), (7, .ref _), (8, .ref _), (9, .ref _), (10, .ref _), (11, .int _), (12, .int _), (13, .int _)]) [1, 2, 3, 4, 5, 6, 7, 8, 9, 10, 11, 12, 13, 0] rfl ?_
    refine snd_l1 (q := pSW p (btN (p.2.2.1 2) p.1 (pW p a) i).2.1 a (btN (p.2.2.1 2) p.1 (pW p a) i).2.2) (B := acc) ha hI1 (fun w2 hM2 hO2 => ?_) k8 0 _ _ w (Nat.zero_add k8) nI_0.symm (by rw [sndT_0]; exact (Int32.add_zero acc).symm) (by rw [sndT_0, pSW_id]; exact hM1) hO
    rw [pW_SW, pSW_pSW] at hM2
    rw [pW_SW]
    refine ev_ss DL_send 2 31 (pc' := 60) (lv' := [(13, .int 0), (0, .int _), (1, .int _), (2, .ref _), (3, .ref _), (4, .ref _), (5, .ref _), (6, .ref _), (7, .ref _), (8, .ref _), (9, .ref _), (10, .ref _), (11, .int _), (12, .int _)]) (st' := []) rfl ?_
    refine ev_lvp (lv2 := [(0, .int _), (1, .int _), (2, .ref _), (3, .ref _), (4, .ref _), (5, .ref _), (6, .ref _), (7, .ref _), (8, .ref _), (9, .ref _), (10, .ref _), (11, .int _), (12, .int _), (13, .int _)]) [1, 2, 3, 4, 5, 6, 7, 8, 9, 10, 11, 12, 13, 0] rfl ?_
    refine snd_l2 (q := p) (σ := (sndT (btN (p.2.2.1 2) p.1 (pW p a) i).2.1 (btN (p.2.2.1 2) p.1 (pW p a) i).2.2 k8).2.2) (sd := (sndT (btN (p.2.2.1 2) p.1 (pW p a) i).2.1 (btN (p.2.2.1 2) p.1 (pW p a) i).2.2 k8).2.1) ha (WI_sndT (WI_btN hI i) k8 (Nat.le_of_eq k8e)) (fun w3 hM3 hO3 => ?_) k8 0 _ w2 (Nat.zero_add k8) nI_0.symm (by rw [shyT_0]; exact hM2) hO2
    refine ev_ss DL_send 1 82 (pc' := 140) (lv' := [(12, .int _), (0, .int _), (1, .int _), (2, .ref _), (3, .ref _), (4, .ref _), (5, .ref _), (6, .ref _), (7, .ref _), (8, .ref _), (9, .ref _), (10, .ref _), (11, .int _)]) (st' := []) rfl ?_
    refine ev_goto DL_send 83 rfl (tgt := 6) (by decide) ?_
    refine ev_lvp (lv2 := [(0, .int _), (1, .int _), (2, .ref _), (3, .ref _), (4, .ref _), (5, .ref _), (6, .ref _), (7, .ref _), (8, .ref _), (9, .ref _), (10, .ref _), (11, .int _), (12, .int _)]) [1, 2, 3, 4, 5, 6, 7, 8, 9, 10, 11, 12, 0] rfl ?_
    exact ih (i + 1) _ _ w3 (by omega) (nI_1 i) (by rw [btN_t, btP_1, ← hq]; rfl) (by rw [btN_t, btP_1]; exact hM3) hO3
