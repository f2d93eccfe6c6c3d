theorem pSet_T {p : PS} {a i : Nat} {σ : WS} {F : TF} : pTone (pSet p a σ) a i F = pSet p a (va_up σ.1 i F, σ.2) := by
  unfold pTone
  rw [pW_set, pSet_set]
theorem fgT_s {σ : WS} {i : Nat} : fgT σ (i + 1) = (va_up (fgT σ i).1 i (loseP ((fgT σ i).1 i)), (fgT σ i).2) := rfl
theorem LT_lose {zq zu za zn zd : Nat → Int32} {p : PS} {a t : Nat} {f : TF} (ha : a < 2) (ht : t < 8) (hT : LT zq zu za zn zd (pTone p a t f)) : LT zq (upd zu (4 * (8 * a + t) + 3) (-1)) (upd (upd (upd (upd za (4 * (8 * a + t)) 64) (4 * (8 * a + t) + 1) 0) (4 * (8 * a + t) + 2) 0) (4 * (8 * a + t) + 3) 0) (upd zn (4 * (8 * a + t)) 0) zd (pTone p a t (loseP f)) := by
  obtain ⟨h1, h2, h3, h4, h5⟩ := hT
  have b2 : ∀ j, j < 4 → zu (4 * (8 * a + t) + j) = f (mU j) := fun j hj => by rw [h2.at ha ht j hj, pT_same]
  have b4 : ∀ j, j < 4 → zn (4 * (8 * a + t) + j) = f (mN j) := fun j hj => by rw [h4.at ha ht j hj, pT_same]
  exact ⟨h1.keep ha ht (j4 rfl rfl rfl rfl), (h2.set ha ht (j4 ((upd_ne (by omega)).trans (b2 0 (by decide))) ((upd_ne (by omega)).trans (b2 1 (by decide))) ((upd_ne (by omega)).trans (b2 2 (by decide))) (upd_eq)) (fun i hi => ((upd_ne (by omega)).trans (rfl)))), (h3.set ha ht (j4 ((upd_ne (by omega)).trans ((upd_ne (by omega)).trans ((upd_ne (by omega)).trans (upd_eq)))) ((upd_ne (by omega)).trans ((upd_ne (by omega)).trans (upd_eq))) ((upd_ne (by omega)).trans (upd_eq)) (upd_eq)) (fun i hi => ((upd_ne (by omega)).trans ((upd_ne (by omega)).trans ((upd_ne (by omega)).trans ((upd_ne (by omega)).trans (rfl))))))), (h4.set ha ht (j4 (upd_eq) ((upd_ne (by omega)).trans (b4 1 (by decide))) ((upd_ne (by omega)).trans (b4 2 (by decide))) ((upd_ne (by omega)).trans (b4 3 (by decide)))) (fun i hi => ((upd_ne (by omega)).trans (rfl)))), h5.keep ha ht (j2 rfl rfl)⟩
set_option maxRecDepth 100000 in
set_option maxHeartbeats 4000000 in
theorem m_L_forget {E : gE} {ad : Nat → Nat} {ws : va_W} {a : Nat} {B m : Nat} (hWD : WD E ad ws B m) (hm1 : m ≤ 1) (ha : a < 2) : C0 E YL_forget 0 0 [.ref (ad 0), .int (nI a), .ref (ad 215), .ref (ad 216), .ref (ad 217)] ws (fun v w => v = some (.int 1) ∧ WD E ad w (B + 30) m) := by
  have e8 := k8e
  obtain ⟨p, sv, sc, r, len, ch, ze, hM, hL, hG, hs, hb, hsc, hm⟩ := id hWD
  obtain ⟨zq, zu, za, zn, zd, zw, zc, zt, zh, hC, hT, hW, hS⟩ := id hL
  obtain ⟨hzq, hzu, hza, hzn, hzd, hzw, hzc, hzt, hze, hzh⟩ := id hC
  refine c0S vL_forget (Nat.le_of_ble_eq_true rfl) (lv0 := [(0, .ref (ad 0)), (1, .int (nI a)), (2, .ref (ad 215)), (3, .ref (ad 216)), (4, .ref (ad 217))]) rfl ?_
  suffices K : ∀ (m2 i : Nat) (x : Int32) (w : va_W), i + m2 = k8 → x = nI i → LM E ad w (pSet p a (fgT (pW p a) i)) ze → MO ws w → Ev E YL_forget (fun v w => v = some (.int 1) ∧ WD E ad w (B + 30) m) nX 0 0 10 [(0, .ref (ad 0)), (1, .int (nI a)), (2, .ref (ad 215)), (3, .ref (ad 216)), (4, .ref (ad 217)), (5, .int (sumN (fun t => (pW p a).1 t 10) 8)), (6, .int x)] [] w by
    refine ev_ss DL_forget 2 0 (pc' := 2) (lv' := [(0, .ref _), (1, .int _), (2, .ref _), (3, .ref _), (4, .ref _)]) (st' := [.ref _, .int _]) rfl ?_
    refine ev_cS DL_forget 2 (m_L_carried hza ha hT.2.2.1) vL_carried rfl qL_85 rfl (hd_of rfl rfl rfl rfl) ?_
    refine ev_ss DL_forget 3 3 (pc' := 10) (lv' := [(6, .int 0), (5, .int _), (0, .ref _), (1, .int _), (2, .ref _), (3, .ref _), (4, .ref _)]) (st' := []) rfl ?_
    refine ev_lvp (lv2 := [(0, .ref _), (1, .int _), (2, .ref _), (3, .ref _), (4, .ref _), (5, .int _), (6, .int _)]) [2, 3, 4, 5, 6, 1, 0] rfl ?_
    exact K k8 0 _ ws (Nat.zero_add k8) nI_0.symm (by rw [fgT_0, pSet_id]; exact hL) MO.rf
  intro m2
  induction m2 with
  | zero =>
    intro i x w hm2 hx hL1 hO
    obtain rfl : i = k8 := by omega
    subst hx
    have hM1 := hM.mo hO
    refine ev_ss DL_forget 2 6 (pc' := 14) (lv' := [(0, .ref _), (1, .int _), (2, .ref _), (3, .ref _), (4, .ref _), (5, .int _), (6, .int _)]) (st' := [.int 8, .int _]) rfl ?_
    refine ev_icge DL_forget 8 rfl (tgt := 74) (by decide) (fun _ => ?_) (fun h => h.elim (by rw [k8e]; decide))
    refine ev_ss DL_forget 2 51 (pc' := 76) (lv' := [(0, .ref _), (1, .int _), (2, .ref _), (3, .ref _), (4, .ref _), (5, .int _), (6, .int _)]) (st' := [.int _, .ref _]) rfl ?_
    refine ev_rV DL_forget 53 (m_X6_forget hM1 ha hsc) vX6_forget rfl qL_115 rfl hM1.1 rfl (hd_of rfl rfl rfl rfl) (fun v w9 hvw => ?_)
    obtain ⟨rfl, ⟨r2, hM2⟩, hFO⟩ := hvw
    have hL2 : LM E ad w9 (pForg p a) ze := LM.of hL1 (fun j a b => hFO j a)
    have hWD2 : WD E ad w9 (B + 30) 1 := WD.nw (p := p) hM2 hL2 (hG.forg ha) hs hb rfl (by omega) hsc
    refine ev_ss DL_forget 1 54 (pc' := 81) (lv' := [(0, .ref _), (1, .int _), (2, .ref _), (3, .ref _), (4, .ref _), (5, .int _), (6, .int _)]) (st' := [.int _, .int _]) rfl ?_
    refine ev_icne DL_forget 55 rfl (tgt := 88) (by decide) (fun h => h.elim rfl) (fun _ => ?_)
    refine ev_ss DL_forget 1 56 (pc' := 85) (lv' := [(0, .ref _), (1, .int _), (2, .ref _), (3, .ref _), (4, .ref _), (5, .int _), (6, .int _)]) (st' := [.int 1]) rfl ?_
    refine ev_goto DL_forget 57 rfl (tgt := 89) (by decide) ?_
    exact ev_zret DL_forget 59 rfl rfl rfl ⟨rfl, hWD2.le (Nat.le_refl _) hm1⟩
  | succ m2 ih =>
    intro i x w hm2 hx hL1 hO
    subst hx
    have hi : i < 8 := by omega
    obtain ⟨q, eq⟩ : ∃ q, q = pSet p a (fgT (pW p a) i) := ⟨_, rfl⟩
    have e1 : pTone q a i (loseP ((pW q a).1 i)) = pSet p a (fgT (pW p a) (i + 1)) := by rw [eq, pSet_T, pW_set, fgT_s]
    rw [← eq] at hL1
    obtain ⟨zq, zu, za, zn, zd, zw, zc, zt, zh, hC, hT, hW, hS⟩ := hL1
    obtain ⟨hzq, hzu, hza, hzn, hzd, hzw, hzc, hzt, hze, hzh⟩ := id hC
    refine ev_ss DL_forget 2 6 (pc' := 14) (lv' := [(0, .ref _), (1, .int _), (2, .ref _), (3, .ref _), (4, .ref _), (5, .int _), (6, .int _)]) (st' := [.int 8, .int _]) rfl ?_
    refine ev_icge DL_forget 8 rfl (tgt := 74) (by decide) (fun h => absurd h (nI_ge (b := 8) (by omega) (by decide))) (fun _ => ?_)
    refine ev_ss DL_forget 7 9 (pc' := 26) (lv' := [(0, .ref _), (1, .int _), (2, .ref _), (3, .ref _), (4, .ref _), (5, .int _), (6, .int _)]) (st' := [.int _]) rfl ?_
    refine ev_topv (nx_mul (a := 4) (b := ((8 * a) + i)) rfl (nx_add (a := (8 * a)) (b := i) (nx_mul (a := 8) (b := a) rfl rfl) rfl)) ?_
    refine ev_ss DL_forget 4 16 (pc' := 33) (lv' := [(7, .int _), (0, .ref _), (1, .int _), (2, .ref _), (3, .ref _), (4, .ref _), (5, .int _), (6, .int _)]) (st' := [.int 64, .int _, .ref _]) rfl ?_
    refine ev_iastv DL_forget 20 (k0 := (4 * ((8 * a) + i))) rfl hza rfl (by omega) (by decide) rfl ?_
    refine ev_ss DL_forget 5 21 (pc' := 40) (lv' := [(7, .int _), (0, .ref _), (1, .int _), (2, .ref _), (3, .ref _), (4, .ref _), (5, .int _), (6, .int _)]) (st' := [.int 0, .int _, .ref _]) rfl ?_
    refine ev_iastv DL_forget 26 (k0 := ((4 * ((8 * a) + i)) + 1)) rfl (wset_get hza) (nx_add (a := (4 * ((8 * a) + i))) (b := 1) rfl rfl) (by omega) (by decide) wset_set ?_
    refine ev_ss DL_forget 5 27 (pc' := 47) (lv' := [(7, .int _), (0, .ref _), (1, .int _), (2, .ref _), (3, .ref _), (4, .ref _), (5, .int _), (6, .int _)]) (st' := [.int 0, .int _, .ref _]) rfl ?_
    refine ev_iastv DL_forget 32 (k0 := ((4 * ((8 * a) + i)) + 2)) rfl (wset_get hza) (nx_add (a := (4 * ((8 * a) + i))) (b := 2) rfl rfl) (by omega) (by decide) wset_set ?_
    refine ev_ss DL_forget 5 33 (pc' := 54) (lv' := [(7, .int _), (0, .ref _), (1, .int _), (2, .ref _), (3, .ref _), (4, .ref _), (5, .int _), (6, .int _)]) (st' := [.int 0, .int _, .ref _]) rfl ?_
    refine ev_iastv DL_forget 38 (k0 := ((4 * ((8 * a) + i)) + 3)) rfl (wset_get hza) (nx_add (a := (4 * ((8 * a) + i))) (b := 3) rfl rfl) (by omega) (by decide) wset_set ?_
    refine ev_ss DL_forget 5 39 (pc' := 61) (lv' := [(7, .int _), (0, .ref _), (1, .int _), (2, .ref _), (3, .ref _), (4, .ref _), (5, .int _), (6, .int _)]) (st' := [.int (-1), .int _, .ref _]) rfl ?_
    refine ev_iastv DL_forget 44 (k0 := ((4 * ((8 * a) + i)) + 3)) rfl (wset_n hzu (by decide)) (nx_add (a := (4 * ((8 * a) + i))) (b := 3) rfl rfl) (by omega) (by decide) rfl ?_
    refine ev_ss DL_forget 3 45 (pc' := 67) (lv' := [(7, .int _), (0, .ref _), (1, .int _), (2, .ref _), (3, .ref _), (4, .ref _), (5, .int _), (6, .int _)]) (st' := [.int 0, .int _, .ref _]) rfl ?_
    refine ev_iastv DL_forget 48 (k0 := (4 * ((8 * a) + i))) rfl (wset_n (wset_n hzn (by decide)) (by decide)) rfl (by omega) (by decide) rfl ?_
    refine ev_ss DL_forget 1 49 (pc' := 71) (lv' := [(6, .int _), (7, .int _), (0, .ref _), (1, .int _), (2, .ref _), (3, .ref _), (4, .ref _), (5, .int _)]) (st' := []) rfl ?_
    refine ev_goto DL_forget 50 rfl (tgt := 10) (by decide) ?_
    refine ev_lvp (lv2 := [(0, .ref _), (1, .int _), (2, .ref _), (3, .ref _), (4, .ref _), (5, .int _), (6, .int _)]) [2, 3, 4, 5, 6, 7, 0] rfl ?_
    refine ih (i + 1) _ _ (by omega) (nI_1 i) ?_ (hO.tr (((MO.rf.st (by decide) (by decide)).st (by decide) (by decide)).st (by decide) (by decide)))
    rw [← e1]
    exact ⟨_, _, _, _, _, _, _, _, _, ⟨(wset_n (wset_n (wset_n hzq (by decide)) (by decide)) (by decide)), (wset_n (wset_get (wset_n hzu (by decide))) (by decide)), (wset_n (wset_n (wset_get hza) (by decide)) (by decide)), (wset_get (wset_n (wset_n hzn (by decide)) (by decide))), (wset_n (wset_n (wset_n hzd (by decide)) (by decide)) (by decide)), (wset_n (wset_n (wset_n hzw (by decide)) (by decide)) (by decide)), (wset_n (wset_n (wset_n hzc (by decide)) (by decide)) (by decide)), (wset_n (wset_n (wset_n hzt (by decide)) (by decide)) (by decide)), (wset_n (wset_n (wset_n hze (by decide)) (by decide)) (by decide)), (wset_n (wset_n (wset_n hzh (by decide)) (by decide)) (by decide))⟩, LT_lose ha hi hT.id, hW.T ha, hS.T2⟩
/-- the bits of the digits behind the colon -/
def DGc (ch : Nat → Int32) : Nat → List Int32
  | 0 => []
  | k + 1 => DGc ch k ++ dg4 (dgP (ch (2 + k)))
theorem DGc_s {ch : Nat → Int32} {k : Nat} : DGc ch (k + 1) = DGc ch k ++ dg4 (dgP (ch (2 + k))) := rfl
theorem DGc_len {ch : Nat → Int32} : ∀ k, (DGc ch k).length = 4 * k
  | 0 => rfl
  | k + 1 => by
    rw [DGc_s, List.length_append, DGc_len k]
    show 4 * k + 4 = _
    omega
theorem DGc_c {ch c2 : Nat → Int32} : ∀ k, (∀ j, j < 2 + k → c2 j = ch j) → DGc c2 k = DGc ch k
  | 0, _ => rfl
  | k + 1, h => by
    rw [DGc_s, DGc_s, DGc_c k (fun j hj => h j (by omega)), h (2 + k) (by omega)]
/-- a message: a way, a colon, k digits -/
def TXq (a k : Nat) (ch : Nat → Int32) : Prop := ch 0 = nI (97 + a) ∧ ch 1 = 58 ∧ ∀ j, j < k → bhP (ch (2 + j)) = 3 ∧ ¬ ch (2 + j) = 59
theorem tx_1 {a k : Nat} {ch : Nat → Int32} (ha : a < 2) (h : TXq a k ch) : tzP ch 1 = 1 := by
  rw [tzP_s, h.1]
  rcases (show a = 0 ∨ a = 1 by omega) with rfl | rfl <;> rfl
theorem tx_2 {a k : Nat} {ch : Nat → Int32} (ha : a < 2) (h : TXq a k ch) : tzP ch 2 = 2 := by
  rw [tzP_s, tx_1 ha h, h.2.1]
  rfl
theorem tx_3 {a k : Nat} {ch : Nat → Int32} (ha : a < 2) (h : TXq a k ch) : ∀ j, j < k → tzP ch (2 + j + 1) = 3
  | 0, hj => by
    rw [tzP_s, tx_2 ha h]
    exact (h.2.2 0 hj).1
  | j + 1, hj => by
    rw [tzP_s, show 2 + (j + 1) = 2 + j + 1 by omega, tx_3 ha h j (by omega)]
    have e := h.2.2 (j + 1) hj
    show nx3 _ = 3
    unfold nx3
    rw [show 2 + j + 1 = 2 + (j + 1) by omega, if_neg e.2]
    exact e.1
theorem tx_n0 {a k : Nat} {ch : Nat → Int32} (ha : a < 2) (h : TXq a k ch) : ∀ n, n ≤ k + 2 → 1 ≤ n → (tzP ch n = 1 ∨ tzP ch n = 2 ∨ tzP ch n = 3) := fun n hn h1 => by
  rcases (show n = 1 ∨ n = 2 ∨ 3 ≤ n by omega) with rfl | rfl | h3
  · exact Or.inl (tx_1 ha h)
  · exact Or.inr (Or.inl (tx_2 ha h))
  · obtain ⟨j, rfl⟩ : ∃ j, n = 2 + j + 1 := ⟨n - 3, by omega⟩
    exact Or.inr (Or.inr (tx_3 ha h j (by omega)))
theorem tx_w {a k : Nat} {ch : Nat → Int32} (ha : a < 2) (h : TXq a k ch) : ∀ n, n + 1 ≤ k + 2 → wnP ch (n + 1) = nI a
  | 0, _ => by
    rw [wnP_s, if_pos (show tzP ch 0 = 0 from rfl), h.1]
    rcases (show a = 0 ∨ a = 1 by omega) with rfl | rfl <;> rfl
  | n + 1, hn => by
    rw [wnP_s, if_neg (by rcases tx_n0 ha h (n + 1) (by omega) (by omega) with e | e | e <;> rw [e] <;> decide)]
    exact tx_w ha h n (by omega)
theorem tx_er {a k : Nat} {ch : Nat → Int32} (ha : a < 2) (h : TXq a k ch) {len : Nat} : ∀ m i, i + m ≤ k + 2 → erP ch len m i = nI len
  | 0, _, _ => rfl
  | m + 1, i, hi => by
    rw [erP_s, if_neg (by rcases tx_n0 ha h (i + 1) (by omega) (by omega) with e | e | e <;> rw [e] <;> decide)]
    exact tx_er ha h m (i + 1) (by omega)
theorem tx_bf2 {a k : Nat} {ch : Nat → Int32} (ha : a < 2) (h : TXq a k ch) {w : Int32} : bfT ch w 2 = 0 := by
  rw [bfT_s, bfT_s, tx_2 ha h, tx_1 ha h]
  rfl
theorem tx_bf {a k : Nat} {ch : Nat → Int32} (ha : a < 2) (h : TXq a k ch) {w : Int32} : ∀ j, j ≤ k → bfT ch w (2 + j) = if nI a = w then nI (4 * j) else 0
  | 0, _ => by
    rw [show 2 + 0 = 2 from rfl, tx_bf2 ha h]
    split <;> rfl
  | j + 1, hj => by
    rw [show 2 + (j + 1) = 2 + j + 1 by omega, bfT_s, tx_bf ha h j (by omega), tx_3 ha h j (by omega), if_pos rfl, tx_w ha h (2 + j) (by omega)]
    by_cases e : nI a = w
    · rw [if_pos e, if_pos e, if_pos e]
      exact (nI_add (4 * j) 4).trans (congrArg nI (by omega))
    · rw [if_neg e, if_neg e, if_neg e]
      rfl
theorem tx_pb2 {a k : Nat} {ch : Nat → Int32} {b0 b1 : List Int32} (ha : a < 2) (h : TXq a k ch) : pbP ch b0 b1 2 = (b0, b1) := by
  rw [pbP_s, pbP_s, tx_2 ha h, tx_1 ha h]
  rfl
theorem tx_pb {a k : Nat} {ch : Nat → Int32} {b0 b1 : List Int32} (ha : a < 2) (h : TXq a k ch) : ∀ j, j ≤ k → pbP ch b0 b1 (2 + j) = if a = 0 then (b0 ++ DGc ch j, b1) else (b0, b1 ++ DGc ch j)
  | 0, _ => by
    rw [show 2 + 0 = 2 from rfl, tx_pb2 ha h]
    show _ = if a = 0 then (b0 ++ [], b1) else (b0, b1 ++ [])
    rw [List.append_nil, List.append_nil]
    split <;> rfl
  | j + 1, hj => by
    rw [show 2 + (j + 1) = 2 + j + 1 by omega, pbP_s, tx_3 ha h j (by omega), if_pos rfl, tx_w ha h (2 + j) (by omega), tx_pb ha h j (by omega), DGc_s]
    rcases (show a = 0 ∨ a = 1 by omega) with rfl | rfl
    · rw [if_pos (show nI 0 = 0 from rfl), if_pos rfl, if_pos rfl, List.append_assoc]
    · rw [if_neg (show ¬ nI 1 = 0 by decide), if_neg (by decide), if_neg (by decide), List.append_assoc]
theorem tx_say {a k : Nat} {ch : Nat → Int32} {p : PS} (ha : a < 2) (h : TXq a k ch) : pSay p (2 + k) ch = pBits p a ((pW p a).2.1 ++ DGc ch k) := by
  unfold pSay
  rw [tx_pb ha h k (Nat.le_refl k)]
  rcases (show a = 0 ∨ a = 1 by omega) with rfl | rfl <;> rfl
theorem cd_lo : ∀ d, d < 10 → bhP (nI (48 + d)) = 3 ∧ ¬ nI (48 + d) = 59 ∧ dgP (nI (48 + d)) = nI d := by decide +kernel
theorem cd_hi : ∀ d, d < 16 → 10 ≤ d → bhP (nI (87 + d)) = 3 ∧ ¬ nI (87 + d) = 59 ∧ dgP (nI (87 + d)) = nI d := by decide +kernel
theorem TXq.put {a k c : Nat} {ch : Nat → Int32} (h : TXq a k ch) (h1 : bhP (nI c) = 3 ∧ ¬ nI c = 59) : TXq a (k + 1) (upd ch (2 + k) (nI c)) := by
  refine ⟨(upd_ne (by omega)).trans h.1, (upd_ne (by omega)).trans h.2.1, fun j hj => ?_⟩
  by_cases e : j = k
  · subst e
    rw [upd_eq]
    exact h1
  · rw [upd_ne (by omega)]
    exact h.2.2 j (by omega)
theorem DGc.put {k c d : Nat} {ch : Nat → Int32} (h : dgP (nI c) = nI d) : DGc (upd ch (2 + k) (nI c)) (k + 1) = DGc ch k ++ dg4 (nI d) := by
  rw [DGc_s, DGc_c k (fun j hj => upd_ne (by omega)), upd_eq, h]
theorem LT.bits2 {zq zu za zn zd : Nat → Int32} {p : PS} {a : Nat} {bs cs : List Int32} (ha : a < 2) (h : LT zq zu za zn zd (pBits p a bs)) : LT zq zu za zn zd (pBits p a cs) := h.pw (fun y hy => by rw [pBits_1 ha hy, pBits_1 ha hy])
theorem LW.put {zw zc : Nat → Int32} {zh : Nat → Int64} {p : PS} {a k : Nat} {bs : List Int32} {b v : Int32} (h : LW zw zc zh (pBits p a bs)) (ha : a < 2) (hk : k = bs.length) (hl : k < 32) (hv : v = nI (k + 1)) : LW (upd zw (32 * a + k) b) (upd zc (2 + a) v) zh (pBits p a (bs ++ [b])) := by
  obtain ⟨h3, h4, h5, h6⟩ := h
  subst hk; subst hv
  refine ⟨fun c i hc hi => ?_, fun c hc => ?_, ?_, ?_⟩
  · by_cases e3 : c = a
    · subst e3
      rw [pBits_W] at hi ⊢
      rw [List.length_append] at hi
      have hi2 : i < bs.length + 1 := hi
      by_cases e : i = bs.length
      · subst e
        rw [upd_eq]
        simp
      · have q := h3 c i hc (by rw [pBits_W]; omega)
        rw [pBits_W] at q
        rw [upd_ne (by omega), q, List.getD_eq_getElem?_getD, List.getD_eq_getElem?_getD, List.getElem?_append_left (by omega)]
    · have e4 : ∀ cs : List Int32, (pW (pBits p a cs) c).2.1 = (pW p c).2.1 := fun cs => by unfold pBits; rw [pW_other ha hc e3]
      rw [e4] at hi ⊢
      have q := h3 c i hc (by rw [e4]; exact hi)
      rw [e4] at q
      have q2 := (h4 c hc).1
      rw [e4] at q2
      rw [upd_ne (by omega)]
      exact q
  · obtain ⟨q1, q2, q3, q4, q5⟩ := h4 c hc
    rw [pBits_3 ha hc] at q3 q4 q5
    rw [pBits_3 ha hc]
    refine ⟨?_, ?_, (upd_ne (by omega)).trans q3, (upd_ne (by omega)).trans q4, q5⟩
    · by_cases e3 : c = a
      · subst e3
        rw [pBits_W, List.length_append]
        show bs.length + 1 ≤ 32
        omega
      · unfold pBits at q1 ⊢
        rw [pW_other ha hc e3] at q1 ⊢
        exact q1
    · by_cases e3 : c = a
      · subst e3
        rw [pBits_W, upd_eq, List.length_append]
        rfl
      · unfold pBits at q2 ⊢
        rw [pW_other ha hc e3] at q2 ⊢
        rw [upd_ne (by omega)]
        exact q2
  · rw [upd_ne (by omega)]; exact h5
  · rw [upd_ne (by omega)]; exact h6
theorem and15 (x : Int32) : ∃ d, d < 16 ∧ x &&& 15 = nI d := ⟨_, Nat.mod_lt _ (by decide), pk_and x (m := 15) 4 (by decide)⟩
theorem and1E (x : Int32) : ∃ a, a < 2 ∧ x &&& 1 = nI a := ⟨_, Nat.mod_lt _ (by decide), pk_and x (m := 1) 1 (by decide)⟩
