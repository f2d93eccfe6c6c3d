theorem tx_sum {a k n : Nat} {ch : Nat → Int32} (ha : a < 2) (h : TXq a k ch) (hn : n = 2 + k) : bfT ch 0 n + bfT ch 1 n = nI (4 * k) := by
  subst hn
  rw [tx_bf ha h k (Nat.le_refl k), tx_bf ha h k (Nat.le_refl k)]
  rcases (show a = 0 ∨ a = 1 by omega) with rfl | rfl
  · rw [if_pos (show nI 0 = 0 from rfl), if_neg (show ¬ nI 0 = 1 by decide), Int32.add_zero]
  · rw [if_neg (show ¬ nI 1 = 0 by decide), if_pos (show nI 1 = 1 from rfl), Int32.zero_add]
theorem tx_sy {a k n : Nat} {ch : Nat → Int32} {p : PS} (ha : a < 2) (h : TXq a k ch) (hn : n = 2 + k) (hk : k ≤ 3) (h0 : (pW p 0).2.1.length ≤ 32) (h1 : (pW p 1).2.1.length ≤ 32) : ¬ bSy p n ch := by
  subst hn
  have b : ∀ w : Int32, ∃ m, m ≤ 12 ∧ bfT ch w (2 + k) = nI m := fun w => by
    rw [tx_bf ha h k (Nat.le_refl k)]
    split
    · exact ⟨4 * k, by omega, rfl⟩
    · exact ⟨0, by decide, rfl⟩
  obtain ⟨m0, b0, e0⟩ := b 0
  obtain ⟨m1, b1, e1⟩ := b 1
  have h0' : p.2.2.2.1.2.1.length ≤ 32 := h0
  have h1' : p.2.2.2.2.2.1.length ≤ 32 := h1
  rintro (q | q)
  · rw [e0, nI_add] at q
    exact nI_nlt (a := 256) (by omega) (by decide) q
  · rw [e1, nI_add] at q
    exact nI_nlt (a := 256) (by omega) (by decide) q
set_option maxRecDepth 100000 in
set_option maxHeartbeats 4000000 in
theorem m_L_say {E : gE} {ad : Nat → Nat} {ws : va_W} {x y : Int32} {B m : Nat} (hWD : WD E ad ws B m) (hm1 : m ≤ 1) : C0 E YL_say 0 0 [.ref (ad 0), .int x, .int y, .ref (ad 219), .ref (ad 220)] ws (fun v w => v = some (.int 1) ∧ WD E ad w (B + 30) m) := by
  obtain ⟨p, sv, sc, r, len, ch, ze, hM, hL, hG, hs, hb, hsc, hm⟩ := id hWD
  refine c0S vL_say (Nat.le_of_ble_eq_true rfl) (lv0 := [(0, .ref (ad 0)), (1, .int x), (2, .int y), (3, .ref (ad 219)), (4, .ref (ad 220))]) rfl ?_
  refine ev_ss DL_say_0 1 0 (pc' := 1) (lv' := [(0, .ref _), (1, .int _), (2, .int _), (3, .ref _), (4, .ref _)]) (st' := [.ref _]) rfl ?_
  refine ev_rV DL_say_0 1 (m_X6_clearBuffer hM) vX6_clearBuffer rfl qL_92 rfl hM.1 rfl (hd_of rfl rfl rfl rfl) (fun v wn hvw => ?_)
  obtain ⟨rfl, hM0, hF0⟩ := hvw
  have hL0 : LM E ad wn p ze := hL.of (fun j a b => hF0 j a)
  obtain ⟨zq, zu, za, zn, zd, zw, zc, zt, zh, hC, hT, hW, hS⟩ := id hL0
  obtain ⟨hzq, hzu, hza, hzn, hzd, hzw, hzc, hzt, hze, hzh⟩ := id hC
  refine ev_ss DL_say_0 4 2 (pc' := 8) (lv' := [(0, .ref _), (1, .int _), (2, .int _), (3, .ref _), (4, .ref _)]) (st' := [.int _]) rfl ?_
  obtain ⟨a, ha, ea⟩ := and1E x
  obtain ⟨q1, q2, -, -, -⟩ := hW.2.1 a ha
  obtain ⟨L, eL⟩ : ∃ L, L = (pW p a).2.1.length := ⟨_, rfl⟩
  rw [← eL] at q1 q2
  refine ev_topv ea ?_
  refine ev_ss DL_say_0 6 6 (pc' := 15) (lv' := [(5, .int _), (0, .ref _), (1, .int _), (2, .int _), (3, .ref _), (4, .ref _)]) (st' := [.int 3, .int _, .int 1]) rfl ?_
  refine ev_rS DL_say_0 12 (m_L_atE (n := 3) rfl (by decide) (by decide)) vL_at rfl qL_96 rfl (hd_of rfl rfl rfl rfl) (fun v_ w_ h_ => ?_)
  obtain ⟨⟨r3, hr3, rfl⟩, rfl⟩ := h_
  refine ev_ss DL_say_0 1 13 (pc' := 19) (lv' := [(5, .int _), (0, .ref _), (1, .int _), (2, .int _), (3, .ref _), (4, .ref _)]) (st' := [.int _]) rfl ?_
  refine ev_topv (nx_add (a := 1) (b := r3) rfl rfl) ?_
  refine ev_ss DL_say_0 5 14 (pc' := 27) (lv' := [(6, .int _), (5, .int _), (0, .ref _), (1, .int _), (2, .int _), (3, .ref _), (4, .ref _)]) (st' := [.int _, .ref _]) rfl ?_
  refine ev_ialdv DL_say_0 19 (k0 := (2 + a)) rfl hzc (nx_add (a := 2) (b := a) rfl rfl) (by omega) (by decide) (q2) ?_
  refine ev_ss DL_say_0 4 20 (pc' := 33) (lv' := [(6, .int _), (5, .int _), (0, .ref _), (1, .int _), (2, .int _), (3, .ref _), (4, .ref _)]) (st' := [.int _]) rfl ?_
  refine ev_topv (nx_add (a := L) (b := (4 * (1 + r3))) rfl (nx_mul (a := 4) (b := (1 + r3)) rfl rfl)) ?_
  refine ev_ss DL_say_0 1 24 (pc' := 35) (lv' := [(6, .int _), (5, .int _), (0, .ref _), (1, .int _), (2, .int _), (3, .ref _), (4, .ref _)]) (st' := [.int 32, .int _]) rfl ?_
  refine ev_icle DL_say_0 25 rfl (tgt := 40) (by decide) (fun c_1 => ?_) (fun c_1 => ?_)
  · have hle : L + 4 * (1 + r3) ≤ 32 := (nI_leI (by omega) (by decide)).mp c_1
    have hq01 : (pW p 0).2.1.length ≤ 32 ∧ (pW p 1).2.1.length ≤ 32 := ⟨(hW.2.1 0 (by decide)).1, (hW.2.1 1 (by decide)).1⟩
    refine ev_ss DL_say_0 4 28 (pc' := 46) (lv' := [(6, .int _), (5, .int _), (0, .ref _), (1, .int _), (2, .int _), (3, .ref _), (4, .ref _)]) (st' := [.int _, .ref _]) rfl ?_
    refine ev_topv (nx_add (a := 97) (b := a) rfl rfl) ?_
    refine ev_rV DL_say_0 32 (m_X6_append hM0 (c := 97 + a) (by omega) (by omega) (by decide)) vX6_append rfl qL_99 rfl hM0.1 rfl (hd_of rfl rfl rfl rfl) (fun v wn hvw => ?_)
    obtain ⟨rfl, hM1, hF1⟩ := hvw
    have hL1 : LM E ad wn p ze := hL0.of (fun j a b => hF1 j a)
    refine ev_ss DL_say_0 1 33 (pc' := 50) (lv' := [(6, .int _), (5, .int _), (0, .ref _), (1, .int _), (2, .int _), (3, .ref _), (4, .ref _)]) (st' := [.int 1, .int _]) rfl ?_
    refine ev_icne DL_say_0 34 rfl (tgt := 67) (by decide) (fun h => h.elim (by decide)) (fun _ => ?_)
    refine ev_ss DL_say_0 2 35 (pc' := 56) (lv' := [(6, .int _), (5, .int _), (0, .ref _), (1, .int _), (2, .int _), (3, .ref _), (4, .ref _)]) (st' := [.int 58, .ref _]) rfl ?_
    refine ev_rV DL_say_0 37 (m_X6_append hM1 (c := 58) (by decide) (by decide) (by decide)) vX6_append rfl qL_99 rfl hM1.1 rfl (hd_of rfl rfl rfl rfl) (fun v wn hvw => ?_)
    obtain ⟨rfl, hM2, hF2⟩ := hvw
    have hL2 : LM E ad wn p ze := hL1.of (fun j a b => hF2 j a)
    refine ev_ss DL_say_0 1 38 (pc' := 60) (lv' := [(6, .int _), (5, .int _), (0, .ref _), (1, .int _), (2, .int _), (3, .ref _), (4, .ref _)]) (st' := [.int 2, .int _]) rfl ?_
    refine ev_icne DL_say_0 39 rfl (tgt := 67) (by decide) (fun h => h.elim (by decide)) (fun _ => ?_)
    refine ev_ss DL_say_0 1 40 (pc' := 64) (lv' := [(6, .int _), (5, .int _), (0, .ref _), (1, .int _), (2, .int _), (3, .ref _), (4, .ref _)]) (st' := [.int 1]) rfl ?_
    refine ev_goto DL_say_0 41 rfl (tgt := 68) (by decide) ?_
    refine ev_ss DL_say_0 3 43 (pc' := 73) (lv' := [(8, .int 0), (7, .int 1), (6, .int _), (5, .int _), (0, .ref _), (1, .int _), (2, .int _), (3, .ref _), (4, .ref _)]) (st' := []) rfl ?_
    refine ev_lvp (lv2 := [(0, .ref _), (1, .int _), (2, .int _), (3, .ref _), (4, .ref _), (5, .int _), (6, .int _), (7, .int _), (8, .int _)]) [4, 5, 6, 7, 8, 3, 2, 1, 0] rfl ?_
    suffices K : ∀ (m2 i : Nat) (x2 : Int32) (w : va_W) (ch1 : Nat → Int32), i + m2 = 1 + r3 → x2 = nI i → MW E ad w p sv sc r (2 + i) ch1 → TXq a i ch1 → LM E ad w (pBits p a ((pW p a).2.1 ++ DGc ch1 i)) ze → Ev E YL_say (fun v w => v = some (.int 1) ∧ WD E ad w (B + 30) m) nX 0 0 73 [(0, .ref (ad 0)), (1, .int x), (2, .int y), (3, .ref (ad 219)), (4, .ref (ad 220)), (5, .int (nI a)), (6, .int (nI (1 + r3))), (7, .int 1), (8, .int x2)] [] w from
      K (1 + r3) 0 _ _ _ (Nat.zero_add _) nI_0.symm hM2 ⟨(upd_ne (by decide)).trans upd_eq, upd_eq, fun j hj => absurd hj (Nat.not_lt_zero j)⟩ (by rw [show (pW p a).2.1 ++ DGc _ 0 = (pW p a).2.1 from List.append_nil _, pBits_id]; exact hL2)
    clear hM0 hM1 hM2 hL0 hL1 hL2 hC hT hW hS hzq hzu hza hzn hzd hzw hzc hzt hze hzh
    intro m2
    induction m2 with
    | zero =>
      intro i x2 w ch1 hm2 hx hMw hX hLw
      obtain rfl : i = 1 + r3 := by omega
      subst hx
      refine ev_ss DL_say_0 2 46 (pc' := 77) (lv' := [(0, .ref _), (1, .int _), (2, .int _), (3, .ref _), (4, .ref _), (5, .int _), (6, .int _), (7, .int 1), (8, .int _)]) (st' := [.int _, .int _]) rfl ?_
      refine ev_icge DL_say_0 48 rfl (tgt := 187) (by decide) (fun _ => ?_) (fun h => h.elim (nI_le (Nat.le_refl _) (by omega)))
      refine ev_ss DL_say_0 1 112 (pc' := 189) (lv' := [(0, .ref _), (1, .int _), (2, .int _), (3, .ref _), (4, .ref _), (5, .int _), (6, .int _), (7, .int 1), (8, .int _)]) (st' := [.int 1]) rfl ?_
      refine ev_ifeq DL_say_0 113 rfl (tgt := 225) (by decide) (fun h => absurd h (by decide)) (fun _ => ?_)
      refine ev_ss DL_say_0 1 114 (pc' := 193) (lv' := [(0, .ref _), (1, .int _), (2, .int _), (3, .ref _), (4, .ref _), (5, .int _), (6, .int _), (7, .int 1), (8, .int _)]) (st' := [.ref _]) rfl ?_
      refine ev_cV DL_say_0 115 (m_X6_firstError hMw) vX6_firstError rfl qL_102 rfl hMw.1 rfl (hd_of rfl rfl rfl rfl) ?_
      refine ev_ss DL_say_0 3 116 (pc' := 200) (lv' := [(0, .ref _), (1, .int _), (2, .int _), (3, .ref _), (4, .ref _), (5, .int _), (6, .int _), (7, .int 1), (8, .int _)]) (st' := [.int _, .int _]) rfl ?_
      refine ev_topv (nx_add (a := (1 + r3)) (b := 2) rfl rfl) ?_
      refine ev_icne DL_say_0 119 rfl (tgt := 225) (by decide) (fun h => h.elim ((tx_er ha hX (2 + (1 + r3)) 0 (by omega)).trans (congrArg nI (by omega)))) (fun _ => ?_)
      refine ev_ss DL_say_1 1 0 (pc' := 204) (lv' := [(0, .ref _), (1, .int _), (2, .int _), (3, .ref _), (4, .ref _), (5, .int _), (6, .int _), (7, .int 1), (8, .int _)]) (st' := [.ref _]) rfl ?_
      refine ev_rV DL_say_1 1 (m_X6_say hMw hsc (by rw [show 2 + (1 + r3) = 2 + r3 + 1 by omega]; exact tx_3 ha hX r3 (by omega)) (tx_sy ha hX rfl (by omega) hq01.1 hq01.2)) vX6_say rfl qL_105 rfl hMw.1 rfl (hd_of rfl rfl rfl rfl) (fun v wn hvw => ?_)
      obtain ⟨rfl, ⟨r2, hM2⟩, hFO⟩ := hvw
      rw [tx_say ha hX] at hM2
      have hL2 := LM.of hLw (fun j a b => hFO j a)
      have hG2 : GI (pBits p a ((pW p a).2.1 ++ DGc ch1 (1 + r3))) := by rw [← tx_say ha hX]; exact hG.say
      refine ev_ss DL_say_1 3 2 (pc' := 211) (lv' := [(0, .ref _), (1, .int _), (2, .int _), (3, .ref _), (4, .ref _), (5, .int _), (6, .int _), (7, .int 1), (8, .int _)]) (st' := [.int _, .int _]) rfl ?_
      refine ev_topv (nx_mul (a := 4) (b := (1 + r3)) rfl rfl) ?_
      refine ev_icne DL_say_1 5 rfl (tgt := 225) (by decide) (fun h => h.elim (tx_sum ha hX rfl)) (fun _ => ?_)
      refine ev_ss DL_say_1 1 6 (pc' := 215) (lv' := [(0, .ref _), (1, .int _), (2, .int _), (3, .ref _), (4, .ref _), (5, .int _), (6, .int _), (7, .int 1), (8, .int _)]) (st' := [.ref _]) rfl ?_
      refine ev_rV DL_say_1 7 (m_X6_clearBuffer hM2) vX6_clearBuffer rfl qL_92 rfl hM2.1 rfl (hd_of rfl rfl rfl rfl) (fun v wn hvw => ?_)
      obtain ⟨rfl, hM3, hF3⟩ := hvw
      have hL3 := LM.of hL2 (fun j a b => hF3 j a)
      have hWD2 : WD E ad wn (B + 30) 1 := WD.nw (p := p) hM3 hL3 hG2 hs hb rfl (by omega) hsc
      refine ev_ifne DL_say_1 8 rfl (tgt := 225) (by decide) (fun h => h.elim rfl) (fun _ => ?_)
      refine ev_ss DL_say_1 1 9 (pc' := 222) (lv' := [(0, .ref _), (1, .int _), (2, .int _), (3, .ref _), (4, .ref _), (5, .int _), (6, .int _), (7, .int 1), (8, .int _)]) (st' := [.int 1]) rfl ?_
      refine ev_goto DL_say_1 10 rfl (tgt := 226) (by decide) ?_
      exact ev_zret DL_say_1 12 rfl rfl rfl ⟨rfl, hWD2.le (Nat.le_refl _) hm1⟩
    | succ m2 ih =>
      intro i x2 w ch1 hm2 hx hMw hX hLw
      subst hx
      refine ev_ss DL_say_0 2 46 (pc' := 77) (lv' := [(0, .ref _), (1, .int _), (2, .int _), (3, .ref _), (4, .ref _), (5, .int _), (6, .int _), (7, .int 1), (8, .int _)]) (st' := [.int _, .int _]) rfl ?_
      refine ev_icge DL_say_0 48 rfl (tgt := 187) (by decide) (fun h => absurd h (nI_ge (b := 1 + r3) (by omega) (by omega))) (fun _ => ?_)
      refine ev_ss DL_say_0 1 49 (pc' := 82) (lv' := [(0, .ref _), (1, .int _), (2, .int _), (3, .ref _), (4, .ref _), (5, .int _), (6, .int _), (7, .int 1), (8, .int _)]) (st' := [.int 1]) rfl ?_
      refine ev_ifeq DL_say_0 50 rfl (tgt := 187) (by decide) (fun h => absurd h (by decide)) (fun _ => ?_)
      refine ev_ss DL_say_0 7 51 (pc' := 94) (lv' := [(0, .ref _), (1, .int _), (2, .int _), (3, .ref _), (4, .ref _), (5, .int _), (6, .int _), (7, .int 1), (8, .int _)]) (st' := [.int _]) rfl ?_
      obtain ⟨d, hd, ed⟩ := and15 (y >>> (((4 : Int32) * nI i) &&& 31))
      refine ev_topv ed ?_
      refine ev_ss DL_say_0 4 58 (pc' := 101) (lv' := [(9, .int _), (0, .ref _), (1, .int _), (2, .int _), (3, .ref _), (4, .ref _), (5, .int _), (6, .int _), (7, .int 1), (8, .int _)]) (st' := [.int 10, .int _, .ref _]) rfl ?_
      refine ev_icge DL_say_0 62 rfl (tgt := 112) (by decide) (fun c_3 => ?_) (fun c_3 => ?_)
      · have hd10 : 10 ≤ d := (nI_leI (a := 10) (by decide) (by omega)).mp c_3
        refine ev_ss DL_say_0 3 67 (pc' := 117) (lv' := [(9, .int _), (0, .ref _), (1, .int _), (2, .int _), (3, .ref _), (4, .ref _), (5, .int _), (6, .int _), (7, .int 1), (8, .int _)]) (st' := [.int _, .ref _]) rfl ?_
        refine ev_topv (nx_add (a := 87) (b := d) rfl rfl) ?_
        refine ev_rV DL_say_0 70 (m_X6_append hMw (c := 87 + d) (by omega) (by omega) (by omega)) vX6_append rfl qL_99 rfl hMw.1 rfl (hd_of rfl rfl rfl rfl) (fun v wn hvw => ?_)
        obtain ⟨rfl, hM9, hF9⟩ := hvw
        have hL9 := LM.of hLw (fun j a b => hF9 j a)
        obtain ⟨zq, zu, za, zn, zd, zw, zc, zt, zh, hC, hT, hW, hS⟩ := id hL9
        obtain ⟨hzq, hzu, hza, hzn, hzd, hzw, hzc, hzt, hze, hzh⟩ := id hC
        obtain ⟨q1, q2, -, -, -⟩ := hW.2.1 a ha
        obtain ⟨L0, eL0⟩ : ∃ L0, L0 = ((pW p a).2.1 ++ DGc ch1 i).length := ⟨_, rfl⟩
        rw [pBits_W, ← eL0] at q2
        have hc2 := q2
        have eL1 := eL0
        rw [List.length_append, DGc_len, ← eL] at eL1
        refine ev_ss DL_say_0 3 71 (pc' := 124) (lv' := [(9, .int _), (0, .ref _), (1, .int _), (2, .int _), (3, .ref _), (4, .ref _), (5, .int _), (6, .int _), (7, .int 1), (8, .int _)]) (st' := [.int _, .int _]) rfl ?_
        refine ev_topv (nx_add (a := i) (b := 3) rfl rfl) ?_
        refine ev_icne DL_say_0 74 rfl (tgt := 131) (by decide) (fun h => h.elim (congrArg nI (by omega))) (fun _ => ?_)
        refine ev_ss DL_say_0 1 75 (pc' := 128) (lv' := [(9, .int _), (0, .ref _), (1, .int _), (2, .int _), (3, .ref _), (4, .ref _), (5, .int _), (6, .int _), (7, .int 1), (8, .int _)]) (st' := [.int 1]) rfl ?_
        refine ev_goto DL_say_0 76 rfl (tgt := 132) (by decide) ?_
        refine ev_ss DL_say_0 4 78 (pc' := 139) (lv' := [(10, .int 3), (7, .int 1), (9, .int _), (0, .ref _), (1, .int _), (2, .int _), (3, .ref _), (4, .ref _), (5, .int _), (6, .int _), (8, .int _)]) (st' := [.int 3]) rfl ?_
        refine ev_iflt DL_say_0 82 rfl (tgt := 181) (by decide) (fun h => absurd h (by decide)) (fun _ => ?_)
        refine ev_ss DL_say_0 8 83 (pc' := 154) (lv' := [(10, .int 3), (7, .int 1), (9, .int _), (0, .ref _), (1, .int _), (2, .int _), (3, .ref _), (4, .ref _), (5, .int _), (6, .int _), (8, .int _)]) (st' := [.int _, .ref _, .int _, .ref _]) rfl ?_
        refine ev_ialdv DL_say_0 91 (k0 := (2 + a)) rfl hzc (nx_add (a := 2) (b := a) rfl rfl) (by omega) (by decide) (hc2) ?_
        refine ev_ss DL_say_0 6 92 (pc' := 163) (lv' := [(10, .int 3), (7, .int 1), (9, .int _), (0, .ref _), (1, .int _), (2, .int _), (3, .ref _), (4, .ref _), (5, .int _), (6, .int _), (8, .int _)]) (st' := [.int _, .int _, .ref _]) rfl ?_
        refine ev_iastv DL_say_0 98 (k0 := ((32 * a) + L0)) rfl hzw (nx_add (a := (32 * a)) (b := L0) (nx_mul (a := 32) (b := a) rfl rfl) rfl) (by omega) (by decide) rfl ?_
        refine ev_ss DL_say_0 5 99 (pc' := 171) (lv' := [(10, .int 3), (7, .int 1), (9, .int _), (0, .ref _), (1, .int _), (2, .int _), (3, .ref _), (4, .ref _), (5, .int _), (6, .int _), (8, .int _)]) (st' := [.int _, .ref _, .int _, .ref _]) rfl ?_
        refine ev_ialdv DL_say_0 104 (k0 := (2 + a)) rfl (wset_n hzc (by decide)) (nx_add (a := 2) (b := a) rfl rfl) (by omega) (by decide) (hc2) ?_
        refine ev_ss DL_say_0 2 105 (pc' := 174) (lv' := [(10, .int 3), (7, .int 1), (9, .int _), (0, .ref _), (1, .int _), (2, .int _), (3, .ref _), (4, .ref _), (5, .int _), (6, .int _), (8, .int _)]) (st' := [.int _, .int _, .ref _]) rfl ?_
        refine ev_iastv DL_say_0 107 (k0 := (2 + a)) rfl (wset_n hzc (by decide)) (nx_add (a := 2) (b := a) rfl rfl) (by omega) (by decide) rfl ?_
        refine ev_ss DL_say_0 1 108 (pc' := 178) (lv' := [(10, .int 2), (7, .int 1), (9, .int _), (0, .ref _), (1, .int _), (2, .int _), (3, .ref _), (4, .ref _), (5, .int _), (6, .int _), (8, .int _)]) (st' := []) rfl ?_
        refine ev_goto DL_say_0 109 rfl (tgt := 137) (by decide) ?_
        refine ev_ss DL_say_0 1 81 (pc' := 139) (lv' := [(10, .int 2), (7, .int 1), (9, .int _), (0, .ref _), (1, .int _), (2, .int _), (3, .ref _), (4, .ref _), (5, .int _), (6, .int _), (8, .int _)]) (st' := [.int 2]) rfl ?_
        refine ev_iflt DL_say_0 82 rfl (tgt := 181) (by decide) (fun h => absurd h (by decide)) (fun _ => ?_)
        refine ev_ss DL_say_0 8 83 (pc' := 154) (lv' := [(10, .int 2), (7, .int 1), (9, .int _), (0, .ref _), (1, .int _), (2, .int _), (3, .ref _), (4, .ref _), (5, .int _), (6, .int _), (8, .int _)]) (st' := [.int _, .ref _, .int _, .ref _]) rfl ?_
        refine ev_ialdv DL_say_0 91 (k0 := (2 + a)) rfl (wset_get (wset_n hzc (by decide))) (nx_add (a := 2) (b := a) rfl rfl) (by omega) (by decide) (upd_eq) ?_
        refine ev_ss DL_say_0 6 92 (pc' := 163) (lv' := [(10, .int 2), (7, .int 1), (9, .int _), (0, .ref _), (1, .int _), (2, .int _), (3, .ref _), (4, .ref _), (5, .int _), (6, .int _), (8, .int _)]) (st' := [.int _, .int _, .ref _]) rfl ?_
        refine ev_iastv DL_say_0 98 (k0 := ((32 * a) + (L0 + 1))) rfl (wset_n (wset_get hzw) (by decide)) (nx_add (a := (32 * a)) (b := (L0 + 1)) (nx_mul (a := 32) (b := a) rfl rfl) (nx_add (a := L0) (b := 1) rfl rfl)) (by omega) (by decide) rfl ?_
        refine ev_ss DL_say_0 5 99 (pc' := 171) (lv' := [(10, .int 2), (7, .int 1), (9, .int _), (0, .ref _), (1, .int _), (2, .int _), (3, .ref _), (4, .ref _), (5, .int _), (6, .int _), (8, .int _)]) (st' := [.int _, .ref _, .int _, .ref _]) rfl ?_
        refine ev_ialdv DL_say_0 104 (k0 := (2 + a)) rfl (wset_n (wset_get (wset_n hzc (by decide))) (by decide)) (nx_add (a := 2) (b := a) rfl rfl) (by omega) (by decide) (upd_eq) ?_
        refine ev_ss DL_say_0 2 105 (pc' := 174) (lv' := [(10, .int 2), (7, .int 1), (9, .int _), (0, .ref _), (1, .int _), (2, .int _), (3, .ref _), (4, .ref _), (5, .int _), (6, .int _), (8, .int _)]) (st' := [.int _, .int _, .ref _]) rfl ?_
        refine ev_iastv DL_say_0 107 (k0 := (2 + a)) rfl (wset_n (wset_get (wset_n hzc (by decide))) (by decide)) (nx_add (a := 2) (b := a) rfl rfl) (by omega) (by decide) rfl ?_
        refine ev_ss DL_say_0 1 108 (pc' := 178) (lv' := [(10, .int 1), (7, .int 1), (9, .int _), (0, .ref _), (1, .int _), (2, .int _), (3, .ref _), (4, .ref _), (5, .int _), (6, .int _), (8, .int _)]) (st' := []) rfl ?_
        refine ev_goto DL_say_0 109 rfl (tgt := 137) (by decide) ?_
        refine ev_ss DL_say_0 1 81 (pc' := 139) (lv' := [(10, .int 1), (7, .int 1), (9, .int _), (0, .ref _), (1, .int _), (2, .int _), (3, .ref _), (4, .ref _), (5, .int _), (6, .int _), (8, .int _)]) (st' := [.int 1]) rfl ?_
        refine ev_iflt DL_say_0 82 rfl (tgt := 181) (by decide) (fun h => absurd h (by decide)) (fun _ => ?_)
        refine ev_ss DL_say_0 8 83 (pc' := 154) (lv' := [(10, .int 1), (7, .int 1), (9, .int _), (0, .ref _), (1, .int _), (2, .int _), (3, .ref _), (4, .ref _), (5, .int _), (6, .int _), (8, .int _)]) (st' := [.int _, .ref _, .int _, .ref _]) rfl ?_
        refine ev_ialdv DL_say_0 91 (k0 := (2 + a)) rfl (wset_get (wset_n (wset_get (wset_n hzc (by decide))) (by decide))) (nx_add (a := 2) (b := a) rfl rfl) (by omega) (by decide) (upd_eq) ?_
        refine ev_ss DL_say_0 6 92 (pc' := 163) (lv' := [(10, .int 1), (7, .int 1), (9, .int _), (0, .ref _), (1, .int _), (2, .int _), (3, .ref _), (4, .ref _), (5, .int _), (6, .int _), (8, .int _)]) (st' := [.int _, .int _, .ref _]) rfl ?_
        refine ev_iastv DL_say_0 98 (k0 := ((32 * a) + ((L0 + 1) + 1))) rfl (wset_n (wset_get (wset_n (wset_get hzw) (by decide))) (by decide)) (nx_add (a := (32 * a)) (b := ((L0 + 1) + 1)) (nx_mul (a := 32) (b := a) rfl rfl) (nx_add (a := (L0 + 1)) (b := 1) (nx_add (a := L0) (b := 1) rfl rfl) rfl)) (by omega) (by decide) rfl ?_
        refine ev_ss DL_say_0 5 99 (pc' := 171) (lv' := [(10, .int 1), (7, .int 1), (9, .int _), (0, .ref _), (1, .int _), (2, .int _), (3, .ref _), (4, .ref _), (5, .int _), (6, .int _), (8, .int _)]) (st' := [.int _, .ref _, .int _, .ref _]) rfl ?_
        refine ev_ialdv DL_say_0 104 (k0 := (2 + a)) rfl (wset_n (wset_get (wset_n (wset_get (wset_n hzc (by decide))) (by decide))) (by decide)) (nx_add (a := 2) (b := a) rfl rfl) (by omega) (by decide) (upd_eq) ?_
        refine ev_ss DL_say_0 2 105 (pc' := 174) (lv' := [(10, .int 1), (7, .int 1), (9, .int _), (0, .ref _), (1, .int _), (2, .int _), (3, .ref _), (4, .ref _), (5, .int _), (6, .int _), (8, .int _)]) (st' := [.int _, .int _, .ref _]) rfl ?_
        refine ev_iastv DL_say_0 107 (k0 := (2 + a)) rfl (wset_n (wset_get (wset_n (wset_get (wset_n hzc (by decide))) (by decide))) (by decide)) (nx_add (a := 2) (b := a) rfl rfl) (by omega) (by decide) rfl ?_
        refine ev_ss DL_say_0 1 108 (pc' := 178) (lv' := [(10, .int 0), (7, .int 1), (9, .int _), (0, .ref _), (1, .int _), (2, .int _), (3, .ref _), (4, .ref _), (5, .int _), (6, .int _), (8, .int _)]) (st' := []) rfl ?_
        refine ev_goto DL_say_0 109 rfl (tgt := 137) (by decide) ?_
        refine ev_ss DL_say_0 1 81 (pc' := 139) (lv' := [(10, .int 0), (7, .int 1), (9, .int _), (0, .ref _), (1, .int _), (2, .int _), (3, .ref _), (4, .ref _), (5, .int _), (6, .int _), (8, .int _)]) (st' := [.int 0]) rfl ?_
        refine ev_iflt DL_say_0 82 rfl (tgt := 181) (by decide) (fun h => absurd h (by decide)) (fun _ => ?_)
        refine ev_ss DL_say_0 8 83 (pc' := 154) (lv' := [(10, .int 0), (7, .int 1), (9, .int _), (0, .ref _), (1, .int _), (2, .int _), (3, .ref _), (4, .ref _), (5, .int _), (6, .int _), (8, .int _)]) (st' := [.int _, .ref _, .int _, .ref _]) rfl ?_
        refine ev_ialdv DL_say_0 91 (k0 := (2 + a)) rfl (wset_get (wset_n (wset_get (wset_n (wset_get (wset_n hzc (by decide))) (by decide))) (by decide))) (nx_add (a := 2) (b := a) rfl rfl) (by omega) (by decide) (upd_eq) ?_
        refine ev_ss DL_say_0 6 92 (pc' := 163) (lv' := [(10, .int 0), (7, .int 1), (9, .int _), (0, .ref _), (1, .int _), (2, .int _), (3, .ref _), (4, .ref _), (5, .int _), (6, .int _), (8, .int _)]) (st' := [.int _, .int _, .ref _]) rfl ?_
        refine ev_iastv DL_say_0 98 (k0 := ((32 * a) + (((L0 + 1) + 1) + 1))) rfl (wset_n (wset_get (wset_n (wset_get (wset_n (wset_get hzw) (by decide))) (by decide))) (by decide)) (nx_add (a := (32 * a)) (b := (((L0 + 1) + 1) + 1)) (nx_mul (a := 32) (b := a) rfl rfl) (nx_add (a := ((L0 + 1) + 1)) (b := 1) (nx_add (a := (L0 + 1)) (b := 1) (nx_add (a := L0) (b := 1) rfl rfl) rfl) rfl)) (by omega) (by decide) rfl ?_
        refine ev_ss DL_say_0 5 99 (pc' := 171) (lv' := [(10, .int 0), (7, .int 1), (9, .int _), (0, .ref _), (1, .int _), (2, .int _), (3, .ref _), (4, .ref _), (5, .int _), (6, .int _), (8, .int _)]) (st' := [.int _, .ref _, .int _, .ref _]) rfl ?_
        refine ev_ialdv DL_say_0 104 (k0 := (2 + a)) rfl (wset_n (wset_get (wset_n (wset_get (wset_n (wset_get (wset_n hzc (by decide))) (by decide))) (by decide))) (by decide)) (nx_add (a := 2) (b := a) rfl rfl) (by omega) (by decide) (upd_eq) ?_
        refine ev_ss DL_say_0 2 105 (pc' := 174) (lv' := [(10, .int 0), (7, .int 1), (9, .int _), (0, .ref _), (1, .int _), (2, .int _), (3, .ref _), (4, .ref _), (5, .int _), (6, .int _), (8, .int _)]) (st' := [.int _, .int _, .ref _]) rfl ?_
        refine ev_iastv DL_say_0 107 (k0 := (2 + a)) rfl (wset_n (wset_get (wset_n (wset_get (wset_n (wset_get (wset_n hzc (by decide))) (by decide))) (by decide))) (by decide)) (nx_add (a := 2) (b := a) rfl rfl) (by omega) (by decide) rfl ?_
        refine ev_ss DL_say_0 1 108 (pc' := 178) (lv' := [(10, .int (-1)), (7, .int 1), (9, .int _), (0, .ref _), (1, .int _), (2, .int _), (3, .ref _), (4, .ref _), (5, .int _), (6, .int _), (8, .int _)]) (st' := []) rfl ?_
        refine ev_goto DL_say_0 109 rfl (tgt := 137) (by decide) ?_
        refine ev_ss DL_say_0 1 81 (pc' := 139) (lv' := [(10, .int (-1)), (7, .int 1), (9, .int _), (0, .ref _), (1, .int _), (2, .int _), (3, .ref _), (4, .ref _), (5, .int _), (6, .int _), (8, .int _)]) (st' := [.int (-1)]) rfl ?_
        refine ev_iflt DL_say_0 82 rfl (tgt := 181) (by decide) (fun _ => ?_) (fun h => h.elim (by decide))
        refine ev_ss DL_say_0 1 110 (pc' := 184) (lv' := [(8, .int _), (10, .int (-1)), (7, .int 1), (9, .int _), (0, .ref _), (1, .int _), (2, .int _), (3, .ref _), (4, .ref _), (5, .int _), (6, .int _)]) (st' := []) rfl ?_
        refine ev_goto DL_say_0 111 rfl (tgt := 73) (by decide) ?_
        refine ev_lvp (lv2 := [(0, .ref _), (1, .int _), (2, .int _), (3, .ref _), (4, .ref _), (5, .int _), (6, .int _), (7, .int _), (8, .int _)]) [4, 5, 6, 7, 8, 9, 10, 2, 0] rfl ?_
        have ecd := cd_hi d hd hd10
        have eDG : (pW p a).2.1 ++ DGc (upd ch1 (2 + i) (nI (87 + d))) (i + 1) = (((((pW p a).2.1 ++ DGc ch1 i) ++ [(nI d >>> ((3 : Int32) &&& 31)) &&& 1]) ++ [(nI d >>> ((2 : Int32) &&& 31)) &&& 1]) ++ [(nI d >>> ((1 : Int32) &&& 31)) &&& 1]) ++ [(nI d >>> ((0 : Int32) &&& 31)) &&& 1] := by
          rw [DGc.put ecd.2.2]
          unfold dg4
          simp only [List.append_assoc, List.cons_append, List.nil_append]
        refine ih (i + 1) _ _ _ (by omega) (nI_1 i) (hM9.mo ((((((((MO.rf.st (by decide) (by decide)).st (by decide) (by decide)).st (by decide) (by decide)).st (by decide) (by decide)).st (by decide) (by decide)).st (by decide) (by decide)).st (by decide) (by decide)).st (by decide) (by decide))) (hX.put ⟨ecd.1, ecd.2.1⟩) ?_
        rw [eDG]
        exact ⟨_, _, _, _, _, _, _, _, _, ⟨(wset_n (wset_n (wset_n (wset_n (wset_n (wset_n (wset_n (wset_n hzq (by decide)) (by decide)) (by decide)) (by decide)) (by decide)) (by decide)) (by decide)) (by decide)), (wset_n (wset_n (wset_n (wset_n (wset_n (wset_n (wset_n (wset_n hzu (by decide)) (by decide)) (by decide)) (by decide)) (by decide)) (by decide)) (by decide)) (by decide)), (wset_n (wset_n (wset_n (wset_n (wset_n (wset_n (wset_n (wset_n hza (by decide)) (by decide)) (by decide)) (by decide)) (by decide)) (by decide)) (by decide)) (by decide)), (wset_n (wset_n (wset_n (wset_n (wset_n (wset_n (wset_n (wset_n hzn (by decide)) (by decide)) (by decide)) (by decide)) (by decide)) (by decide)) (by decide)) (by decide)), (wset_n (wset_n (wset_n (wset_n (wset_n (wset_n (wset_n (wset_n hzd (by decide)) (by decide)) (by decide)) (by decide)) (by decide)) (by decide)) (by decide)) (by decide)), (wset_n (wset_get (wset_n (wset_get (wset_n (wset_get (wset_n (wset_get hzw) (by decide))) (by decide))) (by decide))) (by decide)), (wset_get (wset_n (wset_get (wset_n (wset_get (wset_n (wset_get (wset_n hzc (by decide))) (by decide))) (by decide))) (by decide))), (wset_n (wset_n (wset_n (wset_n (wset_n (wset_n (wset_n (wset_n hzt (by decide)) (by decide)) (by decide)) (by decide)) (by decide)) (by decide)) (by decide)) (by decide)), (wset_n (wset_n (wset_n (wset_n (wset_n (wset_n (wset_n (wset_n hze (by decide)) (by decide)) (by decide)) (by decide)) (by decide)) (by decide)) (by decide)) (by decide)), (wset_n (wset_n (wset_n (wset_n (wset_n (wset_n (wset_n (wset_n hzh (by decide)) (by decide)) (by decide)) (by decide)) (by decide)) (by decide)) (by decide)) (by decide))⟩, hT.bits2 ha, ((((hW.put ha eL0 (by omega) (nx_add (a := L0) (b := 1) rfl rfl)).put ha (by simp only [List.length_append, List.length_cons, List.length_nil]; simp only [List.length_append] at eL0; omega) (by omega) (nx_add (a := L0 + 1) (b := 1) (nx_add (a := L0) (b := 1) rfl rfl) rfl)).put ha (by simp only [List.length_append, List.length_cons, List.length_nil]; simp only [List.length_append] at eL0; omega) (by omega) (nx_add (a := L0 + 1 + 1) (b := 1) (nx_add (a := L0 + 1) (b := 1) (nx_add (a := L0) (b := 1) rfl rfl) rfl) rfl)).put ha (by simp only [List.length_append, List.length_cons, List.length_nil]; simp only [List.length_append] at eL0; omega) (by omega) (nx_add (a := L0 + 1 + 1 + 1) (b := 1) (nx_add (a := L0 + 1 + 1) (b := 1) (nx_add (a := L0 + 1) (b := 1) (nx_add (a := L0) (b := 1) rfl rfl) rfl) rfl) rfl)), fun j hj => hS j hj⟩
      · have hd10 : d < 10 := Nat.lt_of_not_le (fun e => c_3 (nI_le (a := 10) e (by omega)))
        refine ev_ss DL_say_0 3 63 (pc' := 109) (lv' := [(9, .int _), (0, .ref _), (1, .int _), (2, .int _), (3, .ref _), (4, .ref _), (5, .int _), (6, .int _), (7, .int 1), (8, .int _)]) (st' := [.int _, .ref _]) rfl ?_
        refine ev_goto DL_say_0 66 rfl (tgt := 117) (by decide) ?_
        refine ev_topv (nx_add (a := 48) (b := d) rfl rfl) ?_
        refine ev_rV DL_say_0 70 (m_X6_append hMw (c := 48 + d) (by omega) (by omega) (by omega)) vX6_append rfl qL_99 rfl hMw.1 rfl (hd_of rfl rfl rfl rfl) (fun v wn hvw => ?_)
        obtain ⟨rfl, hM9, hF9⟩ := hvw
        have hL9 := LM.of hLw (fun j a b => hF9 j a)
        obtain ⟨zq, zu, za, zn, zd, zw, zc, zt, zh, hC, hT, hW, hS⟩ := id hL9
        obtain ⟨hzq, hzu, hza, hzn, hzd, hzw, hzc, hzt, hze, hzh⟩ := id hC
        obtain ⟨q1, q2, -, -, -⟩ := hW.2.1 a ha
        obtain ⟨L0, eL0⟩ : ∃ L0, L0 = ((pW p a).2.1 ++ DGc ch1 i).length := ⟨_, rfl⟩
        rw [pBits_W, ← eL0] at q2
        have hc2 := q2
        have eL1 := eL0
        rw [List.length_append, DGc_len, ← eL] at eL1
        refine ev_ss DL_say_0 3 71 (pc' := 124) (lv' := [(9, .int _), (0, .ref _), (1, .int _), (2, .int _), (3, .ref _), (4, .ref _), (5, .int _), (6, .int _), (7, .int 1), (8, .int _)]) (st' := [.int _, .int _]) rfl ?_
        refine ev_topv (nx_add (a := i) (b := 3) rfl rfl) ?_
        refine ev_icne DL_say_0 74 rfl (tgt := 131) (by decide) (fun h => h.elim (congrArg nI (by omega))) (fun _ => ?_)
        refine ev_ss DL_say_0 1 75 (pc' := 128) (lv' := [(9, .int _), (0, .ref _), (1, .int _), (2, .int _), (3, .ref _), (4, .ref _), (5, .int _), (6, .int _), (7, .int 1), (8, .int _)]) (st' := [.int 1]) rfl ?_
        refine ev_goto DL_say_0 76 rfl (tgt := 132) (by decide) ?_
        refine ev_ss DL_say_0 4 78 (pc' := 139) (lv' := [(10, .int 3), (7, .int 1), (9, .int _), (0, .ref _), (1, .int _), (2, .int _), (3, .ref _), (4, .ref _), (5, .int _), (6, .int _), (8, .int _)]) (st' := [.int 3]) rfl ?_
        refine ev_iflt DL_say_0 82 rfl (tgt := 181) (by decide) (fun h => absurd h (by decide)) (fun _ => ?_)
        refine ev_ss DL_say_0 8 83 (pc' := 154) (lv' := [(10, .int 3), (7, .int 1), (9, .int _), (0, .ref _), (1, .int _), (2, .int _), (3, .ref _), (4, .ref _), (5, .int _), (6, .int _), (8, .int _)]) (st' := [.int _, .ref _, .int _, .ref _]) rfl ?_
        refine ev_ialdv DL_say_0 91 (k0 := (2 + a)) rfl hzc (nx_add (a := 2) (b := a) rfl rfl) (by omega) (by decide) (hc2) ?_
        refine ev_ss DL_say_0 6 92 (pc' := 163) (lv' := [(10, .int 3), (7, .int 1), (9, .int _), (0, .ref _), (1, .int _), (2, .int _), (3, .ref _), (4, .ref _), (5, .int _), (6, .int _), (8, .int _)]) (st' := [.int _, .int _, .ref _]) rfl ?_
        refine ev_iastv DL_say_0 98 (k0 := ((32 * a) + L0)) rfl hzw (nx_add (a := (32 * a)) (b := L0) (nx_mul (a := 32) (b := a) rfl rfl) rfl) (by omega) (by decide) rfl ?_
        refine ev_ss DL_say_0 5 99 (pc' := 171) (lv' := [(10, .int 3), (7, .int 1), (9, .int _), (0, .ref _), (1, .int _), (2, .int _), (3, .ref _), (4, .ref _), (5, .int _), (6, .int _), (8, .int _)]) (st' := [.int _, .ref _, .int _, .ref _]) rfl ?_
        refine ev_ialdv DL_say_0 104 (k0 := (2 + a)) rfl (wset_n hzc (by decide)) (nx_add (a := 2) (b := a) rfl rfl) (by omega) (by decide) (hc2) ?_
        refine ev_ss DL_say_0 2 105 (pc' := 174) (lv' := [(10, .int 3), (7, .int 1), (9, .int _), (0, .ref _), (1, .int _), (2, .int _), (3, .ref _), (4, .ref _), (5, .int _), (6, .int _), (8, .int _)]) (st' := [.int _, .int _, .ref _]) rfl ?_
        refine ev_iastv DL_say_0 107 (k0 := (2 + a)) rfl (wset_n hzc (by decide)) (nx_add (a := 2) (b := a) rfl rfl) (by omega) (by decide) rfl ?_
        refine ev_ss DL_say_0 1 108 (pc' := 178) (lv' := [(10, .int 2), (7, .int 1), (9, .int _), (0, .ref _), (1, .int _), (2, .int _), (3, .ref _), (4, .ref _), (5, .int _), (6, .int _), (8, .int _)]) (st' := []) rfl ?_
        refine ev_goto DL_say_0 109 rfl (tgt := 137) (by decide) ?_
        refine ev_ss DL_say_0 1 81 (pc' := 139) (lv' := [(10, .int 2), (7, .int 1), (9, .int _), (0, .ref _), (1, .int _), (2, .int _), (3, .ref _), (4, .ref _), (5, .int _), (6, .int _), (8, .int _)]) (st' := [.int 2]) rfl ?_
        refine ev_iflt DL_say_0 82 rfl (tgt := 181) (by decide) (fun h => absurd h (by decide)) (fun _ => ?_)
        refine ev_ss DL_say_0 8 83 (pc' := 154) (lv' := [(10, .int 2), (7, .int 1), (9, .int _), (0, .ref _), (1, .int _), (2, .int _), (3, .ref _), (4, .ref _), (5, .int _), (6, .int _), (8, .int _)]) (st' := [.int _, .ref _, .int _, .ref _]) rfl ?_
        refine ev_ialdv DL_say_0 91 (k0 := (2 + a)) rfl (wset_get (wset_n hzc (by decide))) (nx_add (a := 2) (b := a) rfl rfl) (by omega) (by decide) (upd_eq) ?_
        refine ev_ss DL_say_0 6 92 (pc' := 163) (lv' := [(10, .int 2), (7, .int 1), (9, .int _), (0, .ref _), (1, .int _), (2, .int _), (3, .ref _), (4, .ref _), (5, .int _), (6, .int _), (8, .int _)]) (st' := [.int _, .int _, .ref _]) rfl ?_
        refine ev_iastv DL_say_0 98 (k0 := ((32 * a) + (L0 + 1))) rfl (wset_n (wset_get hzw) (by decide)) (nx_add (a := (32 * a)) (b := (L0 + 1)) (nx_mul (a := 32) (b := a) rfl rfl) (nx_add (a := L0) (b := 1) rfl rfl)) (by omega) (by decide) rfl ?_
        refine ev_ss DL_say_0 5 99 (pc' := 171) (lv' := [(10, .int 2), (7, .int 1), (9, .int _), (0, .ref _), (1, .int _), (2, .int _), (3, .ref _), (4, .ref _), (5, .int _), (6, .int _), (8, .int _)]) (st' := [.int _, .ref _, .int _, .ref _]) rfl ?_
        refine ev_ialdv DL_say_0 104 (k0 := (2 + a)) rfl (wset_n (wset_get (wset_n hzc (by decide))) (by decide)) (nx_add (a := 2) (b := a) rfl rfl) (by omega) (by decide) (upd_eq) ?_
        refine ev_ss DL_say_0 2 105 (pc' := 174) (lv' := [(10, .int 2), (7, .int 1), (9, .int _), (0, .ref _), (1, .int _), (2, .int _), (3, .ref _), (4, .ref _), (5, .int _), (6, .int _), (8, .int _)]) (st' := [.int _, .int _, .ref _]) rfl ?_
        refine ev_iastv DL_say_0 107 (k0 := (2 + a)) rfl (wset_n (wset_get (wset_n hzc (by decide))) (by decide)) (nx_add (a := 2) (b := a) rfl rfl) (by omega) (by decide) rfl ?_
        refine ev_ss DL_say_0 1 108 (pc' := 178) (lv' := [(10, .int 1), (7, .int 1), (9, .int _), (0, .ref _), (1, .int _), (2, .int _), (3, .ref _), (4, .ref _), (5, .int _), (6, .int _), (8, .int _)]) (st' := []) rfl ?_
        refine ev_goto DL_say_0 109 rfl (tgt := 137) (by decide) ?_
        refine ev_ss DL_say_0 1 81 (pc' := 139) (lv' := [(10, .int 1), (7, .int 1), (9, .int _), (0, .ref _), (1, .int _), (2, .int _), (3, .ref _), (4, .ref _), (5, .int _), (6, .int _), (8, .int _)]) (st' := [.int 1]) rfl ?_
        refine ev_iflt DL_say_0 82 rfl (tgt := 181) (by decide) (fun h => absurd h (by decide)) (fun _ => ?_)
        refine ev_ss DL_say_0 8 83 (pc' := 154) (lv' := [(10, .int 1), (7, .int 1), (9, .int _), (0, .ref _), (1, .int _), (2, .int _), (3, .ref _), (4, .ref _), (5, .int _), (6, .int _), (8, .int _)]) (st' := [.int _, .ref _, .int _, .ref _]) rfl ?_
        refine ev_ialdv DL_say_0 91 (k0 := (2 + a)) rfl (wset_get (wset_n (wset_get (wset_n hzc (by decide))) (by decide))) (nx_add (a := 2) (b := a) rfl rfl) (by omega) (by decide) (upd_eq) ?_
        refine ev_ss DL_say_0 6 92 (pc' := 163) (lv' := [(10, .int 1), (7, .int 1), (9, .int _), (0, .ref _), (1, .int _), (2, .int _), (3, .ref _), (4, .ref _), (5, .int _), (6, .int _), (8, .int _)]) (st' := [.int _, .int _, .ref _]) rfl ?_
        refine ev_iastv DL_say_0 98 (k0 := ((32 * a) + ((L0 + 1) + 1))) rfl (wset_n (wset_get (wset_n (wset_get hzw) (by decide))) (by decide)) (nx_add (a := (32 * a)) (b := ((L0 + 1) + 1)) (nx_mul (a := 32) (b := a) rfl rfl) (nx_add (a := (L0 + 1)) (b := 1) (nx_add (a := L0) (b := 1) rfl rfl) rfl)) (by omega) (by decide) rfl ?_
        refine ev_ss DL_say_0 5 99 (pc' := 171) (lv' := [(10, .int 1), (7, .int 1), (9, .int _), (0, .ref _), (1, .int _), (2, .int _), (3, .ref _), (4, .ref _), (5, .int _), (6, .int _), (8, .int _)]) (st' := [.int _, .ref _, .int _, .ref _]) rfl ?_
        refine ev_ialdv DL_say_0 104 (k0 := (2 + a)) rfl (wset_n (wset_get (wset_n (wset_get (wset_n hzc (by decide))) (by decide))) (by decide)) (nx_add (a := 2) (b := a) rfl rfl) (by omega) (by decide) (upd_eq) ?_
        refine ev_ss DL_say_0 2 105 (pc' := 174) (lv' := [(10, .int 1), (7, .int 1), (9, .int _), (0, .ref _), (1, .int _), (2, .int _), (3, .ref _), (4, .ref _), (5, .int _), (6, .int _), (8, .int _)]) (st' := [.int _, .int _, .ref _]) rfl ?_
        refine ev_iastv DL_say_0 107 (k0 := (2 + a)) rfl (wset_n (wset_get (wset_n (wset_get (wset_n hzc (by decide))) (by decide))) (by decide)) (nx_add (a := 2) (b := a) rfl rfl) (by omega) (by decide) rfl ?_
        refine ev_ss DL_say_0 1 108 (pc' := 178) (lv' := [(10, .int 0), (7, .int 1), (9, .int _), (0, .ref _), (1, .int _), (2, .int _), (3, .ref _), (4, .ref _), (5, .int _), (6, .int _), (8, .int _)]) (st' := []) rfl ?_
        refine ev_goto DL_say_0 109 rfl (tgt := 137) (by decide) ?_
        refine ev_ss DL_say_0 1 81 (pc' := 139) (lv' := [(10, .int 0), (7, .int 1), (9, .int _), (0, .ref _), (1, .int _), (2, .int _), (3, .ref _), (4, .ref _), (5, .int _), (6, .int _), (8, .int _)]) (st' := [.int 0]) rfl ?_
        refine ev_iflt DL_say_0 82 rfl (tgt := 181) (by decide) (fun h => absurd h (by decide)) (fun _ => ?_)
        refine ev_ss DL_say_0 8 83 (pc' := 154) (lv' := [(10, .int 0), (7, .int 1), (9, .int _), (0, .ref _), (1, .int _), (2, .int _), (3, .ref _), (4, .ref _), (5, .int _), (6, .int _), (8, .int _)]) (st' := [.int _, .ref _, .int _, .ref _]) rfl ?_
        refine ev_ialdv DL_say_0 91 (k0 := (2 + a)) rfl (wset_get (wset_n (wset_get (wset_n (wset_get (wset_n hzc (by decide))) (by decide))) (by decide))) (nx_add (a := 2) (b := a) rfl rfl) (by omega) (by decide) (upd_eq) ?_
        refine ev_ss DL_say_0 6 92 (pc' := 163) (lv' := [(10, .int 0), (7, .int 1), (9, .int _), (0, .ref _), (1, .int _), (2, .int _), (3, .ref _), (4, .ref _), (5, .int _), (6, .int _), (8, .int _)]) (st' := [.int _, .int _, .ref _]) rfl ?_
        refine ev_iastv DL_say_0 98 (k0 := ((32 * a) + (((L0 + 1) + 1) + 1))) rfl (wset_n (wset_get (wset_n (wset_get (wset_n (wset_get hzw) (by decide))) (by decide))) (by decide)) (nx_add (a := (32 * a)) (b := (((L0 + 1) + 1) + 1)) (nx_mul (a := 32) (b := a) rfl rfl) (nx_add (a := ((L0 + 1) + 1)) (b := 1) (nx_add (a := (L0 + 1)) (b := 1) (nx_add (a := L0) (b := 1) rfl rfl) rfl) rfl)) (by omega) (by decide) rfl ?_
        refine ev_ss DL_say_0 5 99 (pc' := 171) (lv' := [(10, .int 0), (7, .int 1), (9, .int _), (0, .ref _), (1, .int _), (2, .int _), (3, .ref _), (4, .ref _), (5, .int _), (6, .int _), (8, .int _)]) (st' := [.int _, .ref _, .int _, .ref _]) rfl ?_
        refine ev_ialdv DL_say_0 104 (k0 := (2 + a)) rfl (wset_n (wset_get (wset_n (wset_get (wset_n (wset_get (wset_n hzc (by decide))) (by decide))) (by decide))) (by decide)) (nx_add (a := 2) (b := a) rfl rfl) (by omega) (by decide) (upd_eq) ?_
        refine ev_ss DL_say_0 2 105 (pc' := 174) (lv' := [(10, .int 0), (7, .int 1), (9, .int _), (0, .ref _), (1, .int _), (2, .int _), (3, .ref _), (4, .ref _), (5, .int _), (6, .int _), (8, .int _)]) (st' := [.int _, .int _, .ref _]) rfl ?_
        refine ev_iastv DL_say_0 107 (k0 := (2 + a)) rfl (wset_n (wset_get (wset_n (wset_get (wset_n (wset_get (wset_n hzc (by decide))) (by decide))) (by decide))) (by decide)) (nx_add (a := 2) (b := a) rfl rfl) (by omega) (by decide) rfl ?_
        refine ev_ss DL_say_0 1 108 (pc' := 178) (lv' := [(10, .int (-1)), (7, .int 1), (9, .int _), (0, .ref _), (1, .int _), (2, .int _), (3, .ref _), (4, .ref _), (5, .int _), (6, .int _), (8, .int _)]) (st' := []) rfl ?_
        refine ev_goto DL_say_0 109 rfl (tgt := 137) (by decide) ?_
        refine ev_ss DL_say_0 1 81 (pc' := 139) (lv' := [(10, .int (-1)), (7, .int 1), (9, .int _), (0, .ref _), (1, .int _), (2, .int _), (3, .ref _), (4, .ref _), (5, .int _), (6, .int _), (8, .int _)]) (st' := [.int (-1)]) rfl ?_
        refine ev_iflt DL_say_0 82 rfl (tgt := 181) (by decide) (fun _ => ?_) (fun h => h.elim (by decide))
        refine ev_ss DL_say_0 1 110 (pc' := 184) (lv' := [(8, .int _), (10, .int (-1)), (7, .int 1), (9, .int _), (0, .ref _), (1, .int _), (2, .int _), (3, .ref _), (4, .ref _), (5, .int _), (6, .int _)]) (st' := []) rfl ?_
        refine ev_goto DL_say_0 111 rfl (tgt := 73) (by decide) ?_
        refine ev_lvp (lv2 := [(0, .ref _), (1, .int _), (2, .int _), (3, .ref _), (4, .ref _), (5, .int _), (6, .int _), (7, .int _), (8, .int _)]) [4, 5, 6, 7, 8, 9, 10, 2, 0] rfl ?_
        have ecd := cd_lo d hd10
        have eDG : (pW p a).2.1 ++ DGc (upd ch1 (2 + i) (nI (48 + d))) (i + 1) = (((((pW p a).2.1 ++ DGc ch1 i) ++ [(nI d >>> ((3 : Int32) &&& 31)) &&& 1]) ++ [(nI d >>> ((2 : Int32) &&& 31)) &&& 1]) ++ [(nI d >>> ((1 : Int32) &&& 31)) &&& 1]) ++ [(nI d >>> ((0 : Int32) &&& 31)) &&& 1] := by
          rw [DGc.put ecd.2.2]
          unfold dg4
          simp only [List.append_assoc, List.cons_append, List.nil_append]
        refine ih (i + 1) _ _ _ (by omega) (nI_1 i) (hM9.mo ((((((((MO.rf.st (by decide) (by decide)).st (by decide) (by decide)).st (by decide) (by decide)).st (by decide) (by decide)).st (by decide) (by decide)).st (by decide) (by decide)).st (by decide) (by decide)).st (by decide) (by decide))) (hX.put ⟨ecd.1, ecd.2.1⟩) ?_
        rw [eDG]
        exact ⟨_, _, _, _, _, _, _, _, _, ⟨(wset_n (wset_n (wset_n (wset_n (wset_n (wset_n (wset_n (wset_n hzq (by decide)) (by decide)) (by decide)) (by decide)) (by decide)) (by decide)) (by decide)) (by decide)), (wset_n (wset_n (wset_n (wset_n (wset_n (wset_n (wset_n (wset_n hzu (by decide)) (by decide)) (by decide)) (by decide)) (by decide)) (by decide)) (by decide)) (by decide)), (wset_n (wset_n (wset_n (wset_n (wset_n (wset_n (wset_n (wset_n hza (by decide)) (by decide)) (by decide)) (by decide)) (by decide)) (by decide)) (by decide)) (by decide)), (wset_n (wset_n (wset_n (wset_n (wset_n (wset_n (wset_n (wset_n hzn (by decide)) (by decide)) (by decide)) (by decide)) (by decide)) (by decide)) (by decide)) (by decide)), (wset_n (wset_n (wset_n (wset_n (wset_n (wset_n (wset_n (wset_n hzd (by decide)) (by decide)) (by decide)) (by decide)) (by decide)) (by decide)) (by decide)) (by decide)), (wset_n (wset_get (wset_n (wset_get (wset_n (wset_get (wset_n (wset_get hzw) (by decide))) (by decide))) (by decide))) (by decide)), (wset_get (wset_n (wset_get (wset_n (wset_get (wset_n (wset_get (wset_n hzc (by decide))) (by decide))) (by decide))) (by decide))), (wset_n (wset_n (wset_n (wset_n (wset_n (wset_n (wset_n (wset_n hzt (by decide)) (by decide)) (by decide)) (by decide)) (by decide)) (by decide)) (by decide)) (by decide)), (wset_n (wset_n (wset_n (wset_n (wset_n (wset_n (wset_n (wset_n hze (by decide)) (by decide)) (by decide)) (by decide)) (by decide)) (by decide)) (by decide)) (by decide)), (wset_n (wset_n (wset_n (wset_n (wset_n (wset_n (wset_n (wset_n hzh (by decide)) (by decide)) (by decide)) (by decide)) (by decide)) (by decide)) (by decide)) (by decide))⟩, hT.bits2 ha, ((((hW.put ha eL0 (by omega) (nx_add (a := L0) (b := 1) rfl rfl)).put ha (by simp only [List.length_append, List.length_cons, List.length_nil]; simp only [List.length_append] at eL0; omega) (by omega) (nx_add (a := L0 + 1) (b := 1) (nx_add (a := L0) (b := 1) rfl rfl) rfl)).put ha (by simp only [List.length_append, List.length_cons, List.length_nil]; simp only [List.length_append] at eL0; omega) (by omega) (nx_add (a := L0 + 1 + 1) (b := 1) (nx_add (a := L0 + 1) (b := 1) (nx_add (a := L0) (b := 1) rfl rfl) rfl) rfl)).put ha (by simp only [List.length_append, List.length_cons, List.length_nil]; simp only [List.length_append] at eL0; omega) (by omega) (nx_add (a := L0 + 1 + 1 + 1) (b := 1) (nx_add (a := L0 + 1 + 1) (b := 1) (nx_add (a := L0 + 1) (b := 1) (nx_add (a := L0) (b := 1) rfl rfl) rfl) rfl) rfl)), fun j hj => hS j hj⟩
  · refine ev_ss DL_say_0 1 26 (pc' := 39) (lv' := [(6, .int _), (5, .int _), (0, .ref _), (1, .int _), (2, .int _), (3, .ref _), (4, .ref _)]) (st' := [.int 1]) rfl ?_
    exact ev_zret DL_say_0 27 rfl rfl rfl ⟨rfl, WD.le (⟨p, sv, sc, r, 0, ch, ze, hM0, hL0, hG, hs, hb, hsc, hm⟩ : WD E ad _ B m) (by omega) (Nat.le_refl _)⟩
