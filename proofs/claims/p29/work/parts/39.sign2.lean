theorem tk1_BI {bs : List Int32} (h : BI bs) : (∃ b, b < 2 ∧ (tk1 bs).1 = nI b) ∧ BI (tk1 bs).2 := by
  cases bs with
  | nil => exact ⟨⟨0, by decide, rfl⟩, h⟩
  | cons b bs =>
    refine ⟨?_, fun x hx => h x (List.mem_cons_of_mem _ hx)⟩
    rcases h b List.mem_cons_self with e | e
    · exact ⟨0, by decide, e⟩
    · exact ⟨1, by decide, e⟩
theorem sgW_n {sd : Int32} {f : TF} {bs : List Int32} : sgW sd f bs = bcP ((takeQ (f 10).toNatClampNeg 0 bs).1 ^^^ sgH sd f bs) := rfl
theorem ssW_n {sd : Int32} {σ : WS} {t : Nat} : ssW sd σ t = (va_up σ.1 t (cntB (passP (σ.1 t) (ampP (σ.1 t 10) (takeQ (σ.1 t 10).toNatClampNeg 0 σ.2.1).1) (ampP (σ.1 t 10) (sgH sd (σ.1 t) σ.2.1))) (bcP ((takeQ (σ.1 t 10).toNatClampNeg 0 σ.2.1).1 ^^^ sgH sd (σ.1 t) σ.2.1))), (takeQ (σ.1 t 10).toNatClampNeg 0 σ.2.1).2, recL σ.2.2.1 (σ.1 t 10) (sgH sd (σ.1 t) σ.2.1), σ.2.2.2.1 + σ.1 t 10, σ.2.2.2.2 + bcP ((takeQ (σ.1 t 10).toNatClampNeg 0 σ.2.1).1 ^^^ sgH sd (σ.1 t) σ.2.1)) := rfl
set_option maxRecDepth 100000 in
set_option maxHeartbeats 4000000 in
theorem sgn_take {E : gE} {ad : Nat → Nat} {ws : va_W} {Pr : Option Value → va_W → Prop} {p : PS} {ze : Nat → Int32} {a t n : Nat} (ha : a < 2) (hn : n ≤ 4)
    (hP : ∀ (w : va_W), LM E ad w (pTak p a n) ze → MO ws w → Ev E YL_sign Pr nX 0 0 54 [(0, .int (nI (8 * a + t))), (1, .ref (ad 214)), (2, .ref (ad 215)), (3, .ref (ad 216)), (4, .ref (ad 217)), (5, .ref (ad 218)), (6, .ref (ad 219)), (7, .ref (ad 220)), (8, .ref (ad 223)), (9, .int (nI (4 * (8 * a + t)))), (10, .int (nI a)), (11, .int (nI n)), (12, .int (takeQ n 0 (pW p a).2.1).1)] [] w) :
    ∀ (m i : Nat) (x sg : Int32) (w : va_W) (bs : List Int32) (c : Nat), i + m = n → x = nI i → LM E ad w (pBits p a bs) ze → takeQ m sg bs = takeQ n 0 (pW p a).2.1 → sg = nI c → c < 2 ^ i → BI bs → MO ws w → Ev E YL_sign Pr nX 0 0 25 [(0, .int (nI (8 * a + t))), (1, .ref (ad 214)), (2, .ref (ad 215)), (3, .ref (ad 216)), (4, .ref (ad 217)), (5, .ref (ad 218)), (6, .ref (ad 219)), (7, .ref (ad 220)), (8, .ref (ad 223)), (9, .int (nI (4 * (8 * a + t)))), (10, .int (nI a)), (11, .int (nI n)), (12, .int sg), (13, .int x)] [] w := by
  intro m
  induction m with
  | zero =>
    intro i x sg w bs c hm hx hM1 hq hsg hc hBI hO
    obtain rfl : i = n := by omega
    subst hx
    have e1 : sg = (takeQ i 0 (pW p a).2.1).1 := by rw [← hq]; rfl
    have e2 : bs = (takeQ i 0 (pW p a).2.1).2 := by rw [← hq]; rfl
    refine ev_ss DL_sign_0 2 18 (pc' := 29) (lv' := [(0, .int _), (1, .ref _), (2, .ref _), (3, .ref _), (4, .ref _), (5, .ref _), (6, .ref _), (7, .ref _), (8, .ref _), (9, .int _), (10, .int _), (11, .int _), (12, .int _), (13, .int _)]) (st' := [.int _, .int _]) rfl ?_
    refine ev_icge DL_sign_0 20 rfl (tgt := 54) (by decide) (fun _ => ?_) (fun h => h.elim (nI_le (Nat.le_refl _) (by omega)))
    refine ev_lvp (lv2 := [(0, .int _), (1, .ref _), (2, .ref _), (3, .ref _), (4, .ref _), (5, .ref _), (6, .ref _), (7, .ref _), (8, .ref _), (9, .int _), (10, .int _), (11, .int _), (12, .int _)]) [0, 1, 2, 3, 4, 5, 6, 7, 8, 9, 10, 11, 12] rfl ?_
    rw [e1]
    exact hP w (by unfold pTak; rw [← e2]; exact hM1) hO
  | succ m ih =>
    intro i x sg w bs c hm hx hM1 hq hsg hc hBI hO
    subst hx
    rw [takeQ_s] at hq
    have hc8 : c < 8 := Nat.lt_of_lt_of_le hc (Nat.pow_le_pow_right (by decide) (show i ≤ 3 by omega))
    obtain ⟨⟨b, hb, eb⟩, hBI2⟩ := tk1_BI hBI
    obtain ⟨o1, o2⟩ := bitor c hc8 b hb
    refine ev_ss DL_sign_0 2 18 (pc' := 29) (lv' := [(0, .int _), (1, .ref _), (2, .ref _), (3, .ref _), (4, .ref _), (5, .ref _), (6, .ref _), (7, .ref _), (8, .ref _), (9, .int _), (10, .int _), (11, .int _), (12, .int _), (13, .int _)]) (st' := [.int _, .int _]) rfl ?_
    refine ev_icge DL_sign_0 20 rfl (tgt := 54) (by decide) (fun h => absurd h (nI_ge (b := n) (by omega) (by omega))) (fun _ => ?_)
    refine ev_ss DL_sign_0 6 21 (pc' := 42) (lv' := [(0, .int _), (1, .ref _), (2, .ref _), (3, .ref _), (4, .ref _), (5, .ref _), (6, .ref _), (7, .ref _), (8, .ref _), (9, .int _), (10, .int _), (11, .int _), (12, .int _), (13, .int _)]) (st' := [.ref _, .ref _, .int _, .int _]) rfl ?_
    refine ev_rS DL_sign_0 27 (m_L_next hM1 ha) vL_next rfl qL_41 rfl (hd_of rfl rfl rfl rfl) (fun v w2 hvw => ?_)
    obtain ⟨rfl, hM2, hO2⟩ := hvw
    rw [pBits_W, pBits_2] at hM2
    rw [pBits_W]
    refine ev_ior DL_sign_0 28 rfl ?_
    refine ev_ss DL_sign_0 2 29 (pc' := 51) (lv' := [(13, .int _), (12, .int _), (0, .int _), (1, .ref _), (2, .ref _), (3, .ref _), (4, .ref _), (5, .ref _), (6, .ref _), (7, .ref _), (8, .ref _), (9, .int _), (10, .int _), (11, .int _)]) (st' := []) rfl ?_
    refine ev_goto DL_sign_0 31 rfl (tgt := 25) (by decide) ?_
    refine ev_lvp (lv2 := [(0, .int _), (1, .ref _), (2, .ref _), (3, .ref _), (4, .ref _), (5, .ref _), (6, .ref _), (7, .ref _), (8, .ref _), (9, .int _), (10, .int _), (11, .int _), (12, .int _), (13, .int _)]) [2, 3, 4, 5, 6, 7, 8, 9, 10, 11, 12, 13, 1, 0] rfl ?_
    refine ih (i + 1) _ _ w2 (tk1 bs).2 (2 * c + b) (by omega) (nI_1 i) hM2 ?_ ?_ (by rw [Nat.pow_succ]; omega) hBI2 (hO.tr hO2)
    · show takeQ m ((sg <<< ((1 : Int32) &&& 31)) ||| (tk1 bs).1) (tk1 bs).2 = _
      rw [hsg, eb, o1, ← eb, ← hsg]
      exact hq
    · show (sg <<< ((1 : Int32) &&& 31)) ||| (tk1 bs).1 = _
      rw [hsg, eb, o1, o2]
theorem pTak_b {p : PS} {a n : Nat} : (pW (pTak p a n) a).2.1 = (takeQ n 0 (pW p a).2.1).2 := pBits_W
set_option maxRecDepth 100000 in
set_option maxHeartbeats 4000000 in
theorem m_L_sign {E : gE} {ad : Nat → Nat} {ws : va_W} {p : PS} {ze : Nat → Int32} {a t : Nat} (hM : LM E ad ws p ze) (ha : a < 2) (ht : t < 8) (hI : WI (pW p a)) : C0 E YL_sign 0 0 [.int (nI (8 * a + t)), .ref (ad 214), .ref (ad 215), .ref (ad 216), .ref (ad 217), .ref (ad 218), .ref (ad 219), .ref (ad 220), .ref (ad 223)] ws (fun v w => v = some (.int (sgW p.1 ((pW p a).1 t) (pW p a).2.1)) ∧ LM E ad w (pSW p (drwS p.1) a (ssW p.1 (pW p a) t)) ze ∧ MO ws w) := by
  obtain ⟨n, c, d, q1, q2, q3, q4, q5, q6, q7, q8, q9, q10, q11, q12, q13, q14, q15⟩ := sg_all (sd := p.1) (hI.1 t ht) hI.2
  obtain ⟨x1, x2⟩ := xor_16 c q7 d q10
  have hX : ∃ k, k < 2 ^ n ∧ sgV ((pW p a).1 t) (pW p a).2.1 ^^^ sgH p.1 ((pW p a).1 t) (pW p a).2.1 = nI k := ⟨_, Nat.xor_lt_two_pow q6 q9, by rw [q8, q11]; exact x1⟩
  have eH : sgH p.1 ((pW p a).1 t) (pW p a).2.1 = decP ((pW p a).1 t) (arrP ((pW p a).1 t) (ampP ((pW p a).1 t 10) (takeQ ((pW p a).1 t 10).toNatClampNeg 0 (pW p a).2.1).1) (drwN p.1 ((pW p a).1 t))) := rfl
  have hX2 : ∃ k, k < 2 ^ n ∧ (takeQ n 0 (pW p a).2.1).1 ^^^ decP ((pW p a).1 t) (arrP ((pW p a).1 t) (ampP ((pW p a).1 t 10) (takeQ n 0 (pW p a).2.1).1) (drwN p.1 ((pW p a).1 t))) = nI k := by
    rw [eH] at hX
    unfold sgV at hX
    rw [q3] at hX
    exact hX
  have hD2 : DR ((pW p a).1 t) (arrP ((pW p a).1 t) (ampP ((pW p a).1 t 10) (takeQ n 0 (pW p a).2.1).1) (drwN p.1 ((pW p a).1 t))) := by
    unfold sgA sgV at q14
    rw [q3] at q14
    exact q14
  rw [sgW_n, ssW_n, eH, q3]
  obtain ⟨zq, zu, za, zn, zd, zw, zc, zt, zh, hC, hT, hW, hS⟩ := id hM
  obtain ⟨hzq, hzu, hza, hzn, hzd, hzw, hzc, hzt, hze, hzh⟩ := id hC
  have h10 : za (4 * (8 * a + t) + 3) = nI n := by rw [hT.2.2.1.at ha ht 3 (by decide)]; exact q2
  refine c0S vL_sign (Nat.le_of_ble_eq_true rfl) (lv0 := [(0, .int (nI (8 * a + t))), (1, .ref (ad 214)), (2, .ref (ad 215)), (3, .ref (ad 216)), (4, .ref (ad 217)), (5, .ref (ad 218)), (6, .ref (ad 219)), (7, .ref (ad 220)), (8, .ref (ad 223))]) rfl ?_
  refine ev_ss DL_sign_0 3 0 (pc' := 3) (lv' := [(0, .int _), (1, .ref _), (2, .ref _), (3, .ref _), (4, .ref _), (5, .ref _), (6, .ref _), (7, .ref _), (8, .ref _)]) (st' := [.int _]) rfl ?_
  refine ev_topv (nx_mul (a := 4) (b := (8 * a + t)) rfl rfl) ?_
  refine ev_ss DL_sign_0 3 3 (pc' := 8) (lv' := [(9, .int _), (0, .int _), (1, .ref _), (2, .ref _), (3, .ref _), (4, .ref _), (5, .ref _), (6, .ref _), (7, .ref _), (8, .ref _)]) (st' := [.int 8, .int _]) rfl ?_
  refine ev_idiv DL_sign_0 6 rfl (by decide) ?_
  refine ev_topv ((nx_div (a := (8 * a + t)) (d := 8) rfl rfl (by omega) (by decide) (by decide)).trans (congrArg nI (show (8 * a + t) / 8 = a by omega))) ?_
  refine ev_ss DL_sign_0 5 7 (pc' := 16) (lv' := [(10, .int _), (9, .int _), (0, .int _), (1, .ref _), (2, .ref _), (3, .ref _), (4, .ref _), (5, .ref _), (6, .ref _), (7, .ref _), (8, .ref _)]) (st' := [.int _, .ref _]) rfl ?_
  refine ev_ialdv DL_sign_0 12 (k0 := ((4 * (8 * a + t)) + 3)) rfl hza (nx_add (a := (4 * (8 * a + t))) (b := 3) rfl rfl) (by omega) (by decide) (h10) ?_
  refine ev_ss DL_sign_0 5 13 (pc' := 25) (lv' := [(13, .int 0), (12, .int 0), (11, .int _), (10, .int _), (9, .int _), (0, .int _), (1, .ref _), (2, .ref _), (3, .ref _), (4, .ref _), (5, .ref _), (6, .ref _), (7, .ref _), (8, .ref _)]) (st' := []) rfl ?_
  refine ev_lvp (lv2 := [(0, .int _), (1, .ref _), (2, .ref _), (3, .ref _), (4, .ref _), (5, .ref _), (6, .ref _), (7, .ref _), (8, .ref _), (9, .int _), (10, .int _), (11, .int _), (12, .int _), (13, .int _)]) [5, 6, 7, 8, 9, 10, 11, 12, 13, 4, 3, 2, 1, 0] rfl ?_
  refine sgn_take (p := p) (ze := ze) ha q1 (fun w1 hM1 hO1 => ?_) n 0 _ 0 _ (pW p a).2.1 0 (Nat.zero_add n) nI_0.symm (by rw [pBits_id]; exact hM) rfl nI_0.symm (by decide) hI.2 MO.rf
  obtain ⟨yq, yu, ya, yn, yd, yw, yc, yt, yh, hC1, hT1, hW1, hS1⟩ := hM1
  have hT2 : LT yq yu ya yn yd (pTone (pTak p a n) a t ((pW p a).1 t)) := by
    have e := hT1.id (a := a) (t := t)
    rw [pTak_1] at e
    exact e
  refine sgn_B hC1 (q := pTak p a n) ha ht q1 hT2 hW1 hS1 q2 q4 q5 takeQ_0 hD2 hX2 (fun w2 hM2 hO2 => ⟨rfl, ?_, hO1.tr hO2⟩)
  rw [show (pTak p a n).1 = p.1 from rfl, pTak_1, pTak_2, pTak_b] at hM2
  unfold pTak at hM2
  rw [pSW_bits] at hM2
  exact hM2
