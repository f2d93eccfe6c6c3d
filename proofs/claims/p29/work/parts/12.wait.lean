/-- fewer locals, by their places -/
theorem ev_lvp {E : gE} {Y : MI} {Pr : Option Value → va_W → Prop} {Px : String → va_W → Prop} {k n pc : Nat} {lv lv2 : List (Nat × Value)} {st : List Value} {ws : va_W} (ks : List Nat) (h : ks.filterMap (fun k => lv[k]?) = lv2) (kt : Ev E Y Pr Px k n pc lv2 st ws) : Ev E Y Pr Px k n pc lv st ws := by
  refine ev_lv (fun q hq => ?_) kt
  rw [← h] at hq
  obtain ⟨j, -, hj⟩ := List.mem_filterMap.mp hq
  exact List.mem_of_getElem? hj
abbrev iaC (E : gE) (n : Nat) (f : Nat → Int32) : va_E := .inl (gK E 0, n, .inl f)
abbrev waitC (rg : Nat) (st sz : Int32) : va_E := .inr (4, [.ref rg, .int st, .int sz])
abbrev wayC (ta wt : Nat) (lt : Int64) (cm wr : Int32) : va_E := .inr (5, [.ref ta, .ref wt, .long lt, .int cm, .int wr])
abbrev lesC (sz : Nat) (b : Int32) : va_E := .inr (0, [.ref sz, .int b])
/-- a ring of 256 places holds these bits -/
def RQ (r : Nat → Int32) (st sz : Int32) (bs : List Int32) : Prop := ∃ s0 : Nat, s0 < 256 ∧ st = nI s0 ∧ sz = nI bs.length ∧ bs.length ≤ 256 ∧ ∀ p, p < bs.length → bs[p]? = some (r ((s0 + p) % 256))
def rix (x : Int32) : Nat := (x &&& 255).toNatClampNeg
theorem rix_nI {n : Nat} (h : n < 2 ^ 31) : rix (nI n) = n % 256 := by
  unfold rix
  rw [pk_andN (n := n) (by omega) 8 (by decide), nI_clamp (by omega)]
theorem rix_in (x : Int32) : vp_in (x &&& 255) 256 := pk_andIn x 8 (by decide) (by decide)
theorem RQ_nil {r : Nat → Int32} {st sz : Int32} (h : RQ r st sz []) : sz ≤ 0 := by
  obtain ⟨s0, -, -, rfl, -, -⟩ := h
  decide
theorem RQ_cons {r : Nat → Int32} {st sz b : Int32} {bs : List Int32} (h : RQ r st sz (b :: bs)) : ¬ sz ≤ 0 ∧ r (rix (st + 0)) = b ∧ RQ r ((st + 1) &&& 255) (sz - 1) bs := by
  obtain ⟨s0, h0, rfl, rfl, h3, h4⟩ := h
  have hl : (b :: bs).length = bs.length + 1 := rfl
  rw [hl] at h3 h4 ⊢
  refine ⟨nI_nle (by omega) (by omega), ?_, (s0 + 1) % 256, by omega, ?_, nI_pred _, by omega, fun p hp => ?_⟩
  · have h5 := h4 0 (by omega)
    rw [show (0 : Int32) = nI 0 from rfl, nI_add, rix_nI (by omega)]
    simpa using h5.symm
  · rw [nI_1, pk_andN (n := s0 + 1) (by omega) 8 (by decide)]
  · have h5 := h4 (p + 1) (by omega)
    rw [List.getElem?_cons_succ] at h5
    rw [h5]
    congr 2
    omega
theorem RQ_snoc {r : Nat → Int32} {st sz b : Int32} {bs : List Int32} (h : RQ r st sz bs) (hl : bs.length < 256) : ¬ 256 ≤ sz ∧ RQ (upd r (rix (st + sz)) b) st (sz + 1) (bs ++ [b]) := by
  obtain ⟨s0, h0, rfl, rfl, h3, h4⟩ := h
  refine ⟨nI_ge hl (by decide), s0, h0, rfl, ?_, by simp; omega, fun p hp => ?_⟩
  · rw [nI_1]; simp
  · rw [nI_add, rix_nI (by omega)]
    have hp' : p < bs.length + 1 := by simpa using hp
    by_cases hpe : p = bs.length
    · subst hpe
      rw [List.getElem?_append_right (Nat.le_refl _), Nat.sub_self]
      simp [upd]
    · rw [List.getElem?_append_left (by omega), h4 p (by omega)]
      have : ¬ (s0 + p) % 256 = (s0 + bs.length) % 256 := by omega
      simp [upd, this]
/-- bits are taken: the sign so far, those that are left -/
def takeQ : Nat → Int32 → List Int32 → Int32 × List Int32
  | 0, sg, bs => (sg, bs)
  | n + 1, sg, [] => takeQ n (2 * sg) []
  | n + 1, sg, b :: bs => takeQ n (2 * sg + b) bs

set_option maxRecDepth 100000 in
set_option maxHeartbeats 4000000 in
theorem m_X4_bitAt {E : gE} {ws : va_W} {q a qr ar : Nat} {r : Nat → Int32} {st sz pl : Int32} (h : ws[q]? = some (a, waitC ar st sz)) (h2 : ws[qr]? = some (ar, iaC E 256 r)) : CD E YX4_bitAt 0 0 [.ref a, .int pl] ws (some (.int (r (rix (st + pl))))) ws := by
  refine cdV vX4_bitAt (Nat.le_of_ble_eq_true rfl) (lv0 := [(0, .ref a), (1, .int pl)]) rfl ?_
  refine ev_ss DX4_bitAt 1 0 (pc' := 1) (lv' := [(0, .ref _), (1, .int _)]) (st' := [.ref _]) rfl ?_
  refine ev_get DX4_bitAt 1 GX4 rfl (k0 := 0) (Nat.le_of_ble_eq_true rfl) fX4_9 h rfl ?_
  refine ev_ss DX4_bitAt 1 2 (pc' := 5) (lv' := [(0, .ref _), (1, .int _)]) (st' := [.ref _, .ref _]) rfl ?_
  refine ev_get DX4_bitAt 3 GX4 rfl (k0 := 1) (Nat.le_of_ble_eq_true rfl) fX4_21 h rfl ?_
  refine ev_ss DX4_bitAt 4 4 (pc' := 14) (lv' := [(0, .ref _), (1, .int _)]) (st' := [.int _, .ref _]) rfl ?_
  refine ev_iald DX4_bitAt 8 rfl h2 (rix_in _) ?_
  exact ev_iret DX4_bitAt 9 rfl rfl ⟨rfl, rfl⟩
set_option maxRecDepth 100000 in
set_option maxHeartbeats 4000000 in
theorem m_X4_put {E : gE} {ws : va_W} {q a qr ar : Nat} {r : Nat → Int32} {st sz b : Int32} (h : ws[q]? = some (a, waitC ar st sz)) (h2 : ws[qr]? = some (ar, iaC E 256 r)) (hs : ¬ 256 ≤ sz) : CD E YX4_put 0 0 [.ref a, .int b] ws none ((ws.set qr (ar, iaC E 256 (upd r (rix (st + sz)) b))).set q (a, waitC ar st (sz + 1))) := by
  refine cdV vX4_put (Nat.le_of_ble_eq_true rfl) (lv0 := [(0, .ref a), (1, .int b)]) rfl ?_
  refine ev_ss DX4_put 1 0 (pc' := 1) (lv' := [(0, .ref _), (1, .int _)]) (st' := [.ref _]) rfl ?_
  refine ev_get DX4_put 1 GX4 rfl (k0 := 2) (Nat.le_of_ble_eq_true rfl) fX4_25 h rfl ?_
  refine ev_ss DX4_put 1 2 (pc' := 7) (lv' := [(0, .ref _), (1, .int _)]) (st' := [.int 256, .int _]) rfl ?_
  refine ev_icge DX4_put 3 rfl (tgt := 39) (by decide) (fun h => absurd h hs) (fun _ => ?_)
  refine ev_ss DX4_put 1 4 (pc' := 11) (lv' := [(0, .ref _), (1, .int _)]) (st' := [.ref _]) rfl ?_
  refine ev_get DX4_put 5 GX4 rfl (k0 := 0) (Nat.le_of_ble_eq_true rfl) fX4_9 h rfl ?_
  refine ev_ss DX4_put 1 6 (pc' := 15) (lv' := [(0, .ref _), (1, .int _)]) (st' := [.ref _, .ref _]) rfl ?_
  refine ev_get DX4_put 7 GX4 rfl (k0 := 1) (Nat.le_of_ble_eq_true rfl) fX4_21 h rfl ?_
  refine ev_ss DX4_put 1 8 (pc' := 19) (lv' := [(0, .ref _), (1, .int _)]) (st' := [.ref _, .int _, .ref _]) rfl ?_
  refine ev_get DX4_put 9 GX4 rfl (k0 := 2) (Nat.le_of_ble_eq_true rfl) fX4_25 h rfl ?_
  refine ev_ss DX4_put 4 10 (pc' := 28) (lv' := [(0, .ref _), (1, .int _)]) (st' := [.int _, .int _, .ref _]) rfl ?_
  refine ev_iast DX4_put 14 rfl h2 (rix_in _) rfl ?_
  refine ev_ss DX4_put 2 15 (pc' := 31) (lv' := [(0, .ref _), (1, .int _)]) (st' := [.ref _, .ref _]) rfl ?_
  refine ev_get DX4_put 17 GX4 rfl (k0 := 2) (Nat.le_of_ble_eq_true rfl) fX4_25 (wset_o h h2 rfl) rfl ?_
  refine ev_ss DX4_put 2 18 (pc' := 36) (lv' := [(0, .ref _), (1, .int _)]) (st' := [.int _, .ref _]) rfl ?_
  refine ev_put (fs' := [_, _, _]) DX4_put 20 GX4 rfl (k0 := 2) (Nat.le_of_ble_eq_true rfl) fX4_25 rfl ⟨rfl, rfl⟩ (wset_o h h2 rfl) (Nat.le_of_ble_eq_true rfl) rfl rfl ?_
  exact ev_vret DX4_put 21 rfl rfl ⟨rfl, rfl⟩
/-- the two cells of a row of waiting bits -/
def hW (E : gE) (ws : va_W) (qr ar q a : Nat) (r : Nat → Int32) (st sz : Int32) : va_W := (ws.set qr (ar, iaC E 256 r)).set q (a, waitC ar st sz)
theorem hW_hW {E : gE} {ws : va_W} {qr ar q a : Nat} {r r2 : Nat → Int32} {st sz st2 sz2 : Int32} (hne : qr ≠ q) : hW E (hW E ws qr ar q a r st sz) qr ar q a r2 st2 sz2 = hW E ws qr ar q a r2 st2 sz2 := by
  unfold hW
  rw [List.set_comm (l := (ws.set qr (ar, iaC E 256 r))) _ _ (Ne.symm hne), wset_set, wset_set]
theorem hW_q {E : gE} {ws : va_W} {qr ar q a : Nat} {r : Nat → Int32} {st sz : Int32} {x : va_E} (h : ws[q]? = some (a, x)) : (hW E ws qr ar q a r st sz)[q]? = some (a, waitC ar st sz) := by
  unfold hW
  rw [List.getElem?_set_self]
  rw [List.length_set]
  exact (List.getElem?_eq_some_iff.mp h).1
theorem hW_r {E : gE} {ws : va_W} {qr ar q a : Nat} {r : Nat → Int32} {st sz : Int32} {x : va_E} (h : ws[qr]? = some (ar, x)) (hne : qr ≠ q) : (hW E ws qr ar q a r st sz)[qr]? = some (ar, iaC E 256 r) := by
  unfold hW
  rw [List.getElem?_set_ne (Ne.symm hne), List.getElem?_set_self (List.getElem?_eq_some_iff.mp h).1]
theorem hW_o {E : gE} {ws : va_W} {qr ar q a j : Nat} {r : Nat → Int32} {st sz : Int32} (h1 : qr ≠ j) (h2 : q ≠ j) : (hW E ws qr ar q a r st sz)[j]? = ws[j]? := by
  unfold hW
  rw [List.getElem?_set_ne h2, List.getElem?_set_ne h1]

set_option maxRecDepth 100000 in
set_option maxHeartbeats 4000000 in
/-- four bits of a digit, the highest first -/
theorem m_X4_putDigit {E : gE} {ws : va_W} {q a qr ar : Nat} {r : Nat → Int32} {st sz dg : Int32} {bs : List Int32} (h : ws[q]? = some (a, waitC ar st sz)) (h2 : ws[qr]? = some (ar, iaC E 256 r)) (hq : RQ r st sz bs) (hl : bs.length + 4 ≤ 256) :
    C0 E YX4_putDigit 0 0 [.ref a, .int dg] ws (fun v w => v = none ∧ ∃ r2 sz2, RQ r2 st sz2 (bs ++ [(dg >>> ((3 : Int32) &&& 31)) &&& 1, (dg >>> ((2 : Int32) &&& 31)) &&& 1, (dg >>> ((1 : Int32) &&& 31)) &&& 1, (dg >>> ((0 : Int32) &&& 31)) &&& 1]) ∧ w = hW E ws qr ar q a r2 st sz2) := by
  have hne : qr ≠ q := ek_ne h h2 rfl
  have q0 := RQ_snoc (b := (dg >>> ((3 : Int32) &&& 31)) &&& 1) hq (by omega)
  have q1 := RQ_snoc (b := (dg >>> ((2 : Int32) &&& 31)) &&& 1) q0.2 (by simp; omega)
  have q2 := RQ_snoc (b := (dg >>> ((1 : Int32) &&& 31)) &&& 1) q1.2 (by simp; omega)
  have q3 := RQ_snoc (b := (dg >>> ((0 : Int32) &&& 31)) &&& 1) q2.2 (by simp; omega)
  refine c0V vX4_putDigit (Nat.le_of_ble_eq_true rfl) (lv0 := [(0, .ref a), (1, .int dg)]) rfl ?_
  refine ev_ss DX4_putDigit 3 0 (pc' := 3) (lv' := [(2, .int 3), (0, .ref _), (1, .int _)]) (st' := [.int 3]) rfl ?_
  refine ev_iflt DX4_putDigit 3 rfl (tgt := 21) (by decide) (fun h => absurd h (by decide)) (fun _ => ?_)
  refine ev_ss DX4_putDigit 6 4 (pc' := 12) (lv' := [(2, .int 3), (0, .ref _), (1, .int _)]) (st' := [.int _, .ref _]) rfl ?_
  refine ev_cV DX4_putDigit 10 (m_X4_put h h2 q0.1) vX4_put rfl qX4_28 rfl h rfl (hd_of rfl rfl rfl rfl) ?_
  refine ev_ss DX4_putDigit 1 11 (pc' := 18) (lv' := [(2, .int 2), (0, .ref _), (1, .int _)]) (st' := []) rfl ?_
  refine ev_goto DX4_putDigit 12 rfl (tgt := 2) (by decide) ?_
  refine ev_ss DX4_putDigit 1 2 (pc' := 3) (lv' := [(2, .int 2), (0, .ref _), (1, .int _)]) (st' := [.int 2]) rfl ?_
  refine ev_iflt DX4_putDigit 3 rfl (tgt := 21) (by decide) (fun h => absurd h (by decide)) (fun _ => ?_)
  refine ev_ss DX4_putDigit 6 4 (pc' := 12) (lv' := [(2, .int 2), (0, .ref _), (1, .int _)]) (st' := [.int _, .ref _]) rfl ?_
  refine ev_cV DX4_putDigit 10 (cd_hs (m_X4_put (hW_q h) (hW_r h2 hne) q1.1) (hW_hW hne)) vX4_put rfl qX4_28 rfl (hW_q h) rfl (hd_of rfl rfl rfl rfl) ?_
  refine ev_ss DX4_putDigit 1 11 (pc' := 18) (lv' := [(2, .int 1), (0, .ref _), (1, .int _)]) (st' := []) rfl ?_
  refine ev_goto DX4_putDigit 12 rfl (tgt := 2) (by decide) ?_
  refine ev_ss DX4_putDigit 1 2 (pc' := 3) (lv' := [(2, .int 1), (0, .ref _), (1, .int _)]) (st' := [.int 1]) rfl ?_
  refine ev_iflt DX4_putDigit 3 rfl (tgt := 21) (by decide) (fun h => absurd h (by decide)) (fun _ => ?_)
  refine ev_ss DX4_putDigit 6 4 (pc' := 12) (lv' := [(2, .int 1), (0, .ref _), (1, .int _)]) (st' := [.int _, .ref _]) rfl ?_
  refine ev_cV DX4_putDigit 10 (cd_hs (m_X4_put (hW_q h) (hW_r h2 hne) q2.1) (hW_hW hne)) vX4_put rfl qX4_28 rfl (hW_q h) rfl (hd_of rfl rfl rfl rfl) ?_
  refine ev_ss DX4_putDigit 1 11 (pc' := 18) (lv' := [(2, .int 0), (0, .ref _), (1, .int _)]) (st' := []) rfl ?_
  refine ev_goto DX4_putDigit 12 rfl (tgt := 2) (by decide) ?_
  refine ev_ss DX4_putDigit 1 2 (pc' := 3) (lv' := [(2, .int 0), (0, .ref _), (1, .int _)]) (st' := [.int 0]) rfl ?_
  refine ev_iflt DX4_putDigit 3 rfl (tgt := 21) (by decide) (fun h => absurd h (by decide)) (fun _ => ?_)
  refine ev_ss DX4_putDigit 6 4 (pc' := 12) (lv' := [(2, .int 0), (0, .ref _), (1, .int _)]) (st' := [.int _, .ref _]) rfl ?_
  refine ev_cV DX4_putDigit 10 (cd_hs (m_X4_put (hW_q h) (hW_r h2 hne) q3.1) (hW_hW hne)) vX4_put rfl qX4_28 rfl (hW_q h) rfl (hd_of rfl rfl rfl rfl) ?_
  refine ev_ss DX4_putDigit 1 11 (pc' := 18) (lv' := [(2, .int (-1)), (0, .ref _), (1, .int _)]) (st' := []) rfl ?_
  refine ev_goto DX4_putDigit 12 rfl (tgt := 2) (by decide) ?_
  refine ev_ss DX4_putDigit 1 2 (pc' := 3) (lv' := [(2, .int (-1)), (0, .ref _), (1, .int _)]) (st' := [.int (-1)]) rfl ?_
  refine ev_iflt DX4_putDigit 3 rfl (tgt := 21) (by decide) (fun _ => ?_) (fun h => h.elim (by decide))
  exact ev_vret DX4_putDigit 13 rfl rfl ⟨rfl, _, _, (by have z := q3.2; simp only [List.append_assoc, List.cons_append, List.nil_append] at z; exact z), rfl⟩
set_option maxRecDepth 100000 in
set_option maxHeartbeats 4000000 in
/-- many bits are taken -/
theorem m_X4_take {E : gE} {ws : va_W} {q a qr ar : Nat} {r : Nat → Int32} {st sz : Int32} {bs : List Int32} (n : Nat) (hn : n ≤ 4) (h : ws[q]? = some (a, waitC ar st sz)) (h2 : ws[qr]? = some (ar, iaC E 256 r)) (hq : RQ r st sz bs) :
    C0 E YX4_take 0 0 [.ref a, .int (nI n)] ws (fun v w => v = some (.int (takeQ n 0 bs).1) ∧ ∃ st2 sz2, RQ r st2 sz2 (takeQ n 0 bs).2 ∧ w = ws.set q (a, waitC ar st2 sz2)) := by
  refine c0V vX4_take (Nat.le_of_ble_eq_true rfl) (lv0 := [(0, .ref a), (1, .int (nI n))]) rfl ?_
  suffices K : ∀ (m i : Nat) (sg st1 sz1 : Int32) (bs1 : List Int32) (x : Int32) (w0 : va_W), i + m = n → RQ r st1 sz1 bs1 → takeQ m sg bs1 = takeQ n 0 bs → x = nI i → w0 = ws.set q (a, waitC ar st1 sz1) →
      Ev E YX4_take (fun v w => v = some (.int (takeQ n 0 bs).1) ∧ ∃ st2 sz2, RQ r st2 sz2 (takeQ n 0 bs).2 ∧ w = ws.set q (a, waitC ar st2 sz2)) nX 0 0 4 [(0, .ref a), (1, .int (nI n)), (2, .int sg), (3, .int x)] [] w0 by
    refine ev_ss DX4_take 4 0 (pc' := 4) (lv' := [(3, .int 0), (2, .int 0), (0, .ref _), (1, .int _)]) (st' := []) rfl ?_
    refine ev_lvp (lv2 := [(0, .ref _), (1, .int _), (2, .int _), (3, .int _)]) [2, 3, 1, 0] rfl ?_
    exact K n 0 0 st sz bs _ _ (Nat.zero_add n) hq rfl nI_0.symm (wset_id h).symm
  intro m
  induction m with
  | zero =>
    intro i sg st1 sz1 bs1 x w0 hi hq1 ht hx hw
    subst hx; subst hw
    have he : i = n := by omega
    subst he
    refine ev_ss DX4_take 2 4 (pc' := 6) (lv' := [(0, .ref _), (1, .int _), (2, .int _), (3, .int _)]) (st' := [.int _, .int _]) rfl ?_
    refine ev_icge DX4_take 6 rfl (tgt := 58) (by decide) (fun _ => ?_) (fun h => h.elim (nI_le (Nat.le_refl _) (by omega)))
    refine ev_ss DX4_take 1 36 (pc' := 59) (lv' := [(0, .ref _), (1, .int _), (2, .int _), (3, .int _)]) (st' := [.int _]) rfl ?_
    exact ev_iret DX4_take 37 rfl rfl ⟨vI (congrArg Prod.fst ht).symm, st1, sz1, (congrArg Prod.snd ht) ▸ hq1, rfl⟩
  | succ m ih =>
    intro i sg st1 sz1 bs1 x w0 hi hq1 ht hx hw
    subst hx; subst hw
    cases bs1 with
    | nil =>
      refine ev_ss DX4_take 2 4 (pc' := 6) (lv' := [(0, .ref _), (1, .int _), (2, .int _), (3, .int _)]) (st' := [.int _, .int _]) rfl ?_
      refine ev_icge DX4_take 6 rfl (tgt := 58) (by decide) (fun h => absurd h (nI_ge (by omega) (by omega))) (fun _ => ?_)
      refine ev_ss DX4_take 5 7 (pc' := 14) (lv' := [(2, .int _), (0, .ref _), (1, .int _), (3, .int _)]) (st' := [.ref _]) rfl ?_
      refine ev_get DX4_take 12 GX4 rfl (k0 := 2) (Nat.le_of_ble_eq_true rfl) fX4_25 (wset_get h) rfl ?_
      refine ev_ifle DX4_take 13 rfl (tgt := 52) (by decide) (fun _ => ?_) (fun h => h.elim (RQ_nil hq1))
      refine ev_ss DX4_take 1 34 (pc' := 55) (lv' := [(3, .int _), (2, .int _), (0, .ref _), (1, .int _)]) (st' := []) rfl ?_
      refine ev_goto DX4_take 35 rfl (tgt := 4) (by decide) ?_
      refine ev_lvp (lv2 := [(0, .ref _), (1, .int _), (2, .int _), (3, .int _)]) [2, 3, 1, 0] rfl ?_
      exact ih (i + 1) (2 * sg) st1 sz1 [] _ _ (by omega) hq1 ht (nI_1 i) rfl
    | cons b bs1 =>
      obtain ⟨z1, z2, z3⟩ := RQ_cons hq1
      refine ev_ss DX4_take 2 4 (pc' := 6) (lv' := [(0, .ref _), (1, .int _), (2, .int _), (3, .int _)]) (st' := [.int _, .int _]) rfl ?_
      refine ev_icge DX4_take 6 rfl (tgt := 58) (by decide) (fun h => absurd h (nI_ge (by omega) (by omega))) (fun _ => ?_)
      refine ev_ss DX4_take 5 7 (pc' := 14) (lv' := [(2, .int _), (0, .ref _), (1, .int _), (3, .int _)]) (st' := [.ref _]) rfl ?_
      refine ev_get DX4_take 12 GX4 rfl (k0 := 2) (Nat.le_of_ble_eq_true rfl) fX4_25 (wset_get h) rfl ?_
      refine ev_ifle DX4_take 13 rfl (tgt := 52) (by decide) (fun h => absurd h z1) (fun _ => ?_)
      refine ev_ss DX4_take 3 14 (pc' := 23) (lv' := [(2, .int _), (0, .ref _), (1, .int _), (3, .int _)]) (st' := [.int 0, .ref _, .int _]) rfl ?_
      refine ev_cV DX4_take 17 (m_X4_bitAt (wset_get h) (wset_o h2 h rfl)) vX4_bitAt rfl qX4_32 rfl (wset_get h) rfl (hd_of rfl rfl rfl rfl) ?_
      refine ev_ss DX4_take 4 18 (pc' := 30) (lv' := [(2, .int _), (0, .ref _), (1, .int _), (3, .int _)]) (st' := [.ref _, .ref _]) rfl ?_
      refine ev_get DX4_take 22 GX4 rfl (k0 := 1) (Nat.le_of_ble_eq_true rfl) fX4_21 (wset_get h) rfl ?_
      refine ev_ss DX4_take 4 23 (pc' := 39) (lv' := [(2, .int _), (0, .ref _), (1, .int _), (3, .int _)]) (st' := [.int _, .ref _]) rfl ?_
      refine ev_put (fs' := [_, _, _]) DX4_take 27 GX4 rfl (k0 := 1) (Nat.le_of_ble_eq_true rfl) fX4_21 rfl ⟨rfl, rfl⟩ (wset_get h) (Nat.le_of_ble_eq_true rfl) rfl wset_set ?_
      refine ev_ss DX4_take 2 28 (pc' := 44) (lv' := [(2, .int _), (0, .ref _), (1, .int _), (3, .int _)]) (st' := [.ref _, .ref _]) rfl ?_
      refine ev_get DX4_take 30 GX4 rfl (k0 := 2) (Nat.le_of_ble_eq_true rfl) fX4_25 (wset_get h) rfl ?_
      refine ev_ss DX4_take 2 31 (pc' := 49) (lv' := [(2, .int _), (0, .ref _), (1, .int _), (3, .int _)]) (st' := [.int _, .ref _]) rfl ?_
      refine ev_put (fs' := [_, _, _]) DX4_take 33 GX4 rfl (k0 := 2) (Nat.le_of_ble_eq_true rfl) fX4_25 rfl ⟨rfl, rfl⟩ (wset_get h) (Nat.le_of_ble_eq_true rfl) rfl wset_set ?_
      refine ev_ss DX4_take 1 34 (pc' := 55) (lv' := [(3, .int _), (2, .int _), (0, .ref _), (1, .int _)]) (st' := []) rfl ?_
      refine ev_goto DX4_take 35 rfl (tgt := 4) (by decide) ?_
      refine ev_lvp (lv2 := [(0, .ref _), (1, .int _), (2, .int _), (3, .int _)]) [2, 3, 1, 0] rfl ?_
      exact ih (i + 1) (2 * sg + r (rix (st1 + 0))) _ _ bs1 _ _ (by omega) z3 (by rw [z2]; exact ht) (nI_1 i) rfl
