theorem sndT_hi {sd : Int32} {σ : WS} {t : Nat} : ∀ i, i ≤ t → (sndT sd σ i).2.2.1 t = σ.1 t
  | 0, _ => rfl
  | i + 1, h => by
    rw [sndT_s]
    show va_up (sndT sd σ i).2.2.1 i _ t = σ.1 t
    rw [va_up_ne _ _ (by omega)]
    exact sndT_hi i (by omega)
theorem lhP_f {f g : TF} {s r : Int32} (h : ∀ x, decP f x = decP g x) : ∀ m i, lhP f s r m i = lhP g s r m i
  | 0, _ => rfl
  | m + 1, i => by rw [lhP_s, lhP_s, h, h, lhP_f h m (i + 1)]
theorem nI_m1 {n : Nat} (h : n < 2 ^ 31) : ¬ nI n = -1 := fun e => nI_pos h (by rw [e]; decide)
theorem DR_by {f : TF} {r : Int32} {i : Nat} (h : TI f) (hr : rB 67236 r) (hi : i < 301) : DR f (r + nI i) ∧ DR f (r - nI i) := by
  have e : rB 300 (nI i) := rB_nI (by omega) (by omega)
  exact ⟨DR_of h (rB_le (rB_add hr e (by decide)) (by decide)), DR_of h (rB_le (rB_sub hr e (by decide)) (by decide))⟩
set_option maxRecDepth 100000 in
set_option maxHeartbeats 4000000 in
theorem hu_tail {E : gE} {ad : Nat → Nat} {ws : va_W} {p : PS} {sv : Nat → PS} {sc len : Nat} {ch : Nat → Int32} {tw : Int32} {hh : Int64} (hM : ZM E ad ws p sv sc len ch tw hh) {V : Int32} {ea iw : Int32} {z : Nat → Int32} {l : Nat → Int64} (hG : ZG z p) (hLG : LG l p) {w : va_W} (h : w[214]? = some (ad 214, moC ad (nI sc) (nI len) tw ea iw hh)) (h1 : ∃ z2, w[215]? = some (ad 215, iaC E 811 z2)) (h2 : ∃ l2, w[218]? = some (ad 218, laC E 2 l2)) (h3 : ∃ er, w[222]? = some (ad 222, iaC E 64 er)) (hA : AS_ E ad w z l) (hF : TF5 ws w) : Ev E YX7_hurtsOf (fun v9 w9 => v9 = some (.int V) ∧ ZM E ad w9 p sv sc len ch tw hh ∧ MO ws w9) nX 0 0 169 [(0, .ref (ad 214)), (6, .int V)] [] w := by
  refine ev_ss DX7_hurtsOf 1 93 (pc' := 170) (lv' := [(0, .ref _), (6, .int _)]) (st' := [.ref _]) rfl ?_
  refine ev_rV DX7_hurtsOf 94 (m_pb hM hG hLG h h1 h2 h3 hA hF) vX7_putBack rfl qX7_178 rfl h rfl (hd_of rfl rfl rfl rfl) (fun v w3 hvw => ?_)
  obtain ⟨rfl, hM3, hO3⟩ := hvw
  refine ev_ss DX7_hurtsOf 1 95 (pc' := 175) (lv' := [(0, .ref _), (6, .int _)]) (st' := [.int _]) rfl ?_
  exact ev_iret DX7_hurtsOf 96 rfl rfl ⟨rfl, hM3, hO3⟩
set_option maxRecDepth 100000 in
set_option maxHeartbeats 4000000 in
theorem hu_find {E : gE} {ad : Nat → Nat} {ws : va_W} {p : PS} {sv : Nat → PS} {sc len : Nat} {ch : Nat → Int32} {tw : Int32} {hh : Int64} (hM : ZM E ad ws p sv sc len ch tw hh) {V : Int32} {ea iw : Int32} {z : Nat → Int32} {l : Nat → Int64} (hG : ZG z p) (hLG : LG l p) {w : va_W} (h : w[214]? = some (ad 214, moC ad (nI sc) (nI len) tw ea iw hh)) {z2 : Nat → Int32} (hz : w[215]? = some (ad 215, iaC E 811 z2)) (h2 : ∃ l2, w[218]? = some (ad 218, laC E 2 l2)) (h3 : ∃ er, w[222]? = some (ad 222, iaC E 64 er)) (hA : AS_ E ad w z l) (hF : TF5 ws w) {q : PS} {a t n : Nat} {f : TF} {sg cm : Int32} (ha : a < 2) (ht : t < 8) (hG2 : ZG z2 (pTone q a t f)) (hn : n ≤ 4) (hb : f 10 = nI n) (hg : ¬ f 7 ≤ 0) (hI : TI f) (hc : rB 67236 cm) : ∀ (m i : Nat) (x : Int32), i + m = k301 → x = nI i → lhP f sg cm m i = V → Ev E YX7_hurtsOf (fun v9 w9 => v9 = some (.int V) ∧ ZM E ad w9 p sv sc len ch tw hh ∧ MO ws w9) nX 0 0 97 [(0, .ref (ad 214)), (1, .int (nI a)), (2, .int (nI t)), (4, .int sg), (5, .int cm), (6, .int (-1)), (7, .int x)] [] w := by
  have eK := k301e
  intro m
  induction m with
  | zero =>
    intro i x hm hx hV
    obtain rfl : i = k301 := by omega
    subst hx
    have hV2 : (-1 : Int32) = V := hV
    rw [hV2]
    refine ev_ss DX7_hurtsOf 2 57 (pc' := 102) (lv' := [(0, .ref _), (1, .int _), (2, .int _), (4, .int _), (5, .int _), (6, .int _), (7, .int _)]) (st' := [.int 300, .int _]) rfl ?_
    refine ev_icgt DX7_hurtsOf 59 rfl (tgt := 169) (by decide) (fun _ => ?_) (fun h => h.elim (by rw [eK]; decide))
    refine ev_lvp (lv2 := [(0, .ref _), (6, .int _)]) [0, 5] rfl ?_
    exact hu_tail hM hG hLG h ⟨_, hz⟩ h2 h3 hA hF
  | succ m ih =>
    intro i x hm hx hV
    subst hx
    rw [lhP_s] at hV
    obtain ⟨hD1, hD2⟩ := DR_by hI hc (i := i) (by omega)
    by_cases q1 : decP f (cm + nI i) = sg
    · rw [if_pos q1] at hV
      by_cases q2 : decP f (cm - nI i) = sg
      · rw [if_pos q2] at hV
        refine ev_ss DX7_hurtsOf 2 57 (pc' := 102) (lv' := [(0, .ref _), (1, .int _), (2, .int _), (4, .int _), (5, .int _), (6, .int (-1)), (7, .int _)]) (st' := [.int 300, .int _]) rfl ?_
        refine ev_icgt DX7_hurtsOf 59 rfl (tgt := 169) (by decide) (fun h => absurd h (nI_nlt (a := 300) (b := i) (by omega) (by decide))) (fun _ => ?_)
        refine ev_ss DX7_hurtsOf 2 60 (pc' := 108) (lv' := [(0, .ref _), (1, .int _), (2, .int _), (4, .int _), (5, .int _), (6, .int (-1)), (7, .int _)]) (st' := [.int (-1), .int (-1)]) rfl ?_
        refine ev_icne DX7_hurtsOf 62 rfl (tgt := 169) (by decide) (fun h => h.elim (by decide)) (fun _ => ?_)
        refine ev_ss DX7_hurtsOf 6 63 (pc' := 119) (lv' := [(0, .ref _), (1, .int _), (2, .int _), (4, .int _), (5, .int _), (6, .int (-1)), (7, .int _)]) (st' := [.int _, .int _, .int _, .ref _]) rfl ?_
        refine ev_cV DX7_hurtsOf 69 (m_X7_decide (f := f) h hz ha ht hG2 hn hb hg hD1) vX7_decide rfl qX7_123 rfl h rfl (hd_of rfl rfl rfl rfl) ?_
        refine ev_ss DX7_hurtsOf 1 70 (pc' := 124) (lv' := [(0, .ref _), (1, .int _), (2, .int _), (4, .int _), (5, .int _), (6, .int (-1)), (7, .int _)]) (st' := [.int _, .int _]) rfl ?_
        refine ev_icne DX7_hurtsOf 71 rfl (tgt := 143) (by decide) (fun h => h.elim q1) (fun _ => ?_)
        refine ev_ss DX7_hurtsOf 6 72 (pc' := 135) (lv' := [(0, .ref _), (1, .int _), (2, .int _), (4, .int _), (5, .int _), (6, .int (-1)), (7, .int _)]) (st' := [.int _, .int _, .int _, .ref _]) rfl ?_
        refine ev_cV DX7_hurtsOf 78 (m_X7_decide (f := f) h hz ha ht hG2 hn hb hg hD2) vX7_decide rfl qX7_123 rfl h rfl (hd_of rfl rfl rfl rfl) ?_
        refine ev_ss DX7_hurtsOf 1 79 (pc' := 140) (lv' := [(0, .ref _), (1, .int _), (2, .int _), (4, .int _), (5, .int _), (6, .int (-1)), (7, .int _)]) (st' := [.int _, .int _]) rfl ?_
        refine ev_iceq DX7_hurtsOf 80 rfl (tgt := 147) (by decide) (fun _ => ?_) (fun h => h.elim q2)
        refine ev_ss DX7_hurtsOf 3 83 (pc' := 152) (lv' := [(8, .int 0), (0, .ref _), (1, .int _), (2, .int _), (4, .int _), (5, .int _), (6, .int (-1)), (7, .int _)]) (st' := [.int 0]) rfl ?_
        refine ev_ifeq DX7_hurtsOf 86 rfl (tgt := 160) (by decide) (fun _ => ?_) (fun h => h.elim (by decide))
        refine ev_ss DX7_hurtsOf 3 89 (pc' := 166) (lv' := [(7, .int _), (6, .int (-1)), (8, .int 0), (0, .ref _), (1, .int _), (2, .int _), (4, .int _), (5, .int _)]) (st' := []) rfl ?_
        refine ev_goto DX7_hurtsOf 92 rfl (tgt := 97) (by decide) ?_
        refine ev_lvp (lv2 := [(0, .ref _), (1, .int _), (2, .int _), (4, .int _), (5, .int _), (6, .int _), (7, .int _)]) [3, 4, 5, 6, 7, 1, 0] rfl ?_
        exact ih (i + 1) _ (by omega) (nI_1 i) hV
      · rw [if_neg q2] at hV
        by_cases q3 : i = 300
        · refine ev_ss DX7_hurtsOf 2 57 (pc' := 102) (lv' := [(0, .ref _), (1, .int _), (2, .int _), (4, .int _), (5, .int _), (6, .int (-1)), (7, .int _)]) (st' := [.int 300, .int _]) rfl ?_
          refine ev_icgt DX7_hurtsOf 59 rfl (tgt := 169) (by decide) (fun h => absurd h (nI_nlt (a := 300) (b := i) (by omega) (by decide))) (fun _ => ?_)
          refine ev_ss DX7_hurtsOf 2 60 (pc' := 108) (lv' := [(0, .ref _), (1, .int _), (2, .int _), (4, .int _), (5, .int _), (6, .int (-1)), (7, .int _)]) (st' := [.int (-1), .int (-1)]) rfl ?_
          refine ev_icne DX7_hurtsOf 62 rfl (tgt := 169) (by decide) (fun h => h.elim (by decide)) (fun _ => ?_)
          refine ev_ss DX7_hurtsOf 6 63 (pc' := 119) (lv' := [(0, .ref _), (1, .int _), (2, .int _), (4, .int _), (5, .int _), (6, .int (-1)), (7, .int _)]) (st' := [.int _, .int _, .int _, .ref _]) rfl ?_
          refine ev_cV DX7_hurtsOf 69 (m_X7_decide (f := f) h hz ha ht hG2 hn hb hg hD1) vX7_decide rfl qX7_123 rfl h rfl (hd_of rfl rfl rfl rfl) ?_
          refine ev_ss DX7_hurtsOf 1 70 (pc' := 124) (lv' := [(0, .ref _), (1, .int _), (2, .int _), (4, .int _), (5, .int _), (6, .int (-1)), (7, .int _)]) (st' := [.int _, .int _]) rfl ?_
          refine ev_icne DX7_hurtsOf 71 rfl (tgt := 143) (by decide) (fun h => h.elim q1) (fun _ => ?_)
          refine ev_ss DX7_hurtsOf 6 72 (pc' := 135) (lv' := [(0, .ref _), (1, .int _), (2, .int _), (4, .int _), (5, .int _), (6, .int (-1)), (7, .int _)]) (st' := [.int _, .int _, .int _, .ref _]) rfl ?_
          refine ev_cV DX7_hurtsOf 78 (m_X7_decide (f := f) h hz ha ht hG2 hn hb hg hD2) vX7_decide rfl qX7_123 rfl h rfl (hd_of rfl rfl rfl rfl) ?_
          refine ev_ss DX7_hurtsOf 1 79 (pc' := 140) (lv' := [(0, .ref _), (1, .int _), (2, .int _), (4, .int _), (5, .int _), (6, .int (-1)), (7, .int _)]) (st' := [.int _, .int _]) rfl ?_
          refine ev_iceq DX7_hurtsOf 80 rfl (tgt := 147) (by decide) (fun h => absurd h q2) (fun _ => ?_)
          refine ev_ss DX7_hurtsOf 1 81 (pc' := 144) (lv' := [(0, .ref _), (1, .int _), (2, .int _), (4, .int _), (5, .int _), (6, .int (-1)), (7, .int _)]) (st' := [.int 1]) rfl ?_
          refine ev_goto DX7_hurtsOf 82 rfl (tgt := 148) (by decide) ?_
          refine ev_ss DX7_hurtsOf 2 84 (pc' := 152) (lv' := [(8, .int 1), (0, .ref _), (1, .int _), (2, .int _), (4, .int _), (5, .int _), (6, .int (-1)), (7, .int _)]) (st' := [.int 1]) rfl ?_
          refine ev_ifeq DX7_hurtsOf 86 rfl (tgt := 160) (by decide) (fun h => absurd h (by decide)) (fun _ => ?_)
          refine ev_ss DX7_hurtsOf 1 87 (pc' := 157) (lv' := [(8, .int 1), (0, .ref _), (1, .int _), (2, .int _), (4, .int _), (5, .int _), (6, .int (-1)), (7, .int _)]) (st' := [.int _]) rfl ?_
          refine ev_goto DX7_hurtsOf 88 rfl (tgt := 161) (by decide) ?_
          refine ev_ss DX7_hurtsOf 2 90 (pc' := 166) (lv' := [(7, .int _), (6, .int _), (8, .int 1), (0, .ref _), (1, .int _), (2, .int _), (4, .int _), (5, .int _)]) (st' := []) rfl ?_
          refine ev_goto DX7_hurtsOf 92 rfl (tgt := 97) (by decide) ?_
          refine ev_lvp (lv2 := [(0, .ref _), (1, .int _), (2, .int _), (4, .int _), (5, .int _), (6, .int _), (7, .int _)]) [3, 4, 5, 6, 7, 1, 0] rfl ?_
          refine (congrArg (fun z9 => Ev E YX7_hurtsOf (fun v9 w9 => v9 = some (.int V) ∧ ZM E ad w9 p sv sc len ch tw hh ∧ MO ws w9) nX 0 0 97 [(0, .ref (ad 214)), (1, .int (nI a)), (2, .int (nI t)), (4, .int sg), (5, .int cm), (6, .int (nI i)), (7, .int z9)] [] w) (nI_1 i)).mpr ?_
          refine ev_ss DX7_hurtsOf 2 57 (pc' := 102) (lv' := [(0, .ref _), (1, .int _), (2, .int _), (4, .int _), (5, .int _), (6, .int _), (7, .int _)]) (st' := [.int 300, .int _]) rfl ?_
          refine ev_icgt DX7_hurtsOf 59 rfl (tgt := 169) (by decide) (fun _ => ?_) (fun h => h.elim (nI_lt (a := 300) (b := i + 1) (by omega) (by omega)))
          refine ev_lvp (lv2 := [(0, .ref _), (6, .int _)]) [0, 5] rfl ?_
          rw [hV]
          exact hu_tail hM hG hLG h ⟨_, hz⟩ h2 h3 hA hF
        · refine ev_ss DX7_hurtsOf 2 57 (pc' := 102) (lv' := [(0, .ref _), (1, .int _), (2, .int _), (4, .int _), (5, .int _), (6, .int (-1)), (7, .int _)]) (st' := [.int 300, .int _]) rfl ?_
          refine ev_icgt DX7_hurtsOf 59 rfl (tgt := 169) (by decide) (fun h => absurd h (nI_nlt (a := 300) (b := i) (by omega) (by decide))) (fun _ => ?_)
          refine ev_ss DX7_hurtsOf 2 60 (pc' := 108) (lv' := [(0, .ref _), (1, .int _), (2, .int _), (4, .int _), (5, .int _), (6, .int (-1)), (7, .int _)]) (st' := [.int (-1), .int (-1)]) rfl ?_
          refine ev_icne DX7_hurtsOf 62 rfl (tgt := 169) (by decide) (fun h => h.elim (by decide)) (fun _ => ?_)
          refine ev_ss DX7_hurtsOf 6 63 (pc' := 119) (lv' := [(0, .ref _), (1, .int _), (2, .int _), (4, .int _), (5, .int _), (6, .int (-1)), (7, .int _)]) (st' := [.int _, .int _, .int _, .ref _]) rfl ?_
          refine ev_cV DX7_hurtsOf 69 (m_X7_decide (f := f) h hz ha ht hG2 hn hb hg hD1) vX7_decide rfl qX7_123 rfl h rfl (hd_of rfl rfl rfl rfl) ?_
          refine ev_ss DX7_hurtsOf 1 70 (pc' := 124) (lv' := [(0, .ref _), (1, .int _), (2, .int _), (4, .int _), (5, .int _), (6, .int (-1)), (7, .int _)]) (st' := [.int _, .int _]) rfl ?_
          refine ev_icne DX7_hurtsOf 71 rfl (tgt := 143) (by decide) (fun h => h.elim q1) (fun _ => ?_)
          refine ev_ss DX7_hurtsOf 6 72 (pc' := 135) (lv' := [(0, .ref _), (1, .int _), (2, .int _), (4, .int _), (5, .int _), (6, .int (-1)), (7, .int _)]) (st' := [.int _, .int _, .int _, .ref _]) rfl ?_
          refine ev_cV DX7_hurtsOf 78 (m_X7_decide (f := f) h hz ha ht hG2 hn hb hg hD2) vX7_decide rfl qX7_123 rfl h rfl (hd_of rfl rfl rfl rfl) ?_
          refine ev_ss DX7_hurtsOf 1 79 (pc' := 140) (lv' := [(0, .ref _), (1, .int _), (2, .int _), (4, .int _), (5, .int _), (6, .int (-1)), (7, .int _)]) (st' := [.int _, .int _]) rfl ?_
          refine ev_iceq DX7_hurtsOf 80 rfl (tgt := 147) (by decide) (fun h => absurd h q2) (fun _ => ?_)
          refine ev_ss DX7_hurtsOf 1 81 (pc' := 144) (lv' := [(0, .ref _), (1, .int _), (2, .int _), (4, .int _), (5, .int _), (6, .int (-1)), (7, .int _)]) (st' := [.int 1]) rfl ?_
          refine ev_goto DX7_hurtsOf 82 rfl (tgt := 148) (by decide) ?_
          refine ev_ss DX7_hurtsOf 2 84 (pc' := 152) (lv' := [(8, .int 1), (0, .ref _), (1, .int _), (2, .int _), (4, .int _), (5, .int _), (6, .int (-1)), (7, .int _)]) (st' := [.int 1]) rfl ?_
          refine ev_ifeq DX7_hurtsOf 86 rfl (tgt := 160) (by decide) (fun h => absurd h (by decide)) (fun _ => ?_)
          refine ev_ss DX7_hurtsOf 1 87 (pc' := 157) (lv' := [(8, .int 1), (0, .ref _), (1, .int _), (2, .int _), (4, .int _), (5, .int _), (6, .int (-1)), (7, .int _)]) (st' := [.int _]) rfl ?_
          refine ev_goto DX7_hurtsOf 88 rfl (tgt := 161) (by decide) ?_
          refine ev_ss DX7_hurtsOf 2 90 (pc' := 166) (lv' := [(7, .int _), (6, .int _), (8, .int 1), (0, .ref _), (1, .int _), (2, .int _), (4, .int _), (5, .int _)]) (st' := []) rfl ?_
          refine ev_goto DX7_hurtsOf 92 rfl (tgt := 97) (by decide) ?_
          refine ev_lvp (lv2 := [(0, .ref _), (1, .int _), (2, .int _), (4, .int _), (5, .int _), (6, .int _), (7, .int _)]) [3, 4, 5, 6, 7, 1, 0] rfl ?_
          refine (congrArg (fun z9 => Ev E YX7_hurtsOf (fun v9 w9 => v9 = some (.int V) ∧ ZM E ad w9 p sv sc len ch tw hh ∧ MO ws w9) nX 0 0 97 [(0, .ref (ad 214)), (1, .int (nI a)), (2, .int (nI t)), (4, .int sg), (5, .int cm), (6, .int (nI i)), (7, .int z9)] [] w) (nI_1 i)).mpr ?_
          refine ev_ss DX7_hurtsOf 2 57 (pc' := 102) (lv' := [(0, .ref _), (1, .int _), (2, .int _), (4, .int _), (5, .int _), (6, .int _), (7, .int _)]) (st' := [.int 300, .int _]) rfl ?_
          refine ev_icgt DX7_hurtsOf 59 rfl (tgt := 169) (by decide) (fun h => absurd h (nI_nlt (a := 300) (b := i + 1) (by omega) (by decide))) (fun _ => ?_)
          refine ev_ss DX7_hurtsOf 2 60 (pc' := 108) (lv' := [(0, .ref _), (1, .int _), (2, .int _), (4, .int _), (5, .int _), (6, .int _), (7, .int _)]) (st' := [.int (-1), .int _]) rfl ?_
          refine ev_icne DX7_hurtsOf 62 rfl (tgt := 169) (by decide) (fun _ => ?_) (fun h => absurd h (nI_m1 (by omega)))
          refine ev_lvp (lv2 := [(0, .ref _), (6, .int _)]) [0, 5] rfl ?_
          rw [hV]
          exact hu_tail hM hG hLG h ⟨_, hz⟩ h2 h3 hA hF
    · rw [if_neg q1] at hV
      by_cases q3 : i = 300
      · refine ev_ss DX7_hurtsOf 2 57 (pc' := 102) (lv' := [(0, .ref _), (1, .int _), (2, .int _), (4, .int _), (5, .int _), (6, .int (-1)), (7, .int _)]) (st' := [.int 300, .int _]) rfl ?_
        refine ev_icgt DX7_hurtsOf 59 rfl (tgt := 169) (by decide) (fun h => absurd h (nI_nlt (a := 300) (b := i) (by omega) (by decide))) (fun _ => ?_)
        refine ev_ss DX7_hurtsOf 2 60 (pc' := 108) (lv' := [(0, .ref _), (1, .int _), (2, .int _), (4, .int _), (5, .int _), (6, .int (-1)), (7, .int _)]) (st' := [.int (-1), .int (-1)]) rfl ?_
        refine ev_icne DX7_hurtsOf 62 rfl (tgt := 169) (by decide) (fun h => h.elim (by decide)) (fun _ => ?_)
        refine ev_ss DX7_hurtsOf 6 63 (pc' := 119) (lv' := [(0, .ref _), (1, .int _), (2, .int _), (4, .int _), (5, .int _), (6, .int (-1)), (7, .int _)]) (st' := [.int _, .int _, .int _, .ref _]) rfl ?_
        refine ev_cV DX7_hurtsOf 69 (m_X7_decide (f := f) h hz ha ht hG2 hn hb hg hD1) vX7_decide rfl qX7_123 rfl h rfl (hd_of rfl rfl rfl rfl) ?_
        refine ev_ss DX7_hurtsOf 1 70 (pc' := 124) (lv' := [(0, .ref _), (1, .int _), (2, .int _), (4, .int _), (5, .int _), (6, .int (-1)), (7, .int _)]) (st' := [.int _, .int _]) rfl ?_
        refine ev_icne DX7_hurtsOf 71 rfl (tgt := 143) (by decide) (fun _ => ?_) (fun h => absurd h q1)
        refine ev_ss DX7_hurtsOf 1 81 (pc' := 144) (lv' := [(0, .ref _), (1, .int _), (2, .int _), (4, .int _), (5, .int _), (6, .int (-1)), (7, .int _)]) (st' := [.int 1]) rfl ?_
        refine ev_goto DX7_hurtsOf 82 rfl (tgt := 148) (by decide) ?_
        refine ev_ss DX7_hurtsOf 2 84 (pc' := 152) (lv' := [(8, .int 1), (0, .ref _), (1, .int _), (2, .int _), (4, .int _), (5, .int _), (6, .int (-1)), (7, .int _)]) (st' := [.int 1]) rfl ?_
        refine ev_ifeq DX7_hurtsOf 86 rfl (tgt := 160) (by decide) (fun h => absurd h (by decide)) (fun _ => ?_)
        refine ev_ss DX7_hurtsOf 1 87 (pc' := 157) (lv' := [(8, .int 1), (0, .ref _), (1, .int _), (2, .int _), (4, .int _), (5, .int _), (6, .int (-1)), (7, .int _)]) (st' := [.int _]) rfl ?_
        refine ev_goto DX7_hurtsOf 88 rfl (tgt := 161) (by decide) ?_
        refine ev_ss DX7_hurtsOf 2 90 (pc' := 166) (lv' := [(7, .int _), (6, .int _), (8, .int 1), (0, .ref _), (1, .int _), (2, .int _), (4, .int _), (5, .int _)]) (st' := []) rfl ?_
        refine ev_goto DX7_hurtsOf 92 rfl (tgt := 97) (by decide) ?_
        refine ev_lvp (lv2 := [(0, .ref _), (1, .int _), (2, .int _), (4, .int _), (5, .int _), (6, .int _), (7, .int _)]) [3, 4, 5, 6, 7, 1, 0] rfl ?_
        refine (congrArg (fun z9 => Ev E YX7_hurtsOf (fun v9 w9 => v9 = some (.int V) ∧ ZM E ad w9 p sv sc len ch tw hh ∧ MO ws w9) nX 0 0 97 [(0, .ref (ad 214)), (1, .int (nI a)), (2, .int (nI t)), (4, .int sg), (5, .int cm), (6, .int (nI i)), (7, .int z9)] [] w) (nI_1 i)).mpr ?_
        refine ev_ss DX7_hurtsOf 2 57 (pc' := 102) (lv' := [(0, .ref _), (1, .int _), (2, .int _), (4, .int _), (5, .int _), (6, .int _), (7, .int _)]) (st' := [.int 300, .int _]) rfl ?_
        refine ev_icgt DX7_hurtsOf 59 rfl (tgt := 169) (by decide) (fun _ => ?_) (fun h => h.elim (nI_lt (a := 300) (b := i + 1) (by omega) (by omega)))
        refine ev_lvp (lv2 := [(0, .ref _), (6, .int _)]) [0, 5] rfl ?_
        rw [hV]
        exact hu_tail hM hG hLG h ⟨_, hz⟩ h2 h3 hA hF
      · refine ev_ss DX7_hurtsOf 2 57 (pc' := 102) (lv' := [(0, .ref _), (1, .int _), (2, .int _), (4, .int _), (5, .int _), (6, .int (-1)), (7, .int _)]) (st' := [.int 300, .int _]) rfl ?_
        refine ev_icgt DX7_hurtsOf 59 rfl (tgt := 169) (by decide) (fun h => absurd h (nI_nlt (a := 300) (b := i) (by omega) (by decide))) (fun _ => ?_)
        refine ev_ss DX7_hurtsOf 2 60 (pc' := 108) (lv' := [(0, .ref _), (1, .int _), (2, .int _), (4, .int _), (5, .int _), (6, .int (-1)), (7, .int _)]) (st' := [.int (-1), .int (-1)]) rfl ?_
        refine ev_icne DX7_hurtsOf 62 rfl (tgt := 169) (by decide) (fun h => h.elim (by decide)) (fun _ => ?_)
        refine ev_ss DX7_hurtsOf 6 63 (pc' := 119) (lv' := [(0, .ref _), (1, .int _), (2, .int _), (4, .int _), (5, .int _), (6, .int (-1)), (7, .int _)]) (st' := [.int _, .int _, .int _, .ref _]) rfl ?_
        refine ev_cV DX7_hurtsOf 69 (m_X7_decide (f := f) h hz ha ht hG2 hn hb hg hD1) vX7_decide rfl qX7_123 rfl h rfl (hd_of rfl rfl rfl rfl) ?_
        refine ev_ss DX7_hurtsOf 1 70 (pc' := 124) (lv' := [(0, .ref _), (1, .int _), (2, .int _), (4, .int _), (5, .int _), (6, .int (-1)), (7, .int _)]) (st' := [.int _, .int _]) rfl ?_
        refine ev_icne DX7_hurtsOf 71 rfl (tgt := 143) (by decide) (fun _ => ?_) (fun h => absurd h q1)
        refine ev_ss DX7_hurtsOf 1 81 (pc' := 144) (lv' := [(0, .ref _), (1, .int _), (2, .int _), (4, .int _), (5, .int _), (6, .int (-1)), (7, .int _)]) (st' := [.int 1]) rfl ?_
        refine ev_goto DX7_hurtsOf 82 rfl (tgt := 148) (by decide) ?_
        refine ev_ss DX7_hurtsOf 2 84 (pc' := 152) (lv' := [(8, .int 1), (0, .ref _), (1, .int _), (2, .int _), (4, .int _), (5, .int _), (6, .int (-1)), (7, .int _)]) (st' := [.int 1]) rfl ?_
        refine ev_ifeq DX7_hurtsOf 86 rfl (tgt := 160) (by decide) (fun h => absurd h (by decide)) (fun _ => ?_)
        refine ev_ss DX7_hurtsOf 1 87 (pc' := 157) (lv' := [(8, .int 1), (0, .ref _), (1, .int _), (2, .int _), (4, .int _), (5, .int _), (6, .int (-1)), (7, .int _)]) (st' := [.int _]) rfl ?_
        refine ev_goto DX7_hurtsOf 88 rfl (tgt := 161) (by decide) ?_
        refine ev_ss DX7_hurtsOf 2 90 (pc' := 166) (lv' := [(7, .int _), (6, .int _), (8, .int 1), (0, .ref _), (1, .int _), (2, .int _), (4, .int _), (5, .int _)]) (st' := []) rfl ?_
        refine ev_goto DX7_hurtsOf 92 rfl (tgt := 97) (by decide) ?_
        refine ev_lvp (lv2 := [(0, .ref _), (1, .int _), (2, .int _), (4, .int _), (5, .int _), (6, .int _), (7, .int _)]) [3, 4, 5, 6, 7, 1, 0] rfl ?_
        refine (congrArg (fun z9 => Ev E YX7_hurtsOf (fun v9 w9 => v9 = some (.int V) ∧ ZM E ad w9 p sv sc len ch tw hh ∧ MO ws w9) nX 0 0 97 [(0, .ref (ad 214)), (1, .int (nI a)), (2, .int (nI t)), (4, .int sg), (5, .int cm), (6, .int (nI i)), (7, .int z9)] [] w) (nI_1 i)).mpr ?_
        refine ev_ss DX7_hurtsOf 2 57 (pc' := 102) (lv' := [(0, .ref _), (1, .int _), (2, .int _), (4, .int _), (5, .int _), (6, .int _), (7, .int _)]) (st' := [.int 300, .int _]) rfl ?_
        refine ev_icgt DX7_hurtsOf 59 rfl (tgt := 169) (by decide) (fun h => absurd h (nI_nlt (a := 300) (b := i + 1) (by omega) (by decide))) (fun _ => ?_)
        refine ev_ss DX7_hurtsOf 2 60 (pc' := 108) (lv' := [(0, .ref _), (1, .int _), (2, .int _), (4, .int _), (5, .int _), (6, .int _), (7, .int _)]) (st' := [.int (-1), .int _]) rfl ?_
        refine ev_icne DX7_hurtsOf 62 rfl (tgt := 169) (by decide) (fun _ => ?_) (fun h => absurd h (nI_m1 (by omega)))
        refine ev_lvp (lv2 := [(0, .ref _), (6, .int _)]) [0, 5] rfl ?_
        rw [hV]
        exact hu_tail hM hG hLG h ⟨_, hz⟩ h2 h3 hA hF
set_option maxRecDepth 100000 in
set_option maxHeartbeats 4000000 in
theorem m_X7_hurtsOf {E : gE} {ad : Nat → Nat} {ws : va_W} {p : PS} {sv : Nat → PS} {sc len : Nat} {ch : Nat → Int32} {tw : Int32} {hh : Int64} (hM : ZM E ad ws p sv sc len ch tw hh) {a t : Nat} (ha : a < 2) (ht : t < 8) (hI : WI (pW p a)) : C0 E YX7_hurtsOf 0 0 [.ref (ad 214), .int (nI a), .int (nI t)] ws (fun v9 w9 => v9 = some (.int (huP p a t)) ∧ ZM E ad w9 p sv sc len ch tw hh ∧ MO ws w9) := by
  have eK := k301e
  have hc1 : acA a t + 11 ≤ 288 := by unfold acA; omega
  obtain ⟨V, hV⟩ : ∃ V, V = huP p a t := ⟨_, rfl⟩
  rw [← hV]
  unfold huP at hV
  obtain ⟨n, hn, hb, hg, hm⟩ := (hI.1 t ht).2.2.2.2.2
  obtain ⟨ea0, iw0, z0, rw0, as0, l0, hs0, hq0, er0, bf0, ⟨h0, hz0, -, -, -⟩, -, ⟨hG0, -⟩, -, -, -⟩ := id hM
  obtain ⟨ea, iw, z, l, ⟨h, hG, hLG⟩, hpa⟩ := m_pa hM
  have hzz : ws[215]? = some (ad 215, iaC E 811 z0) := hz0
  refine c0V vX7_hurtsOf (Nat.le_of_ble_eq_true rfl) (lv0 := [(0, .ref (ad 214)), (1, .int (nI a)), (2, .int (nI t))]) rfl ?_
  by_cases q1 : (pW p a).1 t 10 = 0
  · refine ev_ss DX7_hurtsOf 1 0 (pc' := 1) (lv' := [(0, .ref _), (1, .int _), (2, .int _)]) (st' := [.ref _]) rfl ?_
    refine ev_get DX7_hurtsOf 1 GX7 rfl (k0 := 0) (Nat.le_of_ble_eq_true rfl) fX7_7 h rfl ?_
    refine ev_ss DX7_hurtsOf 3 2 (pc' := 7) (lv' := [(0, .ref _), (1, .int _), (2, .int _)]) (st' := [.int _, .int _, .ref _, .ref _]) rfl ?_
    refine ev_cV DX7_hurtsOf 5 (m_X7_accentAt h) vX7_accentAt rfl qX7_68 rfl h rfl (hd_of rfl rfl rfl rfl) ?_
    refine ev_ss DX7_hurtsOf 2 6 (pc' := 12) (lv' := [(0, .ref _), (1, .int _), (2, .int _)]) (st' := [.int _, .ref _]) rfl ?_
    refine ev_ialdv DX7_hurtsOf 8 (k0 := (acA a t + 3)) rfl hzz (nx_add (a := acA a t) (b := 3) rfl rfl) (by omega) (by decide) ((hG0.2.1 a t 3 ha ht (by decide))) ?_
    refine ev_ss DX7_hurtsOf 2 9 (pc' := 15) (lv' := [(3, .int _), (0, .ref _), (1, .int _), (2, .int _)]) (st' := [.int _]) rfl ?_
    refine ev_ifne DX7_hurtsOf 11 rfl (tgt := 20) (by decide) (fun h => h.elim q1) (fun _ => ?_)
    refine ev_ss DX7_hurtsOf 1 12 (pc' := 19) (lv' := [(3, .int _), (0, .ref _), (1, .int _), (2, .int _)]) (st' := [.int (-1)]) rfl ?_
    exact ev_iret DX7_hurtsOf 13 rfl rfl ⟨by rw [if_pos q1] at hV; rw [hV], hM, MO.rf⟩
  · rw [if_neg q1] at hV
    -- the sign of this tone itself
    have K2 : ∀ (m i : Nat) (x sg : Int32) (w1 : va_W) (z1 : Nat → Int32) (l1 : Nat → Int64) (bs : List Int32), i + m = n → x = nI i → w1[214]? = some (ad 214, moC ad (nI sc) (nI len) tw ea iw hh) → w1[215]? = some (ad 215, iaC E 811 z1) → w1[218]? = some (ad 218, laC E 2 l1) → ZG z1 (pBits (pSW p (sndT p.1 (pW p a) t).2.1 a (sndT p.1 (pW p a) t).2.2) a bs) → LG l1 (pBits (pSW p (sndT p.1 (pW p a) t).2.1 a (sndT p.1 (pW p a) t).2.2) a bs) → (∃ er, w1[222]? = some (ad 222, iaC E 64 er)) → AS_ E ad w1 z l → TF5 ws w1 → takeQ m sg bs = takeQ n 0 (sndT p.1 (pW p a) t).2.2.2.1 →
        Ev E YX7_hurtsOf (fun v9 w9 => v9 = some (.int V) ∧ ZM E ad w9 p sv sc len ch tw hh ∧ MO ws w9) nX 0 0 53 [(0, .ref (ad 214)), (1, .int (nI a)), (2, .int (nI t)), (3, .int (nI n)), (4, .int sg), (5, .int x)] [] w1 := by
      intro m
      induction m with
      | zero =>
        intro i x sg w1 z1 l1 bs hmm hx h1 hz1 hl1 hg1 hL1 he1 hA1 hF1 hT
        obtain rfl : i = n := by omega
        subst hx
        have hI8 : WI (sndT p.1 (pW p a) t).2.2 := WI_sndT hI t (by omega)
        have eF := sndT_hi (sd := p.1) (σ := pW p a) t (Nat.le_refl t)
        obtain ⟨n', c, d, y1, y2, y3, y4, y5, y6, y7, y8, y9, y10, y11, y12, y13, y14, y15⟩ := sg_all (sd := (sndT p.1 (pW p a) t).2.1) (hI8.1 t ht) hI8.2
        rw [eF] at y2 y3 y4 y5 y8 y11 y12 y13 y14 hV
        have hcl : ((pW p a).1 t 10).toNatClampNeg = i := by rw [hb]; exact nI_clamp (by omega)
        have esg : sg = sgV ((pW p a).1 t) (sndT p.1 (pW p a) t).2.2.2.1 := by
          unfold sgV
          rw [hcl, ← hT]
          rfl
        obtain ⟨q, eq⟩ : ∃ q, q = pBits (pSW p (sndT p.1 (pW p a) t).2.1 a (sndT p.1 (pW p a) t).2.2) a bs := ⟨_, rfl⟩
        rw [← eq] at hg1
        have eq1 : q.1 = (sndT p.1 (pW p a) t).2.1 := by rw [eq]; rfl
        have eqt : (pW q a).1 t = (pW p a).1 t := by rw [eq]; unfold pBits; rw [pW_set, pW_SW, eF]
        have hg2 : ZG z1 (pTone q a t ((pW p a).1 t)) := by rw [← eqt, pT_id]; exact hg1
        have a1 : amQ (nI i) sg = sgA ((pW p a).1 t) (sndT p.1 (pW p a) t).2.2.2.1 := by
          rw [amQ_P hn (fun e => by rw [esg]; unfold sgV; rw [hcl, e]; rfl)]
          unfold sgA
          rw [← esg, hb]
        have hArr : rB 67236 (arrP ((pW p a).1 t) (sgA ((pW p a).1 t) (sndT p.1 (pW p a) t).2.2.2.1) (drwN (sndT p.1 (pW p a) t).2.1 ((pW p a).1 t))) := arrP_B (hI.1 t ht) y12 (drwN_B (hI.1 t ht).1.2.2.2)
        refine ev_ss DX7_hurtsOf 2 32 (pc' := 56) (lv' := [(0, .ref _), (1, .int _), (2, .int _), (3, .int _), (4, .int _), (5, .int _)]) (st' := [.int _, .int _]) rfl ?_
        refine ev_icge DX7_hurtsOf 34 rfl (tgt := 77) (by decide) (fun _ => ?_) (fun h => h.elim (nI_le (Nat.le_refl _) (by omega)))
        refine ev_ss DX7_hurtsOf 5 45 (pc' := 83) (lv' := [(0, .ref _), (1, .int _), (2, .int _), (3, .int _), (4, .int _), (5, .int _)]) (st' := [.int _, .int _, .int _, .int _, .ref _]) rfl ?_
        refine ev_cS DX7_hurtsOf 50 m_X7_amplitude vX7_amplitude rfl qX7_117 rfl (hd_of rfl rfl rfl rfl) ?_
        rw [a1]
        refine ev_rV DX7_hurtsOf 51 (m_X7_hearG h1 hz1 (amp := sgA ((pW p a).1 t) (sndT p.1 (pW p a) t).2.2.2.1) ha ht hg2 hm) vX7_hear rfl qX7_84 rfl h1 rfl (hd_of rfl rfl rfl rfl) (fun v w2 hvw => ?_)
        obtain ⟨rfl, z2, rfl, hg3⟩ := hvw
        rw [eq1]
        refine ev_ss DX7_hurtsOf 5 52 (pc' := 97) (lv' := [(7, .int 0), (6, .int (-1)), (5, .int _), (0, .ref _), (1, .int _), (2, .int _), (3, .int _), (4, .int _)]) (st' := []) rfl ?_
        refine ev_lvp (lv2 := [(0, .ref _), (1, .int _), (2, .int _), (4, .int _), (5, .int _), (6, .int _), (7, .int _)]) [3, 4, 5, 7, 2, 1, 0] rfl ?_
        obtain ⟨er2, he2⟩ := he1
        have hTI : TI (upd (upd (upd ((pW p a).1 t) 4 0) 6 ((pW p a).1 t 5)) 5 (sgA ((pW p a).1 t) (sndT p.1 (pW p a) t).2.2.2.1)) := by
          obtain ⟨⟨x0, x1, x2, x3⟩, ⟨x4, x5, x6⟩, x7, x16, x17, x18⟩ := hI.1 t ht
          exact ⟨⟨x0, x1, x2, x3⟩, ⟨(by unfold rB; decide : rB 1000 0), y12, x5⟩, x7, x16, x17, x18⟩
        refine hu_find hM hG hLG (wset_n h1 (by decide)) (wset_get hz1) ⟨_, wset_n hl1 (by decide)⟩ ⟨er2, wset_n he2 (by decide)⟩ (hA1.of (List.getElem?_set_ne (by decide)) (List.getElem?_set_ne (by decide))) (hF1.tr (fun j b _ _ _ _ => List.getElem?_set_ne (Ne.symm b))) (q := (drwS q.1, q.2)) ha ht hg3 hn hb hg hTI hArr k301 0 _ (Nat.zero_add _) nI_0.symm ?_
        rw [hV]
        unfold luP
        rw [← esg]
        refine lhP_f (fun r => ?_) _ _
        rfl
      | succ m ih =>
        intro i x sg w1 z1 l1 bs hmm hx h1 hz1 hl1 hg1 hL1 he1 hA1 hF1 hT
        subst hx
        refine ev_ss DX7_hurtsOf 2 32 (pc' := 56) (lv' := [(0, .ref _), (1, .int _), (2, .int _), (3, .int _), (4, .int _), (5, .int _)]) (st' := [.int _, .int _]) rfl ?_
        refine ev_icge DX7_hurtsOf 34 rfl (tgt := 77) (by decide) (fun h => absurd h (nI_ge (b := n) (by omega) (by omega))) (fun _ => ?_)
        refine ev_ss DX7_hurtsOf 5 35 (pc' := 65) (lv' := [(0, .ref _), (1, .int _), (2, .int _), (3, .int _), (4, .int _), (5, .int _)]) (st' := [.int _, .ref _, .int _]) rfl ?_
        refine ev_rV DX7_hurtsOf 40 (m_X7_takeBit h1 hz1 ha hg1) vX7_takeBit rfl qX7_120 rfl h1 rfl (hd_of rfl rfl rfl rfl) (fun v w2 hvw => ?_)
        obtain ⟨rfl, ⟨z2, hz2, hg2⟩, hO2⟩ := hvw
        rw [pBits_W] at hg2 ⊢
        rw [pBits_2] at hg2
        refine ev_ss DX7_hurtsOf 3 41 (pc' := 74) (lv' := [(5, .int _), (4, .int _), (0, .ref _), (1, .int _), (2, .int _), (3, .int _)]) (st' := []) rfl ?_
        refine ev_goto DX7_hurtsOf 44 rfl (tgt := 53) (by decide) ?_
        refine ev_lvp (lv2 := [(0, .ref _), (1, .int _), (2, .int _), (3, .int _), (4, .int _), (5, .int _)]) [2, 3, 4, 5, 1, 0] rfl ?_
        obtain ⟨er2, he2⟩ := he1
        refine ih (i + 1) _ _ w2 z2 l1 (tk1 bs).2 (by omega) (nI_1 i) ((hO2 214 (by decide)).trans h1) hz2 ((hO2 218 (by decide)).trans hl1) hg2 ?_ ⟨er2, (hO2 222 (by decide)).trans he2⟩ (hA1.of (hO2 217 (by decide)) (hO2 220 (by decide))) (hF1.tr hO2.t5) (by rw [← hT, takeQ_s]; rfl)
        intro b hbb
        rw [hL1 b hbb]
        by_cases e : b = a
        · subst e; unfold pBits; rw [pW_set, pW_set]
        · unfold pBits; rw [pW_other ha hbb e, pW_other ha hbb e]
    have K1 : ∀ (m i : Nat) (x : Int32) (w1 : va_W) (z1 : Nat → Int32) (l1 : Nat → Int64), i + m = t → x = nI i → w1[214]? = some (ad 214, moC ad (nI sc) (nI len) tw ea iw hh) → w1[215]? = some (ad 215, iaC E 811 z1) → w1[218]? = some (ad 218, laC E 2 l1) → ZG z1 (pSW p (sndT p.1 (pW p a) i).2.1 a (sndT p.1 (pW p a) i).2.2) → LG l1 (pSW p (sndT p.1 (pW p a) i).2.1 a (sndT p.1 (pW p a) i).2.2) → (∃ er, w1[222]? = some (ad 222, iaC E 64 er)) → AS_ E ad w1 z l → TF5 ws w1 →
        Ev E YX7_hurtsOf (fun v9 w9 => v9 = some (.int V) ∧ ZM E ad w9 p sv sc len ch tw hh ∧ MO ws w9) nX 0 0 27 [(0, .ref (ad 214)), (1, .int (nI a)), (2, .int (nI t)), (3, .int (nI n)), (4, .int x)] [] w1 := by
      intro m
      induction m with
      | zero =>
        intro i x w1 z1 l1 hmm hx h1 hz1 hl1 hg1 hL1 he1 hA1 hF1
        obtain rfl : i = t := by omega
        subst hx
        refine ev_ss DX7_hurtsOf 2 18 (pc' := 30) (lv' := [(0, .ref _), (1, .int _), (2, .int _), (3, .int _), (4, .int _)]) (st' := [.int _, .int _]) rfl ?_
        refine ev_icge DX7_hurtsOf 20 rfl (tgt := 47) (by decide) (fun _ => ?_) (fun h => h.elim (nI_le (Nat.le_refl _) (by omega)))
        refine ev_ss DX7_hurtsOf 4 28 (pc' := 53) (lv' := [(5, .int 0), (4, .int 0), (0, .ref _), (1, .int _), (2, .int _), (3, .int _)]) (st' := []) rfl ?_
        refine ev_lvp (lv2 := [(0, .ref _), (1, .int _), (2, .int _), (3, .int _), (4, .int _), (5, .int _)]) [2, 3, 4, 5, 1, 0] rfl ?_
        exact K2 n 0 _ 0 w1 z1 l1 (sndT p.1 (pW p a) i).2.2.2.1 (Nat.zero_add n) nI_0.symm h1 hz1 hl1 (by rw [show (sndT p.1 (pW p a) i).2.2.2.1 = (pW (pSW p (sndT p.1 (pW p a) i).2.1 a (sndT p.1 (pW p a) i).2.2) a).2.1 from by rw [pW_SW], pBits_id]; exact hg1) (by rw [show (sndT p.1 (pW p a) i).2.2.2.1 = (pW (pSW p (sndT p.1 (pW p a) i).2.1 a (sndT p.1 (pW p a) i).2.2) a).2.1 from by rw [pW_SW], pBits_id]; exact hL1) he1 hA1 hF1 rfl
      | succ m ih =>
        intro i x w1 z1 l1 hmm hx h1 hz1 hl1 hg1 hL1 he1 hA1 hF1
        subst hx
        have hI1 : WI (pW (pSW p (sndT p.1 (pW p a) i).2.1 a (sndT p.1 (pW p a) i).2.2) a) := by rw [pW_SW]; exact WI_sndT hI i (by omega)
        refine ev_ss DX7_hurtsOf 2 18 (pc' := 30) (lv' := [(0, .ref _), (1, .int _), (2, .int _), (3, .int _), (4, .int _)]) (st' := [.int _, .int _]) rfl ?_
        refine ev_icge DX7_hurtsOf 20 rfl (tgt := 47) (by decide) (fun h => absurd h (nI_ge (b := t) (by omega) (by omega))) (fun _ => ?_)
        refine ev_ss DX7_hurtsOf 3 21 (pc' := 37) (lv' := [(0, .ref _), (1, .int _), (2, .int _), (3, .int _), (4, .int _)]) (st' := [.int _, .int _, .ref _]) rfl ?_
        refine ev_rV DX7_hurtsOf 24 (m_X7_sendToneG h1 hz1 hl1 ha (t := i) (by omega) hg1 hL1 hI1) vX7_sendTone rfl qX7_131 rfl h1 rfl (hd_of rfl rfl rfl rfl) (fun v w2 hvw => ?_)
        obtain ⟨rfl, ⟨z2, l2, hz2, hl2, hg2, hL2⟩, hO2⟩ := hvw
        rw [pW_SW, pSW_pSW] at hg2 hL2
        refine ev_ss DX7_hurtsOf 2 25 (pc' := 44) (lv' := [(4, .int _), (0, .ref _), (1, .int _), (2, .int _), (3, .int _)]) (st' := []) rfl ?_
        refine ev_goto DX7_hurtsOf 27 rfl (tgt := 27) (by decide) ?_
        refine ev_lvp (lv2 := [(0, .ref _), (1, .int _), (2, .int _), (3, .int _), (4, .int _)]) [1, 2, 3, 4, 0] rfl ?_
        obtain ⟨er2, he2⟩ := he1
        have e9 := ih (i + 1) _ w2 z2 l2 (by omega) (nI_1 i) ((hO2 214 (by decide) (by decide)).trans h1) hz2 hl2 (by rw [sndT_s]; exact hg2) (by rw [sndT_s]; exact hL2) ⟨er2, (hO2 222 (by decide) (by decide)).trans he2⟩ (hA1.of (hO2 217 (by decide) (by decide)) (hO2 220 (by decide) (by decide))) (hF1.tr hO2.t5)
        exact e9
    refine ev_ss DX7_hurtsOf 1 0 (pc' := 1) (lv' := [(0, .ref _), (1, .int _), (2, .int _)]) (st' := [.ref _]) rfl ?_
    refine ev_get DX7_hurtsOf 1 GX7 rfl (k0 := 0) (Nat.le_of_ble_eq_true rfl) fX7_7 h rfl ?_
    refine ev_ss DX7_hurtsOf 3 2 (pc' := 7) (lv' := [(0, .ref _), (1, .int _), (2, .int _)]) (st' := [.int _, .int _, .ref _, .ref _]) rfl ?_
    refine ev_cV DX7_hurtsOf 5 (m_X7_accentAt h) vX7_accentAt rfl qX7_68 rfl h rfl (hd_of rfl rfl rfl rfl) ?_
    refine ev_ss DX7_hurtsOf 2 6 (pc' := 12) (lv' := [(0, .ref _), (1, .int _), (2, .int _)]) (st' := [.int _, .ref _]) rfl ?_
    refine ev_ialdv DX7_hurtsOf 8 (k0 := (acA a t + 3)) rfl hzz (nx_add (a := acA a t) (b := 3) rfl rfl) (by omega) (by decide) (((hG0.2.1 a t 3 ha ht (by decide)).trans hb)) ?_
    refine ev_ss DX7_hurtsOf 2 9 (pc' := 15) (lv' := [(3, .int _), (0, .ref _), (1, .int _), (2, .int _)]) (st' := [.int _]) rfl ?_
    refine ev_ifne DX7_hurtsOf 11 rfl (tgt := 20) (by decide) (fun _ => ?_) (fun h => absurd h (fun e => q1 (hb.trans e)))
    refine ev_ss DX7_hurtsOf 1 14 (pc' := 21) (lv' := [(3, .int _), (0, .ref _), (1, .int _), (2, .int _)]) (st' := [.ref _]) rfl ?_
    refine ev_rV DX7_hurtsOf 15 hpa vX7_putAside rfl qX7_175 rfl h rfl (hd_of rfl rfl rfl rfl) (fun v w1 hvw => ?_)
    obtain ⟨rfl, ⟨h1, hz1, hl1, er1, he1⟩, hA1, hF1⟩ := hvw
    refine ev_ss DX7_hurtsOf 2 16 (pc' := 27) (lv' := [(4, .int 0), (3, .int _), (0, .ref _), (1, .int _), (2, .int _)]) (st' := []) rfl ?_
    refine ev_lvp (lv2 := [(0, .ref _), (1, .int _), (2, .int _), (3, .int _), (4, .int _)]) [2, 3, 4, 1, 0] rfl ?_
    exact K1 t 0 _ w1 z l (Nat.zero_add t) nI_0.symm h1 hz1 hl1 (by rw [sndT_0, pSW_id]; exact hG) (by rw [sndT_0, pSW_id]; exact hLG) ⟨er1, he1⟩ hA1 hF1
