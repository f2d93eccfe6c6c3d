def alP (c : Int32) : Int32 := if c < 97 then -1 else if 102 < c then -1 else c - 97 + 10
def dgP (c : Int32) : Int32 := if c < 48 then alP c else if 57 < c then alP c else c - 48
def bhP (c : Int32) : Int32 := if dgP c = -1 then 4 else 3
def nx0 (c : Int32) : Int32 := if c = 97 then 1 else if c = 98 then 1 else 4
def nx1 (c : Int32) : Int32 := if c = 58 then 2 else 4
def nx3 (c : Int32) : Int32 := if c = 59 then 0 else bhP c
def nxP (p c : Int32) : Int32 := if p = 0 then nx0 c else if p = 1 then nx1 c else if p = 2 then bhP c else if p = 3 then nx3 c else 4
def pl5 (p : Int32) : Prop := p = 0 ∨ p = 1 ∨ p = 2 ∨ p = 3 ∨ p = 4
theorem bhP_5 (c : Int32) : bhP c = 3 ∨ bhP c = 4 := by unfold bhP; split <;> simp
theorem nxP_5 (p c : Int32) : pl5 (nxP p c) := by
  unfold nxP pl5
  have h := bhP_5 c
  split
  · unfold nx0; split; simp; split <;> simp
  · split
    · unfold nx1; split <;> simp
    · split
      · rcases h with h | h <;> simp [h]
      · split
        · unfold nx3; split
          · simp
          · rcases h with h | h <;> simp [h]
        · simp
/-- the place behind the first characters -/
def tzP (ch : Nat → Int32) : Nat → Int32
  | 0 => 0
  | n + 1 => nxP (tzP ch n) (ch n)
theorem tzP_5 (ch : Nat → Int32) : ∀ n, pl5 (tzP ch n)
  | 0 => Or.inl rfl
  | n + 1 => nxP_5 _ _
theorem tzP_s {ch : Nat → Int32} {n : Nat} : tzP ch (n + 1) = nxP (tzP ch n) (ch n) := rfl
/-- the way that is spoken of -/
def wnP (ch : Nat → Int32) : Nat → Int32
  | 0 => 0
  | n + 1 => if tzP ch n = 0 then ch n - 97 else wnP ch n
theorem wnP_s {ch : Nat → Int32} {n : Nat} : wnP ch (n + 1) = if tzP ch n = 0 then ch n - 97 else wnP ch n := rfl
theorem nx0_1 {c : Int32} (h : ¬ nx0 c = 4) : c - 97 = 0 ∨ c - 97 = 1 := by
  unfold nx0 at h
  split at h
  · left; rename_i h1; rw [h1]; rfl
  · split at h
    · right; rename_i h1 h2; rw [h2]; rfl
    · exact absurd rfl h
theorem wnP_01 (ch : Nat → Int32) : ∀ n, (¬ tzP ch n = 0 → ¬ tzP ch n = 4 → wnP ch n = 0 ∨ wnP ch n = 1)
  | 0 => fun h => absurd rfl h
  | n + 1 => by
    intro h1 h2
    rw [tzP_s] at h1 h2
    rw [wnP_s]
    by_cases e : tzP ch n = 0
    · rw [if_pos e]
      rw [e, show nxP 0 (ch n) = nx0 (ch n) from if_pos rfl] at h2
      exact nx0_1 h2
    · rw [if_neg e]
      refine wnP_01 ch n e (fun e4 => h2 ?_)
      rw [e4]
      rfl
def erP (ch : Nat → Int32) (len : Nat) : Nat → Nat → Int32
  | 0, _ => nI len
  | m + 1, i => if tzP ch (i + 1) = 4 then nI i else erP ch len m (i + 1)
theorem erP_s {ch : Nat → Int32} {len m i : Nat} : erP ch len (m + 1) i = if tzP ch (i + 1) = 4 then nI i else erP ch len m (i + 1) := rfl
def bfT (ch : Nat → Int32) (w : Int32) : Nat → Int32
  | 0 => 0
  | n + 1 => bfT ch w n + if tzP ch (n + 1) = 3 then (if wnP ch (n + 1) = w then 4 else 0) else 0
theorem bfT_s {ch : Nat → Int32} {w : Int32} {n : Nat} : bfT ch w (n + 1) = bfT ch w n + if tzP ch (n + 1) = 3 then (if wnP ch (n + 1) = w then 4 else 0) else 0 := rfl
/-- the four bits of a digit -/
def dg4 (dg : Int32) : List Int32 := [(dg >>> ((3 : Int32) &&& 31)) &&& 1, (dg >>> ((2 : Int32) &&& 31)) &&& 1, (dg >>> ((1 : Int32) &&& 31)) &&& 1, (dg >>> ((0 : Int32) &&& 31)) &&& 1]
def pbP (ch : Nat → Int32) (b0 b1 : List Int32) : Nat → List Int32 × List Int32
  | 0 => (b0, b1)
  | n + 1 => if tzP ch (n + 1) = 3 then (if wnP ch (n + 1) = 0 then ((pbP ch b0 b1 n).1 ++ dg4 (dgP (ch n)), (pbP ch b0 b1 n).2) else ((pbP ch b0 b1 n).1, (pbP ch b0 b1 n).2 ++ dg4 (dgP (ch n)))) else pbP ch b0 b1 n
theorem pbP_s {ch : Nat → Int32} {b0 b1 : List Int32} {n : Nat} : pbP ch b0 b1 (n + 1) = if tzP ch (n + 1) = 3 then (if wnP ch (n + 1) = 0 then ((pbP ch b0 b1 n).1 ++ dg4 (dgP (ch n)), (pbP ch b0 b1 n).2) else ((pbP ch b0 b1 n).1, (pbP ch b0 b1 n).2 ++ dg4 (dgP (ch n)))) else pbP ch b0 b1 n := rfl
abbrev txC (b : Nat) (l : Int32) : va_E := .inr (2, [.ref b, .int l])
abbrev chA (E : gE) (f : Nat → Int32) : va_E := .inl (gK E 2, 60, .inl f)
/-- a text -/
def TXT (E : gE) (ad : Nat → Nat) (ws : va_W) (it : Nat) (len : Nat) (ch : Nat → Int32) : Prop := len ≤ 60 ∧ ws[it]? = some (ad it, txC (ad (it + 1)) (nI len)) ∧ ∃ g : Nat → Int32, ws[it + 1]? = some (ad (it + 1), chA E g) ∧ ∀ j, j < len → g j = ch j
theorem TXT.of {E : gE} {ad : Nat → Nat} {ws w : va_W} {it len : Nat} {ch : Nat → Int32} (h : TXT E ad ws it len ch) (h1 : w[it]? = ws[it]?) (h2 : w[it + 1]? = ws[it + 1]?) : TXT E ad w it len ch := by
  obtain ⟨a, b, g, c, d⟩ := h
  exact ⟨a, h1.trans b, g, h2.trans c, d⟩
set_option maxRecDepth 100000 in
set_option maxHeartbeats 4000000 in
theorem m_X2_digitOf {E : gE} {ws : va_W} {c : Int32} : CD E YX2_digitOf 0 0 [.int c] ws (some (.int (dgP c))) ws := by
  refine cdS vX2_digitOf (Nat.le_of_ble_eq_true rfl) (lv0 := [(0, .int c)]) rfl ?_
  refine ev_ss DX2_digitOf 2 0 (pc' := 3) (lv' := [(0, .int _)]) (st' := [.int 48, .int _]) rfl ?_
  refine ev_iclt DX2_digitOf 2 rfl (tgt := 17) (by decide) (fun c_1 => ?_) (fun c_1 => ?_)
  · refine ev_ss DX2_digitOf 2 10 (pc' := 20) (lv' := [(0, .int _)]) (st' := [.int 97, .int _]) rfl ?_
    refine ev_iclt DX2_digitOf 12 rfl (tgt := 39) (by decide) (fun c_2 => ?_) (fun c_2 => ?_)
    · refine ev_ss DX2_digitOf 1 22 (pc' := 40) (lv' := [(0, .int _)]) (st' := [.int (-1)]) rfl ?_
      exact ev_iret DX2_digitOf 23 rfl rfl ⟨congrArg (fun z => some (Value.int z)) (Eq.symm ((if_pos c_1).trans (if_pos c_2))), rfl⟩
    · refine ev_ss DX2_digitOf 2 13 (pc' := 26) (lv' := [(0, .int _)]) (st' := [.int 102, .int _]) rfl ?_
      refine ev_icgt DX2_digitOf 15 rfl (tgt := 39) (by decide) (fun c_3 => ?_) (fun c_3 => ?_)
      · refine ev_ss DX2_digitOf 1 22 (pc' := 40) (lv' := [(0, .int _)]) (st' := [.int (-1)]) rfl ?_
        exact ev_iret DX2_digitOf 23 rfl rfl ⟨congrArg (fun z => some (Value.int z)) (Eq.symm ((if_pos c_1).trans ((if_neg c_2).trans (if_pos c_3)))), rfl⟩
      · refine ev_ss DX2_digitOf 5 16 (pc' := 36) (lv' := [(0, .int _)]) (st' := [.int _]) rfl ?_
        refine ev_goto DX2_digitOf 21 rfl (tgt := 40) (by decide) ?_
        exact ev_iret DX2_digitOf 23 rfl rfl ⟨congrArg (fun z => some (Value.int z)) (Eq.symm ((if_pos c_1).trans ((if_neg c_2).trans (if_neg c_3)))), rfl⟩
  · refine ev_ss DX2_digitOf 2 3 (pc' := 9) (lv' := [(0, .int _)]) (st' := [.int 57, .int _]) rfl ?_
    refine ev_icgt DX2_digitOf 5 rfl (tgt := 17) (by decide) (fun c_4 => ?_) (fun c_4 => ?_)
    · refine ev_ss DX2_digitOf 2 10 (pc' := 20) (lv' := [(0, .int _)]) (st' := [.int 97, .int _]) rfl ?_
      refine ev_iclt DX2_digitOf 12 rfl (tgt := 39) (by decide) (fun c_5 => ?_) (fun c_5 => ?_)
      · refine ev_ss DX2_digitOf 1 22 (pc' := 40) (lv' := [(0, .int _)]) (st' := [.int (-1)]) rfl ?_
        exact ev_iret DX2_digitOf 23 rfl rfl ⟨congrArg (fun z => some (Value.int z)) (Eq.symm ((if_neg c_1).trans ((if_pos c_4).trans (if_pos c_5)))), rfl⟩
      · refine ev_ss DX2_digitOf 2 13 (pc' := 26) (lv' := [(0, .int _)]) (st' := [.int 102, .int _]) rfl ?_
        refine ev_icgt DX2_digitOf 15 rfl (tgt := 39) (by decide) (fun c_6 => ?_) (fun c_6 => ?_)
        · refine ev_ss DX2_digitOf 1 22 (pc' := 40) (lv' := [(0, .int _)]) (st' := [.int (-1)]) rfl ?_
          exact ev_iret DX2_digitOf 23 rfl rfl ⟨congrArg (fun z => some (Value.int z)) (Eq.symm ((if_neg c_1).trans ((if_pos c_4).trans ((if_neg c_5).trans (if_pos c_6))))), rfl⟩
        · refine ev_ss DX2_digitOf 5 16 (pc' := 36) (lv' := [(0, .int _)]) (st' := [.int _]) rfl ?_
          refine ev_goto DX2_digitOf 21 rfl (tgt := 40) (by decide) ?_
          exact ev_iret DX2_digitOf 23 rfl rfl ⟨congrArg (fun z => some (Value.int z)) (Eq.symm ((if_neg c_1).trans ((if_pos c_4).trans ((if_neg c_5).trans (if_neg c_6))))), rfl⟩
    · refine ev_ss DX2_digitOf 3 6 (pc' := 16) (lv' := [(0, .int _)]) (st' := [.int _]) rfl ?_
      exact ev_iret DX2_digitOf 9 rfl rfl ⟨congrArg (fun z => some (Value.int z)) (Eq.symm ((if_neg c_1).trans (if_neg c_4))), rfl⟩
set_option maxRecDepth 100000 in
set_option maxHeartbeats 4000000 in
theorem m_X2_behindDigit {E : gE} {ws : va_W} {c : Int32} : CD E YX2_behindDigit 0 0 [.int c] ws (some (.int (bhP c))) ws := by
  refine cdS vX2_behindDigit (Nat.le_of_ble_eq_true rfl) (lv0 := [(0, .int c)]) rfl ?_
  refine ev_ss DX2_behindDigit 1 0 (pc' := 1) (lv' := [(0, .int _)]) (st' := [.int _]) rfl ?_
  refine ev_cS DX2_behindDigit 1 m_X2_digitOf vX2_digitOf rfl qX2_19 rfl (hd_of rfl rfl rfl rfl) ?_
  refine ev_ss DX2_behindDigit 1 2 (pc' := 5) (lv' := [(0, .int _)]) (st' := [.int (-1), .int _]) rfl ?_
  refine ev_icne DX2_behindDigit 3 rfl (tgt := 12) (by decide) (fun c_1 => ?_) (fun c_1 => ?_)
  · refine ev_ss DX2_behindDigit 1 6 (pc' := 13) (lv' := [(0, .int _)]) (st' := [.int 3]) rfl ?_
    exact ev_iret DX2_behindDigit 7 rfl rfl ⟨congrArg (fun z => some (Value.int z)) (Eq.symm (if_neg c_1)), rfl⟩
  · refine ev_ss DX2_behindDigit 1 4 (pc' := 9) (lv' := [(0, .int _)]) (st' := [.int 4]) rfl ?_
    refine ev_goto DX2_behindDigit 5 rfl (tgt := 13) (by decide) ?_
    exact ev_iret DX2_behindDigit 7 rfl rfl ⟨congrArg (fun z => some (Value.int z)) (Eq.symm (if_pos c_1)), rfl⟩
set_option maxRecDepth 100000 in
set_option maxHeartbeats 4000000 in
theorem m_X2_next_0 {E : gE} {ws : va_W} {c : Int32} : CD E YX2_next 0 0 [.int 0, .int c] ws (some (.int (nx0 c))) ws := by
  refine cdS vX2_next (Nat.le_of_ble_eq_true rfl) (lv0 := [(0, .int 0), (1, .int c)]) rfl ?_
  refine ev_ss DX2_next 1 0 (pc' := 1) (lv' := [(0, .int 0), (1, .int _)]) (st' := [.int 0]) rfl ?_
  refine ev_swin DX2_next 1 rfl (by decide) (by decide) (off := 31) (by decide) (tgt := 32) (by decide) ?_
  refine ev_ss DX2_next 2 2 (pc' := 35) (lv' := [(0, .int 0), (1, .int _)]) (st' := [.int 97, .int _]) rfl ?_
  refine ev_iceq DX2_next 4 rfl (tgt := 44) (by decide) (fun c_1 => ?_) (fun c_1 => ?_)
  · refine ev_ss DX2_next 1 8 (pc' := 45) (lv' := [(0, .int 0), (1, .int _)]) (st' := [.int 1]) rfl ?_
    refine ev_goto DX2_next 9 rfl (tgt := 49) (by decide) ?_
    exact ev_iret DX2_next 11 rfl rfl ⟨congrArg (fun z => some (Value.int z)) (Eq.symm (if_pos c_1)), rfl⟩
  · refine ev_ss DX2_next 2 5 (pc' := 41) (lv' := [(0, .int 0), (1, .int _)]) (st' := [.int 98, .int _]) rfl ?_
    refine ev_icne DX2_next 7 rfl (tgt := 48) (by decide) (fun c_2 => ?_) (fun c_2 => ?_)
    · refine ev_ss DX2_next 1 10 (pc' := 49) (lv' := [(0, .int 0), (1, .int _)]) (st' := [.int 4]) rfl ?_
      exact ev_iret DX2_next 11 rfl rfl ⟨congrArg (fun z => some (Value.int z)) (Eq.symm ((if_neg c_1).trans (if_neg c_2))), rfl⟩
    · refine ev_ss DX2_next 1 8 (pc' := 45) (lv' := [(0, .int 0), (1, .int _)]) (st' := [.int 1]) rfl ?_
      refine ev_goto DX2_next 9 rfl (tgt := 49) (by decide) ?_
      exact ev_iret DX2_next 11 rfl rfl ⟨congrArg (fun z => some (Value.int z)) (Eq.symm ((if_neg c_1).trans (if_pos c_2))), rfl⟩
set_option maxRecDepth 100000 in
set_option maxHeartbeats 4000000 in
theorem m_X2_next_1 {E : gE} {ws : va_W} {c : Int32} : CD E YX2_next 0 0 [.int 1, .int c] ws (some (.int (nx1 c))) ws := by
  refine cdS vX2_next (Nat.le_of_ble_eq_true rfl) (lv0 := [(0, .int 1), (1, .int c)]) rfl ?_
  refine ev_ss DX2_next 1 0 (pc' := 1) (lv' := [(0, .int 1), (1, .int _)]) (st' := [.int 1]) rfl ?_
  refine ev_swin DX2_next 1 rfl (by decide) (by decide) (off := 49) (by decide) (tgt := 50) (by decide) ?_
  refine ev_ss DX2_next 2 12 (pc' := 53) (lv' := [(0, .int 1), (1, .int _)]) (st' := [.int 58, .int _]) rfl ?_
  refine ev_icne DX2_next 14 rfl (tgt := 60) (by decide) (fun c_1 => ?_) (fun c_1 => ?_)
  · refine ev_ss DX2_next 1 17 (pc' := 61) (lv' := [(0, .int 1), (1, .int _)]) (st' := [.int 4]) rfl ?_
    exact ev_iret DX2_next 18 rfl rfl ⟨congrArg (fun z => some (Value.int z)) (Eq.symm (if_neg c_1)), rfl⟩
  · refine ev_ss DX2_next 1 15 (pc' := 57) (lv' := [(0, .int 1), (1, .int _)]) (st' := [.int 2]) rfl ?_
    refine ev_goto DX2_next 16 rfl (tgt := 61) (by decide) ?_
    exact ev_iret DX2_next 18 rfl rfl ⟨congrArg (fun z => some (Value.int z)) (Eq.symm (if_pos c_1)), rfl⟩
set_option maxRecDepth 100000 in
set_option maxHeartbeats 4000000 in
theorem m_X2_next_2 {E : gE} {ws : va_W} {c : Int32} : CD E YX2_next 0 0 [.int 2, .int c] ws (some (.int (bhP c))) ws := by
  refine cdS vX2_next (Nat.le_of_ble_eq_true rfl) (lv0 := [(0, .int 2), (1, .int c)]) rfl ?_
  refine ev_ss DX2_next 1 0 (pc' := 1) (lv' := [(0, .int 2), (1, .int _)]) (st' := [.int 2]) rfl ?_
  refine ev_swin DX2_next 1 rfl (by decide) (by decide) (off := 61) (by decide) (tgt := 62) (by decide) ?_
  refine ev_ss DX2_next 1 19 (pc' := 63) (lv' := [(0, .int 2), (1, .int _)]) (st' := [.int _]) rfl ?_
  refine ev_cS DX2_next 20 m_X2_behindDigit vX2_behindDigit rfl qX2_15 rfl (hd_of rfl rfl rfl rfl) ?_
  exact ev_iret DX2_next 21 rfl rfl ⟨congrArg (fun z => some (Value.int z)) (Eq.symm rfl), rfl⟩
set_option maxRecDepth 100000 in
set_option maxHeartbeats 4000000 in
theorem m_X2_next_3 {E : gE} {ws : va_W} {c : Int32} : CD E YX2_next 0 0 [.int 3, .int c] ws (some (.int (nx3 c))) ws := by
  refine cdS vX2_next (Nat.le_of_ble_eq_true rfl) (lv0 := [(0, .int 3), (1, .int c)]) rfl ?_
  refine ev_ss DX2_next 1 0 (pc' := 1) (lv' := [(0, .int 3), (1, .int _)]) (st' := [.int 3]) rfl ?_
  refine ev_swin DX2_next 1 rfl (by decide) (by decide) (off := 66) (by decide) (tgt := 67) (by decide) ?_
  refine ev_ss DX2_next 2 22 (pc' := 70) (lv' := [(0, .int 3), (1, .int _)]) (st' := [.int 59, .int _]) rfl ?_
  refine ev_icne DX2_next 24 rfl (tgt := 77) (by decide) (fun c_1 => ?_) (fun c_1 => ?_)
  · refine ev_ss DX2_next 1 27 (pc' := 78) (lv' := [(0, .int 3), (1, .int _)]) (st' := [.int _]) rfl ?_
    refine ev_cS DX2_next 28 m_X2_behindDigit vX2_behindDigit rfl qX2_15 rfl (hd_of rfl rfl rfl rfl) ?_
    exact ev_iret DX2_next 29 rfl rfl ⟨congrArg (fun z => some (Value.int z)) (Eq.symm (if_neg c_1)), rfl⟩
  · refine ev_ss DX2_next 1 25 (pc' := 74) (lv' := [(0, .int 3), (1, .int _)]) (st' := [.int 0]) rfl ?_
    refine ev_goto DX2_next 26 rfl (tgt := 81) (by decide) ?_
    exact ev_iret DX2_next 29 rfl rfl ⟨congrArg (fun z => some (Value.int z)) (Eq.symm (if_pos c_1)), rfl⟩
set_option maxRecDepth 100000 in
set_option maxHeartbeats 4000000 in
theorem m_X2_next_4 {E : gE} {ws : va_W} {c : Int32} : CD E YX2_next 0 0 [.int 4, .int c] ws (some (.int (4))) ws := by
  refine cdS vX2_next (Nat.le_of_ble_eq_true rfl) (lv0 := [(0, .int 4), (1, .int c)]) rfl ?_
  refine ev_ss DX2_next 1 0 (pc' := 1) (lv' := [(0, .int 4), (1, .int _)]) (st' := [.int 4]) rfl ?_
  refine ev_swout DX2_next 1 rfl (by decide) (tgt := 82) (by decide) ?_
  refine ev_ss DX2_next 1 30 (pc' := 83) (lv' := [(0, .int 4), (1, .int _)]) (st' := [.int 4]) rfl ?_
  exact ev_iret DX2_next 31 rfl rfl ⟨congrArg (fun z => some (Value.int z)) (Eq.symm rfl), rfl⟩
theorem m_X2_next {E : gE} {ws : va_W} {p c : Int32} (hp : pl5 p) : CD E YX2_next 0 0 [.int p, .int c] ws (some (.int (nxP p c))) ws := by
  rcases hp with e | e | e | e | e
  · subst e; rw [show nxP 0 c = nx0 c from if_pos rfl]; exact m_X2_next_0
  · subst e; rw [show nxP 1 c = nx1 c from (if_neg (by decide)).trans (if_pos rfl)]; exact m_X2_next_1
  · subst e; rw [show nxP 2 c = bhP c from ((if_neg (by decide)).trans (if_neg (by decide))).trans (if_pos rfl)]; exact m_X2_next_2
  · subst e; rw [show nxP 3 c = nx3 c from (((if_neg (by decide)).trans (if_neg (by decide))).trans (if_neg (by decide))).trans (if_pos rfl)]; exact m_X2_next_3
  · subst e; rw [show nxP 4 c = 4 from (((if_neg (by decide)).trans (if_neg (by decide))).trans (if_neg (by decide))).trans (if_neg (by decide))]; exact m_X2_next_4
set_option maxRecDepth 100000 in
set_option maxHeartbeats 4000000 in
theorem m_X2_errorPlace {E : gE} {ad : Nat → Nat} {ws : va_W} {it len : Nat} {ch : Nat → Int32} (hX : TXT E ad ws it len ch) : CD E YX2_errorPlace 0 0 [.ref (ad it)] ws (some (.int (erP ch len len 0))) ws := by
  obtain ⟨hlen, h1, g, h2, h3⟩ := id hX
  refine cdV vX2_errorPlace (Nat.le_of_ble_eq_true rfl) (lv0 := [(0, .ref (ad it))]) rfl ?_
  suffices K : ∀ (m i : Nat) (x p : Int32) (lv9 : List (Nat × Value)), i + m = len → x = nI i → p = tzP ch i → erP ch len len 0 = erP ch len m i → lv9 = [(0, .ref (ad it)), (1, .int p), (2, .int x)] →
      Ev E YX2_errorPlace (fun v2 w2 => v2 = some (.int (erP ch len len 0)) ∧ w2 = ws) nX 0 0 4 lv9 [] ws by
    refine ev_ss DX2_errorPlace 4 0 (pc' := 4) (lv' := [(2, .int 0), (1, .int 0), (0, .ref _)]) (st' := []) rfl ?_
    refine ev_lvp (lv2 := [(0, .ref _), (1, .int _), (2, .int _)]) [2, 1, 0] rfl ?_
    exact K len 0 _ _ _ (Nat.zero_add len) nI_0.symm rfl rfl rfl
  intro m
  induction m with
  | zero =>
    intro i x p lv9 hm hx hp he hv
    obtain rfl : i = len := by omega
    subst hx; subst hv
    refine ev_ss DX2_errorPlace 2 4 (pc' := 6) (lv' := [(0, .ref _), (1, .int _), (2, .int _)]) (st' := [.ref _, .int _]) rfl ?_
    refine ev_get DX2_errorPlace 6 GX2 rfl (k0 := 1) (Nat.le_of_ble_eq_true rfl) fX2_22 h1 rfl ?_
    refine ev_icge DX2_errorPlace 7 rfl (tgt := 42) (by decide) (fun _ => ?_) (fun h => h.elim (nI_le (Nat.le_refl _) (by omega)))
    refine ev_ss DX2_errorPlace 1 25 (pc' := 43) (lv' := [(0, .ref _), (1, .int _), (2, .int _)]) (st' := [.ref _]) rfl ?_
    refine ev_get DX2_errorPlace 26 GX2 rfl (k0 := 1) (Nat.le_of_ble_eq_true rfl) fX2_22 h1 rfl ?_
    exact ev_iret DX2_errorPlace 27 rfl rfl ⟨congrArg (fun z => some (Value.int z)) (Eq.symm he), rfl⟩
  | succ m ih =>
    intro i x p lv9 hm hx hp he hv
    subst hx; subst hv; subst hp
    have hg := h3 i (by omega)
    rw [erP_s, tzP_s] at he
    refine ev_ss DX2_errorPlace 2 4 (pc' := 6) (lv' := [(0, .ref _), (1, .int _), (2, .int _)]) (st' := [.ref _, .int _]) rfl ?_
    refine ev_get DX2_errorPlace 6 GX2 rfl (k0 := 1) (Nat.le_of_ble_eq_true rfl) fX2_22 h1 rfl ?_
    refine ev_icge DX2_errorPlace 7 rfl (tgt := 42) (by decide) (fun h => absurd h (nI_ge (b := len) (by omega) (by omega))) (fun _ => ?_)
    refine ev_ss DX2_errorPlace 2 8 (pc' := 15) (lv' := [(0, .ref _), (1, .int _), (2, .int _)]) (st' := [.int 60, .int _]) rfl ?_
    refine ev_icge DX2_errorPlace 10 rfl (tgt := 42) (by decide) (fun h => absurd h (nI_ge (b := 60) (by omega) (by decide))) (fun _ => ?_)
    refine ev_ss DX2_errorPlace 2 11 (pc' := 20) (lv' := [(0, .ref _), (1, .int _), (2, .int _)]) (st' := [.ref _, .int _]) rfl ?_
    refine ev_get DX2_errorPlace 13 GX2 rfl (k0 := 0) (Nat.le_of_ble_eq_true rfl) fX2_9 h1 rfl ?_
    refine ev_ss DX2_errorPlace 1 14 (pc' := 24) (lv' := [(0, .ref _), (1, .int _), (2, .int _)]) (st' := [.int _, .ref _, .int _]) rfl ?_
    refine ev_cald DX2_errorPlace 15 rfl h2 (vp_in_nI (by omega) (by decide)) ?_
    rw [nI_clamp (by omega), hg]
    refine ev_cS DX2_errorPlace 16 (m_X2_next (tzP_5 ch i)) vX2_next rfl qX2_26 rfl (hd_of rfl rfl rfl rfl) ?_
    refine ev_ss DX2_errorPlace 3 17 (pc' := 31) (lv' := [(1, .int _), (0, .ref _), (2, .int _)]) (st' := [.int 4, .int _]) rfl ?_
    refine ev_icne DX2_errorPlace 20 rfl (tgt := 36) (by decide) (fun c_3 => ?_) (fun c_3 => ?_)
    · refine ev_ss DX2_errorPlace 1 23 (pc' := 39) (lv' := [(2, .int _), (1, .int _), (0, .ref _)]) (st' := []) rfl ?_
      refine ev_goto DX2_errorPlace 24 rfl (tgt := 4) (by decide) ?_
      refine ev_lvp (lv2 := [(0, .ref _), (1, .int _), (2, .int _)]) [2, 1, 0] rfl ?_
      exact ih (i + 1) _ _ _ (by omega) (nI_1 i) tzP_s.symm (by rw [if_neg c_3] at he; exact he) rfl
    · refine ev_ss DX2_errorPlace 1 21 (pc' := 35) (lv' := [(1, .int _), (0, .ref _), (2, .int _)]) (st' := [.int _]) rfl ?_
      exact ev_iret DX2_errorPlace 22 rfl rfl ⟨by rw [if_pos c_3] at he; rw [he], rfl⟩
set_option maxRecDepth 100000 in
set_option maxHeartbeats 4000000 in
theorem m_X2_isComplete {E : gE} {ad : Nat → Nat} {ws : va_W} {it len : Nat} {ch : Nat → Int32} (hX : TXT E ad ws it len ch) : CD E YX2_isComplete 0 0 [.ref (ad it)] ws (some (.int (if tzP ch len = 3 then 1 else 0))) ws := by
  obtain ⟨hlen, h1, g, h2, h3⟩ := id hX
  refine cdV vX2_isComplete (Nat.le_of_ble_eq_true rfl) (lv0 := [(0, .ref (ad it))]) rfl ?_
  suffices K : ∀ (m i : Nat) (x p : Int32) (lv9 : List (Nat × Value)), i + m = len → x = nI i → p = tzP ch i → lv9 = [(0, .ref (ad it)), (1, .int p), (2, .int x)] →
      Ev E YX2_isComplete (fun v2 w2 => v2 = some (.int (if tzP ch len = 3 then 1 else 0)) ∧ w2 = ws) nX 0 0 4 lv9 [] ws by
    refine ev_ss DX2_isComplete 4 0 (pc' := 4) (lv' := [(2, .int 0), (1, .int 0), (0, .ref _)]) (st' := []) rfl ?_
    refine ev_lvp (lv2 := [(0, .ref _), (1, .int _), (2, .int _)]) [2, 1, 0] rfl ?_
    exact K len 0 _ _ _ (Nat.zero_add len) nI_0.symm rfl rfl
  intro m
  induction m with
  | zero =>
    intro i x p lv9 hm hx hp hv
    obtain rfl : i = len := by omega
    subst hx; subst hv; subst hp
    refine ev_ss DX2_isComplete 2 4 (pc' := 6) (lv' := [(0, .ref _), (1, .int _), (2, .int _)]) (st' := [.ref _, .int _]) rfl ?_
    refine ev_get DX2_isComplete 6 GX2 rfl (k0 := 1) (Nat.le_of_ble_eq_true rfl) fX2_22 h1 rfl ?_
    refine ev_icge DX2_isComplete 7 rfl (tgt := 35) (by decide) (fun _ => ?_) (fun h => h.elim (nI_le (Nat.le_refl _) (by omega)))
    refine ev_ss DX2_isComplete 2 20 (pc' := 37) (lv' := [(0, .ref _), (1, .int _), (2, .int _)]) (st' := [.int 3, .int _]) rfl ?_
    refine ev_icne DX2_isComplete 22 rfl (tgt := 44) (by decide) (fun c_2 => ?_) (fun c_2 => ?_)
    · refine ev_ss DX2_isComplete 1 25 (pc' := 45) (lv' := [(0, .ref _), (1, .int _), (2, .int _)]) (st' := [.int 0]) rfl ?_
      exact ev_zret DX2_isComplete 26 rfl rfl rfl ⟨congrArg (fun z => some (Value.int z)) (Eq.symm (if_neg c_2)), rfl⟩
    · refine ev_ss DX2_isComplete 1 23 (pc' := 41) (lv' := [(0, .ref _), (1, .int _), (2, .int _)]) (st' := [.int 1]) rfl ?_
      refine ev_goto DX2_isComplete 24 rfl (tgt := 45) (by decide) ?_
      exact ev_zret DX2_isComplete 26 rfl rfl rfl ⟨congrArg (fun z => some (Value.int z)) (Eq.symm (if_pos c_2)), rfl⟩
  | succ m ih =>
    intro i x p lv9 hm hx hp hv
    subst hx; subst hv; subst hp
    have hg := h3 i (by omega)
    refine ev_ss DX2_isComplete 2 4 (pc' := 6) (lv' := [(0, .ref _), (1, .int _), (2, .int _)]) (st' := [.ref _, .int _]) rfl ?_
    refine ev_get DX2_isComplete 6 GX2 rfl (k0 := 1) (Nat.le_of_ble_eq_true rfl) fX2_22 h1 rfl ?_
    refine ev_icge DX2_isComplete 7 rfl (tgt := 35) (by decide) (fun h => absurd h (nI_ge (b := len) (by omega) (by omega))) (fun _ => ?_)
    refine ev_ss DX2_isComplete 2 8 (pc' := 15) (lv' := [(0, .ref _), (1, .int _), (2, .int _)]) (st' := [.int 60, .int _]) rfl ?_
    refine ev_icge DX2_isComplete 10 rfl (tgt := 35) (by decide) (fun h => absurd h (nI_ge (b := 60) (by omega) (by decide))) (fun _ => ?_)
    refine ev_ss DX2_isComplete 2 11 (pc' := 20) (lv' := [(0, .ref _), (1, .int _), (2, .int _)]) (st' := [.ref _, .int _]) rfl ?_
    refine ev_get DX2_isComplete 13 GX2 rfl (k0 := 0) (Nat.le_of_ble_eq_true rfl) fX2_9 h1 rfl ?_
    refine ev_ss DX2_isComplete 1 14 (pc' := 24) (lv' := [(0, .ref _), (1, .int _), (2, .int _)]) (st' := [.int _, .ref _, .int _]) rfl ?_
    refine ev_cald DX2_isComplete 15 rfl h2 (vp_in_nI (by omega) (by decide)) ?_
    rw [nI_clamp (by omega), hg]
    refine ev_cS DX2_isComplete 16 (m_X2_next (tzP_5 ch i)) vX2_next rfl qX2_26 rfl (hd_of rfl rfl rfl rfl) ?_
    refine ev_ss DX2_isComplete 2 17 (pc' := 32) (lv' := [(2, .int _), (1, .int _), (0, .ref _)]) (st' := []) rfl ?_
    refine ev_goto DX2_isComplete 19 rfl (tgt := 4) (by decide) ?_
    refine ev_lvp (lv2 := [(0, .ref _), (1, .int _), (2, .int _)]) [2, 1, 0] rfl ?_
    exact ih (i + 1) _ _ _ (by omega) (nI_1 i) tzP_s.symm rfl
set_option maxRecDepth 100000 in
set_option maxHeartbeats 4000000 in
theorem m_X2_bitsFor {E : gE} {ad : Nat → Nat} {ws : va_W} {it len : Nat} {ch : Nat → Int32} (hX : TXT E ad ws it len ch) {wy : Int32} : CD E YX2_bitsFor 0 0 [.ref (ad it), .int wy] ws (some (.int (bfT ch wy len))) ws := by
  obtain ⟨hlen, h1, g, h2, h3⟩ := id hX
  refine cdV vX2_bitsFor (Nat.le_of_ble_eq_true rfl) (lv0 := [(0, .ref (ad it)), (1, .int wy)]) rfl ?_
  suffices K : ∀ (m i : Nat) (x p wn acc : Int32) (lv9 : List (Nat × Value)), i + m = len → x = nI i → p = tzP ch i → wn = wnP ch i → acc = bfT ch wy i → lv9 = [(0, .ref (ad it)), (1, .int wy), (2, .int p), (3, .int wn), (4, .int acc), (5, .int x)] →
      Ev E YX2_bitsFor (fun v2 w2 => v2 = some (.int (bfT ch wy len)) ∧ w2 = ws) nX 0 0 10 lv9 [] ws by
    refine ev_ss DX2_bitsFor 8 0 (pc' := 10) (lv' := [(5, .int 0), (4, .int 0), (3, .int 0), (2, .int 0), (0, .ref _), (1, .int _)]) (st' := []) rfl ?_
    refine ev_lvp (lv2 := [(0, .ref _), (1, .int _), (2, .int _), (3, .int _), (4, .int _), (5, .int _)]) [4, 5, 3, 2, 1, 0] rfl ?_
    exact K len 0 _ _ _ _ _ (Nat.zero_add len) nI_0.symm rfl rfl rfl rfl
  intro m
  induction m with
  | zero =>
    intro i x p wn acc lv9 hm hx hp hw ha hv
    obtain rfl : i = len := by omega
    subst hx; subst hv; subst hp; subst ha
    refine ev_ss DX2_bitsFor 2 8 (pc' := 13) (lv' := [(0, .ref _), (1, .int _), (2, .int _), (3, .int _), (4, .int _), (5, .int _)]) (st' := [.ref _, .int _]) rfl ?_
    refine ev_get DX2_bitsFor 10 GX2 rfl (k0 := 1) (Nat.le_of_ble_eq_true rfl) fX2_22 h1 rfl ?_
    refine ev_icge DX2_bitsFor 11 rfl (tgt := 82) (by decide) (fun _ => ?_) (fun h => h.elim (nI_le (Nat.le_refl _) (by omega)))
    refine ev_ss DX2_bitsFor 1 46 (pc' := 84) (lv' := [(0, .ref _), (1, .int _), (2, .int _), (3, .int _), (4, .int _), (5, .int _)]) (st' := [.int _]) rfl ?_
    exact ev_iret DX2_bitsFor 47 rfl rfl ⟨rfl, rfl⟩
  | succ m ih =>
    intro i x p wn acc lv9 hm hx hp hw ha hv
    subst hx; subst hv; subst hp
    have hg := h3 i (by omega)
    refine ev_ss DX2_bitsFor 2 8 (pc' := 13) (lv' := [(0, .ref _), (1, .int _), (2, .int _), (3, .int _), (4, .int _), (5, .int _)]) (st' := [.ref _, .int _]) rfl ?_
    refine ev_get DX2_bitsFor 10 GX2 rfl (k0 := 1) (Nat.le_of_ble_eq_true rfl) fX2_22 h1 rfl ?_
    refine ev_icge DX2_bitsFor 11 rfl (tgt := 82) (by decide) (fun h => absurd h (nI_ge (b := len) (by omega) (by omega))) (fun _ => ?_)
    refine ev_ss DX2_bitsFor 2 12 (pc' := 23) (lv' := [(0, .ref _), (1, .int _), (2, .int _), (3, .int _), (4, .int _), (5, .int _)]) (st' := [.int 60, .int _]) rfl ?_
    refine ev_icge DX2_bitsFor 14 rfl (tgt := 82) (by decide) (fun h => absurd h (nI_ge (b := 60) (by omega) (by decide))) (fun _ => ?_)
    refine ev_ss DX2_bitsFor 1 15 (pc' := 27) (lv' := [(0, .ref _), (1, .int _), (2, .int _), (3, .int _), (4, .int _), (5, .int _)]) (st' := [.ref _]) rfl ?_
    refine ev_get DX2_bitsFor 16 GX2 rfl (k0 := 0) (Nat.le_of_ble_eq_true rfl) fX2_9 h1 rfl ?_
    refine ev_ss DX2_bitsFor 1 17 (pc' := 32) (lv' := [(0, .ref _), (1, .int _), (2, .int _), (3, .int _), (4, .int _), (5, .int _)]) (st' := [.int _, .ref _]) rfl ?_
    refine ev_cald DX2_bitsFor 18 rfl h2 (vp_in_nI (by omega) (by decide)) ?_
    rw [nI_clamp (by omega), hg]
    suffices J : ∀ z : Int32, wnP ch (i + 1) = z → Ev E YX2_bitsFor (fun v2 w2 => v2 = some (.int (bfT ch wy len)) ∧ w2 = ws) nX 0 0 48 [(6, .int (ch i)), (0, .ref (ad it)), (1, .int wy), (2, .int (tzP ch i)), (3, .int wn), (4, .int acc), (5, .int (nI i))] [.int z] ws by
      refine ev_ss DX2_bitsFor 2 19 (pc' := 36) (lv' := [(6, .int _), (0, .ref _), (1, .int _), (2, .int _), (3, .int _), (4, .int _), (5, .int _)]) (st' := [.int _]) rfl ?_
      refine ev_ifne DX2_bitsFor 21 rfl (tgt := 47) (by decide) (fun c_3 => ?_) (fun c_3 => ?_)
      · refine ev_ss DX2_bitsFor 1 26 (pc' := 48) (lv' := [(6, .int _), (0, .ref _), (1, .int _), (2, .int _), (3, .int _), (4, .int _), (5, .int _)]) (st' := [.int _]) rfl ?_
        exact J _ (by rw [wnP_s, if_neg c_3]; exact hw.symm)
      · refine ev_ss DX2_bitsFor 3 22 (pc' := 44) (lv' := [(6, .int _), (0, .ref _), (1, .int _), (2, .int _), (3, .int _), (4, .int _), (5, .int _)]) (st' := [.int _]) rfl ?_
        refine ev_goto DX2_bitsFor 25 rfl (tgt := 48) (by decide) ?_
        exact J _ (by rw [wnP_s, if_pos c_3]; rfl)
    intro z hz
    refine ev_ss DX2_bitsFor 3 27 (pc' := 52) (lv' := [(3, .int _), (6, .int _), (0, .ref _), (1, .int _), (2, .int _), (4, .int _), (5, .int _)]) (st' := [.int _, .int _]) rfl ?_
    refine ev_cS DX2_bitsFor 30 (m_X2_next (tzP_5 ch i)) vX2_next rfl qX2_26 rfl (hd_of rfl rfl rfl rfl) ?_
    refine ev_ss DX2_bitsFor 4 31 (pc' := 60) (lv' := [(2, .int _), (3, .int _), (6, .int _), (0, .ref _), (1, .int _), (4, .int _), (5, .int _)]) (st' := [.int 3, .int _, .int _]) rfl ?_
    refine ev_icne DX2_bitsFor 35 rfl (tgt := 72) (by decide) (fun c_4 => ?_) (fun c_4 => ?_)
    · refine ev_ss DX2_bitsFor 4 41 (pc' := 79) (lv' := [(5, .int _), (4, .int _), (2, .int _), (3, .int _), (6, .int _), (0, .ref _), (1, .int _)]) (st' := []) rfl ?_
      refine ev_goto DX2_bitsFor 45 rfl (tgt := 10) (by decide) ?_
      refine ev_lvp (lv2 := [(0, .ref _), (1, .int _), (2, .int _), (3, .int _), (4, .int _), (5, .int _)]) [5, 6, 2, 3, 1, 0] rfl ?_
      exact ih (i + 1) _ _ _ _ _ (by omega) (nI_1 i) tzP_s.symm hz.symm (by rw [bfT_s, tzP_s, hz, if_neg c_4, ← ha] <;> rfl) rfl
    · refine ev_ss DX2_bitsFor 2 36 (pc' := 65) (lv' := [(2, .int _), (3, .int _), (6, .int _), (0, .ref _), (1, .int _), (4, .int _), (5, .int _)]) (st' := [.int _, .int _, .int _]) rfl ?_
      refine ev_icne DX2_bitsFor 38 rfl (tgt := 72) (by decide) (fun c_5 => ?_) (fun c_5 => ?_)
      · refine ev_ss DX2_bitsFor 4 41 (pc' := 79) (lv' := [(5, .int _), (4, .int _), (2, .int _), (3, .int _), (6, .int _), (0, .ref _), (1, .int _)]) (st' := []) rfl ?_
        refine ev_goto DX2_bitsFor 45 rfl (tgt := 10) (by decide) ?_
        refine ev_lvp (lv2 := [(0, .ref _), (1, .int _), (2, .int _), (3, .int _), (4, .int _), (5, .int _)]) [5, 6, 2, 3, 1, 0] rfl ?_
        exact ih (i + 1) _ _ _ _ _ (by omega) (nI_1 i) tzP_s.symm hz.symm (by rw [bfT_s, tzP_s, hz, if_pos c_4, if_neg c_5, ← ha] <;> rfl) rfl
      · refine ev_ss DX2_bitsFor 1 39 (pc' := 69) (lv' := [(2, .int _), (3, .int _), (6, .int _), (0, .ref _), (1, .int _), (4, .int _), (5, .int _)]) (st' := [.int 4, .int _]) rfl ?_
        refine ev_goto DX2_bitsFor 40 rfl (tgt := 73) (by decide) ?_
        refine ev_ss DX2_bitsFor 3 42 (pc' := 79) (lv' := [(5, .int _), (4, .int _), (2, .int _), (3, .int _), (6, .int _), (0, .ref _), (1, .int _)]) (st' := []) rfl ?_
        refine ev_goto DX2_bitsFor 45 rfl (tgt := 10) (by decide) ?_
        refine ev_lvp (lv2 := [(0, .ref _), (1, .int _), (2, .int _), (3, .int _), (4, .int _), (5, .int _)]) [5, 6, 2, 3, 1, 0] rfl ?_
        exact ih (i + 1) _ _ _ _ _ (by omega) (nI_1 i) tzP_s.symm hz.symm (by rw [bfT_s, tzP_s, hz, if_pos c_4, if_pos c_5, ← ha] <;> rfl) rfl
set_option maxRecDepth 100000 in
set_option maxHeartbeats 4000000 in
theorem m_X2_putBits {E : gE} {ad : Nat → Nat} {ws : va_W} {it len is : Nat} {ch : Nat → Int32} {sd bt : Int32} {se : Nat → Int32} {σ0 σ1 : WS} (hi : it + 1 < is ∨ is + 26 ≤ it) (hX : TXT E ad ws it len ch) (hS : SD E ad ws is sd bt se) (hA : WY E ad ws (is + 1) σ0) (hB : WY E ad ws (is + 13) σ1) (hc : ∀ i, i ≤ len → (pbP ch σ0.2.1 σ1.2.1 i).1.length ≤ 256 ∧ (pbP ch σ0.2.1 σ1.2.1 i).2.length ≤ 256) : C0 E YX2_putBits 0 0 [.ref (ad it), .ref (ad is)] ws (fun v w => v = none ∧ WY E ad w (is + 1) (σ0.1, (pbP ch σ0.2.1 σ1.2.1 len).1, σ0.2.2) ∧ WY E ad w (is + 13) (σ1.1, (pbP ch σ0.2.1 σ1.2.1 len).2, σ1.2.2) ∧ ∀ j, (j < is + 1 ∨ is + 25 ≤ j) → w[j]? = ws[j]?) := by
  obtain ⟨hlen, h1, g, h2, h3⟩ := id hX
  refine c0V vX2_putBits (Nat.le_of_ble_eq_true rfl) (lv0 := [(0, .ref (ad it)), (1, .ref (ad is))]) rfl ?_
  suffices K : ∀ (m i : Nat) (x p wn : Int32) (w : va_W) (lv9 : List (Nat × Value)), i + m = len → x = nI i → p = tzP ch i → wn = wnP ch i → WY E ad w (is + 1) (σ0.1, (pbP ch σ0.2.1 σ1.2.1 i).1, σ0.2.2) → WY E ad w (is + 13) (σ1.1, (pbP ch σ0.2.1 σ1.2.1 i).2, σ1.2.2) → (∀ j, (j < is + 1 ∨ is + 25 ≤ j) → w[j]? = ws[j]?) → lv9 = [(0, .ref (ad it)), (1, .ref (ad is)), (2, .int p), (3, .int wn), (4, .int x)] →
      Ev E YX2_putBits (fun v w => v = none ∧ WY E ad w (is + 1) (σ0.1, (pbP ch σ0.2.1 σ1.2.1 len).1, σ0.2.2) ∧ WY E ad w (is + 13) (σ1.1, (pbP ch σ0.2.1 σ1.2.1 len).2, σ1.2.2) ∧ ∀ j, (j < is + 1 ∨ is + 25 ≤ j) → w[j]? = ws[j]?) nX 0 0 7 lv9 [] w by
    refine ev_ss DX2_putBits 6 0 (pc' := 7) (lv' := [(4, .int 0), (3, .int 0), (2, .int 0), (0, .ref _), (1, .ref _)]) (st' := []) rfl ?_
    refine ev_lvp (lv2 := [(0, .ref _), (1, .ref _), (2, .int _), (3, .int _), (4, .int _)]) [3, 4, 2, 1, 0] rfl ?_
    exact K len 0 _ _ _ ws _ (Nat.zero_add len) nI_0.symm rfl rfl hA hB (fun j a => rfl) rfl
  intro m
  induction m with
  | zero =>
    intro i x p wn w lv9 hm hx hp hw hA2 hB2 hO hv
    obtain rfl : i = len := by omega
    subst hx; subst hv; subst hp
    have k1 := (hO it (by omega)).trans h1
    refine ev_ss DX2_putBits 2 6 (pc' := 10) (lv' := [(0, .ref _), (1, .ref _), (2, .int _), (3, .int _), (4, .int _)]) (st' := [.ref _, .int _]) rfl ?_
    refine ev_get DX2_putBits 8 GX2 rfl (k0 := 1) (Nat.le_of_ble_eq_true rfl) fX2_22 k1 rfl ?_
    refine ev_icge DX2_putBits 9 rfl (tgt := 80) (by decide) (fun _ => ?_) (fun h => h.elim (nI_le (Nat.le_refl _) (by omega)))
    exact ev_vret DX2_putBits 42 rfl rfl ⟨rfl, hA2, hB2, hO⟩
  | succ m ih =>
    intro i x p wn w lv9 hm hx hp hw hA2 hB2 hO hv
    subst hx; subst hv; subst hp
    have k1 := (hO it (by omega)).trans h1
    have k2 := (hO (it + 1) (by omega)).trans h2
    have hS2 : SD E ad w is sd bt se := hS.of (hO is (by omega)) (hO (is + 25) (by omega))
    have hcc := hc (i + 1) (by omega)
    rw [pbP_s] at hcc
    have hg := h3 i (by omega)
    refine ev_ss DX2_putBits 2 6 (pc' := 10) (lv' := [(0, .ref _), (1, .ref _), (2, .int _), (3, .int _), (4, .int _)]) (st' := [.ref _, .int _]) rfl ?_
    refine ev_get DX2_putBits 8 GX2 rfl (k0 := 1) (Nat.le_of_ble_eq_true rfl) fX2_22 k1 rfl ?_
    refine ev_icge DX2_putBits 9 rfl (tgt := 80) (by decide) (fun h => absurd h (nI_ge (b := len) (by omega) (by omega))) (fun _ => ?_)
    refine ev_ss DX2_putBits 2 10 (pc' := 20) (lv' := [(0, .ref _), (1, .ref _), (2, .int _), (3, .int _), (4, .int _)]) (st' := [.int 60, .int _]) rfl ?_
    refine ev_icge DX2_putBits 12 rfl (tgt := 80) (by decide) (fun h => absurd h (nI_ge (b := 60) (by omega) (by decide))) (fun _ => ?_)
    refine ev_ss DX2_putBits 1 13 (pc' := 24) (lv' := [(0, .ref _), (1, .ref _), (2, .int _), (3, .int _), (4, .int _)]) (st' := [.ref _]) rfl ?_
    refine ev_get DX2_putBits 14 GX2 rfl (k0 := 0) (Nat.le_of_ble_eq_true rfl) fX2_9 k1 rfl ?_
    refine ev_ss DX2_putBits 1 15 (pc' := 29) (lv' := [(0, .ref _), (1, .ref _), (2, .int _), (3, .int _), (4, .int _)]) (st' := [.int _, .ref _]) rfl ?_
    refine ev_cald DX2_putBits 16 rfl k2 (vp_in_nI (by omega) (by decide)) ?_
    rw [nI_clamp (by omega), hg]
    suffices J : ∀ z : Int32, wnP ch (i + 1) = z → Ev E YX2_putBits (fun v w => v = none ∧ WY E ad w (is + 1) (σ0.1, (pbP ch σ0.2.1 σ1.2.1 len).1, σ0.2.2) ∧ WY E ad w (is + 13) (σ1.1, (pbP ch σ0.2.1 σ1.2.1 len).2, σ1.2.2) ∧ ∀ j, (j < is + 1 ∨ is + 25 ≤ j) → w[j]? = ws[j]?) nX 0 0 45 [(5, .int (ch i)), (0, .ref (ad it)), (1, .ref (ad is)), (2, .int (tzP ch i)), (3, .int wn), (4, .int (nI i))] [.int z] w by
      refine ev_ss DX2_putBits 2 17 (pc' := 33) (lv' := [(5, .int _), (0, .ref _), (1, .ref _), (2, .int _), (3, .int _), (4, .int _)]) (st' := [.int _]) rfl ?_
      refine ev_ifne DX2_putBits 19 rfl (tgt := 44) (by decide) (fun c_3 => ?_) (fun c_3 => ?_)
      · refine ev_ss DX2_putBits 1 24 (pc' := 45) (lv' := [(5, .int _), (0, .ref _), (1, .ref _), (2, .int _), (3, .int _), (4, .int _)]) (st' := [.int _]) rfl ?_
        exact J _ (by rw [wnP_s, if_neg c_3]; exact hw.symm)
      · refine ev_ss DX2_putBits 3 20 (pc' := 41) (lv' := [(5, .int _), (0, .ref _), (1, .ref _), (2, .int _), (3, .int _), (4, .int _)]) (st' := [.int _]) rfl ?_
        refine ev_goto DX2_putBits 23 rfl (tgt := 45) (by decide) ?_
        exact J _ (by rw [wnP_s, if_pos c_3]; rfl)
    intro z hz
    refine ev_ss DX2_putBits 3 25 (pc' := 49) (lv' := [(3, .int _), (5, .int _), (0, .ref _), (1, .ref _), (2, .int _), (4, .int _)]) (st' := [.int _, .int _]) rfl ?_
    refine ev_cS DX2_putBits 28 (m_X2_next (tzP_5 ch i)) vX2_next rfl qX2_26 rfl (hd_of rfl rfl rfl rfl) ?_
    refine ev_ss DX2_putBits 3 29 (pc' := 55) (lv' := [(2, .int _), (3, .int _), (5, .int _), (0, .ref _), (1, .ref _), (4, .int _)]) (st' := [.int 3, .int _]) rfl ?_
    refine ev_icne DX2_putBits 32 rfl (tgt := 74) (by decide) (fun c_4 => ?_) (fun c_4 => ?_)
    · refine ev_ss DX2_putBits 1 40 (pc' := 77) (lv' := [(4, .int _), (2, .int _), (3, .int _), (5, .int _), (0, .ref _), (1, .ref _)]) (st' := []) rfl ?_
      refine ev_goto DX2_putBits 41 rfl (tgt := 7) (by decide) ?_
      refine ev_lvp (lv2 := [(0, .ref _), (1, .ref _), (2, .int _), (3, .int _), (4, .int _)]) [4, 5, 1, 2, 0] rfl ?_
      exact ih (i + 1) _ _ _ w _ (by omega) (nI_1 i) tzP_s.symm hz.symm (by have e := pbP_s (ch := ch) (b0 := σ0.2.1) (b1 := σ1.2.1) (n := i); rw [if_neg (show ¬ tzP ch (i + 1) = 3 from c_4)] at e; rw [e]; exact hA2) (by have e := pbP_s (ch := ch) (b0 := σ0.2.1) (b1 := σ1.2.1) (n := i); rw [if_neg (show ¬ tzP ch (i + 1) = 3 from c_4)] at e; rw [e]; exact hB2) hO rfl
    · have hz3 : tzP ch (i + 1) = 3 := c_4
      rw [if_pos hz3] at hcc
      rcases wnP_01 ch (i + 1) (by rw [hz3]; decide) (by rw [hz3]; decide) with h01 | h01
      · rw [if_pos h01] at hcc
        obtain rfl : z = 0 := hz.symm.trans h01
        obtain ⟨st, sz, r, a1, a2, a3, a4, a5, a6⟩ := id hA2
        refine ev_ss DX2_putBits 2 33 (pc' := 60) (lv' := [(2, .int _), (3, .int _), (5, .int _), (0, .ref _), (1, .ref _), (4, .int _)]) (st' := [.int _, .ref _]) rfl ?_
        refine ev_cV DX2_putBits 35 (m_X1_wayAt_0 hS2.1) vX1_wayAt rfl qX2_30 rfl hS2.1 rfl (hd_of rfl rfl rfl rfl) ?_
        refine ev_get DX2_putBits 36 GX5 rfl (k0 := 1) (Nat.le_of_ble_eq_true rfl) fX2_36 a1 rfl ?_
        refine ev_ss DX2_putBits 1 37 (pc' := 68) (lv' := [(2, .int _), (3, .int _), (5, .int _), (0, .ref _), (1, .ref _), (4, .int _)]) (st' := [.int _, .ref _]) rfl ?_
        refine ev_cS DX2_putBits 38 m_X2_digitOf vX2_digitOf rfl qX2_19 rfl (hd_of rfl rfl rfl rfl) ?_
        refine ev_rV DX2_putBits 39 (m_X4_putDigit (dg := dgP (ch i)) a3 a4 a5 (by show (pbP ch σ0.2.1 σ1.2.1 i).1.length + 4 ≤ 256; have := hcc.1; simp [dg4] at this; omega)) vX4_putDigit rfl qX2_42 rfl a3 rfl (hd_of rfl rfl rfl rfl) (fun v w9 hvw => ?_)
        obtain ⟨rfl, r2, sz2, hq2, hw9⟩ := hvw
        have hW9 : WY E ad w9 (is + 1) (σ0.1, (pbP ch σ0.2.1 σ1.2.1 i).1 ++ dg4 (dgP (ch i)), σ0.2.2) := by rw [hw9]; exact ⟨st, sz2, r2, by unfold hW; exact wset_n (wset_n a1 (by omega)) (by omega), by unfold hW; exact wset_n (wset_n a2 (by omega)) (by omega), by unfold hW; exact wset_get (wset_n a3 (by omega)), by unfold hW; exact wset_n (wset_get a4) (by omega), hq2, fun t ht => by unfold hW; exact wset_n (wset_n (a6 t ht) (by omega)) (by omega)⟩
        have hO9 : ∀ j, (j < is + 1 ∨ is + 1 + 12 ≤ j) → w9[j]? = w[j]? := by rw [hw9]; intro j a; unfold hW; rw [List.getElem?_set_ne (by omega), List.getElem?_set_ne (by omega)]
        have hV9 := hB2.of (w := w9) (fun j a b => hO9 j (by omega))
        refine ev_ss DX2_putBits 1 40 (pc' := 77) (lv' := [(4, .int _), (2, .int _), (3, .int _), (5, .int _), (0, .ref _), (1, .ref _)]) (st' := []) rfl ?_
        refine ev_goto DX2_putBits 41 rfl (tgt := 7) (by decide) ?_
        refine ev_lvp (lv2 := [(0, .ref _), (1, .ref _), (2, .int _), (3, .int _), (4, .int _)]) [4, 5, 1, 2, 0] rfl ?_
        exact ih (i + 1) _ _ _ w9 _ (by omega) (nI_1 i) tzP_s.symm h01.symm (by have e := pbP_s (ch := ch) (b0 := σ0.2.1) (b1 := σ1.2.1) (n := i); rw [if_pos hz3, if_pos h01] at e; rw [e]; exact hW9) (by have e := pbP_s (ch := ch) (b0 := σ0.2.1) (b1 := σ1.2.1) (n := i); rw [if_pos hz3, if_pos h01] at e; rw [e]; exact hV9) (fun j a => (hO9 j (by omega)).trans (hO j a)) rfl
      · rw [if_neg (by rw [h01]; decide)] at hcc
        obtain rfl : z = 1 := hz.symm.trans h01
        obtain ⟨st, sz, r, a1, a2, a3, a4, a5, a6⟩ := id hB2
        refine ev_ss DX2_putBits 2 33 (pc' := 60) (lv' := [(2, .int _), (3, .int _), (5, .int _), (0, .ref _), (1, .ref _), (4, .int _)]) (st' := [.int _, .ref _]) rfl ?_
        refine ev_cV DX2_putBits 35 (m_X1_wayAt_1 hS2.1) vX1_wayAt rfl qX2_30 rfl hS2.1 rfl (hd_of rfl rfl rfl rfl) ?_
        refine ev_get DX2_putBits 36 GX5 rfl (k0 := 1) (Nat.le_of_ble_eq_true rfl) fX2_36 a1 rfl ?_
        refine ev_ss DX2_putBits 1 37 (pc' := 68) (lv' := [(2, .int _), (3, .int _), (5, .int _), (0, .ref _), (1, .ref _), (4, .int _)]) (st' := [.int _, .ref _]) rfl ?_
        refine ev_cS DX2_putBits 38 m_X2_digitOf vX2_digitOf rfl qX2_19 rfl (hd_of rfl rfl rfl rfl) ?_
        refine ev_rV DX2_putBits 39 (m_X4_putDigit (dg := dgP (ch i)) a3 a4 a5 (by show (pbP ch σ0.2.1 σ1.2.1 i).2.length + 4 ≤ 256; have := hcc.2; simp [dg4] at this; omega)) vX4_putDigit rfl qX2_42 rfl a3 rfl (hd_of rfl rfl rfl rfl) (fun v w9 hvw => ?_)
        obtain ⟨rfl, r2, sz2, hq2, hw9⟩ := hvw
        have hW9 : WY E ad w9 (is + 13) (σ1.1, (pbP ch σ0.2.1 σ1.2.1 i).2 ++ dg4 (dgP (ch i)), σ1.2.2) := by rw [hw9]; exact ⟨st, sz2, r2, by unfold hW; exact wset_n (wset_n a1 (by omega)) (by omega), by unfold hW; exact wset_n (wset_n a2 (by omega)) (by omega), by unfold hW; exact wset_get (wset_n a3 (by omega)), by unfold hW; exact wset_n (wset_get a4) (by omega), hq2, fun t ht => by unfold hW; exact wset_n (wset_n (a6 t ht) (by omega)) (by omega)⟩
        have hO9 : ∀ j, (j < is + 13 ∨ is + 13 + 12 ≤ j) → w9[j]? = w[j]? := by rw [hw9]; intro j a; unfold hW; rw [List.getElem?_set_ne (by omega), List.getElem?_set_ne (by omega)]
        have hV9 := hA2.of (w := w9) (fun j a b => hO9 j (by omega))
        refine ev_ss DX2_putBits 1 40 (pc' := 77) (lv' := [(4, .int _), (2, .int _), (3, .int _), (5, .int _), (0, .ref _), (1, .ref _)]) (st' := []) rfl ?_
        refine ev_goto DX2_putBits 41 rfl (tgt := 7) (by decide) ?_
        refine ev_lvp (lv2 := [(0, .ref _), (1, .ref _), (2, .int _), (3, .int _), (4, .int _)]) [4, 5, 1, 2, 0] rfl ?_
        exact ih (i + 1) _ _ _ w9 _ (by omega) (nI_1 i) tzP_s.symm h01.symm (by have e := pbP_s (ch := ch) (b0 := σ0.2.1) (b1 := σ1.2.1) (n := i); rw [if_pos hz3, if_neg (by rw [h01]; decide)] at e; rw [e]; exact hV9) (by have e := pbP_s (ch := ch) (b0 := σ0.2.1) (b1 := σ1.2.1) (n := i); rw [if_pos hz3, if_neg (by rw [h01]; decide)] at e; rw [e]; exact hW9) (fun j a => (hO9 j (by omega)).trans (hO j a)) rfl
