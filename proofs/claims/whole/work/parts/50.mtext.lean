def dgQ (c : Int32) : Int32 := if inP c 48 57 = 0 then (if inP c 97 102 = 0 then -1 else c - 97 + 10) else c - 48
theorem inP_01 {x lo hi : Int32} : inP x lo hi = 0 ↔ (x < lo ∨ hi < x) := ⟨fun h => Decidable.byContradiction (fun e => in_g e h), in_b⟩
theorem dgQ_P {c : Int32} : dgQ c = dgP c := by
  have h2 : (if inP c 97 102 = 0 then (-1 : Int32) else c - 97 + 10) = alP c := by
    unfold alP
    by_cases a1 : c < 97
    · rw [if_pos a1, if_pos (inP_01.mpr (Or.inl a1))]
    · rw [if_neg a1]
      by_cases a2 : 102 < c
      · rw [if_pos a2, if_pos (inP_01.mpr (Or.inr a2))]
      · rw [if_neg a2, if_neg (fun e => (inP_01.mp e).elim a1 a2)]
  unfold dgQ dgP
  rw [h2]
  by_cases a1 : c < 48
  · rw [if_pos a1, if_pos (inP_01.mpr (Or.inl a1))]
  · rw [if_neg a1]
    by_cases a2 : 57 < c
    · rw [if_pos a2, if_pos (inP_01.mpr (Or.inr a2))]
    · rw [if_neg a2, if_neg (fun e => (inP_01.mp e).elim a1 a2)]
theorem dg_59 {c : Int32} (h : ¬ dgP c = -1) : ¬ c = 59 := fun e => h (by rw [e]; decide)
theorem dg_58 {c : Int32} (h : ¬ dgP c = -1) : ¬ c = 58 := fun e => h (by rw [e]; decide)
/-- the reference's next state -/
def nsP (p c : Int32) : Int32 := if nxP p c = 4 then -1 else nxP p c
def p03 (p : Int32) : Prop := p = 0 ∨ p = 1 ∨ p = 2 ∨ p = 3
set_option maxRecDepth 100000 in
set_option maxHeartbeats 4000000 in
theorem m_X7_digit {E : gE} {ws : va_W} {c : Int32} : CD E YX7_digit 0 0 [.int c] ws (some (.int (dgP c))) ws := by
  rw [← dgQ_P]
  refine cdS vX7_digit (Nat.le_of_ble_eq_true rfl) (lv0 := [(0, .int c)]) rfl ?_
  refine ev_ss DX7_digit 3 0 (pc' := 5) (lv' := [(0, .int _)]) (st' := [.int 57, .int 48, .int _]) rfl ?_
  refine ev_cS DX7_digit 3 m_X7_in vX7_in rfl qX7_39 rfl (hd_of rfl rfl rfl rfl) ?_
  refine ev_ifeq DX7_digit 4 rfl (tgt := 18) (by decide) (fun c_1 => ?_) (fun c_1 => ?_)
  · refine ev_ss DX7_digit 3 9 (pc' := 23) (lv' := [(0, .int _)]) (st' := [.int 102, .int 97, .int _]) rfl ?_
    refine ev_cS DX7_digit 12 m_X7_in vX7_in rfl qX7_39 rfl (hd_of rfl rfl rfl rfl) ?_
    refine ev_ifeq DX7_digit 13 rfl (tgt := 39) (by decide) (fun c_2 => ?_) (fun c_2 => ?_)
    · refine ev_ss DX7_digit 1 20 (pc' := 40) (lv' := [(0, .int _)]) (st' := [.int (-1)]) rfl ?_
      exact ev_iret DX7_digit 21 rfl rfl ⟨congrArg (fun z => some (Value.int z)) (Eq.symm ((if_pos c_1).trans (if_pos c_2))), rfl⟩
    · refine ev_ss DX7_digit 5 14 (pc' := 36) (lv' := [(0, .int _)]) (st' := [.int _]) rfl ?_
      refine ev_goto DX7_digit 19 rfl (tgt := 40) (by decide) ?_
      exact ev_iret DX7_digit 21 rfl rfl ⟨congrArg (fun z => some (Value.int z)) (Eq.symm ((if_pos c_1).trans (if_neg c_2))), rfl⟩
  · refine ev_ss DX7_digit 3 5 (pc' := 15) (lv' := [(0, .int _)]) (st' := [.int _]) rfl ?_
    refine ev_goto DX7_digit 8 rfl (tgt := 40) (by decide) ?_
    exact ev_iret DX7_digit 21 rfl rfl ⟨congrArg (fun z => some (Value.int z)) (Eq.symm (if_neg c_1)), rfl⟩
set_option maxRecDepth 100000 in
set_option maxHeartbeats 4000000 in
theorem m_X7_nextState_0 {E : gE} {ad : Nat → Nat} {ws : va_W} {c : Int32} : CD E YX7_nextState 0 0 [.ref (ad 214), .int 0, .int c] ws (some (.int (nsP 0 c))) ws := by
  refine cdV vX7_nextState (Nat.le_of_ble_eq_true rfl) (lv0 := [(0, .ref (ad 214)), (1, .int 0), (2, .int c)]) rfl ?_
  refine ev_ss DX7_nextState 1 0 (pc' := 1) (lv' := [(0, .ref _), (1, .int 0), (2, .int _)]) (st' := [.int 0]) rfl ?_
  refine ev_ifne DX7_nextState 1 rfl (tgt := 22) (by decide) (fun h => h.elim (by decide)) (fun _ => ?_)
  refine ev_ss DX7_nextState 2 2 (pc' := 7) (lv' := [(0, .ref _), (1, .int 0), (2, .int _)]) (st' := [.int 97, .int _]) rfl ?_
  refine ev_iceq DX7_nextState 4 rfl (tgt := 16) (by decide) (fun c_2 => ?_) (fun c_2 => ?_)
  · refine ev_ss DX7_nextState 1 8 (pc' := 17) (lv' := [(0, .ref _), (1, .int 0), (2, .int _)]) (st' := [.int 1]) rfl ?_
    refine ev_goto DX7_nextState 9 rfl (tgt := 21) (by decide) ?_
    exact ev_iret DX7_nextState 11 rfl rfl ⟨congrArg (fun z => some (Value.int z)) (by simp [nsP, nxP, nx0, nx1, nx3, bhP, c_2]), rfl⟩
  · refine ev_ss DX7_nextState 2 5 (pc' := 13) (lv' := [(0, .ref _), (1, .int 0), (2, .int _)]) (st' := [.int 98, .int _]) rfl ?_
    refine ev_icne DX7_nextState 7 rfl (tgt := 20) (by decide) (fun c_3 => ?_) (fun c_3 => ?_)
    · refine ev_ss DX7_nextState 1 10 (pc' := 21) (lv' := [(0, .ref _), (1, .int 0), (2, .int _)]) (st' := [.int (-1)]) rfl ?_
      exact ev_iret DX7_nextState 11 rfl rfl ⟨congrArg (fun z => some (Value.int z)) (by simp [nsP, nxP, nx0, nx1, nx3, bhP, c_2, c_3]), rfl⟩
    · refine ev_ss DX7_nextState 1 8 (pc' := 17) (lv' := [(0, .ref _), (1, .int 0), (2, .int _)]) (st' := [.int 1]) rfl ?_
      refine ev_goto DX7_nextState 9 rfl (tgt := 21) (by decide) ?_
      exact ev_iret DX7_nextState 11 rfl rfl ⟨congrArg (fun z => some (Value.int z)) (by simp [nsP, nxP, nx0, nx1, nx3, bhP, c_2, c_3]), rfl⟩
set_option maxRecDepth 100000 in
set_option maxHeartbeats 4000000 in
theorem m_X7_nextState_1 {E : gE} {ad : Nat → Nat} {ws : va_W} {c : Int32} : CD E YX7_nextState 0 0 [.ref (ad 214), .int 1, .int c] ws (some (.int (nsP 1 c))) ws := by
  refine cdV vX7_nextState (Nat.le_of_ble_eq_true rfl) (lv0 := [(0, .ref (ad 214)), (1, .int 1), (2, .int c)]) rfl ?_
  refine ev_ss DX7_nextState 1 0 (pc' := 1) (lv' := [(0, .ref _), (1, .int 1), (2, .int _)]) (st' := [.int 1]) rfl ?_
  refine ev_ifne DX7_nextState 1 rfl (tgt := 22) (by decide) (fun _ => ?_) (fun h => absurd h (by decide))
  refine ev_ss DX7_nextState 2 12 (pc' := 24) (lv' := [(0, .ref _), (1, .int 1), (2, .int _)]) (st' := [.int 1, .int 1]) rfl ?_
  refine ev_icne DX7_nextState 14 rfl (tgt := 39) (by decide) (fun h => h.elim (by decide)) (fun _ => ?_)
  refine ev_ss DX7_nextState 2 15 (pc' := 30) (lv' := [(0, .ref _), (1, .int 1), (2, .int _)]) (st' := [.int 58, .int _]) rfl ?_
  refine ev_icne DX7_nextState 17 rfl (tgt := 37) (by decide) (fun c_3 => ?_) (fun c_3 => ?_)
  · refine ev_ss DX7_nextState 1 20 (pc' := 38) (lv' := [(0, .ref _), (1, .int 1), (2, .int _)]) (st' := [.int (-1)]) rfl ?_
    exact ev_iret DX7_nextState 21 rfl rfl ⟨congrArg (fun z => some (Value.int z)) (by simp [nsP, nxP, nx0, nx1, nx3, bhP, c_3]), rfl⟩
  · refine ev_ss DX7_nextState 1 18 (pc' := 34) (lv' := [(0, .ref _), (1, .int 1), (2, .int _)]) (st' := [.int 2]) rfl ?_
    refine ev_goto DX7_nextState 19 rfl (tgt := 38) (by decide) ?_
    exact ev_iret DX7_nextState 21 rfl rfl ⟨congrArg (fun z => some (Value.int z)) (by simp [nsP, nxP, nx0, nx1, nx3, bhP, c_3]), rfl⟩
set_option maxRecDepth 100000 in
set_option maxHeartbeats 4000000 in
theorem m_X7_nextState_2 {E : gE} {ad : Nat → Nat} {ws : va_W} {c : Int32} : CD E YX7_nextState 0 0 [.ref (ad 214), .int 2, .int c] ws (some (.int (nsP 2 c))) ws := by
  refine cdV vX7_nextState (Nat.le_of_ble_eq_true rfl) (lv0 := [(0, .ref (ad 214)), (1, .int 2), (2, .int c)]) rfl ?_
  refine ev_ss DX7_nextState 1 0 (pc' := 1) (lv' := [(0, .ref _), (1, .int 2), (2, .int _)]) (st' := [.int 2]) rfl ?_
  refine ev_ifne DX7_nextState 1 rfl (tgt := 22) (by decide) (fun _ => ?_) (fun h => absurd h (by decide))
  refine ev_ss DX7_nextState 2 12 (pc' := 24) (lv' := [(0, .ref _), (1, .int 2), (2, .int _)]) (st' := [.int 1, .int 2]) rfl ?_
  refine ev_icne DX7_nextState 14 rfl (tgt := 39) (by decide) (fun _ => ?_) (fun h => absurd h (by decide))
  refine ev_ss DX7_nextState 1 22 (pc' := 40) (lv' := [(0, .ref _), (1, .int 2), (2, .int _)]) (st' := [.int _]) rfl ?_
  refine ev_cS DX7_nextState 23 m_X7_digit vX7_digit rfl qX7_143 rfl (hd_of rfl rfl rfl rfl) ?_
  refine ev_ss DX7_nextState 1 24 (pc' := 44) (lv' := [(0, .ref _), (1, .int 2), (2, .int _)]) (st' := [.int (-1), .int _]) rfl ?_
  refine ev_iceq DX7_nextState 25 rfl (tgt := 49) (by decide) (fun c_3 => ?_) (fun c_3 => ?_)
  · refine ev_ss DX7_nextState 2 28 (pc' := 51) (lv' := [(0, .ref _), (1, .int 2), (2, .int _)]) (st' := [.int 3, .int 2]) rfl ?_
    refine ev_icne DX7_nextState 30 rfl (tgt := 64) (by decide) (fun _ => ?_) (fun h => absurd h (by decide))
    refine ev_ss DX7_nextState 1 36 (pc' := 65) (lv' := [(0, .ref _), (1, .int 2), (2, .int _)]) (st' := [.int (-1)]) rfl ?_
    exact ev_iret DX7_nextState 37 rfl rfl ⟨congrArg (fun z => some (Value.int z)) (by simp [nsP, nxP, nx0, nx1, nx3, bhP, c_3]), rfl⟩
  · refine ev_ss DX7_nextState 1 26 (pc' := 48) (lv' := [(0, .ref _), (1, .int 2), (2, .int _)]) (st' := [.int 3]) rfl ?_
    exact ev_iret DX7_nextState 27 rfl rfl ⟨congrArg (fun z => some (Value.int z)) (by simp [nsP, nxP, nx0, nx1, nx3, bhP, c_3]), rfl⟩
set_option maxRecDepth 100000 in
set_option maxHeartbeats 4000000 in
theorem m_X7_nextState_3 {E : gE} {ad : Nat → Nat} {ws : va_W} {c : Int32} : CD E YX7_nextState 0 0 [.ref (ad 214), .int 3, .int c] ws (some (.int (nsP 3 c))) ws := by
  refine cdV vX7_nextState (Nat.le_of_ble_eq_true rfl) (lv0 := [(0, .ref (ad 214)), (1, .int 3), (2, .int c)]) rfl ?_
  refine ev_ss DX7_nextState 1 0 (pc' := 1) (lv' := [(0, .ref _), (1, .int 3), (2, .int _)]) (st' := [.int 3]) rfl ?_
  refine ev_ifne DX7_nextState 1 rfl (tgt := 22) (by decide) (fun _ => ?_) (fun h => absurd h (by decide))
  refine ev_ss DX7_nextState 2 12 (pc' := 24) (lv' := [(0, .ref _), (1, .int 3), (2, .int _)]) (st' := [.int 1, .int 3]) rfl ?_
  refine ev_icne DX7_nextState 14 rfl (tgt := 39) (by decide) (fun _ => ?_) (fun h => absurd h (by decide))
  refine ev_ss DX7_nextState 1 22 (pc' := 40) (lv' := [(0, .ref _), (1, .int 3), (2, .int _)]) (st' := [.int _]) rfl ?_
  refine ev_cS DX7_nextState 23 m_X7_digit vX7_digit rfl qX7_143 rfl (hd_of rfl rfl rfl rfl) ?_
  refine ev_ss DX7_nextState 1 24 (pc' := 44) (lv' := [(0, .ref _), (1, .int 3), (2, .int _)]) (st' := [.int (-1), .int _]) rfl ?_
  refine ev_iceq DX7_nextState 25 rfl (tgt := 49) (by decide) (fun c_3 => ?_) (fun c_3 => ?_)
  · refine ev_ss DX7_nextState 2 28 (pc' := 51) (lv' := [(0, .ref _), (1, .int 3), (2, .int _)]) (st' := [.int 3, .int 3]) rfl ?_
    refine ev_icne DX7_nextState 30 rfl (tgt := 64) (by decide) (fun h => h.elim (by decide)) (fun _ => ?_)
    refine ev_ss DX7_nextState 2 31 (pc' := 57) (lv' := [(0, .ref _), (1, .int 3), (2, .int _)]) (st' := [.int 59, .int _]) rfl ?_
    refine ev_icne DX7_nextState 33 rfl (tgt := 64) (by decide) (fun c_5 => ?_) (fun c_5 => ?_)
    · refine ev_ss DX7_nextState 1 36 (pc' := 65) (lv' := [(0, .ref _), (1, .int 3), (2, .int _)]) (st' := [.int (-1)]) rfl ?_
      exact ev_iret DX7_nextState 37 rfl rfl ⟨congrArg (fun z => some (Value.int z)) (by simp [nsP, nxP, nx0, nx1, nx3, bhP, c_3, c_5]), rfl⟩
    · refine ev_ss DX7_nextState 1 34 (pc' := 61) (lv' := [(0, .ref _), (1, .int 3), (2, .int _)]) (st' := [.int 0]) rfl ?_
      refine ev_goto DX7_nextState 35 rfl (tgt := 65) (by decide) ?_
      exact ev_iret DX7_nextState 37 rfl rfl ⟨congrArg (fun z => some (Value.int z)) (by simp [nsP, nxP, nx0, nx1, nx3, bhP, c_3, c_5]), rfl⟩
  · refine ev_ss DX7_nextState 1 26 (pc' := 48) (lv' := [(0, .ref _), (1, .int 3), (2, .int _)]) (st' := [.int 3]) rfl ?_
    exact ev_iret DX7_nextState 27 rfl rfl ⟨congrArg (fun z => some (Value.int z)) (by simp [nsP, nxP, nx0, nx1, nx3, bhP, c_3, dg_59 c_3]), rfl⟩
set_option maxRecDepth 100000 in
set_option maxHeartbeats 4000000 in
theorem m_X7_nextState {E : gE} {ad : Nat → Nat} {ws : va_W} {p c : Int32} (hp : p03 p) : CD E YX7_nextState 0 0 [.ref (ad 214), .int p, .int c] ws (some (.int (nsP p c))) ws := by
  rcases hp with rfl | rfl | rfl | rfl
  · exact m_X7_nextState_0
  · exact m_X7_nextState_1
  · exact m_X7_nextState_2
  · exact m_X7_nextState_3
theorem tz_03 {ch : Nat → Int32} {n : Nat} (h : ¬ tzP ch n = 4) : p03 (tzP ch n) := by
  rcases tzP_5 ch n with e | e | e | e | e
  · exact Or.inl e
  · exact Or.inr (Or.inl e)
  · exact Or.inr (Or.inr (Or.inl e))
  · exact Or.inr (Or.inr (Or.inr e))
  · exact absurd e h
theorem tz_4 {ch : Nat → Int32} {n : Nat} (h : tzP ch n = 4) : ∀ k, tzP ch (n + k) = 4
  | 0 => h
  | k + 1 => by
    show nxP (tzP ch (n + k)) (ch (n + k)) = 4
    rw [tz_4 h k]
    rfl
theorem tz_ne {ch : Nat → Int32} {len : Nat} (h : tzP ch len = 3) (i : Nat) (hi : i ≤ len) : ¬ tzP ch i = 4 := fun e => by
  have e2 := tz_4 e (len - i)
  rw [show i + (len - i) = len by omega, h] at e2
  exact absurd e2 (by decide)
set_option maxRecDepth 100000 in
set_option maxHeartbeats 4000000 in
theorem rd_tail {E : gE} {ad : Nat → Nat} {ws : va_W} {sm tw ea iw : Int32} {hh : Int64} {len : Nat} {ch bf : Nat → Int32} (h : ws[214]? = some (ad 214, moC ad sm (nI len) tw ea iw hh)) (hbf : ws[221]? = some (ad 221, iaC E 60 bf)) (hlen : len ≤ 60) (hch : ∀ j, j < len → bf j = ch j) {st x : Int32} {g : Nat} (hx : x = erP ch len len 0) (hg : (g = 1 ∧ st = tzP ch len) ∨ (g = 0 ∧ ¬ tzP ch len = 3)) : Ev E YX7_read (fun v2 w2 => v2 = none ∧ w2 = (ws.set 214 (ad 214, moC ad sm (nI len) tw (erP ch len len 0) (if tzP ch len = 3 then 1 else 0) hh))) nX 0 0 69 [(0, .ref (ad 214)), (1, .int st), (2, .int x), (3, .int (nI g))] [] ws := by
  subst hx
  rcases hg with ⟨rfl, rfl⟩ | ⟨rfl, q2⟩
  · by_cases q1 : tzP ch len = 3
    · refine ev_ss DX7_read 2 42 (pc' := 71) (lv' := [(0, .ref _), (1, .int _), (2, .int _), (3, .int _)]) (st' := [.int _, .ref _]) rfl ?_
      refine ev_put (fs' := [_, _, _, _, _, _, _, _, _, _, _, _, _, _]) DX7_read 44 GX7 rfl (k0 := 11) (Nat.le_of_ble_eq_true rfl) fX7_149 rfl ⟨rfl, rfl⟩ h (Nat.le_of_ble_eq_true rfl) rfl rfl ?_
      refine ev_ss DX7_read 2 45 (pc' := 76) (lv' := [(0, .ref _), (1, .int _), (2, .int _), (3, .int _)]) (st' := [.int _, .ref _]) rfl ?_
      refine ev_ifeq DX7_read 47 rfl (tgt := 88) (by decide) (fun h => absurd h (by decide)) (fun _ => ?_)
      refine ev_ss DX7_read 2 48 (pc' := 81) (lv' := [(0, .ref _), (1, .int _), (2, .int _), (3, .int _)]) (st' := [.int 3, .int _, .ref _]) rfl ?_
      refine ev_icne DX7_read 50 rfl (tgt := 88) (by decide) (fun h => h.elim q1) (fun _ => ?_)
      refine ev_ss DX7_read 1 51 (pc' := 85) (lv' := [(0, .ref _), (1, .int _), (2, .int _), (3, .int _)]) (st' := [.int 1, .ref _]) rfl ?_
      refine ev_goto DX7_read 52 rfl (tgt := 89) (by decide) ?_
      refine ev_put (fs' := [_, _, _, _, _, _, _, _, _, _, _, _, _, _]) DX7_read 54 GX7 rfl (k0 := 12) (Nat.le_of_ble_eq_true rfl) fX7_152 rfl ⟨rfl, rfl⟩ (wset_get h) (Nat.le_of_ble_eq_true rfl) rfl wset_set ?_
      exact ev_vret DX7_read 55 rfl rfl ⟨rfl, congrArg (fun v => ws.set 214 (ad 214, moC ad sm (nI len) tw (erP ch len len 0) v hh)) (if_pos q1).symm⟩
    · refine ev_ss DX7_read 2 42 (pc' := 71) (lv' := [(0, .ref _), (1, .int _), (2, .int _), (3, .int _)]) (st' := [.int _, .ref _]) rfl ?_
      refine ev_put (fs' := [_, _, _, _, _, _, _, _, _, _, _, _, _, _]) DX7_read 44 GX7 rfl (k0 := 11) (Nat.le_of_ble_eq_true rfl) fX7_149 rfl ⟨rfl, rfl⟩ h (Nat.le_of_ble_eq_true rfl) rfl rfl ?_
      refine ev_ss DX7_read 2 45 (pc' := 76) (lv' := [(0, .ref _), (1, .int _), (2, .int _), (3, .int _)]) (st' := [.int _, .ref _]) rfl ?_
      refine ev_ifeq DX7_read 47 rfl (tgt := 88) (by decide) (fun h => absurd h (by decide)) (fun _ => ?_)
      refine ev_ss DX7_read 2 48 (pc' := 81) (lv' := [(0, .ref _), (1, .int _), (2, .int _), (3, .int _)]) (st' := [.int 3, .int _, .ref _]) rfl ?_
      refine ev_icne DX7_read 50 rfl (tgt := 88) (by decide) (fun _ => ?_) (fun h => absurd h q1)
      refine ev_ss DX7_read 1 53 (pc' := 89) (lv' := [(0, .ref _), (1, .int _), (2, .int _), (3, .int _)]) (st' := [.int 0, .ref _]) rfl ?_
      refine ev_put (fs' := [_, _, _, _, _, _, _, _, _, _, _, _, _, _]) DX7_read 54 GX7 rfl (k0 := 12) (Nat.le_of_ble_eq_true rfl) fX7_152 rfl ⟨rfl, rfl⟩ (wset_get h) (Nat.le_of_ble_eq_true rfl) rfl wset_set ?_
      exact ev_vret DX7_read 55 rfl rfl ⟨rfl, congrArg (fun v => ws.set 214 (ad 214, moC ad sm (nI len) tw (erP ch len len 0) v hh)) (if_neg q1).symm⟩
  · refine ev_ss DX7_read 2 42 (pc' := 71) (lv' := [(0, .ref _), (1, .int _), (2, .int _), (3, .int _)]) (st' := [.int _, .ref _]) rfl ?_
    refine ev_put (fs' := [_, _, _, _, _, _, _, _, _, _, _, _, _, _]) DX7_read 44 GX7 rfl (k0 := 11) (Nat.le_of_ble_eq_true rfl) fX7_149 rfl ⟨rfl, rfl⟩ h (Nat.le_of_ble_eq_true rfl) rfl rfl ?_
    refine ev_ss DX7_read 2 45 (pc' := 76) (lv' := [(0, .ref _), (1, .int _), (2, .int _), (3, .int _)]) (st' := [.int _, .ref _]) rfl ?_
    refine ev_ifeq DX7_read 47 rfl (tgt := 88) (by decide) (fun _ => ?_) (fun h => h.elim rfl)
    refine ev_ss DX7_read 1 53 (pc' := 89) (lv' := [(0, .ref _), (1, .int _), (2, .int _), (3, .int _)]) (st' := [.int 0, .ref _]) rfl ?_
    refine ev_put (fs' := [_, _, _, _, _, _, _, _, _, _, _, _, _, _]) DX7_read 54 GX7 rfl (k0 := 12) (Nat.le_of_ble_eq_true rfl) fX7_152 rfl ⟨rfl, rfl⟩ (wset_get h) (Nat.le_of_ble_eq_true rfl) rfl wset_set ?_
    exact ev_vret DX7_read 55 rfl rfl ⟨rfl, congrArg (fun v => ws.set 214 (ad 214, moC ad sm (nI len) tw (erP ch len len 0) v hh)) (if_neg q2).symm⟩
set_option maxRecDepth 100000 in
set_option maxHeartbeats 4000000 in
theorem m_X7_read {E : gE} {ad : Nat → Nat} {ws : va_W} {sm tw ea iw : Int32} {hh : Int64} {len : Nat} {ch bf : Nat → Int32} (h : ws[214]? = some (ad 214, moC ad sm (nI len) tw ea iw hh)) (hbf : ws[221]? = some (ad 221, iaC E 60 bf)) (hlen : len ≤ 60) (hch : ∀ j, j < len → bf j = ch j) : CD E YX7_read 0 0 [.ref (ad 214)] ws none (ws.set 214 (ad 214, moC ad sm (nI len) tw (erP ch len len 0) (if tzP ch len = 3 then 1 else 0) hh)) := by
  refine cdV vX7_read (Nat.le_of_ble_eq_true rfl) (lv0 := [(0, .ref (ad 214))]) rfl ?_
  suffices K : ∀ (m i : Nat) (x : Int32), i + m = len → x = nI i → ¬ tzP ch i = 4 → erP ch len m i = erP ch len len 0 → Ev E YX7_read (fun v2 w2 => v2 = none ∧ w2 = (ws.set 214 (ad 214, moC ad sm (nI len) tw (erP ch len len 0) (if tzP ch len = 3 then 1 else 0) hh))) nX 0 0 6 [(0, .ref (ad 214)), (1, .int (tzP ch i)), (2, .int x), (3, .int 1)] [] ws by
    refine ev_ss DX7_read 6 0 (pc' := 6) (lv' := [(3, .int 1), (2, .int 0), (1, .int 0), (0, .ref _)]) (st' := []) rfl ?_
    refine ev_lvp (lv2 := [(0, .ref _), (1, .int _), (2, .int _), (3, .int 1)]) [3, 2, 1, 0] rfl ?_
    exact K len 0 _ (Nat.zero_add _) nI_0.symm (show ¬ (0 : Int32) = 4 by decide) rfl
  intro m
  induction m with
  | zero =>
    intro i x hm hx hne her
    obtain rfl : i = len := by omega
    subst hx
    refine ev_ss DX7_read 2 6 (pc' := 8) (lv' := [(0, .ref _), (1, .int _), (2, .int _), (3, .int 1)]) (st' := [.ref _, .int _]) rfl ?_
    refine ev_get DX7_read 8 GX7 rfl (k0 := 8) (Nat.le_of_ble_eq_true rfl) fX7_140 h rfl ?_
    refine ev_icge DX7_read 9 rfl (tgt := 69) (by decide) (fun _ => ?_) (fun h => h.elim (nI_le (Nat.le_refl _) (by omega)))
    refine ev_lvp (lv2 := [(0, .ref _), (1, .int _), (2, .int _), (3, .int 1)]) [0, 1, 2, 3] rfl ?_
    exact rd_tail h hbf hlen hch (g := 1) her (Or.inl ⟨rfl, rfl⟩)
  | succ m ih =>
    intro i x hm hx hne her
    subst hx
    rw [erP_s] at her
    have hns : nsP (tzP ch i) (ch i) = if tzP ch (i + 1) = 4 then -1 else tzP ch (i + 1) := rfl
    by_cases q1 : tzP ch (i + 1) = 4
    · refine ev_ss DX7_read 2 6 (pc' := 8) (lv' := [(0, .ref _), (1, .int _), (2, .int _), (3, .int 1)]) (st' := [.ref _, .int _]) rfl ?_
      refine ev_get DX7_read 8 GX7 rfl (k0 := 8) (Nat.le_of_ble_eq_true rfl) fX7_140 h rfl ?_
      refine ev_icge DX7_read 9 rfl (tgt := 69) (by decide) (fun h => absurd h (nI_ge (b := len) (by omega) (by omega))) (fun _ => ?_)
      refine ev_ss DX7_read 1 10 (pc' := 15) (lv' := [(0, .ref _), (1, .int _), (2, .int _), (3, .int 1)]) (st' := [.int 1]) rfl ?_
      refine ev_ifeq DX7_read 11 rfl (tgt := 69) (by decide) (fun h => absurd h (by decide)) (fun _ => ?_)
      refine ev_ss DX7_read 3 12 (pc' := 21) (lv' := [(0, .ref _), (1, .int _), (2, .int _), (3, .int 1)]) (st' := [.ref _, .int _, .ref _]) rfl ?_
      refine ev_get DX7_read 15 GX7 rfl (k0 := 7) (Nat.le_of_ble_eq_true rfl) fX7_29 h rfl ?_
      refine ev_ss DX7_read 1 16 (pc' := 25) (lv' := [(0, .ref _), (1, .int _), (2, .int _), (3, .int 1)]) (st' := [.int _, .ref _, .int _, .ref _]) rfl ?_
      refine ev_ialdv DX7_read 17 (k0 := i) rfl hbf rfl (by omega) (by decide) ((hch i (by omega))) ?_
      refine ev_cV DX7_read 18 (m_X7_nextState (ad := ad) (tz_03 hne)) vX7_nextState rfl qX7_146 rfl h rfl (hd_of rfl rfl rfl rfl) ?_
      rw [hns, if_pos q1]
      refine ev_ss DX7_read 3 19 (pc' := 34) (lv' := [(4, .int (-1)), (0, .ref _), (1, .int _), (2, .int _), (3, .int 1)]) (st' := [.int (-1), .int (-1)]) rfl ?_
      refine ev_iceq DX7_read 22 rfl (tgt := 41) (by decide) (fun _ => ?_) (fun h => h.elim (by decide))
      refine ev_ss DX7_read 3 25 (pc' := 44) (lv' := [(3, .int 0), (4, .int (-1)), (0, .ref _), (1, .int _), (2, .int _)]) (st' := [.int 0]) rfl ?_
      refine ev_ifeq DX7_read 28 rfl (tgt := 52) (by decide) (fun _ => ?_) (fun h => h.elim (by decide))
      refine ev_ss DX7_read 4 31 (pc' := 56) (lv' := [(1, .int _), (3, .int 0), (4, .int (-1)), (0, .ref _), (2, .int _)]) (st' := [.int 0, .int _]) rfl ?_
      refine ev_ifeq DX7_read 35 rfl (tgt := 63) (by decide) (fun _ => ?_) (fun h => h.elim (by decide))
      refine ev_ss DX7_read 3 38 (pc' := 66) (lv' := [(2, .int _), (1, .int _), (3, .int 0), (4, .int (-1)), (0, .ref _)]) (st' := []) rfl ?_
      refine ev_goto DX7_read 41 rfl (tgt := 6) (by decide) ?_
      refine ev_ss DX7_read 2 6 (pc' := 8) (lv' := [(2, .int _), (1, .int _), (3, .int 0), (4, .int (-1)), (0, .ref _)]) (st' := [.ref _, .int _]) rfl ?_
      refine ev_get DX7_read 8 GX7 rfl (k0 := 8) (Nat.le_of_ble_eq_true rfl) fX7_140 h rfl ?_
      refine ev_icge DX7_read 9 rfl (tgt := 69) (by decide) (fun h => absurd h (show ¬ nI len ≤ nI i + 0 by rw [Int32.add_zero]; exact nI_ge (b := len) (by omega) (by omega))) (fun _ => ?_)
      refine ev_ss DX7_read 1 10 (pc' := 15) (lv' := [(2, .int _), (1, .int _), (3, .int 0), (4, .int (-1)), (0, .ref _)]) (st' := [.int 0]) rfl ?_
      refine ev_ifeq DX7_read 11 rfl (tgt := 69) (by decide) (fun _ => ?_) (fun h => h.elim (by decide))
      refine ev_lvp (lv2 := [(0, .ref _), (1, .int _), (2, .int _), (3, .int 0)]) [4, 1, 0, 2] rfl ?_
      exact rd_tail h hbf hlen hch (g := 0) (by rw [if_pos q1] at her; rw [← her]; exact Int32.add_zero _) (Or.inr ⟨rfl, fun e => tz_ne e (i + 1) (by omega) q1⟩)
    · refine ev_ss DX7_read 2 6 (pc' := 8) (lv' := [(0, .ref _), (1, .int _), (2, .int _), (3, .int 1)]) (st' := [.ref _, .int _]) rfl ?_
      refine ev_get DX7_read 8 GX7 rfl (k0 := 8) (Nat.le_of_ble_eq_true rfl) fX7_140 h rfl ?_
      refine ev_icge DX7_read 9 rfl (tgt := 69) (by decide) (fun h => absurd h (nI_ge (b := len) (by omega) (by omega))) (fun _ => ?_)
      refine ev_ss DX7_read 1 10 (pc' := 15) (lv' := [(0, .ref _), (1, .int _), (2, .int _), (3, .int 1)]) (st' := [.int 1]) rfl ?_
      refine ev_ifeq DX7_read 11 rfl (tgt := 69) (by decide) (fun h => absurd h (by decide)) (fun _ => ?_)
      refine ev_ss DX7_read 3 12 (pc' := 21) (lv' := [(0, .ref _), (1, .int _), (2, .int _), (3, .int 1)]) (st' := [.ref _, .int _, .ref _]) rfl ?_
      refine ev_get DX7_read 15 GX7 rfl (k0 := 7) (Nat.le_of_ble_eq_true rfl) fX7_29 h rfl ?_
      refine ev_ss DX7_read 1 16 (pc' := 25) (lv' := [(0, .ref _), (1, .int _), (2, .int _), (3, .int 1)]) (st' := [.int _, .ref _, .int _, .ref _]) rfl ?_
      refine ev_ialdv DX7_read 17 (k0 := i) rfl hbf rfl (by omega) (by decide) ((hch i (by omega))) ?_
      refine ev_cV DX7_read 18 (m_X7_nextState (ad := ad) (tz_03 hne)) vX7_nextState rfl qX7_146 rfl h rfl (hd_of rfl rfl rfl rfl) ?_
      rw [hns, if_neg q1]
      refine ev_ss DX7_read 3 19 (pc' := 34) (lv' := [(4, .int _), (0, .ref _), (1, .int _), (2, .int _), (3, .int 1)]) (st' := [.int (-1), .int _]) rfl ?_
      refine ev_iceq DX7_read 22 rfl (tgt := 41) (by decide) (fun h => absurd h (fun e => by have e2 := tz_03 q1; unfold p03 at e2; rw [e] at e2; exact absurd e2 (by decide))) (fun _ => ?_)
      refine ev_ss DX7_read 1 23 (pc' := 38) (lv' := [(4, .int _), (0, .ref _), (1, .int _), (2, .int _), (3, .int 1)]) (st' := [.int 1]) rfl ?_
      refine ev_goto DX7_read 24 rfl (tgt := 42) (by decide) ?_
      refine ev_ss DX7_read 2 26 (pc' := 44) (lv' := [(3, .int 1), (4, .int _), (0, .ref _), (1, .int _), (2, .int _)]) (st' := [.int 1]) rfl ?_
      refine ev_ifeq DX7_read 28 rfl (tgt := 52) (by decide) (fun h => absurd h (by decide)) (fun _ => ?_)
      refine ev_ss DX7_read 1 29 (pc' := 49) (lv' := [(3, .int 1), (4, .int _), (0, .ref _), (1, .int _), (2, .int _)]) (st' := [.int _]) rfl ?_
      refine ev_goto DX7_read 30 rfl (tgt := 53) (by decide) ?_
      refine ev_ss DX7_read 3 32 (pc' := 56) (lv' := [(1, .int _), (3, .int 1), (4, .int _), (0, .ref _), (2, .int _)]) (st' := [.int 1, .int _]) rfl ?_
      refine ev_ifeq DX7_read 35 rfl (tgt := 63) (by decide) (fun h => absurd h (by decide)) (fun _ => ?_)
      refine ev_ss DX7_read 1 36 (pc' := 60) (lv' := [(1, .int _), (3, .int 1), (4, .int _), (0, .ref _), (2, .int _)]) (st' := [.int 1, .int _]) rfl ?_
      refine ev_goto DX7_read 37 rfl (tgt := 64) (by decide) ?_
      refine ev_ss DX7_read 2 39 (pc' := 66) (lv' := [(2, .int _), (1, .int _), (3, .int 1), (4, .int _), (0, .ref _)]) (st' := []) rfl ?_
      refine ev_goto DX7_read 41 rfl (tgt := 6) (by decide) ?_
      refine ev_lvp (lv2 := [(0, .ref _), (1, .int _), (2, .int _), (3, .int 1)]) [4, 1, 0, 2] rfl ?_
      exact ih (i + 1) _ (by omega) (nI_1 i) q1 (by rw [if_neg q1] at her; exact her)
set_option maxRecDepth 100000 in
set_option maxHeartbeats 4000000 in
theorem m_X7_firstError_ok {E : gE} {ad : Nat → Nat} {ws : va_W} {p : PS} {sv : Nat → PS} {sc len : Nat} {ch : Nat → Int32} {tw : Int32} {hh : Int64} (hM : ZM E ad ws p sv sc len ch tw hh) : C0 E YX7_firstError 0 0 [.ref (ad 214)] ws (fun v9 w9 => v9 = some (.int (erP ch len len 0)) ∧ ZM E ad w9 p sv sc len ch 0 hh ∧ MO ws w9) := by
  obtain ⟨ea, iw, z, rw, as, l, hs, hq, er, bf, ⟨h, hz, hr, has, hl⟩, ⟨hhs, hha, hbf, he⟩, ⟨hG, hLG⟩, hsv, hlen, hch⟩ := id hM
  refine c0V vX7_firstError (Nat.le_of_ble_eq_true rfl) (lv0 := [(0, .ref (ad 214))]) rfl ?_
  refine ev_ss DX7_firstError 2 0 (pc' := 2) (lv' := [(0, .ref _)]) (st' := [.int 0, .ref _]) rfl ?_
  refine ev_put (fs' := [_, _, _, _, _, _, _, _, _, _, _, _, _, _]) DX7_firstError 2 GX7 rfl (k0 := 9) (Nat.le_of_ble_eq_true rfl) fX7_35 rfl ⟨rfl, rfl⟩ h (Nat.le_of_ble_eq_true rfl) rfl rfl ?_
  refine ev_ss DX7_firstError 1 3 (pc' := 6) (lv' := [(0, .ref _)]) (st' := [.ref _]) rfl ?_
  refine ev_cV DX7_firstError 4 (cd_hs (m_X7_read (wset_get h) (wset_o hbf h rfl) hlen hch) wset_set) vX7_read rfl qX7_156 rfl (wset_get h) rfl (hd_of rfl rfl rfl rfl) ?_
  refine ev_ss DX7_firstError 1 5 (pc' := 10) (lv' := [(0, .ref _)]) (st' := [.ref _]) rfl ?_
  refine ev_get DX7_firstError 6 GX7 rfl (k0 := 11) (Nat.le_of_ble_eq_true rfl) fX7_149 (wset_get h) rfl ?_
  exact ev_iret DX7_firstError 7 rfl rfl ⟨rfl, hM.ob (wset_get h) (fun j a b => List.getElem?_set_ne (by omega)), MO.set (by decide) (by decide)⟩
