/-! the law's helpers -/
theorem i_lt0 {x : Int32} (h : x < 0) : x.toInt < 0 := Int32.lt_iff_toInt_lt.mp h
theorem sw_out {x lo hi : Int32} {a b : Int} (ha : lo.toInt = a) (hb : hi.toInt = b) (h : x < lo ∨ hi < x) : x.toInt < a ∨ b < x.toInt := by
  subst ha
  subst hb
  exact h.imp Int32.lt_iff_toInt_lt.mp Int32.lt_iff_toInt_lt.mp
set_option maxRecDepth 100000 in
set_option maxHeartbeats 4000000 in
theorem x_X6_count {E : gE} {ws : va_W} {a0 : Nat} {x : Int32} (hb : x < 0 ∨ 12 < x) : C1 E YX6_count 1 6 [.ref a0, .int x] ws (fun _ _ => False) (fun X w => X = xA ∧ w = ws) := by
  refine c1V vX6_count (Nat.le_of_ble_eq_true rfl) (lv0 := [(0, .ref a0), (1, .int x)]) rfl ?_
  refine ev_ss DX6_count 1 0 (pc' := 1) (lv' := [(0, .ref _), (1, .int _)]) (st' := [.int _]) rfl ?_
  refine ev_swout DX6_count 1 rfl (sw_out (lo := 0) (hi := 12) (by decide) (by decide) hb) (tgt := 227) (by decide) ?_
  exact ev_throw DX6_count 75 XbA rfl rfl nX6_57 (List.mem_of_getElem? (i := 0) rfl) rfl rfl rfl rfl rfl (Nat.le_of_ble_eq_true rfl) (Nat.le_of_ble_eq_true rfl) (by decide) (by decide) ⟨rfl, rfl⟩
set_option maxRecDepth 100000 in
set_option maxHeartbeats 4000000 in
theorem LO_build {E : gE} {ad : Nat → Nat} {ws : va_W} {p0 p1 p2 p3 : Int32} {fs : List Value} {o : Nat → Int64} {R : Int32} {P : va_W → Prop} (h0 : ws[0]? = some (ad 0, .inr (6, fs))) (ho : ws[223]? = some (ad 223, laC E 1 o)) (hM : C0 E YX6_build 0 0 [.ref (ad 0), .int p0, .int p1, .int p2, .int p3] ws (fun v w => v = some (.int R) ∧ P w ∧ FO ws w)) : C2 E YL_build 1 6 [.ref (ad 0), .int p0, .int p1, .int p2, .int p3, .ref (ad 223)] ws (fun v w => v = some (.int 0) ∧ ∃ w1, P w1 ∧ FO ws w1 ∧ w = w1.set 223 (ad 223, laC E 1 (vp_updL o 0 R.toInt64))) := by
  refine c2X vL_build (Nat.le_of_ble_eq_true rfl) (lv0 := [(0, .ref (ad 0)), (1, .int p0), (2, .int p1), (3, .int p2), (4, .int p3), (5, .ref (ad 223))]) rfl ?_
  refine ev_ss DL_build 7 0 (pc' := 9) (lv' := [(0, .ref _), (1, .int _), (2, .int _), (3, .int _), (4, .int _), (5, .ref _)]) (st' := [.int _, .int _, .int _, .int _, .ref _, .int 0, .ref _]) rfl ?_
  refine ev_rV DL_build 7 hM vX6_build rfl qL_7 rfl h0 rfl (hd_of rfl rfl rfl rfl) (fun v w hw => ?_)
  obtain ⟨rfl, hP, hF⟩ := hw
  refine ev_ss DL_build 1 8 (pc' := 13) (lv' := [(0, .ref _), (1, .int _), (2, .int _), (3, .int _), (4, .int _), (5, .ref _)]) (st' := [.long _, .int 0, .ref _]) rfl ?_
  refine ev_last DL_build 9 rfl ((hF 223 (by decide)).trans ho) (by unfold vp_in; decide) rfl ?_
  refine ev_goto DL_build 10 rfl (tgt := 25) (by decide) ?_
  refine ev_ss DL_build 1 17 (pc' := 26) (lv' := [(0, .ref _), (1, .int _), (2, .int _), (3, .int _), (4, .int _), (5, .ref _)]) (st' := [.int 0]) rfl ?_
  exact ev_iret DL_build 18 rfl rfl ⟨rfl, w, hP, hF, rfl⟩
set_option maxRecDepth 100000 in
set_option maxHeartbeats 4000000 in
theorem LX_build_1 {E : gE} {ad : Nat → Nat} {ws : va_W} {p0 p1 p2 p3 : Int32} {fs : List Value} {q0 : Nat} (h0 : ws[0]? = some (ad 0, .inr (6, fs))) (hM : C1 E YX6_build 1 6 [.ref (ad 0), .int p0, .int p1, .int p2, .int p3] ws (fun _ _ => False) (fun X w => X = xI ∧ w = ws)) : C2 E YL_build 1 6 [.ref (ad 0), .int p0, .int p1, .int p2, .int p3, .ref q0] ws (fun v w => v = some (.int 1) ∧ w = ws) := by
  refine c2X vL_build (Nat.le_of_ble_eq_true rfl) (lv0 := [(0, .ref (ad 0)), (1, .int p0), (2, .int p1), (3, .int p2), (4, .int p3), (5, .ref q0)]) rfl ?_
  refine ev_ss DL_build 7 0 (pc' := 9) (lv' := [(0, .ref _), (1, .int _), (2, .int _), (3, .int _), (4, .int _), (5, .ref _)]) (st' := [.int _, .int _, .int _, .int _, .ref _, .int 0, .ref _]) rfl ?_
  refine ev_callVx DL_build 7 vX6_build rfl qL_7 (Nat.le_of_ble_eq_true rfl) (Nat.le_of_ble_eq_true rfl) h0 rfl rfl (Nat.le_of_ble_eq_true rfl) rfl (k1 := 1) (k2 := 0) (n1 := 6) (n2 := 0) (Nat.le_refl 1) (Nat.le_refl 6) hM (fun X w hx => ?_) (fun v w hf => hf.elim)
  obtain ⟨rfl, rfl⟩ := hx
  refine evx_catch [] ⟨0, 14, 17, 13⟩ [⟨0, 14, 21, 15⟩] rfl (fun z hz => absurd hz List.not_mem_nil) rfl (by decide) nL_13 (List.mem_of_getElem? (i := 0) rfl) (fun q => ?_)
  show Ev E YL_build _ _ 0 0 17 _ _ _
  refine ev_ss DL_build 2 11 (pc' := 20) (lv' := [(6, .ref _), (0, .ref _), (1, .int _), (2, .int _), (3, .int _), (4, .int _), (5, .ref _)]) (st' := [.int 1]) rfl ?_
  exact ev_iret DL_build 13 rfl rfl ⟨rfl, rfl⟩
set_option maxRecDepth 100000 in
set_option maxHeartbeats 4000000 in
theorem LX_build_2 {E : gE} {ad : Nat → Nat} {ws : va_W} {p0 p1 p2 p3 : Int32} {fs : List Value} {q0 : Nat} (h0 : ws[0]? = some (ad 0, .inr (6, fs))) (hM : C1 E YX6_build 1 6 [.ref (ad 0), .int p0, .int p1, .int p2, .int p3] ws (fun _ _ => False) (fun X w => X = xA ∧ w = ws)) : C2 E YL_build 1 6 [.ref (ad 0), .int p0, .int p1, .int p2, .int p3, .ref q0] ws (fun v w => v = some (.int 2) ∧ w = ws) := by
  refine c2X vL_build (Nat.le_of_ble_eq_true rfl) (lv0 := [(0, .ref (ad 0)), (1, .int p0), (2, .int p1), (3, .int p2), (4, .int p3), (5, .ref q0)]) rfl ?_
  refine ev_ss DL_build 7 0 (pc' := 9) (lv' := [(0, .ref _), (1, .int _), (2, .int _), (3, .int _), (4, .int _), (5, .ref _)]) (st' := [.int _, .int _, .int _, .int _, .ref _, .int 0, .ref _]) rfl ?_
  refine ev_callVx DL_build 7 vX6_build rfl qL_7 (Nat.le_of_ble_eq_true rfl) (Nat.le_of_ble_eq_true rfl) h0 rfl rfl (Nat.le_of_ble_eq_true rfl) rfl (k1 := 1) (k2 := 0) (n1 := 6) (n2 := 0) (Nat.le_refl 1) (Nat.le_refl 6) hM (fun X w hx => ?_) (fun v w hf => hf.elim)
  obtain ⟨rfl, rfl⟩ := hx
  have hpass : ∀ z ∈ ([⟨0, 14, 17, 13⟩] : List ExceptionTableEntry), z.catchType ≠ 0 ∧ ∃ nm : String, gw (.classLink (mnm YL_build).cls z.catchType nm) ∧ (xA, nm) ∈ gNc := by
    intro z hz
    simp only [List.mem_cons, List.not_mem_nil, or_false] at hz
    subst hz
    exact ⟨by decide, xI, nL_13, List.mem_of_getElem? (i := 0) rfl⟩
  refine evx_catch [⟨0, 14, 17, 13⟩] ⟨0, 14, 21, 15⟩ [] rfl hpass rfl (by decide) nL_15 (List.mem_of_getElem? (i := 1) rfl) (fun q => ?_)
  show Ev E YL_build _ _ 0 0 21 _ _ _
  refine ev_ss DL_build 2 14 (pc' := 24) (lv' := [(6, .ref _), (0, .ref _), (1, .int _), (2, .int _), (3, .int _), (4, .int _), (5, .ref _)]) (st' := [.int 2]) rfl ?_
  exact ev_iret DL_build 16 rfl rfl ⟨rfl, rfl⟩
set_option maxRecDepth 100000 in
set_option maxHeartbeats 4000000 in
theorem LO_carry {E : gE} {ad : Nat → Nat} {ws : va_W} {p0 p1 p2 : Int32} {fs : List Value} {o : Nat → Int64} {R : Int32} {P : va_W → Prop} (h0 : ws[0]? = some (ad 0, .inr (6, fs))) (ho : ws[223]? = some (ad 223, laC E 1 o)) (hM : C0 E YX6_carry 0 0 [.ref (ad 0), .int p0, .int p1, .int p2] ws (fun v w => v = some (.int R) ∧ P w ∧ FO ws w)) : C2 E YL_carry 1 6 [.ref (ad 0), .int p0, .int p1, .int p2, .ref (ad 223)] ws (fun v w => v = some (.int 0) ∧ ∃ w1, P w1 ∧ FO ws w1 ∧ w = w1.set 223 (ad 223, laC E 1 (vp_updL o 0 R.toInt64))) := by
  refine c2X vL_carry (Nat.le_of_ble_eq_true rfl) (lv0 := [(0, .ref (ad 0)), (1, .int p0), (2, .int p1), (3, .int p2), (4, .ref (ad 223))]) rfl ?_
  refine ev_ss DL_carry 6 0 (pc' := 7) (lv' := [(0, .ref _), (1, .int _), (2, .int _), (3, .int _), (4, .ref _)]) (st' := [.int _, .int _, .int _, .ref _, .int 0, .ref _]) rfl ?_
  refine ev_rV DL_carry 6 hM vX6_carry rfl qL_17 rfl h0 rfl (hd_of rfl rfl rfl rfl) (fun v w hw => ?_)
  obtain ⟨rfl, hP, hF⟩ := hw
  refine ev_ss DL_carry 1 7 (pc' := 11) (lv' := [(0, .ref _), (1, .int _), (2, .int _), (3, .int _), (4, .ref _)]) (st' := [.long _, .int 0, .ref _]) rfl ?_
  refine ev_last DL_carry 8 rfl ((hF 223 (by decide)).trans ho) (by unfold vp_in; decide) rfl ?_
  refine ev_goto DL_carry 9 rfl (tgt := 23) (by decide) ?_
  refine ev_ss DL_carry 1 16 (pc' := 24) (lv' := [(0, .ref _), (1, .int _), (2, .int _), (3, .int _), (4, .ref _)]) (st' := [.int 0]) rfl ?_
  exact ev_iret DL_carry 17 rfl rfl ⟨rfl, w, hP, hF, rfl⟩
set_option maxRecDepth 100000 in
set_option maxHeartbeats 4000000 in
theorem LX_carry_1 {E : gE} {ad : Nat → Nat} {ws : va_W} {p0 p1 p2 : Int32} {fs : List Value} {q0 : Nat} (h0 : ws[0]? = some (ad 0, .inr (6, fs))) (hM : C1 E YX6_carry 1 6 [.ref (ad 0), .int p0, .int p1, .int p2] ws (fun _ _ => False) (fun X w => X = xI ∧ w = ws)) : C2 E YL_carry 1 6 [.ref (ad 0), .int p0, .int p1, .int p2, .ref q0] ws (fun v w => v = some (.int 1) ∧ w = ws) := by
  refine c2X vL_carry (Nat.le_of_ble_eq_true rfl) (lv0 := [(0, .ref (ad 0)), (1, .int p0), (2, .int p1), (3, .int p2), (4, .ref q0)]) rfl ?_
  refine ev_ss DL_carry 6 0 (pc' := 7) (lv' := [(0, .ref _), (1, .int _), (2, .int _), (3, .int _), (4, .ref _)]) (st' := [.int _, .int _, .int _, .ref _, .int 0, .ref _]) rfl ?_
  refine ev_callVx DL_carry 6 vX6_carry rfl qL_17 (Nat.le_of_ble_eq_true rfl) (Nat.le_of_ble_eq_true rfl) h0 rfl rfl (Nat.le_of_ble_eq_true rfl) rfl (k1 := 1) (k2 := 0) (n1 := 6) (n2 := 0) (Nat.le_refl 1) (Nat.le_refl 6) hM (fun X w hx => ?_) (fun v w hf => hf.elim)
  obtain ⟨rfl, rfl⟩ := hx
  refine evx_catch [] ⟨0, 12, 15, 13⟩ [⟨0, 12, 19, 15⟩] rfl (fun z hz => absurd hz List.not_mem_nil) rfl (by decide) nL_13 (List.mem_of_getElem? (i := 0) rfl) (fun q => ?_)
  show Ev E YL_carry _ _ 0 0 15 _ _ _
  refine ev_ss DL_carry 2 10 (pc' := 18) (lv' := [(5, .ref _), (0, .ref _), (1, .int _), (2, .int _), (3, .int _), (4, .ref _)]) (st' := [.int 1]) rfl ?_
  exact ev_iret DL_carry 12 rfl rfl ⟨rfl, rfl⟩
set_option maxRecDepth 100000 in
set_option maxHeartbeats 4000000 in
theorem LX_carry_2 {E : gE} {ad : Nat → Nat} {ws : va_W} {p0 p1 p2 : Int32} {fs : List Value} {q0 : Nat} (h0 : ws[0]? = some (ad 0, .inr (6, fs))) (hM : C1 E YX6_carry 1 6 [.ref (ad 0), .int p0, .int p1, .int p2] ws (fun _ _ => False) (fun X w => X = xA ∧ w = ws)) : C2 E YL_carry 1 6 [.ref (ad 0), .int p0, .int p1, .int p2, .ref q0] ws (fun v w => v = some (.int 2) ∧ w = ws) := by
  refine c2X vL_carry (Nat.le_of_ble_eq_true rfl) (lv0 := [(0, .ref (ad 0)), (1, .int p0), (2, .int p1), (3, .int p2), (4, .ref q0)]) rfl ?_
  refine ev_ss DL_carry 6 0 (pc' := 7) (lv' := [(0, .ref _), (1, .int _), (2, .int _), (3, .int _), (4, .ref _)]) (st' := [.int _, .int _, .int _, .ref _, .int 0, .ref _]) rfl ?_
  refine ev_callVx DL_carry 6 vX6_carry rfl qL_17 (Nat.le_of_ble_eq_true rfl) (Nat.le_of_ble_eq_true rfl) h0 rfl rfl (Nat.le_of_ble_eq_true rfl) rfl (k1 := 1) (k2 := 0) (n1 := 6) (n2 := 0) (Nat.le_refl 1) (Nat.le_refl 6) hM (fun X w hx => ?_) (fun v w hf => hf.elim)
  obtain ⟨rfl, rfl⟩ := hx
  have hpass : ∀ z ∈ ([⟨0, 12, 15, 13⟩] : List ExceptionTableEntry), z.catchType ≠ 0 ∧ ∃ nm : String, gw (.classLink (mnm YL_carry).cls z.catchType nm) ∧ (xA, nm) ∈ gNc := by
    intro z hz
    simp only [List.mem_cons, List.not_mem_nil, or_false] at hz
    subst hz
    exact ⟨by decide, xI, nL_13, List.mem_of_getElem? (i := 0) rfl⟩
  refine evx_catch [⟨0, 12, 15, 13⟩] ⟨0, 12, 19, 15⟩ [] rfl hpass rfl (by decide) nL_15 (List.mem_of_getElem? (i := 1) rfl) (fun q => ?_)
  show Ev E YL_carry _ _ 0 0 19 _ _ _
  refine ev_ss DL_carry 2 13 (pc' := 22) (lv' := [(5, .ref _), (0, .ref _), (1, .int _), (2, .int _), (3, .int _), (4, .ref _)]) (st' := [.int 2]) rfl ?_
  exact ev_iret DL_carry 15 rfl rfl ⟨rfl, rfl⟩
set_option maxRecDepth 100000 in
set_option maxHeartbeats 4000000 in
theorem LO_insult {E : gE} {ad : Nat → Nat} {ws : va_W} {p0 p1 p2 : Int32} {fs : List Value} {o : Nat → Int64} {R : Int32} {P : va_W → Prop} (h0 : ws[0]? = some (ad 0, .inr (6, fs))) (ho : ws[223]? = some (ad 223, laC E 1 o)) (hM : C0 E YX6_insult 0 0 [.ref (ad 0), .int p0, .int p1, .int p2] ws (fun v w => v = some (.int R) ∧ P w ∧ FO ws w)) : C2 E YL_insult 1 6 [.ref (ad 0), .int p0, .int p1, .int p2, .ref (ad 223)] ws (fun v w => v = some (.int 0) ∧ ∃ w1, P w1 ∧ FO ws w1 ∧ w = w1.set 223 (ad 223, laC E 1 (vp_updL o 0 R.toInt64))) := by
  refine c2X vL_insult (Nat.le_of_ble_eq_true rfl) (lv0 := [(0, .ref (ad 0)), (1, .int p0), (2, .int p1), (3, .int p2), (4, .ref (ad 223))]) rfl ?_
  refine ev_ss DL_insult 6 0 (pc' := 7) (lv' := [(0, .ref _), (1, .int _), (2, .int _), (3, .int _), (4, .ref _)]) (st' := [.int _, .int _, .int _, .ref _, .int 0, .ref _]) rfl ?_
  refine ev_rV DL_insult 6 hM vX6_insult rfl qL_21 rfl h0 rfl (hd_of rfl rfl rfl rfl) (fun v w hw => ?_)
  obtain ⟨rfl, hP, hF⟩ := hw
  refine ev_ss DL_insult 1 7 (pc' := 11) (lv' := [(0, .ref _), (1, .int _), (2, .int _), (3, .int _), (4, .ref _)]) (st' := [.long _, .int 0, .ref _]) rfl ?_
  refine ev_last DL_insult 8 rfl ((hF 223 (by decide)).trans ho) (by unfold vp_in; decide) rfl ?_
  refine ev_goto DL_insult 9 rfl (tgt := 27) (by decide) ?_
  refine ev_ss DL_insult 1 19 (pc' := 28) (lv' := [(0, .ref _), (1, .int _), (2, .int _), (3, .int _), (4, .ref _)]) (st' := [.int 0]) rfl ?_
  exact ev_iret DL_insult 20 rfl rfl ⟨rfl, w, hP, hF, rfl⟩
set_option maxRecDepth 100000 in
set_option maxHeartbeats 4000000 in
theorem LX_insult_1 {E : gE} {ad : Nat → Nat} {ws : va_W} {p0 p1 p2 : Int32} {fs : List Value} {q0 : Nat} (h0 : ws[0]? = some (ad 0, .inr (6, fs))) (hM : C1 E YX6_insult 1 6 [.ref (ad 0), .int p0, .int p1, .int p2] ws (fun _ _ => False) (fun X w => X = xI ∧ w = ws)) : C2 E YL_insult 1 6 [.ref (ad 0), .int p0, .int p1, .int p2, .ref q0] ws (fun v w => v = some (.int 1) ∧ w = ws) := by
  refine c2X vL_insult (Nat.le_of_ble_eq_true rfl) (lv0 := [(0, .ref (ad 0)), (1, .int p0), (2, .int p1), (3, .int p2), (4, .ref q0)]) rfl ?_
  refine ev_ss DL_insult 6 0 (pc' := 7) (lv' := [(0, .ref _), (1, .int _), (2, .int _), (3, .int _), (4, .ref _)]) (st' := [.int _, .int _, .int _, .ref _, .int 0, .ref _]) rfl ?_
  refine ev_callVx DL_insult 6 vX6_insult rfl qL_21 (Nat.le_of_ble_eq_true rfl) (Nat.le_of_ble_eq_true rfl) h0 rfl rfl (Nat.le_of_ble_eq_true rfl) rfl (k1 := 1) (k2 := 0) (n1 := 6) (n2 := 0) (Nat.le_refl 1) (Nat.le_refl 6) hM (fun X w hx => ?_) (fun v w hf => hf.elim)
  obtain ⟨rfl, rfl⟩ := hx
  refine evx_catch [] ⟨0, 12, 15, 13⟩ [⟨0, 12, 19, 15⟩, ⟨0, 12, 23, 24⟩] rfl (fun z hz => absurd hz List.not_mem_nil) rfl (by decide) nL_13 (List.mem_of_getElem? (i := 0) rfl) (fun q => ?_)
  show Ev E YL_insult _ _ 0 0 15 _ _ _
  refine ev_ss DL_insult 2 10 (pc' := 18) (lv' := [(5, .ref _), (0, .ref _), (1, .int _), (2, .int _), (3, .int _), (4, .ref _)]) (st' := [.int 1]) rfl ?_
  exact ev_iret DL_insult 12 rfl rfl ⟨rfl, rfl⟩
set_option maxRecDepth 100000 in
set_option maxHeartbeats 4000000 in
theorem LX_insult_2 {E : gE} {ad : Nat → Nat} {ws : va_W} {p0 p1 p2 : Int32} {fs : List Value} {q0 : Nat} (h0 : ws[0]? = some (ad 0, .inr (6, fs))) (hM : C1 E YX6_insult 1 6 [.ref (ad 0), .int p0, .int p1, .int p2] ws (fun _ _ => False) (fun X w => X = xA ∧ w = ws)) : C2 E YL_insult 1 6 [.ref (ad 0), .int p0, .int p1, .int p2, .ref q0] ws (fun v w => v = some (.int 2) ∧ w = ws) := by
  refine c2X vL_insult (Nat.le_of_ble_eq_true rfl) (lv0 := [(0, .ref (ad 0)), (1, .int p0), (2, .int p1), (3, .int p2), (4, .ref q0)]) rfl ?_
  refine ev_ss DL_insult 6 0 (pc' := 7) (lv' := [(0, .ref _), (1, .int _), (2, .int _), (3, .int _), (4, .ref _)]) (st' := [.int _, .int _, .int _, .ref _, .int 0, .ref _]) rfl ?_
  refine ev_callVx DL_insult 6 vX6_insult rfl qL_21 (Nat.le_of_ble_eq_true rfl) (Nat.le_of_ble_eq_true rfl) h0 rfl rfl (Nat.le_of_ble_eq_true rfl) rfl (k1 := 1) (k2 := 0) (n1 := 6) (n2 := 0) (Nat.le_refl 1) (Nat.le_refl 6) hM (fun X w hx => ?_) (fun v w hf => hf.elim)
  obtain ⟨rfl, rfl⟩ := hx
  have hpass : ∀ z ∈ ([⟨0, 12, 15, 13⟩] : List ExceptionTableEntry), z.catchType ≠ 0 ∧ ∃ nm : String, gw (.classLink (mnm YL_insult).cls z.catchType nm) ∧ (xA, nm) ∈ gNc := by
    intro z hz
    simp only [List.mem_cons, List.not_mem_nil, or_false] at hz
    subst hz
    exact ⟨by decide, xI, nL_13, List.mem_of_getElem? (i := 0) rfl⟩
  refine evx_catch [⟨0, 12, 15, 13⟩] ⟨0, 12, 19, 15⟩ [⟨0, 12, 23, 24⟩] rfl hpass rfl (by decide) nL_15 (List.mem_of_getElem? (i := 1) rfl) (fun q => ?_)
  show Ev E YL_insult _ _ 0 0 19 _ _ _
  refine ev_ss DL_insult 2 13 (pc' := 22) (lv' := [(5, .ref _), (0, .ref _), (1, .int _), (2, .int _), (3, .int _), (4, .ref _)]) (st' := [.int 2]) rfl ?_
  exact ev_iret DL_insult 15 rfl rfl ⟨rfl, rfl⟩
set_option maxRecDepth 100000 in
set_option maxHeartbeats 4000000 in
theorem LX_insult_3 {E : gE} {ad : Nat → Nat} {ws : va_W} {p0 p1 p2 : Int32} {fs : List Value} {q0 : Nat} (h0 : ws[0]? = some (ad 0, .inr (6, fs))) (hM : C1 E YX6_insult 1 6 [.ref (ad 0), .int p0, .int p1, .int p2] ws (fun _ _ => False) (fun X w => X = xS ∧ w = ws)) : C2 E YL_insult 1 6 [.ref (ad 0), .int p0, .int p1, .int p2, .ref q0] ws (fun v w => v = some (.int 3) ∧ w = ws) := by
  refine c2X vL_insult (Nat.le_of_ble_eq_true rfl) (lv0 := [(0, .ref (ad 0)), (1, .int p0), (2, .int p1), (3, .int p2), (4, .ref q0)]) rfl ?_
  refine ev_ss DL_insult 6 0 (pc' := 7) (lv' := [(0, .ref _), (1, .int _), (2, .int _), (3, .int _), (4, .ref _)]) (st' := [.int _, .int _, .int _, .ref _, .int 0, .ref _]) rfl ?_
  refine ev_callVx DL_insult 6 vX6_insult rfl qL_21 (Nat.le_of_ble_eq_true rfl) (Nat.le_of_ble_eq_true rfl) h0 rfl rfl (Nat.le_of_ble_eq_true rfl) rfl (k1 := 1) (k2 := 0) (n1 := 6) (n2 := 0) (Nat.le_refl 1) (Nat.le_refl 6) hM (fun X w hx => ?_) (fun v w hf => hf.elim)
  obtain ⟨rfl, rfl⟩ := hx
  have hpass : ∀ z ∈ ([⟨0, 12, 15, 13⟩, ⟨0, 12, 19, 15⟩] : List ExceptionTableEntry), z.catchType ≠ 0 ∧ ∃ nm : String, gw (.classLink (mnm YL_insult).cls z.catchType nm) ∧ (xS, nm) ∈ gNc := by
    intro z hz
    simp only [List.mem_cons, List.not_mem_nil, or_false] at hz
    rcases hz with rfl | rfl
    · exact ⟨by decide, xI, nL_13, List.mem_of_getElem? (i := 1) rfl⟩
    · exact ⟨by decide, xA, nL_15, List.mem_of_getElem? (i := 2) rfl⟩
  refine evx_catch [⟨0, 12, 15, 13⟩, ⟨0, 12, 19, 15⟩] ⟨0, 12, 23, 24⟩ [] rfl hpass rfl (by decide) nL_24 (List.mem_of_getElem? (i := 2) rfl) (fun q => ?_)
  show Ev E YL_insult _ _ 0 0 23 _ _ _
  refine ev_ss DL_insult 2 16 (pc' := 26) (lv' := [(5, .ref _), (0, .ref _), (1, .int _), (2, .int _), (3, .int _), (4, .ref _)]) (st' := [.int 3]) rfl ?_
  exact ev_iret DL_insult 18 rfl rfl ⟨rfl, rfl⟩
set_option maxRecDepth 100000 in
set_option maxHeartbeats 4000000 in
theorem LO_set {E : gE} {ad : Nat → Nat} {ws : va_W} {p0 p1 : Int32} {fs : List Value} {o : Nat → Int64} {R : Int32} {P : va_W → Prop} (h0 : ws[0]? = some (ad 0, .inr (6, fs))) (ho : ws[223]? = some (ad 223, laC E 1 o)) (hM : C0 E YX6_set 0 0 [.ref (ad 0), .int p0, .int p1] ws (fun v w => v = some (.int R) ∧ P w ∧ FO ws w)) : C2 E YL_set 1 6 [.ref (ad 0), .int p0, .int p1, .ref (ad 223)] ws (fun v w => v = some (.int 0) ∧ ∃ w1, P w1 ∧ FO ws w1 ∧ w = w1.set 223 (ad 223, laC E 1 (vp_updL o 0 R.toInt64))) := by
  refine c2X vL_set (Nat.le_of_ble_eq_true rfl) (lv0 := [(0, .ref (ad 0)), (1, .int p0), (2, .int p1), (3, .ref (ad 223))]) rfl ?_
  refine ev_ss DL_set 5 0 (pc' := 5) (lv' := [(0, .ref _), (1, .int _), (2, .int _), (3, .ref _)]) (st' := [.int _, .int _, .ref _, .int 0, .ref _]) rfl ?_
  refine ev_rV DL_set 5 hM vX6_set rfl qL_26 rfl h0 rfl (hd_of rfl rfl rfl rfl) (fun v w hw => ?_)
  obtain ⟨rfl, hP, hF⟩ := hw
  refine ev_ss DL_set 1 6 (pc' := 9) (lv' := [(0, .ref _), (1, .int _), (2, .int _), (3, .ref _)]) (st' := [.long _, .int 0, .ref _]) rfl ?_
  refine ev_last DL_set 7 rfl ((hF 223 (by decide)).trans ho) (by unfold vp_in; decide) rfl ?_
  refine ev_goto DL_set 8 rfl (tgt := 21) (by decide) ?_
  refine ev_ss DL_set 1 15 (pc' := 22) (lv' := [(0, .ref _), (1, .int _), (2, .int _), (3, .ref _)]) (st' := [.int 0]) rfl ?_
  exact ev_iret DL_set 16 rfl rfl ⟨rfl, w, hP, hF, rfl⟩
set_option maxRecDepth 100000 in
set_option maxHeartbeats 4000000 in
theorem LX_set_1 {E : gE} {ad : Nat → Nat} {ws : va_W} {p0 p1 : Int32} {fs : List Value} {q0 : Nat} (h0 : ws[0]? = some (ad 0, .inr (6, fs))) (hM : C1 E YX6_set 1 6 [.ref (ad 0), .int p0, .int p1] ws (fun _ _ => False) (fun X w => X = xI ∧ w = ws)) : C2 E YL_set 1 6 [.ref (ad 0), .int p0, .int p1, .ref q0] ws (fun v w => v = some (.int 1) ∧ w = ws) := by
  refine c2X vL_set (Nat.le_of_ble_eq_true rfl) (lv0 := [(0, .ref (ad 0)), (1, .int p0), (2, .int p1), (3, .ref q0)]) rfl ?_
  refine ev_ss DL_set 5 0 (pc' := 5) (lv' := [(0, .ref _), (1, .int _), (2, .int _), (3, .ref _)]) (st' := [.int _, .int _, .ref _, .int 0, .ref _]) rfl ?_
  refine ev_callVx DL_set 5 vX6_set rfl qL_26 (Nat.le_of_ble_eq_true rfl) (Nat.le_of_ble_eq_true rfl) h0 rfl rfl (Nat.le_of_ble_eq_true rfl) rfl (k1 := 1) (k2 := 0) (n1 := 6) (n2 := 0) (Nat.le_refl 1) (Nat.le_refl 6) hM (fun X w hx => ?_) (fun v w hf => hf.elim)
  obtain ⟨rfl, rfl⟩ := hx
  refine evx_catch [] ⟨0, 10, 13, 13⟩ [⟨0, 10, 17, 15⟩] rfl (fun z hz => absurd hz List.not_mem_nil) rfl (by decide) nL_13 (List.mem_of_getElem? (i := 0) rfl) (fun q => ?_)
  show Ev E YL_set _ _ 0 0 13 _ _ _
  refine ev_ss DL_set 2 9 (pc' := 16) (lv' := [(4, .ref _), (0, .ref _), (1, .int _), (2, .int _), (3, .ref _)]) (st' := [.int 1]) rfl ?_
  exact ev_iret DL_set 11 rfl rfl ⟨rfl, rfl⟩
set_option maxRecDepth 100000 in
set_option maxHeartbeats 4000000 in
theorem LX_set_2 {E : gE} {ad : Nat → Nat} {ws : va_W} {p0 p1 : Int32} {fs : List Value} {q0 : Nat} (h0 : ws[0]? = some (ad 0, .inr (6, fs))) (hM : C1 E YX6_set 1 6 [.ref (ad 0), .int p0, .int p1] ws (fun _ _ => False) (fun X w => X = xA ∧ w = ws)) : C2 E YL_set 1 6 [.ref (ad 0), .int p0, .int p1, .ref q0] ws (fun v w => v = some (.int 2) ∧ w = ws) := by
  refine c2X vL_set (Nat.le_of_ble_eq_true rfl) (lv0 := [(0, .ref (ad 0)), (1, .int p0), (2, .int p1), (3, .ref q0)]) rfl ?_
  refine ev_ss DL_set 5 0 (pc' := 5) (lv' := [(0, .ref _), (1, .int _), (2, .int _), (3, .ref _)]) (st' := [.int _, .int _, .ref _, .int 0, .ref _]) rfl ?_
  refine ev_callVx DL_set 5 vX6_set rfl qL_26 (Nat.le_of_ble_eq_true rfl) (Nat.le_of_ble_eq_true rfl) h0 rfl rfl (Nat.le_of_ble_eq_true rfl) rfl (k1 := 1) (k2 := 0) (n1 := 6) (n2 := 0) (Nat.le_refl 1) (Nat.le_refl 6) hM (fun X w hx => ?_) (fun v w hf => hf.elim)
  obtain ⟨rfl, rfl⟩ := hx
  have hpass : ∀ z ∈ ([⟨0, 10, 13, 13⟩] : List ExceptionTableEntry), z.catchType ≠ 0 ∧ ∃ nm : String, gw (.classLink (mnm YL_set).cls z.catchType nm) ∧ (xA, nm) ∈ gNc := by
    intro z hz
    simp only [List.mem_cons, List.not_mem_nil, or_false] at hz
    subst hz
    exact ⟨by decide, xI, nL_13, List.mem_of_getElem? (i := 0) rfl⟩
  refine evx_catch [⟨0, 10, 13, 13⟩] ⟨0, 10, 17, 15⟩ [] rfl hpass rfl (by decide) nL_15 (List.mem_of_getElem? (i := 1) rfl) (fun q => ?_)
  show Ev E YL_set _ _ 0 0 17 _ _ _
  refine ev_ss DL_set 2 12 (pc' := 20) (lv' := [(4, .ref _), (0, .ref _), (1, .int _), (2, .int _), (3, .ref _)]) (st' := [.int 2]) rfl ?_
  exact ev_iret DL_set 14 rfl rfl ⟨rfl, rfl⟩
set_option maxRecDepth 100000 in
set_option maxHeartbeats 4000000 in
theorem LO_learn {E : gE} {ad : Nat → Nat} {ws : va_W} {p0 p1 : Int32} {fs : List Value} {o : Nat → Int64} {R : Int32} {P : va_W → Prop} (h0 : ws[0]? = some (ad 0, .inr (6, fs))) (ho : ws[223]? = some (ad 223, laC E 1 o)) (hM : C0 E YX6_learn 0 0 [.ref (ad 0), .int p0, .int p1] ws (fun v w => v = some (.int R) ∧ P w ∧ FO ws w)) : C2 E YL_learn 1 6 [.ref (ad 0), .int p0, .int p1, .ref (ad 223)] ws (fun v w => v = some (.int 0) ∧ ∃ w1, P w1 ∧ FO ws w1 ∧ w = w1.set 223 (ad 223, laC E 1 (vp_updL o 0 R.toInt64))) := by
  refine c2X vL_learn (Nat.le_of_ble_eq_true rfl) (lv0 := [(0, .ref (ad 0)), (1, .int p0), (2, .int p1), (3, .ref (ad 223))]) rfl ?_
  refine ev_ss DL_learn 5 0 (pc' := 5) (lv' := [(0, .ref _), (1, .int _), (2, .int _), (3, .ref _)]) (st' := [.int _, .int _, .ref _, .int 0, .ref _]) rfl ?_
  refine ev_rV DL_learn 5 hM vX6_learn rfl qL_30 rfl h0 rfl (hd_of rfl rfl rfl rfl) (fun v w hw => ?_)
  obtain ⟨rfl, hP, hF⟩ := hw
  refine ev_ss DL_learn 1 6 (pc' := 9) (lv' := [(0, .ref _), (1, .int _), (2, .int _), (3, .ref _)]) (st' := [.long _, .int 0, .ref _]) rfl ?_
  refine ev_last DL_learn 7 rfl ((hF 223 (by decide)).trans ho) (by unfold vp_in; decide) rfl ?_
  refine ev_goto DL_learn 8 rfl (tgt := 25) (by decide) ?_
  refine ev_ss DL_learn 1 18 (pc' := 26) (lv' := [(0, .ref _), (1, .int _), (2, .int _), (3, .ref _)]) (st' := [.int 0]) rfl ?_
  exact ev_iret DL_learn 19 rfl rfl ⟨rfl, w, hP, hF, rfl⟩
set_option maxRecDepth 100000 in
set_option maxHeartbeats 4000000 in
theorem LX_learn_1 {E : gE} {ad : Nat → Nat} {ws : va_W} {p0 p1 : Int32} {fs : List Value} {q0 : Nat} (h0 : ws[0]? = some (ad 0, .inr (6, fs))) (hM : C1 E YX6_learn 1 6 [.ref (ad 0), .int p0, .int p1] ws (fun _ _ => False) (fun X w => X = xI ∧ w = ws)) : C2 E YL_learn 1 6 [.ref (ad 0), .int p0, .int p1, .ref q0] ws (fun v w => v = some (.int 1) ∧ w = ws) := by
  refine c2X vL_learn (Nat.le_of_ble_eq_true rfl) (lv0 := [(0, .ref (ad 0)), (1, .int p0), (2, .int p1), (3, .ref q0)]) rfl ?_
  refine ev_ss DL_learn 5 0 (pc' := 5) (lv' := [(0, .ref _), (1, .int _), (2, .int _), (3, .ref _)]) (st' := [.int _, .int _, .ref _, .int 0, .ref _]) rfl ?_
  refine ev_callVx DL_learn 5 vX6_learn rfl qL_30 (Nat.le_of_ble_eq_true rfl) (Nat.le_of_ble_eq_true rfl) h0 rfl rfl (Nat.le_of_ble_eq_true rfl) rfl (k1 := 1) (k2 := 0) (n1 := 6) (n2 := 0) (Nat.le_refl 1) (Nat.le_refl 6) hM (fun X w hx => ?_) (fun v w hf => hf.elim)
  obtain ⟨rfl, rfl⟩ := hx
  refine evx_catch [] ⟨0, 10, 13, 13⟩ [⟨0, 10, 17, 15⟩, ⟨0, 10, 21, 24⟩] rfl (fun z hz => absurd hz List.not_mem_nil) rfl (by decide) nL_13 (List.mem_of_getElem? (i := 0) rfl) (fun q => ?_)
  show Ev E YL_learn _ _ 0 0 13 _ _ _
  refine ev_ss DL_learn 2 9 (pc' := 16) (lv' := [(4, .ref _), (0, .ref _), (1, .int _), (2, .int _), (3, .ref _)]) (st' := [.int 1]) rfl ?_
  exact ev_iret DL_learn 11 rfl rfl ⟨rfl, rfl⟩
set_option maxRecDepth 100000 in
set_option maxHeartbeats 4000000 in
theorem LX_learn_2 {E : gE} {ad : Nat → Nat} {ws : va_W} {p0 p1 : Int32} {fs : List Value} {q0 : Nat} (h0 : ws[0]? = some (ad 0, .inr (6, fs))) (hM : C1 E YX6_learn 1 6 [.ref (ad 0), .int p0, .int p1] ws (fun _ _ => False) (fun X w => X = xA ∧ w = ws)) : C2 E YL_learn 1 6 [.ref (ad 0), .int p0, .int p1, .ref q0] ws (fun v w => v = some (.int 2) ∧ w = ws) := by
  refine c2X vL_learn (Nat.le_of_ble_eq_true rfl) (lv0 := [(0, .ref (ad 0)), (1, .int p0), (2, .int p1), (3, .ref q0)]) rfl ?_
  refine ev_ss DL_learn 5 0 (pc' := 5) (lv' := [(0, .ref _), (1, .int _), (2, .int _), (3, .ref _)]) (st' := [.int _, .int _, .ref _, .int 0, .ref _]) rfl ?_
  refine ev_callVx DL_learn 5 vX6_learn rfl qL_30 (Nat.le_of_ble_eq_true rfl) (Nat.le_of_ble_eq_true rfl) h0 rfl rfl (Nat.le_of_ble_eq_true rfl) rfl (k1 := 1) (k2 := 0) (n1 := 6) (n2 := 0) (Nat.le_refl 1) (Nat.le_refl 6) hM (fun X w hx => ?_) (fun v w hf => hf.elim)
  obtain ⟨rfl, rfl⟩ := hx
  have hpass : ∀ z ∈ ([⟨0, 10, 13, 13⟩] : List ExceptionTableEntry), z.catchType ≠ 0 ∧ ∃ nm : String, gw (.classLink (mnm YL_learn).cls z.catchType nm) ∧ (xA, nm) ∈ gNc := by
    intro z hz
    simp only [List.mem_cons, List.not_mem_nil, or_false] at hz
    subst hz
    exact ⟨by decide, xI, nL_13, List.mem_of_getElem? (i := 0) rfl⟩
  refine evx_catch [⟨0, 10, 13, 13⟩] ⟨0, 10, 17, 15⟩ [⟨0, 10, 21, 24⟩] rfl hpass rfl (by decide) nL_15 (List.mem_of_getElem? (i := 1) rfl) (fun q => ?_)
  show Ev E YL_learn _ _ 0 0 17 _ _ _
  refine ev_ss DL_learn 2 12 (pc' := 20) (lv' := [(4, .ref _), (0, .ref _), (1, .int _), (2, .int _), (3, .ref _)]) (st' := [.int 2]) rfl ?_
  exact ev_iret DL_learn 14 rfl rfl ⟨rfl, rfl⟩
set_option maxRecDepth 100000 in
set_option maxHeartbeats 4000000 in
theorem LX_learn_3 {E : gE} {ad : Nat → Nat} {ws : va_W} {p0 p1 : Int32} {fs : List Value} {q0 : Nat} (h0 : ws[0]? = some (ad 0, .inr (6, fs))) (hM : C1 E YX6_learn 1 6 [.ref (ad 0), .int p0, .int p1] ws (fun _ _ => False) (fun X w => X = xS ∧ w = ws)) : C2 E YL_learn 1 6 [.ref (ad 0), .int p0, .int p1, .ref q0] ws (fun v w => v = some (.int 3) ∧ w = ws) := by
  refine c2X vL_learn (Nat.le_of_ble_eq_true rfl) (lv0 := [(0, .ref (ad 0)), (1, .int p0), (2, .int p1), (3, .ref q0)]) rfl ?_
  refine ev_ss DL_learn 5 0 (pc' := 5) (lv' := [(0, .ref _), (1, .int _), (2, .int _), (3, .ref _)]) (st' := [.int _, .int _, .ref _, .int 0, .ref _]) rfl ?_
  refine ev_callVx DL_learn 5 vX6_learn rfl qL_30 (Nat.le_of_ble_eq_true rfl) (Nat.le_of_ble_eq_true rfl) h0 rfl rfl (Nat.le_of_ble_eq_true rfl) rfl (k1 := 1) (k2 := 0) (n1 := 6) (n2 := 0) (Nat.le_refl 1) (Nat.le_refl 6) hM (fun X w hx => ?_) (fun v w hf => hf.elim)
  obtain ⟨rfl, rfl⟩ := hx
  have hpass : ∀ z ∈ ([⟨0, 10, 13, 13⟩, ⟨0, 10, 17, 15⟩] : List ExceptionTableEntry), z.catchType ≠ 0 ∧ ∃ nm : String, gw (.classLink (mnm YL_learn).cls z.catchType nm) ∧ (xS, nm) ∈ gNc := by
    intro z hz
    simp only [List.mem_cons, List.not_mem_nil, or_false] at hz
    rcases hz with rfl | rfl
    · exact ⟨by decide, xI, nL_13, List.mem_of_getElem? (i := 1) rfl⟩
    · exact ⟨by decide, xA, nL_15, List.mem_of_getElem? (i := 2) rfl⟩
  refine evx_catch [⟨0, 10, 13, 13⟩, ⟨0, 10, 17, 15⟩] ⟨0, 10, 21, 24⟩ [] rfl hpass rfl (by decide) nL_24 (List.mem_of_getElem? (i := 2) rfl) (fun q => ?_)
  show Ev E YL_learn _ _ 0 0 21 _ _ _
  refine ev_ss DL_learn 2 15 (pc' := 24) (lv' := [(4, .ref _), (0, .ref _), (1, .int _), (2, .int _), (3, .ref _)]) (st' := [.int 3]) rfl ?_
  exact ev_iret DL_learn 17 rfl rfl ⟨rfl, rfl⟩
set_option maxRecDepth 100000 in
set_option maxHeartbeats 4000000 in
theorem LO_send {E : gE} {ad : Nat → Nat} {ws : va_W} {p0 p1 : Int32} {fs : List Value} {o : Nat → Int64} {R : Int32} {P : va_W → Prop} (h0 : ws[0]? = some (ad 0, .inr (6, fs))) (ho : ws[223]? = some (ad 223, laC E 1 o)) (hM : C0 E YX6_send 0 0 [.ref (ad 0), .int p0, .int p1] ws (fun v w => v = some (.int R) ∧ P w ∧ FO ws w)) : C2 E YL_send 1 6 [.ref (ad 0), .int p0, .int p1, .ref (ad 223)] ws (fun v w => v = some (.int 0) ∧ ∃ w1, P w1 ∧ FO ws w1 ∧ w = w1.set 223 (ad 223, laC E 1 (vp_updL o 0 R.toInt64))) := by
  refine c2X vL_send (Nat.le_of_ble_eq_true rfl) (lv0 := [(0, .ref (ad 0)), (1, .int p0), (2, .int p1), (3, .ref (ad 223))]) rfl ?_
  refine ev_ss DL_send 5 0 (pc' := 5) (lv' := [(0, .ref _), (1, .int _), (2, .int _), (3, .ref _)]) (st' := [.int _, .int _, .ref _, .int 0, .ref _]) rfl ?_
  refine ev_rV DL_send 5 hM vX6_send rfl qL_33 rfl h0 rfl (hd_of rfl rfl rfl rfl) (fun v w hw => ?_)
  obtain ⟨rfl, hP, hF⟩ := hw
  refine ev_ss DL_send 1 6 (pc' := 9) (lv' := [(0, .ref _), (1, .int _), (2, .int _), (3, .ref _)]) (st' := [.long _, .int 0, .ref _]) rfl ?_
  refine ev_last DL_send 7 rfl ((hF 223 (by decide)).trans ho) (by unfold vp_in; decide) rfl ?_
  refine ev_goto DL_send 8 rfl (tgt := 25) (by decide) ?_
  refine ev_ss DL_send 1 18 (pc' := 26) (lv' := [(0, .ref _), (1, .int _), (2, .int _), (3, .ref _)]) (st' := [.int 0]) rfl ?_
  exact ev_iret DL_send 19 rfl rfl ⟨rfl, w, hP, hF, rfl⟩
set_option maxRecDepth 100000 in
set_option maxHeartbeats 4000000 in
theorem LX_send_1 {E : gE} {ad : Nat → Nat} {ws : va_W} {p0 p1 : Int32} {fs : List Value} {q0 : Nat} (h0 : ws[0]? = some (ad 0, .inr (6, fs))) (hM : C1 E YX6_send 1 6 [.ref (ad 0), .int p0, .int p1] ws (fun _ _ => False) (fun X w => X = xI ∧ w = ws)) : C2 E YL_send 1 6 [.ref (ad 0), .int p0, .int p1, .ref q0] ws (fun v w => v = some (.int 1) ∧ w = ws) := by
  refine c2X vL_send (Nat.le_of_ble_eq_true rfl) (lv0 := [(0, .ref (ad 0)), (1, .int p0), (2, .int p1), (3, .ref q0)]) rfl ?_
  refine ev_ss DL_send 5 0 (pc' := 5) (lv' := [(0, .ref _), (1, .int _), (2, .int _), (3, .ref _)]) (st' := [.int _, .int _, .ref _, .int 0, .ref _]) rfl ?_
  refine ev_callVx DL_send 5 vX6_send rfl qL_33 (Nat.le_of_ble_eq_true rfl) (Nat.le_of_ble_eq_true rfl) h0 rfl rfl (Nat.le_of_ble_eq_true rfl) rfl (k1 := 1) (k2 := 0) (n1 := 6) (n2 := 0) (Nat.le_refl 1) (Nat.le_refl 6) hM (fun X w hx => ?_) (fun v w hf => hf.elim)
  obtain ⟨rfl, rfl⟩ := hx
  refine evx_catch [] ⟨0, 10, 13, 13⟩ [⟨0, 10, 17, 15⟩, ⟨0, 10, 21, 24⟩] rfl (fun z hz => absurd hz List.not_mem_nil) rfl (by decide) nL_13 (List.mem_of_getElem? (i := 0) rfl) (fun q => ?_)
  show Ev E YL_send _ _ 0 0 13 _ _ _
  refine ev_ss DL_send 2 9 (pc' := 16) (lv' := [(4, .ref _), (0, .ref _), (1, .int _), (2, .int _), (3, .ref _)]) (st' := [.int 1]) rfl ?_
  exact ev_iret DL_send 11 rfl rfl ⟨rfl, rfl⟩
set_option maxRecDepth 100000 in
set_option maxHeartbeats 4000000 in
theorem LX_send_2 {E : gE} {ad : Nat → Nat} {ws : va_W} {p0 p1 : Int32} {fs : List Value} {q0 : Nat} (h0 : ws[0]? = some (ad 0, .inr (6, fs))) (hM : C1 E YX6_send 1 6 [.ref (ad 0), .int p0, .int p1] ws (fun _ _ => False) (fun X w => X = xA ∧ w = ws)) : C2 E YL_send 1 6 [.ref (ad 0), .int p0, .int p1, .ref q0] ws (fun v w => v = some (.int 2) ∧ w = ws) := by
  refine c2X vL_send (Nat.le_of_ble_eq_true rfl) (lv0 := [(0, .ref (ad 0)), (1, .int p0), (2, .int p1), (3, .ref q0)]) rfl ?_
  refine ev_ss DL_send 5 0 (pc' := 5) (lv' := [(0, .ref _), (1, .int _), (2, .int _), (3, .ref _)]) (st' := [.int _, .int _, .ref _, .int 0, .ref _]) rfl ?_
  refine ev_callVx DL_send 5 vX6_send rfl qL_33 (Nat.le_of_ble_eq_true rfl) (Nat.le_of_ble_eq_true rfl) h0 rfl rfl (Nat.le_of_ble_eq_true rfl) rfl (k1 := 1) (k2 := 0) (n1 := 6) (n2 := 0) (Nat.le_refl 1) (Nat.le_refl 6) hM (fun X w hx => ?_) (fun v w hf => hf.elim)
  obtain ⟨rfl, rfl⟩ := hx
  have hpass : ∀ z ∈ ([⟨0, 10, 13, 13⟩] : List ExceptionTableEntry), z.catchType ≠ 0 ∧ ∃ nm : String, gw (.classLink (mnm YL_send).cls z.catchType nm) ∧ (xA, nm) ∈ gNc := by
    intro z hz
    simp only [List.mem_cons, List.not_mem_nil, or_false] at hz
    subst hz
    exact ⟨by decide, xI, nL_13, List.mem_of_getElem? (i := 0) rfl⟩
  refine evx_catch [⟨0, 10, 13, 13⟩] ⟨0, 10, 17, 15⟩ [⟨0, 10, 21, 24⟩] rfl hpass rfl (by decide) nL_15 (List.mem_of_getElem? (i := 1) rfl) (fun q => ?_)
  show Ev E YL_send _ _ 0 0 17 _ _ _
  refine ev_ss DL_send 2 12 (pc' := 20) (lv' := [(4, .ref _), (0, .ref _), (1, .int _), (2, .int _), (3, .ref _)]) (st' := [.int 2]) rfl ?_
  exact ev_iret DL_send 14 rfl rfl ⟨rfl, rfl⟩
set_option maxRecDepth 100000 in
set_option maxHeartbeats 4000000 in
theorem LX_send_3 {E : gE} {ad : Nat → Nat} {ws : va_W} {p0 p1 : Int32} {fs : List Value} {q0 : Nat} (h0 : ws[0]? = some (ad 0, .inr (6, fs))) (hM : C1 E YX6_send 1 6 [.ref (ad 0), .int p0, .int p1] ws (fun _ _ => False) (fun X w => X = xS ∧ w = ws)) : C2 E YL_send 1 6 [.ref (ad 0), .int p0, .int p1, .ref q0] ws (fun v w => v = some (.int 3) ∧ w = ws) := by
  refine c2X vL_send (Nat.le_of_ble_eq_true rfl) (lv0 := [(0, .ref (ad 0)), (1, .int p0), (2, .int p1), (3, .ref q0)]) rfl ?_
  refine ev_ss DL_send 5 0 (pc' := 5) (lv' := [(0, .ref _), (1, .int _), (2, .int _), (3, .ref _)]) (st' := [.int _, .int _, .ref _, .int 0, .ref _]) rfl ?_
  refine ev_callVx DL_send 5 vX6_send rfl qL_33 (Nat.le_of_ble_eq_true rfl) (Nat.le_of_ble_eq_true rfl) h0 rfl rfl (Nat.le_of_ble_eq_true rfl) rfl (k1 := 1) (k2 := 0) (n1 := 6) (n2 := 0) (Nat.le_refl 1) (Nat.le_refl 6) hM (fun X w hx => ?_) (fun v w hf => hf.elim)
  obtain ⟨rfl, rfl⟩ := hx
  have hpass : ∀ z ∈ ([⟨0, 10, 13, 13⟩, ⟨0, 10, 17, 15⟩] : List ExceptionTableEntry), z.catchType ≠ 0 ∧ ∃ nm : String, gw (.classLink (mnm YL_send).cls z.catchType nm) ∧ (xS, nm) ∈ gNc := by
    intro z hz
    simp only [List.mem_cons, List.not_mem_nil, or_false] at hz
    rcases hz with rfl | rfl
    · exact ⟨by decide, xI, nL_13, List.mem_of_getElem? (i := 1) rfl⟩
    · exact ⟨by decide, xA, nL_15, List.mem_of_getElem? (i := 2) rfl⟩
  refine evx_catch [⟨0, 10, 13, 13⟩, ⟨0, 10, 17, 15⟩] ⟨0, 10, 21, 24⟩ [] rfl hpass rfl (by decide) nL_24 (List.mem_of_getElem? (i := 2) rfl) (fun q => ?_)
  show Ev E YL_send _ _ 0 0 21 _ _ _
  refine ev_ss DL_send 2 15 (pc' := 24) (lv' := [(4, .ref _), (0, .ref _), (1, .int _), (2, .int _), (3, .ref _)]) (st' := [.int 3]) rfl ?_
  exact ev_iret DL_send 17 rfl rfl ⟨rfl, rfl⟩
set_option maxRecDepth 100000 in
set_option maxHeartbeats 4000000 in
theorem LO_forget {E : gE} {ad : Nat → Nat} {ws : va_W} {p0 : Int32} {fs : List Value} {o : Nat → Int64} {R : Int32} {P : va_W → Prop} (h0 : ws[0]? = some (ad 0, .inr (6, fs))) (ho : ws[223]? = some (ad 223, laC E 1 o)) (hM : C0 E YX6_forget 0 0 [.ref (ad 0), .int p0] ws (fun v w => v = some (.int R) ∧ P w ∧ FO ws w)) : C2 E YL_forget 1 6 [.ref (ad 0), .int p0, .ref (ad 223)] ws (fun v w => v = some (.int 0) ∧ ∃ w1, P w1 ∧ FO ws w1 ∧ w = w1.set 223 (ad 223, laC E 1 (vp_updL o 0 R.toInt64))) := by
  refine c2X vL_forget (Nat.le_of_ble_eq_true rfl) (lv0 := [(0, .ref (ad 0)), (1, .int p0), (2, .ref (ad 223))]) rfl ?_
  refine ev_ss DL_forget 4 0 (pc' := 4) (lv' := [(0, .ref _), (1, .int _), (2, .ref _)]) (st' := [.int _, .ref _, .int 0, .ref _]) rfl ?_
  refine ev_rV DL_forget 4 hM vX6_forget rfl qL_36 rfl h0 rfl (hd_of rfl rfl rfl rfl) (fun v w hw => ?_)
  obtain ⟨rfl, hP, hF⟩ := hw
  refine ev_ss DL_forget 1 5 (pc' := 8) (lv' := [(0, .ref _), (1, .int _), (2, .ref _)]) (st' := [.long _, .int 0, .ref _]) rfl ?_
  refine ev_last DL_forget 6 rfl ((hF 223 (by decide)).trans ho) (by unfold vp_in; decide) rfl ?_
  refine ev_goto DL_forget 7 rfl (tgt := 15) (by decide) ?_
  refine ev_ss DL_forget 1 11 (pc' := 16) (lv' := [(0, .ref _), (1, .int _), (2, .ref _)]) (st' := [.int 0]) rfl ?_
  exact ev_iret DL_forget 12 rfl rfl ⟨rfl, w, hP, hF, rfl⟩
set_option maxRecDepth 100000 in
set_option maxHeartbeats 4000000 in
theorem LX_forget_1 {E : gE} {ad : Nat → Nat} {ws : va_W} {p0 : Int32} {fs : List Value} {q0 : Nat} (h0 : ws[0]? = some (ad 0, .inr (6, fs))) (hM : C1 E YX6_forget 1 6 [.ref (ad 0), .int p0] ws (fun _ _ => False) (fun X w => X = xI ∧ w = ws)) : C2 E YL_forget 1 6 [.ref (ad 0), .int p0, .ref q0] ws (fun v w => v = some (.int 1) ∧ w = ws) := by
  refine c2X vL_forget (Nat.le_of_ble_eq_true rfl) (lv0 := [(0, .ref (ad 0)), (1, .int p0), (2, .ref q0)]) rfl ?_
  refine ev_ss DL_forget 4 0 (pc' := 4) (lv' := [(0, .ref _), (1, .int _), (2, .ref _)]) (st' := [.int _, .ref _, .int 0, .ref _]) rfl ?_
  refine ev_callVx DL_forget 4 vX6_forget rfl qL_36 (Nat.le_of_ble_eq_true rfl) (Nat.le_of_ble_eq_true rfl) h0 rfl rfl (Nat.le_of_ble_eq_true rfl) rfl (k1 := 1) (k2 := 0) (n1 := 6) (n2 := 0) (Nat.le_refl 1) (Nat.le_refl 6) hM (fun X w hx => ?_) (fun v w hf => hf.elim)
  obtain ⟨rfl, rfl⟩ := hx
  refine evx_catch [] ⟨0, 9, 12, 13⟩ [] rfl (fun z hz => absurd hz List.not_mem_nil) rfl (by decide) nL_13 (List.mem_of_getElem? (i := 0) rfl) (fun q => ?_)
  show Ev E YL_forget _ _ 0 0 12 _ _ _
  refine ev_ss DL_forget 2 8 (pc' := 14) (lv' := [(3, .ref _), (0, .ref _), (1, .int _), (2, .ref _)]) (st' := [.int 1]) rfl ?_
  exact ev_iret DL_forget 10 rfl rfl ⟨rfl, rfl⟩
set_option maxRecDepth 100000 in
set_option maxHeartbeats 4000000 in
theorem LO_append {E : gE} {ad : Nat → Nat} {ws : va_W} {p0 : Int32} {fs : List Value} {o : Nat → Int64} {R : Int32} {P : va_W → Prop} (h0 : ws[0]? = some (ad 0, .inr (6, fs))) (ho : ws[223]? = some (ad 223, laC E 1 o)) (hM : C0 E YX6_append 0 0 [.ref (ad 0), .int p0] ws (fun v w => v = some (.int R) ∧ P w ∧ FO ws w)) : C2 E YL_append 1 6 [.ref (ad 0), .int p0, .ref (ad 223)] ws (fun v w => v = some (.int 0) ∧ ∃ w1, P w1 ∧ FO ws w1 ∧ w = w1.set 223 (ad 223, laC E 1 (vp_updL o 0 R.toInt64))) := by
  refine c2X vL_append (Nat.le_of_ble_eq_true rfl) (lv0 := [(0, .ref (ad 0)), (1, .int p0), (2, .ref (ad 223))]) rfl ?_
  refine ev_ss DL_append 4 0 (pc' := 4) (lv' := [(0, .ref _), (1, .int _), (2, .ref _)]) (st' := [.int _, .ref _, .int 0, .ref _]) rfl ?_
  refine ev_rV DL_append 4 hM vX6_append rfl qL_40 rfl h0 rfl (hd_of rfl rfl rfl rfl) (fun v w hw => ?_)
  obtain ⟨rfl, hP, hF⟩ := hw
  refine ev_ss DL_append 1 5 (pc' := 8) (lv' := [(0, .ref _), (1, .int _), (2, .ref _)]) (st' := [.long _, .int 0, .ref _]) rfl ?_
  refine ev_last DL_append 6 rfl ((hF 223 (by decide)).trans ho) (by unfold vp_in; decide) rfl ?_
  refine ev_goto DL_append 7 rfl (tgt := 18) (by decide) ?_
  refine ev_ss DL_append 1 14 (pc' := 19) (lv' := [(0, .ref _), (1, .int _), (2, .ref _)]) (st' := [.int 0]) rfl ?_
  exact ev_iret DL_append 15 rfl rfl ⟨rfl, w, hP, hF, rfl⟩
set_option maxRecDepth 100000 in
set_option maxHeartbeats 4000000 in
theorem LX_append_1 {E : gE} {ad : Nat → Nat} {ws : va_W} {p0 : Int32} {fs : List Value} {q0 : Nat} (h0 : ws[0]? = some (ad 0, .inr (6, fs))) (hM : C1 E YX6_append 1 6 [.ref (ad 0), .int p0] ws (fun _ _ => False) (fun X w => X = xA ∧ w = ws)) : C2 E YL_append 1 6 [.ref (ad 0), .int p0, .ref q0] ws (fun v w => v = some (.int 1) ∧ w = ws) := by
  refine c2X vL_append (Nat.le_of_ble_eq_true rfl) (lv0 := [(0, .ref (ad 0)), (1, .int p0), (2, .ref q0)]) rfl ?_
  refine ev_ss DL_append 4 0 (pc' := 4) (lv' := [(0, .ref _), (1, .int _), (2, .ref _)]) (st' := [.int _, .ref _, .int 0, .ref _]) rfl ?_
  refine ev_callVx DL_append 4 vX6_append rfl qL_40 (Nat.le_of_ble_eq_true rfl) (Nat.le_of_ble_eq_true rfl) h0 rfl rfl (Nat.le_of_ble_eq_true rfl) rfl (k1 := 1) (k2 := 0) (n1 := 6) (n2 := 0) (Nat.le_refl 1) (Nat.le_refl 6) hM (fun X w hx => ?_) (fun v w hf => hf.elim)
  obtain ⟨rfl, rfl⟩ := hx
  refine evx_catch [] ⟨0, 9, 12, 15⟩ [⟨0, 9, 15, 24⟩] rfl (fun z hz => absurd hz List.not_mem_nil) rfl (by decide) nL_15 (List.mem_of_getElem? (i := 1) rfl) (fun q => ?_)
  show Ev E YL_append _ _ 0 0 12 _ _ _
  refine ev_ss DL_append 2 8 (pc' := 14) (lv' := [(3, .ref _), (0, .ref _), (1, .int _), (2, .ref _)]) (st' := [.int 1]) rfl ?_
  exact ev_iret DL_append 10 rfl rfl ⟨rfl, rfl⟩
set_option maxRecDepth 100000 in
set_option maxHeartbeats 4000000 in
theorem LX_append_2 {E : gE} {ad : Nat → Nat} {ws : va_W} {p0 : Int32} {fs : List Value} {q0 : Nat} (h0 : ws[0]? = some (ad 0, .inr (6, fs))) (hM : C1 E YX6_append 1 6 [.ref (ad 0), .int p0] ws (fun _ _ => False) (fun X w => X = xS ∧ w = ws)) : C2 E YL_append 1 6 [.ref (ad 0), .int p0, .ref q0] ws (fun v w => v = some (.int 2) ∧ w = ws) := by
  refine c2X vL_append (Nat.le_of_ble_eq_true rfl) (lv0 := [(0, .ref (ad 0)), (1, .int p0), (2, .ref q0)]) rfl ?_
  refine ev_ss DL_append 4 0 (pc' := 4) (lv' := [(0, .ref _), (1, .int _), (2, .ref _)]) (st' := [.int _, .ref _, .int 0, .ref _]) rfl ?_
  refine ev_callVx DL_append 4 vX6_append rfl qL_40 (Nat.le_of_ble_eq_true rfl) (Nat.le_of_ble_eq_true rfl) h0 rfl rfl (Nat.le_of_ble_eq_true rfl) rfl (k1 := 1) (k2 := 0) (n1 := 6) (n2 := 0) (Nat.le_refl 1) (Nat.le_refl 6) hM (fun X w hx => ?_) (fun v w hf => hf.elim)
  obtain ⟨rfl, rfl⟩ := hx
  have hpass : ∀ z ∈ ([⟨0, 9, 12, 15⟩] : List ExceptionTableEntry), z.catchType ≠ 0 ∧ ∃ nm : String, gw (.classLink (mnm YL_append).cls z.catchType nm) ∧ (xS, nm) ∈ gNc := by
    intro z hz
    simp only [List.mem_cons, List.not_mem_nil, or_false] at hz
    subst hz
    exact ⟨by decide, xA, nL_15, List.mem_of_getElem? (i := 2) rfl⟩
  refine evx_catch [⟨0, 9, 12, 15⟩] ⟨0, 9, 15, 24⟩ [] rfl hpass rfl (by decide) nL_24 (List.mem_of_getElem? (i := 2) rfl) (fun q => ?_)
  show Ev E YL_append _ _ 0 0 15 _ _ _
  refine ev_ss DL_append 2 11 (pc' := 17) (lv' := [(3, .ref _), (0, .ref _), (1, .int _), (2, .ref _)]) (st' := [.int 2]) rfl ?_
  exact ev_iret DL_append 13 rfl rfl ⟨rfl, rfl⟩
set_option maxRecDepth 100000 in
set_option maxHeartbeats 4000000 in
theorem LO_say {E : gE} {ad : Nat → Nat} {ws : va_W} {fs : List Value} {o : Nat → Int64} {R : Int32} {P : va_W → Prop} (h0 : ws[0]? = some (ad 0, .inr (6, fs))) (ho : ws[223]? = some (ad 223, laC E 1 o)) (hM : C0 E YX6_say 0 0 [.ref (ad 0)] ws (fun v w => v = some (.int R) ∧ P w ∧ FO ws w)) : C2 E YL_say 1 6 [.ref (ad 0), .ref (ad 223)] ws (fun v w => v = some (.int 0) ∧ ∃ w1, P w1 ∧ FO ws w1 ∧ w = w1.set 223 (ad 223, laC E 1 (vp_updL o 0 R.toInt64))) := by
  refine c2X vL_say (Nat.le_of_ble_eq_true rfl) (lv0 := [(0, .ref (ad 0)), (1, .ref (ad 223))]) rfl ?_
  refine ev_ss DL_say 3 0 (pc' := 3) (lv' := [(0, .ref _), (1, .ref _)]) (st' := [.ref _, .int 0, .ref _]) rfl ?_
  refine ev_rV DL_say 3 hM vX6_say rfl qL_43 rfl h0 rfl (hd_of rfl rfl rfl rfl) (fun v w hw => ?_)
  obtain ⟨rfl, hP, hF⟩ := hw
  refine ev_ss DL_say 1 4 (pc' := 7) (lv' := [(0, .ref _), (1, .ref _)]) (st' := [.long _, .int 0, .ref _]) rfl ?_
  refine ev_last DL_say 5 rfl ((hF 223 (by decide)).trans ho) (by unfold vp_in; decide) rfl ?_
  refine ev_goto DL_say 6 rfl (tgt := 17) (by decide) ?_
  refine ev_ss DL_say 1 13 (pc' := 18) (lv' := [(0, .ref _), (1, .ref _)]) (st' := [.int 0]) rfl ?_
  exact ev_iret DL_say 14 rfl rfl ⟨rfl, w, hP, hF, rfl⟩
set_option maxRecDepth 100000 in
set_option maxHeartbeats 4000000 in
theorem LX_say_1 {E : gE} {ad : Nat → Nat} {ws : va_W} {fs : List Value} {q0 : Nat} (h0 : ws[0]? = some (ad 0, .inr (6, fs))) (hM : C1 E YX6_say 1 6 [.ref (ad 0)] ws (fun _ _ => False) (fun X w => X = xA ∧ w = ws)) : C2 E YL_say 1 6 [.ref (ad 0), .ref q0] ws (fun v w => v = some (.int 1) ∧ w = ws) := by
  refine c2X vL_say (Nat.le_of_ble_eq_true rfl) (lv0 := [(0, .ref (ad 0)), (1, .ref q0)]) rfl ?_
  refine ev_ss DL_say 3 0 (pc' := 3) (lv' := [(0, .ref _), (1, .ref _)]) (st' := [.ref _, .int 0, .ref _]) rfl ?_
  refine ev_callVx DL_say 3 vX6_say rfl qL_43 (Nat.le_of_ble_eq_true rfl) (Nat.le_of_ble_eq_true rfl) h0 rfl rfl (Nat.le_of_ble_eq_true rfl) rfl (k1 := 1) (k2 := 0) (n1 := 6) (n2 := 0) (Nat.le_refl 1) (Nat.le_refl 6) hM (fun X w hx => ?_) (fun v w hf => hf.elim)
  obtain ⟨rfl, rfl⟩ := hx
  refine evx_catch [] ⟨0, 8, 11, 15⟩ [⟨0, 8, 14, 24⟩] rfl (fun z hz => absurd hz List.not_mem_nil) rfl (by decide) nL_15 (List.mem_of_getElem? (i := 1) rfl) (fun q => ?_)
  show Ev E YL_say _ _ 0 0 11 _ _ _
  refine ev_ss DL_say 2 7 (pc' := 13) (lv' := [(2, .ref _), (0, .ref _), (1, .ref _)]) (st' := [.int 1]) rfl ?_
  exact ev_iret DL_say 9 rfl rfl ⟨rfl, rfl⟩
set_option maxRecDepth 100000 in
set_option maxHeartbeats 4000000 in
theorem LX_say_2 {E : gE} {ad : Nat → Nat} {ws : va_W} {fs : List Value} {q0 : Nat} (h0 : ws[0]? = some (ad 0, .inr (6, fs))) (hM : C1 E YX6_say 1 6 [.ref (ad 0)] ws (fun _ _ => False) (fun X w => X = xS ∧ w = ws)) : C2 E YL_say 1 6 [.ref (ad 0), .ref q0] ws (fun v w => v = some (.int 2) ∧ w = ws) := by
  refine c2X vL_say (Nat.le_of_ble_eq_true rfl) (lv0 := [(0, .ref (ad 0)), (1, .ref q0)]) rfl ?_
  refine ev_ss DL_say 3 0 (pc' := 3) (lv' := [(0, .ref _), (1, .ref _)]) (st' := [.ref _, .int 0, .ref _]) rfl ?_
  refine ev_callVx DL_say 3 vX6_say rfl qL_43 (Nat.le_of_ble_eq_true rfl) (Nat.le_of_ble_eq_true rfl) h0 rfl rfl (Nat.le_of_ble_eq_true rfl) rfl (k1 := 1) (k2 := 0) (n1 := 6) (n2 := 0) (Nat.le_refl 1) (Nat.le_refl 6) hM (fun X w hx => ?_) (fun v w hf => hf.elim)
  obtain ⟨rfl, rfl⟩ := hx
  have hpass : ∀ z ∈ ([⟨0, 8, 11, 15⟩] : List ExceptionTableEntry), z.catchType ≠ 0 ∧ ∃ nm : String, gw (.classLink (mnm YL_say).cls z.catchType nm) ∧ (xS, nm) ∈ gNc := by
    intro z hz
    simp only [List.mem_cons, List.not_mem_nil, or_false] at hz
    subst hz
    exact ⟨by decide, xA, nL_15, List.mem_of_getElem? (i := 2) rfl⟩
  refine evx_catch [⟨0, 8, 11, 15⟩] ⟨0, 8, 14, 24⟩ [] rfl hpass rfl (by decide) nL_24 (List.mem_of_getElem? (i := 2) rfl) (fun q => ?_)
  show Ev E YL_say _ _ 0 0 14 _ _ _
  refine ev_ss DL_say 2 10 (pc' := 16) (lv' := [(2, .ref _), (0, .ref _), (1, .ref _)]) (st' := [.int 2]) rfl ?_
  exact ev_iret DL_say 12 rfl rfl ⟨rfl, rfl⟩
set_option maxRecDepth 100000 in
set_option maxHeartbeats 4000000 in
theorem LO_undo {E : gE} {ad : Nat → Nat} {ws : va_W} {fs : List Value} {o : Nat → Int64} {R : Int32} {P : va_W → Prop} (h0 : ws[0]? = some (ad 0, .inr (6, fs))) (ho : ws[223]? = some (ad 223, laC E 1 o)) (hM : C0 E YX6_undo 0 0 [.ref (ad 0)] ws (fun v w => v = some (.int R) ∧ P w ∧ FO ws w)) : C2 E YL_undo 1 6 [.ref (ad 0), .ref (ad 223)] ws (fun v w => v = some (.int 0) ∧ ∃ w1, P w1 ∧ FO ws w1 ∧ w = w1.set 223 (ad 223, laC E 1 (vp_updL o 0 R.toInt64))) := by
  refine c2X vL_undo (Nat.le_of_ble_eq_true rfl) (lv0 := [(0, .ref (ad 0)), (1, .ref (ad 223))]) rfl ?_
  refine ev_ss DL_undo 3 0 (pc' := 3) (lv' := [(0, .ref _), (1, .ref _)]) (st' := [.ref _, .int 0, .ref _]) rfl ?_
  refine ev_rV DL_undo 3 hM vX6_undo rfl qL_47 rfl h0 rfl (hd_of rfl rfl rfl rfl) (fun v w hw => ?_)
  obtain ⟨rfl, hP, hF⟩ := hw
  refine ev_ss DL_undo 1 4 (pc' := 7) (lv' := [(0, .ref _), (1, .ref _)]) (st' := [.long _, .int 0, .ref _]) rfl ?_
  refine ev_last DL_undo 5 rfl ((hF 223 (by decide)).trans ho) (by unfold vp_in; decide) rfl ?_
  refine ev_goto DL_undo 6 rfl (tgt := 14) (by decide) ?_
  refine ev_ss DL_undo 1 10 (pc' := 15) (lv' := [(0, .ref _), (1, .ref _)]) (st' := [.int 0]) rfl ?_
  exact ev_iret DL_undo 11 rfl rfl ⟨rfl, w, hP, hF, rfl⟩
set_option maxRecDepth 100000 in
set_option maxHeartbeats 4000000 in
theorem LX_undo_1 {E : gE} {ad : Nat → Nat} {ws : va_W} {fs : List Value} {q0 : Nat} (h0 : ws[0]? = some (ad 0, .inr (6, fs))) (hM : C1 E YX6_undo 1 6 [.ref (ad 0)] ws (fun _ _ => False) (fun X w => X = xS ∧ w = ws)) : C2 E YL_undo 1 6 [.ref (ad 0), .ref q0] ws (fun v w => v = some (.int 1) ∧ w = ws) := by
  refine c2X vL_undo (Nat.le_of_ble_eq_true rfl) (lv0 := [(0, .ref (ad 0)), (1, .ref q0)]) rfl ?_
  refine ev_ss DL_undo 3 0 (pc' := 3) (lv' := [(0, .ref _), (1, .ref _)]) (st' := [.ref _, .int 0, .ref _]) rfl ?_
  refine ev_callVx DL_undo 3 vX6_undo rfl qL_47 (Nat.le_of_ble_eq_true rfl) (Nat.le_of_ble_eq_true rfl) h0 rfl rfl (Nat.le_of_ble_eq_true rfl) rfl (k1 := 1) (k2 := 0) (n1 := 6) (n2 := 0) (Nat.le_refl 1) (Nat.le_refl 6) hM (fun X w hx => ?_) (fun v w hf => hf.elim)
  obtain ⟨rfl, rfl⟩ := hx
  refine evx_catch [] ⟨0, 8, 11, 24⟩ [] rfl (fun z hz => absurd hz List.not_mem_nil) rfl (by decide) nL_24 (List.mem_of_getElem? (i := 2) rfl) (fun q => ?_)
  show Ev E YL_undo _ _ 0 0 11 _ _ _
  refine ev_ss DL_undo 2 7 (pc' := 13) (lv' := [(2, .ref _), (0, .ref _), (1, .ref _)]) (st' := [.int 1]) rfl ?_
  exact ev_iret DL_undo 9 rfl rfl ⟨rfl, rfl⟩
set_option maxRecDepth 100000 in
set_option maxHeartbeats 4000000 in
theorem LO_street {E : gE} {ad : Nat → Nat} {ws : va_W} {p0 p1 p2 : Int32} {fs : List Value} {o : Nat → Int64} {R : Int32} {P : va_W → Prop} (h0 : ws[0]? = some (ad 0, .inr (6, fs))) (ho : ws[223]? = some (ad 223, laC E 1 o)) (hM : C0 E YX6_street 0 0 [.ref (ad 0), .int p0, .int p1, .int p2] ws (fun v w => v = some (.int R) ∧ P w ∧ FO ws w)) : C2 E YL_street 1 6 [.ref (ad 0), .int p0, .int p1, .int p2, .ref (ad 223)] ws (fun v w => v = some (.int 0) ∧ ∃ w1, P w1 ∧ FO ws w1 ∧ w = w1.set 223 (ad 223, laC E 1 (vp_updL o 0 R.toInt64))) := by
  refine c2X vL_street (Nat.le_of_ble_eq_true rfl) (lv0 := [(0, .ref (ad 0)), (1, .int p0), (2, .int p1), (3, .int p2), (4, .ref (ad 223))]) rfl ?_
  refine ev_ss DL_street 6 0 (pc' := 7) (lv' := [(0, .ref _), (1, .int _), (2, .int _), (3, .int _), (4, .ref _)]) (st' := [.int _, .int _, .int _, .ref _, .int 0, .ref _]) rfl ?_
  refine ev_rV DL_street 6 hM vX6_street rfl qL_50 rfl h0 rfl (hd_of rfl rfl rfl rfl) (fun v w hw => ?_)
  obtain ⟨rfl, hP, hF⟩ := hw
  refine ev_ss DL_street 1 7 (pc' := 11) (lv' := [(0, .ref _), (1, .int _), (2, .int _), (3, .int _), (4, .ref _)]) (st' := [.long _, .int 0, .ref _]) rfl ?_
  refine ev_last DL_street 8 rfl ((hF 223 (by decide)).trans ho) (by unfold vp_in; decide) rfl ?_
  refine ev_goto DL_street 9 rfl (tgt := 23) (by decide) ?_
  refine ev_ss DL_street 1 16 (pc' := 24) (lv' := [(0, .ref _), (1, .int _), (2, .int _), (3, .int _), (4, .ref _)]) (st' := [.int 0]) rfl ?_
  exact ev_iret DL_street 17 rfl rfl ⟨rfl, w, hP, hF, rfl⟩
set_option maxRecDepth 100000 in
set_option maxHeartbeats 4000000 in
theorem LX_street_1 {E : gE} {ad : Nat → Nat} {ws : va_W} {p0 p1 p2 : Int32} {fs : List Value} {q0 : Nat} (h0 : ws[0]? = some (ad 0, .inr (6, fs))) (hM : C1 E YX6_street 1 6 [.ref (ad 0), .int p0, .int p1, .int p2] ws (fun _ _ => False) (fun X w => X = xI ∧ w = ws)) : C2 E YL_street 1 6 [.ref (ad 0), .int p0, .int p1, .int p2, .ref q0] ws (fun v w => v = some (.int 1) ∧ w = ws) := by
  refine c2X vL_street (Nat.le_of_ble_eq_true rfl) (lv0 := [(0, .ref (ad 0)), (1, .int p0), (2, .int p1), (3, .int p2), (4, .ref q0)]) rfl ?_
  refine ev_ss DL_street 6 0 (pc' := 7) (lv' := [(0, .ref _), (1, .int _), (2, .int _), (3, .int _), (4, .ref _)]) (st' := [.int _, .int _, .int _, .ref _, .int 0, .ref _]) rfl ?_
  refine ev_callVx DL_street 6 vX6_street rfl qL_50 (Nat.le_of_ble_eq_true rfl) (Nat.le_of_ble_eq_true rfl) h0 rfl rfl (Nat.le_of_ble_eq_true rfl) rfl (k1 := 1) (k2 := 0) (n1 := 6) (n2 := 0) (Nat.le_refl 1) (Nat.le_refl 6) hM (fun X w hx => ?_) (fun v w hf => hf.elim)
  obtain ⟨rfl, rfl⟩ := hx
  refine evx_catch [] ⟨0, 12, 15, 13⟩ [⟨0, 12, 19, 15⟩] rfl (fun z hz => absurd hz List.not_mem_nil) rfl (by decide) nL_13 (List.mem_of_getElem? (i := 0) rfl) (fun q => ?_)
  show Ev E YL_street _ _ 0 0 15 _ _ _
  refine ev_ss DL_street 2 10 (pc' := 18) (lv' := [(5, .ref _), (0, .ref _), (1, .int _), (2, .int _), (3, .int _), (4, .ref _)]) (st' := [.int 1]) rfl ?_
  exact ev_iret DL_street 12 rfl rfl ⟨rfl, rfl⟩
set_option maxRecDepth 100000 in
set_option maxHeartbeats 4000000 in
theorem LX_street_2 {E : gE} {ad : Nat → Nat} {ws : va_W} {p0 p1 p2 : Int32} {fs : List Value} {q0 : Nat} (h0 : ws[0]? = some (ad 0, .inr (6, fs))) (hM : C1 E YX6_street 1 6 [.ref (ad 0), .int p0, .int p1, .int p2] ws (fun _ _ => False) (fun X w => X = xA ∧ w = ws)) : C2 E YL_street 1 6 [.ref (ad 0), .int p0, .int p1, .int p2, .ref q0] ws (fun v w => v = some (.int 2) ∧ w = ws) := by
  refine c2X vL_street (Nat.le_of_ble_eq_true rfl) (lv0 := [(0, .ref (ad 0)), (1, .int p0), (2, .int p1), (3, .int p2), (4, .ref q0)]) rfl ?_
  refine ev_ss DL_street 6 0 (pc' := 7) (lv' := [(0, .ref _), (1, .int _), (2, .int _), (3, .int _), (4, .ref _)]) (st' := [.int _, .int _, .int _, .ref _, .int 0, .ref _]) rfl ?_
  refine ev_callVx DL_street 6 vX6_street rfl qL_50 (Nat.le_of_ble_eq_true rfl) (Nat.le_of_ble_eq_true rfl) h0 rfl rfl (Nat.le_of_ble_eq_true rfl) rfl (k1 := 1) (k2 := 0) (n1 := 6) (n2 := 0) (Nat.le_refl 1) (Nat.le_refl 6) hM (fun X w hx => ?_) (fun v w hf => hf.elim)
  obtain ⟨rfl, rfl⟩ := hx
  have hpass : ∀ z ∈ ([⟨0, 12, 15, 13⟩] : List ExceptionTableEntry), z.catchType ≠ 0 ∧ ∃ nm : String, gw (.classLink (mnm YL_street).cls z.catchType nm) ∧ (xA, nm) ∈ gNc := by
    intro z hz
    simp only [List.mem_cons, List.not_mem_nil, or_false] at hz
    subst hz
    exact ⟨by decide, xI, nL_13, List.mem_of_getElem? (i := 0) rfl⟩
  refine evx_catch [⟨0, 12, 15, 13⟩] ⟨0, 12, 19, 15⟩ [] rfl hpass rfl (by decide) nL_15 (List.mem_of_getElem? (i := 1) rfl) (fun q => ?_)
  show Ev E YL_street _ _ 0 0 19 _ _ _
  refine ev_ss DL_street 2 13 (pc' := 22) (lv' := [(5, .ref _), (0, .ref _), (1, .int _), (2, .int _), (3, .int _), (4, .ref _)]) (st' := [.int 2]) rfl ?_
  exact ev_iret DL_street 15 rfl rfl ⟨rfl, rfl⟩
set_option maxRecDepth 100000 in
set_option maxHeartbeats 4000000 in
theorem LO_accent {E : gE} {ad : Nat → Nat} {ws : va_W} {p0 p1 p2 : Int32} {fs : List Value} {o : Nat → Int64} {R : Int32} {P : va_W → Prop} (h0 : ws[0]? = some (ad 0, .inr (6, fs))) (ho : ws[223]? = some (ad 223, laC E 1 o)) (hM : C0 E YX6_accent 0 0 [.ref (ad 0), .int p0, .int p1, .int p2] ws (fun v w => v = some (.int R) ∧ P w ∧ FO ws w)) : C2 E YL_accent 1 6 [.ref (ad 0), .int p0, .int p1, .int p2, .ref (ad 223)] ws (fun v w => v = some (.int 0) ∧ ∃ w1, P w1 ∧ FO ws w1 ∧ w = w1.set 223 (ad 223, laC E 1 (vp_updL o 0 R.toInt64))) := by
  refine c2X vL_accent (Nat.le_of_ble_eq_true rfl) (lv0 := [(0, .ref (ad 0)), (1, .int p0), (2, .int p1), (3, .int p2), (4, .ref (ad 223))]) rfl ?_
  refine ev_ss DL_accent 6 0 (pc' := 7) (lv' := [(0, .ref _), (1, .int _), (2, .int _), (3, .int _), (4, .ref _)]) (st' := [.int _, .int _, .int _, .ref _, .int 0, .ref _]) rfl ?_
  refine ev_rV DL_accent 6 hM vX6_accent rfl qL_53 rfl h0 rfl (hd_of rfl rfl rfl rfl) (fun v w hw => ?_)
  obtain ⟨rfl, hP, hF⟩ := hw
  refine ev_ss DL_accent 1 7 (pc' := 11) (lv' := [(0, .ref _), (1, .int _), (2, .int _), (3, .int _), (4, .ref _)]) (st' := [.long _, .int 0, .ref _]) rfl ?_
  refine ev_last DL_accent 8 rfl ((hF 223 (by decide)).trans ho) (by unfold vp_in; decide) rfl ?_
  refine ev_goto DL_accent 9 rfl (tgt := 23) (by decide) ?_
  refine ev_ss DL_accent 1 16 (pc' := 24) (lv' := [(0, .ref _), (1, .int _), (2, .int _), (3, .int _), (4, .ref _)]) (st' := [.int 0]) rfl ?_
  exact ev_iret DL_accent 17 rfl rfl ⟨rfl, w, hP, hF, rfl⟩
set_option maxRecDepth 100000 in
set_option maxHeartbeats 4000000 in
theorem LX_accent_1 {E : gE} {ad : Nat → Nat} {ws : va_W} {p0 p1 p2 : Int32} {fs : List Value} {q0 : Nat} (h0 : ws[0]? = some (ad 0, .inr (6, fs))) (hM : C1 E YX6_accent 1 6 [.ref (ad 0), .int p0, .int p1, .int p2] ws (fun _ _ => False) (fun X w => X = xI ∧ w = ws)) : C2 E YL_accent 1 6 [.ref (ad 0), .int p0, .int p1, .int p2, .ref q0] ws (fun v w => v = some (.int 1) ∧ w = ws) := by
  refine c2X vL_accent (Nat.le_of_ble_eq_true rfl) (lv0 := [(0, .ref (ad 0)), (1, .int p0), (2, .int p1), (3, .int p2), (4, .ref q0)]) rfl ?_
  refine ev_ss DL_accent 6 0 (pc' := 7) (lv' := [(0, .ref _), (1, .int _), (2, .int _), (3, .int _), (4, .ref _)]) (st' := [.int _, .int _, .int _, .ref _, .int 0, .ref _]) rfl ?_
  refine ev_callVx DL_accent 6 vX6_accent rfl qL_53 (Nat.le_of_ble_eq_true rfl) (Nat.le_of_ble_eq_true rfl) h0 rfl rfl (Nat.le_of_ble_eq_true rfl) rfl (k1 := 1) (k2 := 0) (n1 := 6) (n2 := 0) (Nat.le_refl 1) (Nat.le_refl 6) hM (fun X w hx => ?_) (fun v w hf => hf.elim)
  obtain ⟨rfl, rfl⟩ := hx
  refine evx_catch [] ⟨0, 12, 15, 13⟩ [⟨0, 12, 19, 15⟩] rfl (fun z hz => absurd hz List.not_mem_nil) rfl (by decide) nL_13 (List.mem_of_getElem? (i := 0) rfl) (fun q => ?_)
  show Ev E YL_accent _ _ 0 0 15 _ _ _
  refine ev_ss DL_accent 2 10 (pc' := 18) (lv' := [(5, .ref _), (0, .ref _), (1, .int _), (2, .int _), (3, .int _), (4, .ref _)]) (st' := [.int 1]) rfl ?_
  exact ev_iret DL_accent 12 rfl rfl ⟨rfl, rfl⟩
set_option maxRecDepth 100000 in
set_option maxHeartbeats 4000000 in
theorem LX_accent_2 {E : gE} {ad : Nat → Nat} {ws : va_W} {p0 p1 p2 : Int32} {fs : List Value} {q0 : Nat} (h0 : ws[0]? = some (ad 0, .inr (6, fs))) (hM : C1 E YX6_accent 1 6 [.ref (ad 0), .int p0, .int p1, .int p2] ws (fun _ _ => False) (fun X w => X = xA ∧ w = ws)) : C2 E YL_accent 1 6 [.ref (ad 0), .int p0, .int p1, .int p2, .ref q0] ws (fun v w => v = some (.int 2) ∧ w = ws) := by
  refine c2X vL_accent (Nat.le_of_ble_eq_true rfl) (lv0 := [(0, .ref (ad 0)), (1, .int p0), (2, .int p1), (3, .int p2), (4, .ref q0)]) rfl ?_
  refine ev_ss DL_accent 6 0 (pc' := 7) (lv' := [(0, .ref _), (1, .int _), (2, .int _), (3, .int _), (4, .ref _)]) (st' := [.int _, .int _, .int _, .ref _, .int 0, .ref _]) rfl ?_
  refine ev_callVx DL_accent 6 vX6_accent rfl qL_53 (Nat.le_of_ble_eq_true rfl) (Nat.le_of_ble_eq_true rfl) h0 rfl rfl (Nat.le_of_ble_eq_true rfl) rfl (k1 := 1) (k2 := 0) (n1 := 6) (n2 := 0) (Nat.le_refl 1) (Nat.le_refl 6) hM (fun X w hx => ?_) (fun v w hf => hf.elim)
  obtain ⟨rfl, rfl⟩ := hx
  have hpass : ∀ z ∈ ([⟨0, 12, 15, 13⟩] : List ExceptionTableEntry), z.catchType ≠ 0 ∧ ∃ nm : String, gw (.classLink (mnm YL_accent).cls z.catchType nm) ∧ (xA, nm) ∈ gNc := by
    intro z hz
    simp only [List.mem_cons, List.not_mem_nil, or_false] at hz
    subst hz
    exact ⟨by decide, xI, nL_13, List.mem_of_getElem? (i := 0) rfl⟩
  refine evx_catch [⟨0, 12, 15, 13⟩] ⟨0, 12, 19, 15⟩ [] rfl hpass rfl (by decide) nL_15 (List.mem_of_getElem? (i := 1) rfl) (fun q => ?_)
  show Ev E YL_accent _ _ 0 0 19 _ _ _
  refine ev_ss DL_accent 2 13 (pc' := 22) (lv' := [(5, .ref _), (0, .ref _), (1, .int _), (2, .int _), (3, .int _), (4, .ref _)]) (st' := [.int 2]) rfl ?_
  exact ev_iret DL_accent 15 rfl rfl ⟨rfl, rfl⟩
set_option maxRecDepth 100000 in
set_option maxHeartbeats 4000000 in
theorem LO_waits {E : gE} {ad : Nat → Nat} {ws : va_W} {p0 p1 : Int32} {fs : List Value} {o : Nat → Int64} {R : Int32} {P : va_W → Prop} (h0 : ws[0]? = some (ad 0, .inr (6, fs))) (ho : ws[223]? = some (ad 223, laC E 1 o)) (hM : C0 E YX6_waits 0 0 [.ref (ad 0), .int p0, .int p1] ws (fun v w => v = some (.int R) ∧ P w ∧ FO ws w)) : C2 E YL_waits 1 6 [.ref (ad 0), .int p0, .int p1, .ref (ad 223)] ws (fun v w => v = some (.int 0) ∧ ∃ w1, P w1 ∧ FO ws w1 ∧ w = w1.set 223 (ad 223, laC E 1 (vp_updL o 0 R.toInt64))) := by
  refine c2X vL_waits (Nat.le_of_ble_eq_true rfl) (lv0 := [(0, .ref (ad 0)), (1, .int p0), (2, .int p1), (3, .ref (ad 223))]) rfl ?_
  refine ev_ss DL_waits 5 0 (pc' := 5) (lv' := [(0, .ref _), (1, .int _), (2, .int _), (3, .ref _)]) (st' := [.int _, .int _, .ref _, .int 0, .ref _]) rfl ?_
  refine ev_rV DL_waits 5 hM vX6_waits rfl qL_56 rfl h0 rfl (hd_of rfl rfl rfl rfl) (fun v w hw => ?_)
  obtain ⟨rfl, hP, hF⟩ := hw
  refine ev_ss DL_waits 1 6 (pc' := 9) (lv' := [(0, .ref _), (1, .int _), (2, .int _), (3, .ref _)]) (st' := [.long _, .int 0, .ref _]) rfl ?_
  refine ev_last DL_waits 7 rfl ((hF 223 (by decide)).trans ho) (by unfold vp_in; decide) rfl ?_
  refine ev_goto DL_waits 8 rfl (tgt := 17) (by decide) ?_
  refine ev_ss DL_waits 1 12 (pc' := 18) (lv' := [(0, .ref _), (1, .int _), (2, .int _), (3, .ref _)]) (st' := [.int 0]) rfl ?_
  exact ev_iret DL_waits 13 rfl rfl ⟨rfl, w, hP, hF, rfl⟩
set_option maxRecDepth 100000 in
set_option maxHeartbeats 4000000 in
theorem LX_waits_1 {E : gE} {ad : Nat → Nat} {ws : va_W} {p0 p1 : Int32} {fs : List Value} {q0 : Nat} (h0 : ws[0]? = some (ad 0, .inr (6, fs))) (hM : C1 E YX6_waits 1 6 [.ref (ad 0), .int p0, .int p1] ws (fun _ _ => False) (fun X w => X = xI ∧ w = ws)) : C2 E YL_waits 1 6 [.ref (ad 0), .int p0, .int p1, .ref q0] ws (fun v w => v = some (.int 1) ∧ w = ws) := by
  refine c2X vL_waits (Nat.le_of_ble_eq_true rfl) (lv0 := [(0, .ref (ad 0)), (1, .int p0), (2, .int p1), (3, .ref q0)]) rfl ?_
  refine ev_ss DL_waits 5 0 (pc' := 5) (lv' := [(0, .ref _), (1, .int _), (2, .int _), (3, .ref _)]) (st' := [.int _, .int _, .ref _, .int 0, .ref _]) rfl ?_
  refine ev_callVx DL_waits 5 vX6_waits rfl qL_56 (Nat.le_of_ble_eq_true rfl) (Nat.le_of_ble_eq_true rfl) h0 rfl rfl (Nat.le_of_ble_eq_true rfl) rfl (k1 := 1) (k2 := 0) (n1 := 6) (n2 := 0) (Nat.le_refl 1) (Nat.le_refl 6) hM (fun X w hx => ?_) (fun v w hf => hf.elim)
  obtain ⟨rfl, rfl⟩ := hx
  refine evx_catch [] ⟨0, 10, 13, 13⟩ [] rfl (fun z hz => absurd hz List.not_mem_nil) rfl (by decide) nL_13 (List.mem_of_getElem? (i := 0) rfl) (fun q => ?_)
  show Ev E YL_waits _ _ 0 0 13 _ _ _
  refine ev_ss DL_waits 2 9 (pc' := 16) (lv' := [(4, .ref _), (0, .ref _), (1, .int _), (2, .int _), (3, .ref _)]) (st' := [.int 1]) rfl ?_
  exact ev_iret DL_waits 11 rfl rfl ⟨rfl, rfl⟩
set_option maxRecDepth 100000 in
set_option maxHeartbeats 4000000 in
theorem LO_had {E : gE} {ad : Nat → Nat} {ws : va_W} {p0 : Int32} {fs : List Value} {o : Nat → Int64} {R : Int64} {P : va_W → Prop} (h0 : ws[0]? = some (ad 0, .inr (6, fs))) (ho : ws[223]? = some (ad 223, laC E 1 o)) (hM : C0 E YX6_had 0 0 [.ref (ad 0), .int p0] ws (fun v w => v = some (.long R) ∧ P w ∧ FO ws w)) : C2 E YL_had 1 6 [.ref (ad 0), .int p0, .ref (ad 223)] ws (fun v w => v = some (.int 0) ∧ ∃ w1, P w1 ∧ FO ws w1 ∧ w = w1.set 223 (ad 223, laC E 1 (vp_updL o 0 R))) := by
  refine c2X vL_had (Nat.le_of_ble_eq_true rfl) (lv0 := [(0, .ref (ad 0)), (1, .int p0), (2, .ref (ad 223))]) rfl ?_
  refine ev_ss DL_had 4 0 (pc' := 4) (lv' := [(0, .ref _), (1, .int _), (2, .ref _)]) (st' := [.int _, .ref _, .int 0, .ref _]) rfl ?_
  refine ev_rV DL_had 4 hM vX6_had rfl qL_59 rfl h0 rfl (hd_of rfl rfl rfl rfl) (fun v w hw => ?_)
  obtain ⟨rfl, hP, hF⟩ := hw
  refine ev_last DL_had 5 rfl ((hF 223 (by decide)).trans ho) (by unfold vp_in; decide) rfl ?_
  refine ev_goto DL_had 6 rfl (tgt := 14) (by decide) ?_
  refine ev_ss DL_had 1 10 (pc' := 15) (lv' := [(0, .ref _), (1, .int _), (2, .ref _)]) (st' := [.int 0]) rfl ?_
  exact ev_iret DL_had 11 rfl rfl ⟨rfl, w, hP, hF, rfl⟩
set_option maxRecDepth 100000 in
set_option maxHeartbeats 4000000 in
theorem LX_had_1 {E : gE} {ad : Nat → Nat} {ws : va_W} {p0 : Int32} {fs : List Value} {q0 : Nat} (h0 : ws[0]? = some (ad 0, .inr (6, fs))) (hM : C1 E YX6_had 1 6 [.ref (ad 0), .int p0] ws (fun _ _ => False) (fun X w => X = xI ∧ w = ws)) : C2 E YL_had 1 6 [.ref (ad 0), .int p0, .ref q0] ws (fun v w => v = some (.int 1) ∧ w = ws) := by
  refine c2X vL_had (Nat.le_of_ble_eq_true rfl) (lv0 := [(0, .ref (ad 0)), (1, .int p0), (2, .ref q0)]) rfl ?_
  refine ev_ss DL_had 4 0 (pc' := 4) (lv' := [(0, .ref _), (1, .int _), (2, .ref _)]) (st' := [.int _, .ref _, .int 0, .ref _]) rfl ?_
  refine ev_callVx DL_had 4 vX6_had rfl qL_59 (Nat.le_of_ble_eq_true rfl) (Nat.le_of_ble_eq_true rfl) h0 rfl rfl (Nat.le_of_ble_eq_true rfl) rfl (k1 := 1) (k2 := 0) (n1 := 6) (n2 := 0) (Nat.le_refl 1) (Nat.le_refl 6) hM (fun X w hx => ?_) (fun v w hf => hf.elim)
  obtain ⟨rfl, rfl⟩ := hx
  refine evx_catch [] ⟨0, 8, 11, 13⟩ [] rfl (fun z hz => absurd hz List.not_mem_nil) rfl (by decide) nL_13 (List.mem_of_getElem? (i := 0) rfl) (fun q => ?_)
  show Ev E YL_had _ _ 0 0 11 _ _ _
  refine ev_ss DL_had 2 7 (pc' := 13) (lv' := [(3, .ref _), (0, .ref _), (1, .int _), (2, .ref _)]) (st' := [.int 1]) rfl ?_
  exact ev_iret DL_had 9 rfl rfl ⟨rfl, rfl⟩
set_option maxRecDepth 100000 in
set_option maxHeartbeats 4000000 in
theorem LO_count {E : gE} {ad : Nat → Nat} {ws : va_W} {p0 : Int32} {fs : List Value} {o : Nat → Int64} {R : Int32} {P : va_W → Prop} (h0 : ws[0]? = some (ad 0, .inr (6, fs))) (ho : ws[223]? = some (ad 223, laC E 1 o)) (hM : C0 E YX6_count 0 0 [.ref (ad 0), .int p0] ws (fun v w => v = some (.int R) ∧ P w ∧ FO ws w)) : C2 E YL_count 1 6 [.ref (ad 0), .int p0, .ref (ad 223)] ws (fun v w => v = some (.int 0) ∧ ∃ w1, P w1 ∧ FO ws w1 ∧ w = w1.set 223 (ad 223, laC E 1 (vp_updL o 0 R.toInt64))) := by
  refine c2X vL_count (Nat.le_of_ble_eq_true rfl) (lv0 := [(0, .ref (ad 0)), (1, .int p0), (2, .ref (ad 223))]) rfl ?_
  refine ev_ss DL_count 4 0 (pc' := 4) (lv' := [(0, .ref _), (1, .int _), (2, .ref _)]) (st' := [.int _, .ref _, .int 0, .ref _]) rfl ?_
  refine ev_rV DL_count 4 hM vX6_count rfl qL_63 rfl h0 rfl (hd_of rfl rfl rfl rfl) (fun v w hw => ?_)
  obtain ⟨rfl, hP, hF⟩ := hw
  refine ev_ss DL_count 1 5 (pc' := 8) (lv' := [(0, .ref _), (1, .int _), (2, .ref _)]) (st' := [.long _, .int 0, .ref _]) rfl ?_
  refine ev_last DL_count 6 rfl ((hF 223 (by decide)).trans ho) (by unfold vp_in; decide) rfl ?_
  refine ev_goto DL_count 7 rfl (tgt := 15) (by decide) ?_
  refine ev_ss DL_count 1 11 (pc' := 16) (lv' := [(0, .ref _), (1, .int _), (2, .ref _)]) (st' := [.int 0]) rfl ?_
  exact ev_iret DL_count 12 rfl rfl ⟨rfl, w, hP, hF, rfl⟩
set_option maxRecDepth 100000 in
set_option maxHeartbeats 4000000 in
theorem LX_count_1 {E : gE} {ad : Nat → Nat} {ws : va_W} {p0 : Int32} {fs : List Value} {q0 : Nat} (h0 : ws[0]? = some (ad 0, .inr (6, fs))) (hM : C1 E YX6_count 1 6 [.ref (ad 0), .int p0] ws (fun _ _ => False) (fun X w => X = xA ∧ w = ws)) : C2 E YL_count 1 6 [.ref (ad 0), .int p0, .ref q0] ws (fun v w => v = some (.int 1) ∧ w = ws) := by
  refine c2X vL_count (Nat.le_of_ble_eq_true rfl) (lv0 := [(0, .ref (ad 0)), (1, .int p0), (2, .ref q0)]) rfl ?_
  refine ev_ss DL_count 4 0 (pc' := 4) (lv' := [(0, .ref _), (1, .int _), (2, .ref _)]) (st' := [.int _, .ref _, .int 0, .ref _]) rfl ?_
  refine ev_callVx DL_count 4 vX6_count rfl qL_63 (Nat.le_of_ble_eq_true rfl) (Nat.le_of_ble_eq_true rfl) h0 rfl rfl (Nat.le_of_ble_eq_true rfl) rfl (k1 := 1) (k2 := 0) (n1 := 6) (n2 := 0) (Nat.le_refl 1) (Nat.le_refl 6) hM (fun X w hx => ?_) (fun v w hf => hf.elim)
  obtain ⟨rfl, rfl⟩ := hx
  refine evx_catch [] ⟨0, 9, 12, 15⟩ [] rfl (fun z hz => absurd hz List.not_mem_nil) rfl (by decide) nL_15 (List.mem_of_getElem? (i := 1) rfl) (fun q => ?_)
  show Ev E YL_count _ _ 0 0 12 _ _ _
  refine ev_ss DL_count 2 8 (pc' := 14) (lv' := [(3, .ref _), (0, .ref _), (1, .int _), (2, .ref _)]) (st' := [.int 1]) rfl ?_
  exact ev_iret DL_count 10 rfl rfl ⟨rfl, rfl⟩
set_option maxRecDepth 100000 in
set_option maxHeartbeats 4000000 in
theorem LO_setting {E : gE} {ad : Nat → Nat} {ws : va_W} {p0 : Int32} {fs : List Value} {o : Nat → Int64} {R : Int32} {P : va_W → Prop} (h0 : ws[0]? = some (ad 0, .inr (6, fs))) (ho : ws[223]? = some (ad 223, laC E 1 o)) (hM : C0 E YX6_setting 0 0 [.ref (ad 0), .int p0] ws (fun v w => v = some (.int R) ∧ P w ∧ FO ws w)) : C2 E YL_setting 1 6 [.ref (ad 0), .int p0, .ref (ad 223)] ws (fun v w => v = some (.int 0) ∧ ∃ w1, P w1 ∧ FO ws w1 ∧ w = w1.set 223 (ad 223, laC E 1 (vp_updL o 0 R.toInt64))) := by
  refine c2X vL_setting (Nat.le_of_ble_eq_true rfl) (lv0 := [(0, .ref (ad 0)), (1, .int p0), (2, .ref (ad 223))]) rfl ?_
  refine ev_ss DL_setting 4 0 (pc' := 4) (lv' := [(0, .ref _), (1, .int _), (2, .ref _)]) (st' := [.int _, .ref _, .int 0, .ref _]) rfl ?_
  refine ev_rV DL_setting 4 hM vX6_setting rfl qL_66 rfl h0 rfl (hd_of rfl rfl rfl rfl) (fun v w hw => ?_)
  obtain ⟨rfl, hP, hF⟩ := hw
  refine ev_ss DL_setting 1 5 (pc' := 8) (lv' := [(0, .ref _), (1, .int _), (2, .ref _)]) (st' := [.long _, .int 0, .ref _]) rfl ?_
  refine ev_last DL_setting 6 rfl ((hF 223 (by decide)).trans ho) (by unfold vp_in; decide) rfl ?_
  refine ev_goto DL_setting 7 rfl (tgt := 15) (by decide) ?_
  refine ev_ss DL_setting 1 11 (pc' := 16) (lv' := [(0, .ref _), (1, .int _), (2, .ref _)]) (st' := [.int 0]) rfl ?_
  exact ev_iret DL_setting 12 rfl rfl ⟨rfl, w, hP, hF, rfl⟩
set_option maxRecDepth 100000 in
set_option maxHeartbeats 4000000 in
theorem LX_setting_1 {E : gE} {ad : Nat → Nat} {ws : va_W} {p0 : Int32} {fs : List Value} {q0 : Nat} (h0 : ws[0]? = some (ad 0, .inr (6, fs))) (hM : C1 E YX6_setting 1 6 [.ref (ad 0), .int p0] ws (fun _ _ => False) (fun X w => X = xI ∧ w = ws)) : C2 E YL_setting 1 6 [.ref (ad 0), .int p0, .ref q0] ws (fun v w => v = some (.int 1) ∧ w = ws) := by
  refine c2X vL_setting (Nat.le_of_ble_eq_true rfl) (lv0 := [(0, .ref (ad 0)), (1, .int p0), (2, .ref q0)]) rfl ?_
  refine ev_ss DL_setting 4 0 (pc' := 4) (lv' := [(0, .ref _), (1, .int _), (2, .ref _)]) (st' := [.int _, .ref _, .int 0, .ref _]) rfl ?_
  refine ev_callVx DL_setting 4 vX6_setting rfl qL_66 (Nat.le_of_ble_eq_true rfl) (Nat.le_of_ble_eq_true rfl) h0 rfl rfl (Nat.le_of_ble_eq_true rfl) rfl (k1 := 1) (k2 := 0) (n1 := 6) (n2 := 0) (Nat.le_refl 1) (Nat.le_refl 6) hM (fun X w hx => ?_) (fun v w hf => hf.elim)
  obtain ⟨rfl, rfl⟩ := hx
  refine evx_catch [] ⟨0, 9, 12, 13⟩ [] rfl (fun z hz => absurd hz List.not_mem_nil) rfl (by decide) nL_13 (List.mem_of_getElem? (i := 0) rfl) (fun q => ?_)
  show Ev E YL_setting _ _ 0 0 12 _ _ _
  refine ev_ss DL_setting 2 8 (pc' := 14) (lv' := [(3, .ref _), (0, .ref _), (1, .int _), (2, .ref _)]) (st' := [.int 1]) rfl ?_
  exact ev_iret DL_setting 10 rfl rfl ⟨rfl, rfl⟩
set_option maxRecDepth 100000 in
set_option maxHeartbeats 4000000 in
theorem LO_sure {E : gE} {ad : Nat → Nat} {ws : va_W} {p0 p1 : Int32} {fs : List Value} {o : Nat → Int64} {R : Int32} {P : va_W → Prop} (h0 : ws[0]? = some (ad 0, .inr (6, fs))) (ho : ws[223]? = some (ad 223, laC E 1 o)) (hM : C0 E YX6_sure 0 0 [.ref (ad 0), .int p0, .int p1] ws (fun v w => v = some (.int R) ∧ P w ∧ FO ws w)) : C2 E YL_sure 1 6 [.ref (ad 0), .int p0, .int p1, .ref (ad 223)] ws (fun v w => v = some (.int 0) ∧ ∃ w1, P w1 ∧ FO ws w1 ∧ w = w1.set 223 (ad 223, laC E 1 (vp_updL o 0 R.toInt64))) := by
  refine c2X vL_sure (Nat.le_of_ble_eq_true rfl) (lv0 := [(0, .ref (ad 0)), (1, .int p0), (2, .int p1), (3, .ref (ad 223))]) rfl ?_
  refine ev_ss DL_sure 5 0 (pc' := 5) (lv' := [(0, .ref _), (1, .int _), (2, .int _), (3, .ref _)]) (st' := [.int _, .int _, .ref _, .int 0, .ref _]) rfl ?_
  refine ev_rV DL_sure 5 hM vX6_sure rfl qL_69 rfl h0 rfl (hd_of rfl rfl rfl rfl) (fun v w hw => ?_)
  obtain ⟨rfl, hP, hF⟩ := hw
  refine ev_ss DL_sure 1 6 (pc' := 9) (lv' := [(0, .ref _), (1, .int _), (2, .int _), (3, .ref _)]) (st' := [.long _, .int 0, .ref _]) rfl ?_
  refine ev_last DL_sure 7 rfl ((hF 223 (by decide)).trans ho) (by unfold vp_in; decide) rfl ?_
  refine ev_goto DL_sure 8 rfl (tgt := 17) (by decide) ?_
  refine ev_ss DL_sure 1 12 (pc' := 18) (lv' := [(0, .ref _), (1, .int _), (2, .int _), (3, .ref _)]) (st' := [.int 0]) rfl ?_
  exact ev_iret DL_sure 13 rfl rfl ⟨rfl, w, hP, hF, rfl⟩
set_option maxRecDepth 100000 in
set_option maxHeartbeats 4000000 in
theorem LX_sure_1 {E : gE} {ad : Nat → Nat} {ws : va_W} {p0 p1 : Int32} {fs : List Value} {q0 : Nat} (h0 : ws[0]? = some (ad 0, .inr (6, fs))) (hM : C1 E YX6_sure 1 6 [.ref (ad 0), .int p0, .int p1] ws (fun _ _ => False) (fun X w => X = xI ∧ w = ws)) : C2 E YL_sure 1 6 [.ref (ad 0), .int p0, .int p1, .ref q0] ws (fun v w => v = some (.int 1) ∧ w = ws) := by
  refine c2X vL_sure (Nat.le_of_ble_eq_true rfl) (lv0 := [(0, .ref (ad 0)), (1, .int p0), (2, .int p1), (3, .ref q0)]) rfl ?_
  refine ev_ss DL_sure 5 0 (pc' := 5) (lv' := [(0, .ref _), (1, .int _), (2, .int _), (3, .ref _)]) (st' := [.int _, .int _, .ref _, .int 0, .ref _]) rfl ?_
  refine ev_callVx DL_sure 5 vX6_sure rfl qL_69 (Nat.le_of_ble_eq_true rfl) (Nat.le_of_ble_eq_true rfl) h0 rfl rfl (Nat.le_of_ble_eq_true rfl) rfl (k1 := 1) (k2 := 0) (n1 := 6) (n2 := 0) (Nat.le_refl 1) (Nat.le_refl 6) hM (fun X w hx => ?_) (fun v w hf => hf.elim)
  obtain ⟨rfl, rfl⟩ := hx
  refine evx_catch [] ⟨0, 10, 13, 13⟩ [] rfl (fun z hz => absurd hz List.not_mem_nil) rfl (by decide) nL_13 (List.mem_of_getElem? (i := 0) rfl) (fun q => ?_)
  show Ev E YL_sure _ _ 0 0 13 _ _ _
  refine ev_ss DL_sure 2 9 (pc' := 16) (lv' := [(4, .ref _), (0, .ref _), (1, .int _), (2, .int _), (3, .ref _)]) (st' := [.int 1]) rfl ?_
  exact ev_iret DL_sure 11 rfl rfl ⟨rfl, rfl⟩
set_option maxRecDepth 100000 in
set_option maxHeartbeats 4000000 in
theorem LO_ifSent {E : gE} {ad : Nat → Nat} {ws : va_W} {p0 p1 p2 : Int32} {fs : List Value} {o : Nat → Int64} {R : Int32} {P : va_W → Prop} (h0 : ws[0]? = some (ad 0, .inr (6, fs))) (ho : ws[223]? = some (ad 223, laC E 1 o)) (hM : C0 E YX6_ifSent 0 0 [.ref (ad 0), .int p0, .int p1, .int p2] ws (fun v w => v = some (.int R) ∧ P w ∧ FO ws w)) : C2 E YL_ifSent 1 6 [.ref (ad 0), .int p0, .int p1, .int p2, .ref (ad 223)] ws (fun v w => v = some (.int 0) ∧ ∃ w1, P w1 ∧ FO ws w1 ∧ w = w1.set 223 (ad 223, laC E 1 (vp_updL o 0 R.toInt64))) := by
  refine c2X vL_ifSent (Nat.le_of_ble_eq_true rfl) (lv0 := [(0, .ref (ad 0)), (1, .int p0), (2, .int p1), (3, .int p2), (4, .ref (ad 223))]) rfl ?_
  refine ev_ss DL_ifSent 6 0 (pc' := 7) (lv' := [(0, .ref _), (1, .int _), (2, .int _), (3, .int _), (4, .ref _)]) (st' := [.int _, .int _, .int _, .ref _, .int 0, .ref _]) rfl ?_
  refine ev_rV DL_ifSent 6 hM vX6_ifSent rfl qL_72 rfl h0 rfl (hd_of rfl rfl rfl rfl) (fun v w hw => ?_)
  obtain ⟨rfl, hP, hF⟩ := hw
  refine ev_ss DL_ifSent 1 7 (pc' := 11) (lv' := [(0, .ref _), (1, .int _), (2, .int _), (3, .int _), (4, .ref _)]) (st' := [.long _, .int 0, .ref _]) rfl ?_
  refine ev_last DL_ifSent 8 rfl ((hF 223 (by decide)).trans ho) (by unfold vp_in; decide) rfl ?_
  refine ev_goto DL_ifSent 9 rfl (tgt := 23) (by decide) ?_
  refine ev_ss DL_ifSent 1 16 (pc' := 24) (lv' := [(0, .ref _), (1, .int _), (2, .int _), (3, .int _), (4, .ref _)]) (st' := [.int 0]) rfl ?_
  exact ev_iret DL_ifSent 17 rfl rfl ⟨rfl, w, hP, hF, rfl⟩
set_option maxRecDepth 100000 in
set_option maxHeartbeats 4000000 in
theorem LX_ifSent_1 {E : gE} {ad : Nat → Nat} {ws : va_W} {p0 p1 p2 : Int32} {fs : List Value} {q0 : Nat} (h0 : ws[0]? = some (ad 0, .inr (6, fs))) (hM : C1 E YX6_ifSent 1 6 [.ref (ad 0), .int p0, .int p1, .int p2] ws (fun _ _ => False) (fun X w => X = xI ∧ w = ws)) : C2 E YL_ifSent 1 6 [.ref (ad 0), .int p0, .int p1, .int p2, .ref q0] ws (fun v w => v = some (.int 1) ∧ w = ws) := by
  refine c2X vL_ifSent (Nat.le_of_ble_eq_true rfl) (lv0 := [(0, .ref (ad 0)), (1, .int p0), (2, .int p1), (3, .int p2), (4, .ref q0)]) rfl ?_
  refine ev_ss DL_ifSent 6 0 (pc' := 7) (lv' := [(0, .ref _), (1, .int _), (2, .int _), (3, .int _), (4, .ref _)]) (st' := [.int _, .int _, .int _, .ref _, .int 0, .ref _]) rfl ?_
  refine ev_callVx DL_ifSent 6 vX6_ifSent rfl qL_72 (Nat.le_of_ble_eq_true rfl) (Nat.le_of_ble_eq_true rfl) h0 rfl rfl (Nat.le_of_ble_eq_true rfl) rfl (k1 := 1) (k2 := 0) (n1 := 6) (n2 := 0) (Nat.le_refl 1) (Nat.le_refl 6) hM (fun X w hx => ?_) (fun v w hf => hf.elim)
  obtain ⟨rfl, rfl⟩ := hx
  refine evx_catch [] ⟨0, 12, 15, 13⟩ [⟨0, 12, 19, 15⟩] rfl (fun z hz => absurd hz List.not_mem_nil) rfl (by decide) nL_13 (List.mem_of_getElem? (i := 0) rfl) (fun q => ?_)
  show Ev E YL_ifSent _ _ 0 0 15 _ _ _
  refine ev_ss DL_ifSent 2 10 (pc' := 18) (lv' := [(5, .ref _), (0, .ref _), (1, .int _), (2, .int _), (3, .int _), (4, .ref _)]) (st' := [.int 1]) rfl ?_
  exact ev_iret DL_ifSent 12 rfl rfl ⟨rfl, rfl⟩
set_option maxRecDepth 100000 in
set_option maxHeartbeats 4000000 in
theorem LX_ifSent_2 {E : gE} {ad : Nat → Nat} {ws : va_W} {p0 p1 p2 : Int32} {fs : List Value} {q0 : Nat} (h0 : ws[0]? = some (ad 0, .inr (6, fs))) (hM : C1 E YX6_ifSent 1 6 [.ref (ad 0), .int p0, .int p1, .int p2] ws (fun _ _ => False) (fun X w => X = xA ∧ w = ws)) : C2 E YL_ifSent 1 6 [.ref (ad 0), .int p0, .int p1, .int p2, .ref q0] ws (fun v w => v = some (.int 2) ∧ w = ws) := by
  refine c2X vL_ifSent (Nat.le_of_ble_eq_true rfl) (lv0 := [(0, .ref (ad 0)), (1, .int p0), (2, .int p1), (3, .int p2), (4, .ref q0)]) rfl ?_
  refine ev_ss DL_ifSent 6 0 (pc' := 7) (lv' := [(0, .ref _), (1, .int _), (2, .int _), (3, .int _), (4, .ref _)]) (st' := [.int _, .int _, .int _, .ref _, .int 0, .ref _]) rfl ?_
  refine ev_callVx DL_ifSent 6 vX6_ifSent rfl qL_72 (Nat.le_of_ble_eq_true rfl) (Nat.le_of_ble_eq_true rfl) h0 rfl rfl (Nat.le_of_ble_eq_true rfl) rfl (k1 := 1) (k2 := 0) (n1 := 6) (n2 := 0) (Nat.le_refl 1) (Nat.le_refl 6) hM (fun X w hx => ?_) (fun v w hf => hf.elim)
  obtain ⟨rfl, rfl⟩ := hx
  have hpass : ∀ z ∈ ([⟨0, 12, 15, 13⟩] : List ExceptionTableEntry), z.catchType ≠ 0 ∧ ∃ nm : String, gw (.classLink (mnm YL_ifSent).cls z.catchType nm) ∧ (xA, nm) ∈ gNc := by
    intro z hz
    simp only [List.mem_cons, List.not_mem_nil, or_false] at hz
    subst hz
    exact ⟨by decide, xI, nL_13, List.mem_of_getElem? (i := 0) rfl⟩
  refine evx_catch [⟨0, 12, 15, 13⟩] ⟨0, 12, 19, 15⟩ [] rfl hpass rfl (by decide) nL_15 (List.mem_of_getElem? (i := 1) rfl) (fun q => ?_)
  show Ev E YL_ifSent _ _ 0 0 19 _ _ _
  refine ev_ss DL_ifSent 2 13 (pc' := 22) (lv' := [(5, .ref _), (0, .ref _), (1, .int _), (2, .int _), (3, .int _), (4, .ref _)]) (st' := [.int 2]) rfl ?_
  exact ev_iret DL_ifSent 15 rfl rfl ⟨rfl, rfl⟩
set_option maxRecDepth 100000 in
set_option maxHeartbeats 4000000 in
theorem LO_ifLearned {E : gE} {ad : Nat → Nat} {ws : va_W} {p0 p1 : Int32} {fs : List Value} {o : Nat → Int64} {R : Int32} {P : va_W → Prop} (h0 : ws[0]? = some (ad 0, .inr (6, fs))) (ho : ws[223]? = some (ad 223, laC E 1 o)) (hM : C0 E YX6_ifLearned 0 0 [.ref (ad 0), .int p0, .int p1] ws (fun v w => v = some (.int R) ∧ P w ∧ FO ws w)) : C2 E YL_ifLearned 1 6 [.ref (ad 0), .int p0, .int p1, .ref (ad 223)] ws (fun v w => v = some (.int 0) ∧ ∃ w1, P w1 ∧ FO ws w1 ∧ w = w1.set 223 (ad 223, laC E 1 (vp_updL o 0 R.toInt64))) := by
  refine c2X vL_ifLearned (Nat.le_of_ble_eq_true rfl) (lv0 := [(0, .ref (ad 0)), (1, .int p0), (2, .int p1), (3, .ref (ad 223))]) rfl ?_
  refine ev_ss DL_ifLearned 5 0 (pc' := 5) (lv' := [(0, .ref _), (1, .int _), (2, .int _), (3, .ref _)]) (st' := [.int _, .int _, .ref _, .int 0, .ref _]) rfl ?_
  refine ev_rV DL_ifLearned 5 hM vX6_ifLearned rfl qL_75 rfl h0 rfl (hd_of rfl rfl rfl rfl) (fun v w hw => ?_)
  obtain ⟨rfl, hP, hF⟩ := hw
  refine ev_ss DL_ifLearned 1 6 (pc' := 9) (lv' := [(0, .ref _), (1, .int _), (2, .int _), (3, .ref _)]) (st' := [.long _, .int 0, .ref _]) rfl ?_
  refine ev_last DL_ifLearned 7 rfl ((hF 223 (by decide)).trans ho) (by unfold vp_in; decide) rfl ?_
  refine ev_goto DL_ifLearned 8 rfl (tgt := 21) (by decide) ?_
  refine ev_ss DL_ifLearned 1 15 (pc' := 22) (lv' := [(0, .ref _), (1, .int _), (2, .int _), (3, .ref _)]) (st' := [.int 0]) rfl ?_
  exact ev_iret DL_ifLearned 16 rfl rfl ⟨rfl, w, hP, hF, rfl⟩
set_option maxRecDepth 100000 in
set_option maxHeartbeats 4000000 in
theorem LX_ifLearned_1 {E : gE} {ad : Nat → Nat} {ws : va_W} {p0 p1 : Int32} {fs : List Value} {q0 : Nat} (h0 : ws[0]? = some (ad 0, .inr (6, fs))) (hM : C1 E YX6_ifLearned 1 6 [.ref (ad 0), .int p0, .int p1] ws (fun _ _ => False) (fun X w => X = xI ∧ w = ws)) : C2 E YL_ifLearned 1 6 [.ref (ad 0), .int p0, .int p1, .ref q0] ws (fun v w => v = some (.int 1) ∧ w = ws) := by
  refine c2X vL_ifLearned (Nat.le_of_ble_eq_true rfl) (lv0 := [(0, .ref (ad 0)), (1, .int p0), (2, .int p1), (3, .ref q0)]) rfl ?_
  refine ev_ss DL_ifLearned 5 0 (pc' := 5) (lv' := [(0, .ref _), (1, .int _), (2, .int _), (3, .ref _)]) (st' := [.int _, .int _, .ref _, .int 0, .ref _]) rfl ?_
  refine ev_callVx DL_ifLearned 5 vX6_ifLearned rfl qL_75 (Nat.le_of_ble_eq_true rfl) (Nat.le_of_ble_eq_true rfl) h0 rfl rfl (Nat.le_of_ble_eq_true rfl) rfl (k1 := 1) (k2 := 0) (n1 := 6) (n2 := 0) (Nat.le_refl 1) (Nat.le_refl 6) hM (fun X w hx => ?_) (fun v w hf => hf.elim)
  obtain ⟨rfl, rfl⟩ := hx
  refine evx_catch [] ⟨0, 10, 13, 13⟩ [⟨0, 10, 17, 15⟩] rfl (fun z hz => absurd hz List.not_mem_nil) rfl (by decide) nL_13 (List.mem_of_getElem? (i := 0) rfl) (fun q => ?_)
  show Ev E YL_ifLearned _ _ 0 0 13 _ _ _
  refine ev_ss DL_ifLearned 2 9 (pc' := 16) (lv' := [(4, .ref _), (0, .ref _), (1, .int _), (2, .int _), (3, .ref _)]) (st' := [.int 1]) rfl ?_
  exact ev_iret DL_ifLearned 11 rfl rfl ⟨rfl, rfl⟩
set_option maxRecDepth 100000 in
set_option maxHeartbeats 4000000 in
theorem LX_ifLearned_2 {E : gE} {ad : Nat → Nat} {ws : va_W} {p0 p1 : Int32} {fs : List Value} {q0 : Nat} (h0 : ws[0]? = some (ad 0, .inr (6, fs))) (hM : C1 E YX6_ifLearned 1 6 [.ref (ad 0), .int p0, .int p1] ws (fun _ _ => False) (fun X w => X = xA ∧ w = ws)) : C2 E YL_ifLearned 1 6 [.ref (ad 0), .int p0, .int p1, .ref q0] ws (fun v w => v = some (.int 2) ∧ w = ws) := by
  refine c2X vL_ifLearned (Nat.le_of_ble_eq_true rfl) (lv0 := [(0, .ref (ad 0)), (1, .int p0), (2, .int p1), (3, .ref q0)]) rfl ?_
  refine ev_ss DL_ifLearned 5 0 (pc' := 5) (lv' := [(0, .ref _), (1, .int _), (2, .int _), (3, .ref _)]) (st' := [.int _, .int _, .ref _, .int 0, .ref _]) rfl ?_
  refine ev_callVx DL_ifLearned 5 vX6_ifLearned rfl qL_75 (Nat.le_of_ble_eq_true rfl) (Nat.le_of_ble_eq_true rfl) h0 rfl rfl (Nat.le_of_ble_eq_true rfl) rfl (k1 := 1) (k2 := 0) (n1 := 6) (n2 := 0) (Nat.le_refl 1) (Nat.le_refl 6) hM (fun X w hx => ?_) (fun v w hf => hf.elim)
  obtain ⟨rfl, rfl⟩ := hx
  have hpass : ∀ z ∈ ([⟨0, 10, 13, 13⟩] : List ExceptionTableEntry), z.catchType ≠ 0 ∧ ∃ nm : String, gw (.classLink (mnm YL_ifLearned).cls z.catchType nm) ∧ (xA, nm) ∈ gNc := by
    intro z hz
    simp only [List.mem_cons, List.not_mem_nil, or_false] at hz
    subst hz
    exact ⟨by decide, xI, nL_13, List.mem_of_getElem? (i := 0) rfl⟩
  refine evx_catch [⟨0, 10, 13, 13⟩] ⟨0, 10, 17, 15⟩ [] rfl hpass rfl (by decide) nL_15 (List.mem_of_getElem? (i := 1) rfl) (fun q => ?_)
  show Ev E YL_ifLearned _ _ 0 0 17 _ _ _
  refine ev_ss DL_ifLearned 2 12 (pc' := 20) (lv' := [(4, .ref _), (0, .ref _), (1, .int _), (2, .int _), (3, .ref _)]) (st' := [.int 2]) rfl ?_
  exact ev_iret DL_ifLearned 14 rfl rfl ⟨rfl, rfl⟩
set_option maxRecDepth 100000 in
set_option maxHeartbeats 4000000 in
theorem LO_beatsFor {E : gE} {ad : Nat → Nat} {ws : va_W} {p0 : Int32} {fs : List Value} {o : Nat → Int64} {R : Int32} {P : va_W → Prop} (h0 : ws[0]? = some (ad 0, .inr (6, fs))) (ho : ws[223]? = some (ad 223, laC E 1 o)) (hM : C0 E YX6_beatsFor 0 0 [.ref (ad 0), .int p0] ws (fun v w => v = some (.int R) ∧ P w ∧ FO ws w)) : C2 E YL_beatsFor 1 6 [.ref (ad 0), .int p0, .ref (ad 223)] ws (fun v w => v = some (.int 0) ∧ ∃ w1, P w1 ∧ FO ws w1 ∧ w = w1.set 223 (ad 223, laC E 1 (vp_updL o 0 R.toInt64))) := by
  refine c2X vL_beatsFor (Nat.le_of_ble_eq_true rfl) (lv0 := [(0, .ref (ad 0)), (1, .int p0), (2, .ref (ad 223))]) rfl ?_
  refine ev_ss DL_beatsFor 4 0 (pc' := 4) (lv' := [(0, .ref _), (1, .int _), (2, .ref _)]) (st' := [.int _, .ref _, .int 0, .ref _]) rfl ?_
  refine ev_rV DL_beatsFor 4 hM vX6_beatsFor rfl qL_78 rfl h0 rfl (hd_of rfl rfl rfl rfl) (fun v w hw => ?_)
  obtain ⟨rfl, hP, hF⟩ := hw
  refine ev_ss DL_beatsFor 1 5 (pc' := 8) (lv' := [(0, .ref _), (1, .int _), (2, .ref _)]) (st' := [.long _, .int 0, .ref _]) rfl ?_
  refine ev_last DL_beatsFor 6 rfl ((hF 223 (by decide)).trans ho) (by unfold vp_in; decide) rfl ?_
  refine ev_goto DL_beatsFor 7 rfl (tgt := 15) (by decide) ?_
  refine ev_ss DL_beatsFor 1 11 (pc' := 16) (lv' := [(0, .ref _), (1, .int _), (2, .ref _)]) (st' := [.int 0]) rfl ?_
  exact ev_iret DL_beatsFor 12 rfl rfl ⟨rfl, w, hP, hF, rfl⟩
set_option maxRecDepth 100000 in
set_option maxHeartbeats 4000000 in
theorem LX_beatsFor_1 {E : gE} {ad : Nat → Nat} {ws : va_W} {p0 : Int32} {fs : List Value} {q0 : Nat} (h0 : ws[0]? = some (ad 0, .inr (6, fs))) (hM : C1 E YX6_beatsFor 1 6 [.ref (ad 0), .int p0] ws (fun _ _ => False) (fun X w => X = xI ∧ w = ws)) : C2 E YL_beatsFor 1 6 [.ref (ad 0), .int p0, .ref q0] ws (fun v w => v = some (.int 1) ∧ w = ws) := by
  refine c2X vL_beatsFor (Nat.le_of_ble_eq_true rfl) (lv0 := [(0, .ref (ad 0)), (1, .int p0), (2, .ref q0)]) rfl ?_
  refine ev_ss DL_beatsFor 4 0 (pc' := 4) (lv' := [(0, .ref _), (1, .int _), (2, .ref _)]) (st' := [.int _, .ref _, .int 0, .ref _]) rfl ?_
  refine ev_callVx DL_beatsFor 4 vX6_beatsFor rfl qL_78 (Nat.le_of_ble_eq_true rfl) (Nat.le_of_ble_eq_true rfl) h0 rfl rfl (Nat.le_of_ble_eq_true rfl) rfl (k1 := 1) (k2 := 0) (n1 := 6) (n2 := 0) (Nat.le_refl 1) (Nat.le_refl 6) hM (fun X w hx => ?_) (fun v w hf => hf.elim)
  obtain ⟨rfl, rfl⟩ := hx
  refine evx_catch [] ⟨0, 9, 12, 13⟩ [] rfl (fun z hz => absurd hz List.not_mem_nil) rfl (by decide) nL_13 (List.mem_of_getElem? (i := 0) rfl) (fun q => ?_)
  show Ev E YL_beatsFor _ _ 0 0 12 _ _ _
  refine ev_ss DL_beatsFor 2 8 (pc' := 14) (lv' := [(3, .ref _), (0, .ref _), (1, .int _), (2, .ref _)]) (st' := [.int 1]) rfl ?_
  exact ev_iret DL_beatsFor 10 rfl rfl ⟨rfl, rfl⟩
set_option maxRecDepth 100000 in
set_option maxHeartbeats 4000000 in
theorem LO_bestLesson {E : gE} {ad : Nat → Nat} {ws : va_W} {p0 : Int32} {fs : List Value} {o : Nat → Int64} {R : Int32} {P : va_W → Prop} (h0 : ws[0]? = some (ad 0, .inr (6, fs))) (ho : ws[223]? = some (ad 223, laC E 1 o)) (hM : C0 E YX6_bestLesson 0 0 [.ref (ad 0), .int p0] ws (fun v w => v = some (.int R) ∧ P w ∧ FO ws w)) : C2 E YL_bestLesson 1 6 [.ref (ad 0), .int p0, .ref (ad 223)] ws (fun v w => v = some (.int 0) ∧ ∃ w1, P w1 ∧ FO ws w1 ∧ w = w1.set 223 (ad 223, laC E 1 (vp_updL o 0 R.toInt64))) := by
  refine c2X vL_bestLesson (Nat.le_of_ble_eq_true rfl) (lv0 := [(0, .ref (ad 0)), (1, .int p0), (2, .ref (ad 223))]) rfl ?_
  refine ev_ss DL_bestLesson 4 0 (pc' := 4) (lv' := [(0, .ref _), (1, .int _), (2, .ref _)]) (st' := [.int _, .ref _, .int 0, .ref _]) rfl ?_
  refine ev_rV DL_bestLesson 4 hM vX6_bestLesson rfl qL_81 rfl h0 rfl (hd_of rfl rfl rfl rfl) (fun v w hw => ?_)
  obtain ⟨rfl, hP, hF⟩ := hw
  refine ev_ss DL_bestLesson 1 5 (pc' := 8) (lv' := [(0, .ref _), (1, .int _), (2, .ref _)]) (st' := [.long _, .int 0, .ref _]) rfl ?_
  refine ev_last DL_bestLesson 6 rfl ((hF 223 (by decide)).trans ho) (by unfold vp_in; decide) rfl ?_
  refine ev_goto DL_bestLesson 7 rfl (tgt := 15) (by decide) ?_
  refine ev_ss DL_bestLesson 1 11 (pc' := 16) (lv' := [(0, .ref _), (1, .int _), (2, .ref _)]) (st' := [.int 0]) rfl ?_
  exact ev_iret DL_bestLesson 12 rfl rfl ⟨rfl, w, hP, hF, rfl⟩
set_option maxRecDepth 100000 in
set_option maxHeartbeats 4000000 in
theorem LX_bestLesson_1 {E : gE} {ad : Nat → Nat} {ws : va_W} {p0 : Int32} {fs : List Value} {q0 : Nat} (h0 : ws[0]? = some (ad 0, .inr (6, fs))) (hM : C1 E YX6_bestLesson 1 6 [.ref (ad 0), .int p0] ws (fun _ _ => False) (fun X w => X = xI ∧ w = ws)) : C2 E YL_bestLesson 1 6 [.ref (ad 0), .int p0, .ref q0] ws (fun v w => v = some (.int 1) ∧ w = ws) := by
  refine c2X vL_bestLesson (Nat.le_of_ble_eq_true rfl) (lv0 := [(0, .ref (ad 0)), (1, .int p0), (2, .ref q0)]) rfl ?_
  refine ev_ss DL_bestLesson 4 0 (pc' := 4) (lv' := [(0, .ref _), (1, .int _), (2, .ref _)]) (st' := [.int _, .ref _, .int 0, .ref _]) rfl ?_
  refine ev_callVx DL_bestLesson 4 vX6_bestLesson rfl qL_81 (Nat.le_of_ble_eq_true rfl) (Nat.le_of_ble_eq_true rfl) h0 rfl rfl (Nat.le_of_ble_eq_true rfl) rfl (k1 := 1) (k2 := 0) (n1 := 6) (n2 := 0) (Nat.le_refl 1) (Nat.le_refl 6) hM (fun X w hx => ?_) (fun v w hf => hf.elim)
  obtain ⟨rfl, rfl⟩ := hx
  refine evx_catch [] ⟨0, 9, 12, 13⟩ [] rfl (fun z hz => absurd hz List.not_mem_nil) rfl (by decide) nL_13 (List.mem_of_getElem? (i := 0) rfl) (fun q => ?_)
  show Ev E YL_bestLesson _ _ 0 0 12 _ _ _
  refine ev_ss DL_bestLesson 2 8 (pc' := 14) (lv' := [(3, .ref _), (0, .ref _), (1, .int _), (2, .ref _)]) (st' := [.int 1]) rfl ?_
  exact ev_iret DL_bestLesson 10 rfl rfl ⟨rfl, rfl⟩
set_option maxRecDepth 100000 in
set_option maxHeartbeats 4000000 in
theorem LO_hurts {E : gE} {ad : Nat → Nat} {ws : va_W} {p0 p1 : Int32} {fs : List Value} {o : Nat → Int64} {R : Int32} {P : va_W → Prop} (h0 : ws[0]? = some (ad 0, .inr (6, fs))) (ho : ws[223]? = some (ad 223, laC E 1 o)) (hM : C0 E YX6_hurts 0 0 [.ref (ad 0), .int p0, .int p1] ws (fun v w => v = some (.int R) ∧ P w ∧ FO ws w)) : C2 E YL_hurts 1 6 [.ref (ad 0), .int p0, .int p1, .ref (ad 223)] ws (fun v w => v = some (.int 0) ∧ ∃ w1, P w1 ∧ FO ws w1 ∧ w = w1.set 223 (ad 223, laC E 1 (vp_updL o 0 R.toInt64))) := by
  refine c2X vL_hurts (Nat.le_of_ble_eq_true rfl) (lv0 := [(0, .ref (ad 0)), (1, .int p0), (2, .int p1), (3, .ref (ad 223))]) rfl ?_
  refine ev_ss DL_hurts 5 0 (pc' := 5) (lv' := [(0, .ref _), (1, .int _), (2, .int _), (3, .ref _)]) (st' := [.int _, .int _, .ref _, .int 0, .ref _]) rfl ?_
  refine ev_rV DL_hurts 5 hM vX6_hurts rfl qL_84 rfl h0 rfl (hd_of rfl rfl rfl rfl) (fun v w hw => ?_)
  obtain ⟨rfl, hP, hF⟩ := hw
  refine ev_ss DL_hurts 1 6 (pc' := 9) (lv' := [(0, .ref _), (1, .int _), (2, .int _), (3, .ref _)]) (st' := [.long _, .int 0, .ref _]) rfl ?_
  refine ev_last DL_hurts 7 rfl ((hF 223 (by decide)).trans ho) (by unfold vp_in; decide) rfl ?_
  refine ev_goto DL_hurts 8 rfl (tgt := 17) (by decide) ?_
  refine ev_ss DL_hurts 1 12 (pc' := 18) (lv' := [(0, .ref _), (1, .int _), (2, .int _), (3, .ref _)]) (st' := [.int 0]) rfl ?_
  exact ev_iret DL_hurts 13 rfl rfl ⟨rfl, w, hP, hF, rfl⟩
set_option maxRecDepth 100000 in
set_option maxHeartbeats 4000000 in
theorem LX_hurts_1 {E : gE} {ad : Nat → Nat} {ws : va_W} {p0 p1 : Int32} {fs : List Value} {q0 : Nat} (h0 : ws[0]? = some (ad 0, .inr (6, fs))) (hM : C1 E YX6_hurts 1 6 [.ref (ad 0), .int p0, .int p1] ws (fun _ _ => False) (fun X w => X = xI ∧ w = ws)) : C2 E YL_hurts 1 6 [.ref (ad 0), .int p0, .int p1, .ref q0] ws (fun v w => v = some (.int 1) ∧ w = ws) := by
  refine c2X vL_hurts (Nat.le_of_ble_eq_true rfl) (lv0 := [(0, .ref (ad 0)), (1, .int p0), (2, .int p1), (3, .ref q0)]) rfl ?_
  refine ev_ss DL_hurts 5 0 (pc' := 5) (lv' := [(0, .ref _), (1, .int _), (2, .int _), (3, .ref _)]) (st' := [.int _, .int _, .ref _, .int 0, .ref _]) rfl ?_
  refine ev_callVx DL_hurts 5 vX6_hurts rfl qL_84 (Nat.le_of_ble_eq_true rfl) (Nat.le_of_ble_eq_true rfl) h0 rfl rfl (Nat.le_of_ble_eq_true rfl) rfl (k1 := 1) (k2 := 0) (n1 := 6) (n2 := 0) (Nat.le_refl 1) (Nat.le_refl 6) hM (fun X w hx => ?_) (fun v w hf => hf.elim)
  obtain ⟨rfl, rfl⟩ := hx
  refine evx_catch [] ⟨0, 10, 13, 13⟩ [] rfl (fun z hz => absurd hz List.not_mem_nil) rfl (by decide) nL_13 (List.mem_of_getElem? (i := 0) rfl) (fun q => ?_)
  show Ev E YL_hurts _ _ 0 0 13 _ _ _
  refine ev_ss DL_hurts 2 9 (pc' := 16) (lv' := [(4, .ref _), (0, .ref _), (1, .int _), (2, .int _), (3, .ref _)]) (st' := [.int 1]) rfl ?_
  exact ev_iret DL_hurts 11 rfl rfl ⟨rfl, rfl⟩
set_option maxRecDepth 100000 in
set_option maxHeartbeats 4000000 in
theorem LO_rightShare {E : gE} {ad : Nat → Nat} {ws : va_W} {p0 : Int32} {fs : List Value} {o : Nat → UInt64} {R : UInt64} {P : va_W → Prop} (h0 : ws[0]? = some (ad 0, .inr (6, fs))) (ho : ws[224]? = some (ad 224, .inl (gK E 3, 1, .inr (.inr (.inr (.inl o)))))) (hM : C0 E YX6_rightShare 0 0 [.ref (ad 0), .int p0] ws (fun v w => v = some (.double R) ∧ P w ∧ FO ws w)) : C2 E YL_rightShare 1 6 [.ref (ad 0), .int p0, .ref (ad 224)] ws (fun v w => v = some (.int 0) ∧ ∃ w1, P w1 ∧ FO ws w1 ∧ w = w1.set 224 (ad 224, .inl (gK E 3, 1, .inr (.inr (.inr (.inl (vf_upd o 0 R))))))) := by
  refine c2X vL_rightShare (Nat.le_of_ble_eq_true rfl) (lv0 := [(0, .ref (ad 0)), (1, .int p0), (2, .ref (ad 224))]) rfl ?_
  refine ev_ss DL_rightShare 4 0 (pc' := 4) (lv' := [(0, .ref _), (1, .int _), (2, .ref _)]) (st' := [.int _, .ref _, .int 0, .ref _]) rfl ?_
  refine ev_rV DL_rightShare 4 hM vX6_rightShare rfl qL_87 rfl h0 rfl (hd_of rfl rfl rfl rfl) (fun v w hw => ?_)
  obtain ⟨rfl, hP, hF⟩ := hw
  refine ev_dast DL_rightShare 5 rfl ((hF 224 (by decide)).trans ho) (by unfold vp_in; decide) rfl ?_
  refine ev_goto DL_rightShare 6 rfl (tgt := 14) (by decide) ?_
  refine ev_ss DL_rightShare 1 10 (pc' := 15) (lv' := [(0, .ref _), (1, .int _), (2, .ref _)]) (st' := [.int 0]) rfl ?_
  exact ev_iret DL_rightShare 11 rfl rfl ⟨rfl, w, hP, hF, rfl⟩
set_option maxRecDepth 100000 in
set_option maxHeartbeats 4000000 in
theorem LX_rightShare_1 {E : gE} {ad : Nat → Nat} {ws : va_W} {p0 : Int32} {fs : List Value} {q0 : Nat} (h0 : ws[0]? = some (ad 0, .inr (6, fs))) (hM : C1 E YX6_rightShare 1 6 [.ref (ad 0), .int p0] ws (fun _ _ => False) (fun X w => X = xI ∧ w = ws)) : C2 E YL_rightShare 1 6 [.ref (ad 0), .int p0, .ref q0] ws (fun v w => v = some (.int 1) ∧ w = ws) := by
  refine c2X vL_rightShare (Nat.le_of_ble_eq_true rfl) (lv0 := [(0, .ref (ad 0)), (1, .int p0), (2, .ref q0)]) rfl ?_
  refine ev_ss DL_rightShare 4 0 (pc' := 4) (lv' := [(0, .ref _), (1, .int _), (2, .ref _)]) (st' := [.int _, .ref _, .int 0, .ref _]) rfl ?_
  refine ev_callVx DL_rightShare 4 vX6_rightShare rfl qL_87 (Nat.le_of_ble_eq_true rfl) (Nat.le_of_ble_eq_true rfl) h0 rfl rfl (Nat.le_of_ble_eq_true rfl) rfl (k1 := 1) (k2 := 0) (n1 := 6) (n2 := 0) (Nat.le_refl 1) (Nat.le_refl 6) hM (fun X w hx => ?_) (fun v w hf => hf.elim)
  obtain ⟨rfl, rfl⟩ := hx
  refine evx_catch [] ⟨0, 8, 11, 13⟩ [] rfl (fun z hz => absurd hz List.not_mem_nil) rfl (by decide) nL_13 (List.mem_of_getElem? (i := 0) rfl) (fun q => ?_)
  show Ev E YL_rightShare _ _ 0 0 11 _ _ _
  refine ev_ss DL_rightShare 2 7 (pc' := 13) (lv' := [(3, .ref _), (0, .ref _), (1, .int _), (2, .ref _)]) (st' := [.int 1]) rfl ?_
  exact ev_iret DL_rightShare 9 rfl rfl ⟨rfl, rfl⟩
