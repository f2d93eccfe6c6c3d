/-! the law's loop -/
theorem sv_in {x : Int32} {k N : Nat} (h : x = nI k) (hk : k < N) (hN : N < 2 ^ 31) : vp_in x N := by
  rw [h]
  exact vp_in_nI hk hN
theorem lcm_eq {a b : Int64} (h : a = b) : lg_cmp a b = 0 := by
  rw [h]
  unfold lg_cmp
  rw [if_neg (show ¬ b > b from Int64.lt_irrefl), if_pos rfl]
theorem dcm_eq {a b : UInt64} {op : CmpOp} (h : a = b ∧ FP.dcmp b b = some .eq) : Op.cmpValue (FP.dcmp a b) op = 0 := by
  rw [h.1, h.2]
  rfl
theorem WD.h3 {E : gE} {ad : Nat → Nat} {w : va_W} {k : Int32} {o : Nat → Int64} {d : Nat → UInt64} (h : WD E ad w k o d) : w[223]? = some (ad 223, laC E 1 o) := by
  obtain ⟨p, sv, sc, r, len, ch, hh, -, -, -, h3, -⟩ := h
  exact h3
theorem WD.h4 {E : gE} {ad : Nat → Nat} {w : va_W} {k : Int32} {o : Nat → Int64} {d : Nat → UInt64} (h : WD E ad w k o d) : w[224]? = some (ad 224, daC E d) := by
  obtain ⟨p, sv, sc, r, len, ch, hh, -, -, -, -, h4⟩ := h
  exact h4
abbrev lawL (E : gE) (ad : Nat → Nat) (x : Int32) : List (Nat × Value) := [(0, .ref (gSc E).1), (1, .ref (ad 0)), (2, .ref (ad 214)), (3, .ref (ad 223)), (4, .ref (ad 224)), (5, .int (x))]
set_option maxRecDepth 100000 in
set_option maxHeartbeats 4000000 in
theorem LC_0 {E : gE} {ad : Nat → Nat} {Pr : Option Value → va_W → Prop} {ws : va_W} {tw : Int32} {o : Nat → Int64} {d : Nat → UInt64} {i kk nn : Nat} (hW : WD E ad ws tw o d) (hi : i + 4 < (gSc E).2.1) (hN : (gSc E).2.1 < 2 ^ 31) (hK : ∀ (w : va_W) (k : Int32) (o : Nat → Int64) (d : Nat → UInt64), WD E ad w k o d → Ev E YL_law Pr nX kk nn 28 (lawL E ad (nI i + 5)) [] w) : Ev E YL_law Pr nX (kk + 1) (nn + 6) 164 (lawL E ad (nI i)) [] ws := by
  refine ev_ss DL_law_0 5 28 (pc' := 170) (lv' := [(0, .ref _), (1, .ref _), (2, .ref _), (3, .ref _), (4, .ref _), (5, .int _)]) (st' := [.int _, .ref _, .ref _]) rfl ?_
  refine ev_sld DL_law_0 33 rfl (sv_in (k := (i + 1)) (nx_add (a := i) (b := 1) rfl rfl) (by omega) hN) ?_
  refine ev_ss DL_law_0 4 34 (pc' := 176) (lv' := [(0, .ref _), (1, .ref _), (2, .ref _), (3, .ref _), (4, .ref _), (5, .int _)]) (st' := [.int _, .ref _, .int _, .ref _]) rfl ?_
  refine ev_sld DL_law_0 38 rfl (sv_in (k := (i + 2)) (nx_add (a := i) (b := 2) rfl rfl) (by omega) hN) ?_
  refine ev_ss DL_law_0 4 39 (pc' := 182) (lv' := [(0, .ref _), (1, .ref _), (2, .ref _), (3, .ref _), (4, .ref _), (5, .int _)]) (st' := [.int _, .ref _, .int _, .int _, .ref _]) rfl ?_
  refine ev_sld DL_law_0 43 rfl (sv_in (k := (i + 3)) (nx_add (a := i) (b := 3) rfl rfl) (by omega) hN) ?_
  refine ev_ss DL_law_0 4 44 (pc' := 188) (lv' := [(0, .ref _), (1, .ref _), (2, .ref _), (3, .ref _), (4, .ref _), (5, .int _)]) (st' := [.int _, .ref _, .int _, .int _, .int _, .ref _]) rfl ?_
  refine ev_sld DL_law_0 48 rfl (sv_in (k := (i + 4)) (nx_add (a := i) (b := 4) rfl rfl) (by omega) hN) ?_
  refine ev_ss DL_law_0 1 49 (pc' := 190) (lv' := [(0, .ref _), (1, .ref _), (2, .ref _), (3, .ref _), (4, .ref _), (5, .int _)]) (st' := [.ref _, .int _, .int _, .int _, .int _, .ref _]) rfl ?_
  refine ev_callSW DL_law_0 50 vL_build rfl qL_95 (Nat.le_of_ble_eq_true rfl) (Nat.le_of_ble_eq_true rfl) rfl (st := []) (Nat.le_of_ble_eq_true rfl) rfl (k1 := 1) (n1 := 6) (k2 := kk) (n2 := nn) (by omega) (by omega) (J_build hW _ _ _ _) (fun v1 w1 h1 => ?_)
  obtain ⟨k1, rfl, ⟨f7, h7⟩, hB⟩ := h1
  refine ev_ss DL_law_0 6 51 (pc' := 201) (lv' := [(6, .int _), (0, .ref _), (1, .ref _), (2, .ref _), (3, .ref _), (4, .ref _), (5, .int _)]) (st' := [.int _, .ref _, .ref _]) rfl ?_
  refine ev_sld DL_law_0 57 rfl (sv_in (k := (i + 1)) (nx_add (a := i) (b := 1) rfl rfl) (by omega) hN) ?_
  refine ev_ss DL_law_0 4 58 (pc' := 207) (lv' := [(6, .int _), (0, .ref _), (1, .ref _), (2, .ref _), (3, .ref _), (4, .ref _), (5, .int _)]) (st' := [.int _, .ref _, .int _, .ref _]) rfl ?_
  refine ev_sld DL_law_0 62 rfl (sv_in (k := (i + 2)) (nx_add (a := i) (b := 2) rfl rfl) (by omega) hN) ?_
  refine ev_ss DL_law_0 4 63 (pc' := 213) (lv' := [(6, .int _), (0, .ref _), (1, .ref _), (2, .ref _), (3, .ref _), (4, .ref _), (5, .int _)]) (st' := [.int _, .ref _, .int _, .int _, .ref _]) rfl ?_
  refine ev_sld DL_law_0 67 rfl (sv_in (k := (i + 3)) (nx_add (a := i) (b := 3) rfl rfl) (by omega) hN) ?_
  refine ev_ss DL_law_0 4 68 (pc' := 219) (lv' := [(6, .int _), (0, .ref _), (1, .ref _), (2, .ref _), (3, .ref _), (4, .ref _), (5, .int _)]) (st' := [.int _, .ref _, .int _, .int _, .int _, .ref _]) rfl ?_
  refine ev_sld DL_law_0 72 rfl (sv_in (k := (i + 4)) (nx_add (a := i) (b := 4) rfl rfl) (by omega) hN) ?_
  refine ev_rV DL_law_0 73 hB vX7_build rfl qL_100 rfl h7 rfl (hd_of rfl rfl rfl rfl) (fun v2 w2 h2 => ?_)
  obtain ⟨o2, d2, ⟨R, rfl, hR⟩, hW2⟩ := h2
  obtain ⟨f8, h8⟩ := hW2.o7
  refine ev_ss DL_law_0 2 74 (pc' := 226) (lv' := [(7, .int _), (6, .int _), (0, .ref _), (1, .ref _), (2, .ref _), (3, .ref _), (4, .ref _), (5, .int _)]) (st' := [.ref _]) rfl ?_
  refine ev_cV DL_law_0 76 hW2.th vX7_thrown rfl qL_101 rfl h8 rfl (hd_of rfl rfl rfl rfl) ?_
  refine ev_ss DL_law_0 1 77 (pc' := 231) (lv' := [(7, .int _), (6, .int _), (0, .ref _), (1, .ref _), (2, .ref _), (3, .ref _), (4, .ref _), (5, .int _)]) (st' := [.int _, .int _]) rfl ?_
  refine ev_iceq DL_law_0 78 rfl (tgt := 236) (by decide) (fun _ => ?_) (fun h => h.elim rfl)
  refine ev_ss DL_law_0 1 81 (pc' := 238) (lv' := [(7, .int _), (6, .int _), (0, .ref _), (1, .ref _), (2, .ref _), (3, .ref _), (4, .ref _), (5, .int _)]) (st' := [.int _]) rfl ?_
  refine ev_ifne DL_law_0 82 rfl (tgt := 253) (by decide) (fun c_2 => ?_) (fun c_2 => ?_)
  · refine ev_goto DL_law_0 92 rfl (tgt := 1728) (by decide) ?_
    refine ev_ss DL_law_8 1 85 (pc' := 1731) (lv' := [(5, .int _), (7, .int _), (6, .int _), (0, .ref _), (1, .ref _), (2, .ref _), (3, .ref _), (4, .ref _)]) (st' := []) rfl ?_
    refine ev_goto DL_law_8 86 rfl (tgt := 28) (by decide) ?_
    refine ev_lvp [3, 4, 5, 6, 7, 0] (lv2 := lawL E ad (nI i + 5)) rfl ?_
    exact ev_room (by omega) (by omega) (hK _ _ _ _ hW2)
  · refine ev_ss DL_law_0 2 83 (pc' := 243) (lv' := [(7, .int _), (6, .int _), (0, .ref _), (1, .ref _), (2, .ref _), (3, .ref _), (4, .ref _), (5, .int _)]) (st' := [.int 0, .ref _]) rfl ?_
    refine ev_lald DL_law_0 85 rfl hW2.h3 (by unfold vp_in; decide) ?_
    refine ev_ss DL_law_0 3 86 (pc' := 248) (lv' := [(7, .int _), (6, .int _), (0, .ref _), (1, .ref _), (2, .ref _), (3, .ref _), (4, .ref _), (5, .int _)]) (st' := [.int _]) rfl ?_
    refine ev_ifeq DL_law_0 89 rfl (tgt := 253) (by decide) (fun _ => ?_) (fun h => h.elim (lcm_eq (hR c_2)))
    refine ev_goto DL_law_0 92 rfl (tgt := 1728) (by decide) ?_
    refine ev_ss DL_law_8 1 85 (pc' := 1731) (lv' := [(5, .int _), (7, .int _), (6, .int _), (0, .ref _), (1, .ref _), (2, .ref _), (3, .ref _), (4, .ref _)]) (st' := []) rfl ?_
    refine ev_goto DL_law_8 86 rfl (tgt := 28) (by decide) ?_
    refine ev_lvp [3, 4, 5, 6, 7, 0] (lv2 := lawL E ad (nI i + 5)) rfl ?_
    exact ev_room (by omega) (by omega) (hK _ _ _ _ hW2)
set_option maxRecDepth 100000 in
set_option maxHeartbeats 4000000 in
theorem LC_1 {E : gE} {ad : Nat → Nat} {Pr : Option Value → va_W → Prop} {ws : va_W} {tw : Int32} {o : Nat → Int64} {d : Nat → UInt64} {i kk nn : Nat} (hW : WD E ad ws tw o d) (hi : i + 4 < (gSc E).2.1) (hN : (gSc E).2.1 < 2 ^ 31) (hK : ∀ (w : va_W) (k : Int32) (o : Nat → Int64) (d : Nat → UInt64), WD E ad w k o d → Ev E YL_law Pr nX kk nn 28 (lawL E ad (nI i + 5)) [] w) : Ev E YL_law Pr nX (kk + 1) (nn + 6) 256 (lawL E ad (nI i)) [] ws := by
  refine ev_ss DL_law_0 5 93 (pc' := 262) (lv' := [(0, .ref _), (1, .ref _), (2, .ref _), (3, .ref _), (4, .ref _), (5, .int _)]) (st' := [.int _, .ref _, .ref _]) rfl ?_
  refine ev_sld DL_law_0 98 rfl (sv_in (k := (i + 1)) (nx_add (a := i) (b := 1) rfl rfl) (by omega) hN) ?_
  refine ev_ss DL_law_0 4 99 (pc' := 268) (lv' := [(0, .ref _), (1, .ref _), (2, .ref _), (3, .ref _), (4, .ref _), (5, .int _)]) (st' := [.int _, .ref _, .int _, .ref _]) rfl ?_
  refine ev_sld DL_law_0 103 rfl (sv_in (k := (i + 2)) (nx_add (a := i) (b := 2) rfl rfl) (by omega) hN) ?_
  refine ev_ss DL_law_0 4 104 (pc' := 274) (lv' := [(0, .ref _), (1, .ref _), (2, .ref _), (3, .ref _), (4, .ref _), (5, .int _)]) (st' := [.int _, .ref _, .int _, .int _, .ref _]) rfl ?_
  refine ev_sld DL_law_0 108 rfl (sv_in (k := (i + 3)) (nx_add (a := i) (b := 3) rfl rfl) (by omega) hN) ?_
  refine ev_ss DL_law_0 1 109 (pc' := 276) (lv' := [(0, .ref _), (1, .ref _), (2, .ref _), (3, .ref _), (4, .ref _), (5, .int _)]) (st' := [.ref _, .int _, .int _, .int _, .ref _]) rfl ?_
  refine ev_callSW DL_law_0 110 vL_carry rfl qL_104 (Nat.le_of_ble_eq_true rfl) (Nat.le_of_ble_eq_true rfl) rfl (st := []) (Nat.le_of_ble_eq_true rfl) rfl (k1 := 1) (n1 := 6) (k2 := kk) (n2 := nn) (by omega) (by omega) (J_carry hW _ _ _) (fun v1 w1 h1 => ?_)
  obtain ⟨k1, rfl, ⟨f7, h7⟩, hB⟩ := h1
  refine ev_ss DL_law_0 6 111 (pc' := 287) (lv' := [(6, .int _), (0, .ref _), (1, .ref _), (2, .ref _), (3, .ref _), (4, .ref _), (5, .int _)]) (st' := [.int _, .ref _, .ref _]) rfl ?_
  refine ev_sld DL_law_0 117 rfl (sv_in (k := (i + 1)) (nx_add (a := i) (b := 1) rfl rfl) (by omega) hN) ?_
  refine ev_ss DL_law_0 2 118 (pc' := 291) (lv' := [(6, .int _), (0, .ref _), (1, .ref _), (2, .ref _), (3, .ref _), (4, .ref _), (5, .int _)]) (st' := [.int _, .ref _, .int _, .ref _]) rfl ?_
  refine ev_ss DL_law_1 2 0 (pc' := 293) (lv' := [(6, .int _), (0, .ref _), (1, .ref _), (2, .ref _), (3, .ref _), (4, .ref _), (5, .int _)]) (st' := [.int _, .ref _, .int _, .ref _]) rfl ?_
  refine ev_sld DL_law_1 2 rfl (sv_in (k := (i + 2)) (nx_add (a := i) (b := 2) rfl rfl) (by omega) hN) ?_
  refine ev_ss DL_law_1 4 3 (pc' := 299) (lv' := [(6, .int _), (0, .ref _), (1, .ref _), (2, .ref _), (3, .ref _), (4, .ref _), (5, .int _)]) (st' := [.int _, .ref _, .int _, .int _, .ref _]) rfl ?_
  refine ev_sld DL_law_1 7 rfl (sv_in (k := (i + 3)) (nx_add (a := i) (b := 3) rfl rfl) (by omega) hN) ?_
  refine ev_rV DL_law_1 8 hB vX7_carry rfl qL_107 rfl h7 rfl (hd_of rfl rfl rfl rfl) (fun v2 w2 h2 => ?_)
  obtain ⟨o2, d2, ⟨R, rfl, hR⟩, hW2⟩ := h2
  obtain ⟨f8, h8⟩ := hW2.o7
  refine ev_ss DL_law_1 2 9 (pc' := 306) (lv' := [(7, .int _), (6, .int _), (0, .ref _), (1, .ref _), (2, .ref _), (3, .ref _), (4, .ref _), (5, .int _)]) (st' := [.ref _]) rfl ?_
  refine ev_cV DL_law_1 11 hW2.th vX7_thrown rfl qL_101 rfl h8 rfl (hd_of rfl rfl rfl rfl) ?_
  refine ev_ss DL_law_1 1 12 (pc' := 311) (lv' := [(7, .int _), (6, .int _), (0, .ref _), (1, .ref _), (2, .ref _), (3, .ref _), (4, .ref _), (5, .int _)]) (st' := [.int _, .int _]) rfl ?_
  refine ev_iceq DL_law_1 13 rfl (tgt := 316) (by decide) (fun _ => ?_) (fun h => h.elim rfl)
  refine ev_ss DL_law_1 1 16 (pc' := 318) (lv' := [(7, .int _), (6, .int _), (0, .ref _), (1, .ref _), (2, .ref _), (3, .ref _), (4, .ref _), (5, .int _)]) (st' := [.int _]) rfl ?_
  refine ev_ifne DL_law_1 17 rfl (tgt := 333) (by decide) (fun c_2 => ?_) (fun c_2 => ?_)
  · refine ev_goto DL_law_1 27 rfl (tgt := 1728) (by decide) ?_
    refine ev_ss DL_law_8 1 85 (pc' := 1731) (lv' := [(5, .int _), (7, .int _), (6, .int _), (0, .ref _), (1, .ref _), (2, .ref _), (3, .ref _), (4, .ref _)]) (st' := []) rfl ?_
    refine ev_goto DL_law_8 86 rfl (tgt := 28) (by decide) ?_
    refine ev_lvp [3, 4, 5, 6, 7, 0] (lv2 := lawL E ad (nI i + 5)) rfl ?_
    exact ev_room (by omega) (by omega) (hK _ _ _ _ hW2)
  · refine ev_ss DL_law_1 2 18 (pc' := 323) (lv' := [(7, .int _), (6, .int _), (0, .ref _), (1, .ref _), (2, .ref _), (3, .ref _), (4, .ref _), (5, .int _)]) (st' := [.int 0, .ref _]) rfl ?_
    refine ev_lald DL_law_1 20 rfl hW2.h3 (by unfold vp_in; decide) ?_
    refine ev_ss DL_law_1 3 21 (pc' := 328) (lv' := [(7, .int _), (6, .int _), (0, .ref _), (1, .ref _), (2, .ref _), (3, .ref _), (4, .ref _), (5, .int _)]) (st' := [.int _]) rfl ?_
    refine ev_ifeq DL_law_1 24 rfl (tgt := 333) (by decide) (fun _ => ?_) (fun h => h.elim (lcm_eq (hR c_2)))
    refine ev_goto DL_law_1 27 rfl (tgt := 1728) (by decide) ?_
    refine ev_ss DL_law_8 1 85 (pc' := 1731) (lv' := [(5, .int _), (7, .int _), (6, .int _), (0, .ref _), (1, .ref _), (2, .ref _), (3, .ref _), (4, .ref _)]) (st' := []) rfl ?_
    refine ev_goto DL_law_8 86 rfl (tgt := 28) (by decide) ?_
    refine ev_lvp [3, 4, 5, 6, 7, 0] (lv2 := lawL E ad (nI i + 5)) rfl ?_
    exact ev_room (by omega) (by omega) (hK _ _ _ _ hW2)
set_option maxRecDepth 100000 in
set_option maxHeartbeats 4000000 in
theorem LC_2 {E : gE} {ad : Nat → Nat} {Pr : Option Value → va_W → Prop} {ws : va_W} {tw : Int32} {o : Nat → Int64} {d : Nat → UInt64} {i kk nn : Nat} (hW : WD E ad ws tw o d) (hi : i + 4 < (gSc E).2.1) (hN : (gSc E).2.1 < 2 ^ 31) (hK : ∀ (w : va_W) (k : Int32) (o : Nat → Int64) (d : Nat → UInt64), WD E ad w k o d → Ev E YL_law Pr nX kk nn 28 (lawL E ad (nI i + 5)) [] w) : Ev E YL_law Pr nX (kk + 1) (nn + 6) 336 (lawL E ad (nI i)) [] ws := by
  refine ev_ss DL_law_1 5 28 (pc' := 342) (lv' := [(0, .ref _), (1, .ref _), (2, .ref _), (3, .ref _), (4, .ref _), (5, .int _)]) (st' := [.int _, .ref _, .ref _]) rfl ?_
  refine ev_sld DL_law_1 33 rfl (sv_in (k := (i + 1)) (nx_add (a := i) (b := 1) rfl rfl) (by omega) hN) ?_
  refine ev_ss DL_law_1 4 34 (pc' := 348) (lv' := [(0, .ref _), (1, .ref _), (2, .ref _), (3, .ref _), (4, .ref _), (5, .int _)]) (st' := [.int _, .ref _, .int _, .ref _]) rfl ?_
  refine ev_sld DL_law_1 38 rfl (sv_in (k := (i + 2)) (nx_add (a := i) (b := 2) rfl rfl) (by omega) hN) ?_
  refine ev_ss DL_law_1 4 39 (pc' := 354) (lv' := [(0, .ref _), (1, .ref _), (2, .ref _), (3, .ref _), (4, .ref _), (5, .int _)]) (st' := [.int _, .ref _, .int _, .int _, .ref _]) rfl ?_
  refine ev_sld DL_law_1 43 rfl (sv_in (k := (i + 3)) (nx_add (a := i) (b := 3) rfl rfl) (by omega) hN) ?_
  refine ev_ss DL_law_1 1 44 (pc' := 356) (lv' := [(0, .ref _), (1, .ref _), (2, .ref _), (3, .ref _), (4, .ref _), (5, .int _)]) (st' := [.ref _, .int _, .int _, .int _, .ref _]) rfl ?_
  refine ev_callSW DL_law_1 45 vL_insult rfl qL_108 (Nat.le_of_ble_eq_true rfl) (Nat.le_of_ble_eq_true rfl) rfl (st := []) (Nat.le_of_ble_eq_true rfl) rfl (k1 := 1) (n1 := 6) (k2 := kk) (n2 := nn) (by omega) (by omega) (J_insult hW _ _ _) (fun v1 w1 h1 => ?_)
  obtain ⟨k1, rfl, ⟨f7, h7⟩, hB⟩ := h1
  refine ev_ss DL_law_1 6 46 (pc' := 367) (lv' := [(6, .int _), (0, .ref _), (1, .ref _), (2, .ref _), (3, .ref _), (4, .ref _), (5, .int _)]) (st' := [.int _, .ref _, .ref _]) rfl ?_
  refine ev_sld DL_law_1 52 rfl (sv_in (k := (i + 1)) (nx_add (a := i) (b := 1) rfl rfl) (by omega) hN) ?_
  refine ev_ss DL_law_1 4 53 (pc' := 373) (lv' := [(6, .int _), (0, .ref _), (1, .ref _), (2, .ref _), (3, .ref _), (4, .ref _), (5, .int _)]) (st' := [.int _, .ref _, .int _, .ref _]) rfl ?_
  refine ev_sld DL_law_1 57 rfl (sv_in (k := (i + 2)) (nx_add (a := i) (b := 2) rfl rfl) (by omega) hN) ?_
  refine ev_ss DL_law_1 4 58 (pc' := 379) (lv' := [(6, .int _), (0, .ref _), (1, .ref _), (2, .ref _), (3, .ref _), (4, .ref _), (5, .int _)]) (st' := [.int _, .ref _, .int _, .int _, .ref _]) rfl ?_
  refine ev_sld DL_law_1 62 rfl (sv_in (k := (i + 3)) (nx_add (a := i) (b := 3) rfl rfl) (by omega) hN) ?_
  refine ev_rV DL_law_1 63 hB vX7_insult rfl qL_110 rfl h7 rfl (hd_of rfl rfl rfl rfl) (fun v2 w2 h2 => ?_)
  obtain ⟨o2, d2, ⟨R, rfl, hR⟩, hW2⟩ := h2
  obtain ⟨f8, h8⟩ := hW2.o7
  refine ev_ss DL_law_1 2 64 (pc' := 386) (lv' := [(7, .int _), (6, .int _), (0, .ref _), (1, .ref _), (2, .ref _), (3, .ref _), (4, .ref _), (5, .int _)]) (st' := [.ref _]) rfl ?_
  refine ev_cV DL_law_1 66 hW2.th vX7_thrown rfl qL_101 rfl h8 rfl (hd_of rfl rfl rfl rfl) ?_
  refine ev_ss DL_law_1 1 67 (pc' := 391) (lv' := [(7, .int _), (6, .int _), (0, .ref _), (1, .ref _), (2, .ref _), (3, .ref _), (4, .ref _), (5, .int _)]) (st' := [.int _, .int _]) rfl ?_
  refine ev_iceq DL_law_1 68 rfl (tgt := 396) (by decide) (fun _ => ?_) (fun h => h.elim rfl)
  refine ev_ss DL_law_1 1 71 (pc' := 398) (lv' := [(7, .int _), (6, .int _), (0, .ref _), (1, .ref _), (2, .ref _), (3, .ref _), (4, .ref _), (5, .int _)]) (st' := [.int _]) rfl ?_
  refine ev_ifne DL_law_1 72 rfl (tgt := 413) (by decide) (fun c_2 => ?_) (fun c_2 => ?_)
  · refine ev_goto DL_law_1 82 rfl (tgt := 1728) (by decide) ?_
    refine ev_ss DL_law_8 1 85 (pc' := 1731) (lv' := [(5, .int _), (7, .int _), (6, .int _), (0, .ref _), (1, .ref _), (2, .ref _), (3, .ref _), (4, .ref _)]) (st' := []) rfl ?_
    refine ev_goto DL_law_8 86 rfl (tgt := 28) (by decide) ?_
    refine ev_lvp [3, 4, 5, 6, 7, 0] (lv2 := lawL E ad (nI i + 5)) rfl ?_
    exact ev_room (by omega) (by omega) (hK _ _ _ _ hW2)
  · refine ev_ss DL_law_1 2 73 (pc' := 403) (lv' := [(7, .int _), (6, .int _), (0, .ref _), (1, .ref _), (2, .ref _), (3, .ref _), (4, .ref _), (5, .int _)]) (st' := [.int 0, .ref _]) rfl ?_
    refine ev_lald DL_law_1 75 rfl hW2.h3 (by unfold vp_in; decide) ?_
    refine ev_ss DL_law_1 3 76 (pc' := 408) (lv' := [(7, .int _), (6, .int _), (0, .ref _), (1, .ref _), (2, .ref _), (3, .ref _), (4, .ref _), (5, .int _)]) (st' := [.int _]) rfl ?_
    refine ev_ifeq DL_law_1 79 rfl (tgt := 413) (by decide) (fun _ => ?_) (fun h => h.elim (lcm_eq (hR c_2)))
    refine ev_goto DL_law_1 82 rfl (tgt := 1728) (by decide) ?_
    refine ev_ss DL_law_8 1 85 (pc' := 1731) (lv' := [(5, .int _), (7, .int _), (6, .int _), (0, .ref _), (1, .ref _), (2, .ref _), (3, .ref _), (4, .ref _)]) (st' := []) rfl ?_
    refine ev_goto DL_law_8 86 rfl (tgt := 28) (by decide) ?_
    refine ev_lvp [3, 4, 5, 6, 7, 0] (lv2 := lawL E ad (nI i + 5)) rfl ?_
    exact ev_room (by omega) (by omega) (hK _ _ _ _ hW2)
set_option maxRecDepth 100000 in
set_option maxHeartbeats 4000000 in
theorem LC_3 {E : gE} {ad : Nat → Nat} {Pr : Option Value → va_W → Prop} {ws : va_W} {tw : Int32} {o : Nat → Int64} {d : Nat → UInt64} {i kk nn : Nat} (hW : WD E ad ws tw o d) (hi : i + 4 < (gSc E).2.1) (hN : (gSc E).2.1 < 2 ^ 31) (hK : ∀ (w : va_W) (k : Int32) (o : Nat → Int64) (d : Nat → UInt64), WD E ad w k o d → Ev E YL_law Pr nX kk nn 28 (lawL E ad (nI i + 5)) [] w) : Ev E YL_law Pr nX (kk + 1) (nn + 6) 416 (lawL E ad (nI i)) [] ws := by
  refine ev_ss DL_law_1 5 83 (pc' := 422) (lv' := [(0, .ref _), (1, .ref _), (2, .ref _), (3, .ref _), (4, .ref _), (5, .int _)]) (st' := [.int _, .ref _, .ref _]) rfl ?_
  refine ev_sld DL_law_1 88 rfl (sv_in (k := (i + 1)) (nx_add (a := i) (b := 1) rfl rfl) (by omega) hN) ?_
  refine ev_ss DL_law_1 4 89 (pc' := 428) (lv' := [(0, .ref _), (1, .ref _), (2, .ref _), (3, .ref _), (4, .ref _), (5, .int _)]) (st' := [.int _, .ref _, .int _, .ref _]) rfl ?_
  refine ev_sld DL_law_1 93 rfl (sv_in (k := (i + 2)) (nx_add (a := i) (b := 2) rfl rfl) (by omega) hN) ?_
  refine ev_ss DL_law_1 1 94 (pc' := 430) (lv' := [(0, .ref _), (1, .ref _), (2, .ref _), (3, .ref _), (4, .ref _), (5, .int _)]) (st' := [.ref _, .int _, .int _, .ref _]) rfl ?_
  refine ev_callSW DL_law_1 95 vL_set rfl qL_111 (Nat.le_of_ble_eq_true rfl) (Nat.le_of_ble_eq_true rfl) rfl (st := []) (Nat.le_of_ble_eq_true rfl) rfl (k1 := 1) (n1 := 6) (k2 := kk) (n2 := nn) (by omega) (by omega) (J_set hW _ _) (fun v1 w1 h1 => ?_)
  obtain ⟨k1, rfl, ⟨f7, h7⟩, hB⟩ := h1
  refine ev_ss DL_law_1 6 96 (pc' := 441) (lv' := [(6, .int _), (0, .ref _), (1, .ref _), (2, .ref _), (3, .ref _), (4, .ref _), (5, .int _)]) (st' := [.int _, .ref _, .ref _]) rfl ?_
  refine ev_sld DL_law_1 102 rfl (sv_in (k := (i + 1)) (nx_add (a := i) (b := 1) rfl rfl) (by omega) hN) ?_
  refine ev_ss DL_law_1 4 103 (pc' := 447) (lv' := [(6, .int _), (0, .ref _), (1, .ref _), (2, .ref _), (3, .ref _), (4, .ref _), (5, .int _)]) (st' := [.int _, .ref _, .int _, .ref _]) rfl ?_
  refine ev_sld DL_law_1 107 rfl (sv_in (k := (i + 2)) (nx_add (a := i) (b := 2) rfl rfl) (by omega) hN) ?_
  refine ev_rV DL_law_1 108 hB vX7_set rfl qL_114 rfl h7 rfl (hd_of rfl rfl rfl rfl) (fun v2 w2 h2 => ?_)
  obtain ⟨o2, d2, ⟨R, rfl, hR⟩, hW2⟩ := h2
  obtain ⟨f8, h8⟩ := hW2.o7
  refine ev_ss DL_law_1 2 109 (pc' := 454) (lv' := [(7, .int _), (6, .int _), (0, .ref _), (1, .ref _), (2, .ref _), (3, .ref _), (4, .ref _), (5, .int _)]) (st' := [.ref _]) rfl ?_
  refine ev_cV DL_law_1 111 hW2.th vX7_thrown rfl qL_101 rfl h8 rfl (hd_of rfl rfl rfl rfl) ?_
  refine ev_ss DL_law_1 1 112 (pc' := 459) (lv' := [(7, .int _), (6, .int _), (0, .ref _), (1, .ref _), (2, .ref _), (3, .ref _), (4, .ref _), (5, .int _)]) (st' := [.int _, .int _]) rfl ?_
  refine ev_iceq DL_law_1 113 rfl (tgt := 464) (by decide) (fun _ => ?_) (fun h => h.elim rfl)
  refine ev_ss DL_law_1 1 116 (pc' := 466) (lv' := [(7, .int _), (6, .int _), (0, .ref _), (1, .ref _), (2, .ref _), (3, .ref _), (4, .ref _), (5, .int _)]) (st' := [.int _]) rfl ?_
  refine ev_ifne DL_law_1 117 rfl (tgt := 481) (by decide) (fun c_2 => ?_) (fun c_2 => ?_)
  · refine ev_goto DL_law_2 7 rfl (tgt := 1728) (by decide) ?_
    refine ev_ss DL_law_8 1 85 (pc' := 1731) (lv' := [(5, .int _), (7, .int _), (6, .int _), (0, .ref _), (1, .ref _), (2, .ref _), (3, .ref _), (4, .ref _)]) (st' := []) rfl ?_
    refine ev_goto DL_law_8 86 rfl (tgt := 28) (by decide) ?_
    refine ev_lvp [3, 4, 5, 6, 7, 0] (lv2 := lawL E ad (nI i + 5)) rfl ?_
    exact ev_room (by omega) (by omega) (hK _ _ _ _ hW2)
  · refine ev_ss DL_law_1 2 118 (pc' := 471) (lv' := [(7, .int _), (6, .int _), (0, .ref _), (1, .ref _), (2, .ref _), (3, .ref _), (4, .ref _), (5, .int _)]) (st' := [.int 0, .ref _]) rfl ?_
    refine ev_lald DL_law_2 0 rfl hW2.h3 (by unfold vp_in; decide) ?_
    refine ev_ss DL_law_2 3 1 (pc' := 476) (lv' := [(7, .int _), (6, .int _), (0, .ref _), (1, .ref _), (2, .ref _), (3, .ref _), (4, .ref _), (5, .int _)]) (st' := [.int _]) rfl ?_
    refine ev_ifeq DL_law_2 4 rfl (tgt := 481) (by decide) (fun _ => ?_) (fun h => h.elim (lcm_eq (hR c_2)))
    refine ev_goto DL_law_2 7 rfl (tgt := 1728) (by decide) ?_
    refine ev_ss DL_law_8 1 85 (pc' := 1731) (lv' := [(5, .int _), (7, .int _), (6, .int _), (0, .ref _), (1, .ref _), (2, .ref _), (3, .ref _), (4, .ref _)]) (st' := []) rfl ?_
    refine ev_goto DL_law_8 86 rfl (tgt := 28) (by decide) ?_
    refine ev_lvp [3, 4, 5, 6, 7, 0] (lv2 := lawL E ad (nI i + 5)) rfl ?_
    exact ev_room (by omega) (by omega) (hK _ _ _ _ hW2)
set_option maxRecDepth 100000 in
set_option maxHeartbeats 4000000 in
theorem LC_4 {E : gE} {ad : Nat → Nat} {Pr : Option Value → va_W → Prop} {ws : va_W} {tw : Int32} {o : Nat → Int64} {d : Nat → UInt64} {i kk nn : Nat} (hW : WD E ad ws tw o d) (hi : i + 4 < (gSc E).2.1) (hN : (gSc E).2.1 < 2 ^ 31) (hK : ∀ (w : va_W) (k : Int32) (o : Nat → Int64) (d : Nat → UInt64), WD E ad w k o d → Ev E YL_law Pr nX kk nn 28 (lawL E ad (nI i + 5)) [] w) : Ev E YL_law Pr nX (kk + 1) (nn + 6) 484 (lawL E ad (nI i)) [] ws := by
  refine ev_ss DL_law_2 5 8 (pc' := 490) (lv' := [(0, .ref _), (1, .ref _), (2, .ref _), (3, .ref _), (4, .ref _), (5, .int _)]) (st' := [.int _, .ref _, .ref _]) rfl ?_
  refine ev_sld DL_law_2 13 rfl (sv_in (k := (i + 1)) (nx_add (a := i) (b := 1) rfl rfl) (by omega) hN) ?_
  refine ev_ss DL_law_2 4 14 (pc' := 496) (lv' := [(0, .ref _), (1, .ref _), (2, .ref _), (3, .ref _), (4, .ref _), (5, .int _)]) (st' := [.int _, .ref _, .int _, .ref _]) rfl ?_
  refine ev_sld DL_law_2 18 rfl (sv_in (k := (i + 2)) (nx_add (a := i) (b := 2) rfl rfl) (by omega) hN) ?_
  refine ev_ss DL_law_2 1 19 (pc' := 498) (lv' := [(0, .ref _), (1, .ref _), (2, .ref _), (3, .ref _), (4, .ref _), (5, .int _)]) (st' := [.ref _, .int _, .int _, .ref _]) rfl ?_
  refine ev_callSW DL_law_2 20 vL_learn rfl qL_115 (Nat.le_of_ble_eq_true rfl) (Nat.le_of_ble_eq_true rfl) rfl (st := []) (Nat.le_of_ble_eq_true rfl) rfl (k1 := 1) (n1 := 6) (k2 := kk) (n2 := nn) (by omega) (by omega) (J_learn hW _ _) (fun v1 w1 h1 => ?_)
  obtain ⟨k1, rfl, ⟨f7, h7⟩, hB⟩ := h1
  refine ev_ss DL_law_2 6 21 (pc' := 509) (lv' := [(6, .int _), (0, .ref _), (1, .ref _), (2, .ref _), (3, .ref _), (4, .ref _), (5, .int _)]) (st' := [.int _, .ref _, .ref _]) rfl ?_
  refine ev_sld DL_law_2 27 rfl (sv_in (k := (i + 1)) (nx_add (a := i) (b := 1) rfl rfl) (by omega) hN) ?_
  refine ev_ss DL_law_2 4 28 (pc' := 515) (lv' := [(6, .int _), (0, .ref _), (1, .ref _), (2, .ref _), (3, .ref _), (4, .ref _), (5, .int _)]) (st' := [.int _, .ref _, .int _, .ref _]) rfl ?_
  refine ev_sld DL_law_2 32 rfl (sv_in (k := (i + 2)) (nx_add (a := i) (b := 2) rfl rfl) (by omega) hN) ?_
  refine ev_rV DL_law_2 33 hB vX7_learn rfl qL_117 rfl h7 rfl (hd_of rfl rfl rfl rfl) (fun v2 w2 h2 => ?_)
  obtain ⟨o2, d2, ⟨R, rfl, hR⟩, hW2⟩ := h2
  obtain ⟨f8, h8⟩ := hW2.o7
  refine ev_ss DL_law_2 2 34 (pc' := 522) (lv' := [(7, .int _), (6, .int _), (0, .ref _), (1, .ref _), (2, .ref _), (3, .ref _), (4, .ref _), (5, .int _)]) (st' := [.ref _]) rfl ?_
  refine ev_cV DL_law_2 36 hW2.th vX7_thrown rfl qL_101 rfl h8 rfl (hd_of rfl rfl rfl rfl) ?_
  refine ev_ss DL_law_2 1 37 (pc' := 527) (lv' := [(7, .int _), (6, .int _), (0, .ref _), (1, .ref _), (2, .ref _), (3, .ref _), (4, .ref _), (5, .int _)]) (st' := [.int _, .int _]) rfl ?_
  refine ev_iceq DL_law_2 38 rfl (tgt := 532) (by decide) (fun _ => ?_) (fun h => h.elim rfl)
  refine ev_ss DL_law_2 1 41 (pc' := 534) (lv' := [(7, .int _), (6, .int _), (0, .ref _), (1, .ref _), (2, .ref _), (3, .ref _), (4, .ref _), (5, .int _)]) (st' := [.int _]) rfl ?_
  refine ev_ifne DL_law_2 42 rfl (tgt := 549) (by decide) (fun c_2 => ?_) (fun c_2 => ?_)
  · refine ev_goto DL_law_2 52 rfl (tgt := 1728) (by decide) ?_
    refine ev_ss DL_law_8 1 85 (pc' := 1731) (lv' := [(5, .int _), (7, .int _), (6, .int _), (0, .ref _), (1, .ref _), (2, .ref _), (3, .ref _), (4, .ref _)]) (st' := []) rfl ?_
    refine ev_goto DL_law_8 86 rfl (tgt := 28) (by decide) ?_
    refine ev_lvp [3, 4, 5, 6, 7, 0] (lv2 := lawL E ad (nI i + 5)) rfl ?_
    exact ev_room (by omega) (by omega) (hK _ _ _ _ hW2)
  · refine ev_ss DL_law_2 2 43 (pc' := 539) (lv' := [(7, .int _), (6, .int _), (0, .ref _), (1, .ref _), (2, .ref _), (3, .ref _), (4, .ref _), (5, .int _)]) (st' := [.int 0, .ref _]) rfl ?_
    refine ev_lald DL_law_2 45 rfl hW2.h3 (by unfold vp_in; decide) ?_
    refine ev_ss DL_law_2 3 46 (pc' := 544) (lv' := [(7, .int _), (6, .int _), (0, .ref _), (1, .ref _), (2, .ref _), (3, .ref _), (4, .ref _), (5, .int _)]) (st' := [.int _]) rfl ?_
    refine ev_ifeq DL_law_2 49 rfl (tgt := 549) (by decide) (fun _ => ?_) (fun h => h.elim (lcm_eq (hR c_2)))
    refine ev_goto DL_law_2 52 rfl (tgt := 1728) (by decide) ?_
    refine ev_ss DL_law_8 1 85 (pc' := 1731) (lv' := [(5, .int _), (7, .int _), (6, .int _), (0, .ref _), (1, .ref _), (2, .ref _), (3, .ref _), (4, .ref _)]) (st' := []) rfl ?_
    refine ev_goto DL_law_8 86 rfl (tgt := 28) (by decide) ?_
    refine ev_lvp [3, 4, 5, 6, 7, 0] (lv2 := lawL E ad (nI i + 5)) rfl ?_
    exact ev_room (by omega) (by omega) (hK _ _ _ _ hW2)
set_option maxRecDepth 100000 in
set_option maxHeartbeats 4000000 in
theorem LC_5 {E : gE} {ad : Nat → Nat} {Pr : Option Value → va_W → Prop} {ws : va_W} {tw : Int32} {o : Nat → Int64} {d : Nat → UInt64} {i kk nn : Nat} (hW : WD E ad ws tw o d) (hi : i + 4 < (gSc E).2.1) (hN : (gSc E).2.1 < 2 ^ 31) (hK : ∀ (w : va_W) (k : Int32) (o : Nat → Int64) (d : Nat → UInt64), WD E ad w k o d → Ev E YL_law Pr nX kk nn 28 (lawL E ad (nI i + 5)) [] w) : Ev E YL_law Pr nX (kk + 1) (nn + 6) 552 (lawL E ad (nI i)) [] ws := by
  refine ev_ss DL_law_2 5 53 (pc' := 558) (lv' := [(0, .ref _), (1, .ref _), (2, .ref _), (3, .ref _), (4, .ref _), (5, .int _)]) (st' := [.int _, .ref _, .ref _]) rfl ?_
  refine ev_sld DL_law_2 58 rfl (sv_in (k := (i + 1)) (nx_add (a := i) (b := 1) rfl rfl) (by omega) hN) ?_
  refine ev_ss DL_law_2 4 59 (pc' := 564) (lv' := [(0, .ref _), (1, .ref _), (2, .ref _), (3, .ref _), (4, .ref _), (5, .int _)]) (st' := [.int _, .ref _, .int _, .ref _]) rfl ?_
  refine ev_sld DL_law_2 63 rfl (sv_in (k := (i + 2)) (nx_add (a := i) (b := 2) rfl rfl) (by omega) hN) ?_
  refine ev_ss DL_law_2 1 64 (pc' := 566) (lv' := [(0, .ref _), (1, .ref _), (2, .ref _), (3, .ref _), (4, .ref _), (5, .int _)]) (st' := [.ref _, .int _, .int _, .ref _]) rfl ?_
  refine ev_callSW DL_law_2 65 vL_send rfl qL_118 (Nat.le_of_ble_eq_true rfl) (Nat.le_of_ble_eq_true rfl) rfl (st := []) (Nat.le_of_ble_eq_true rfl) rfl (k1 := 1) (n1 := 6) (k2 := kk) (n2 := nn) (by omega) (by omega) (J_send hW _ _) (fun v1 w1 h1 => ?_)
  obtain ⟨k1, rfl, ⟨f7, h7⟩, hB⟩ := h1
  refine ev_ss DL_law_2 6 66 (pc' := 577) (lv' := [(6, .int _), (0, .ref _), (1, .ref _), (2, .ref _), (3, .ref _), (4, .ref _), (5, .int _)]) (st' := [.int _, .ref _, .ref _]) rfl ?_
  refine ev_sld DL_law_2 72 rfl (sv_in (k := (i + 1)) (nx_add (a := i) (b := 1) rfl rfl) (by omega) hN) ?_
  refine ev_ss DL_law_2 4 73 (pc' := 583) (lv' := [(6, .int _), (0, .ref _), (1, .ref _), (2, .ref _), (3, .ref _), (4, .ref _), (5, .int _)]) (st' := [.int _, .ref _, .int _, .ref _]) rfl ?_
  refine ev_sld DL_law_2 77 rfl (sv_in (k := (i + 2)) (nx_add (a := i) (b := 2) rfl rfl) (by omega) hN) ?_
  refine ev_rV DL_law_2 78 hB vX7_send rfl qL_120 rfl h7 rfl (hd_of rfl rfl rfl rfl) (fun v2 w2 h2 => ?_)
  obtain ⟨o2, d2, ⟨R, rfl, hR⟩, hW2⟩ := h2
  obtain ⟨f8, h8⟩ := hW2.o7
  refine ev_ss DL_law_2 2 79 (pc' := 590) (lv' := [(7, .int _), (6, .int _), (0, .ref _), (1, .ref _), (2, .ref _), (3, .ref _), (4, .ref _), (5, .int _)]) (st' := [.ref _]) rfl ?_
  refine ev_cV DL_law_2 81 hW2.th vX7_thrown rfl qL_101 rfl h8 rfl (hd_of rfl rfl rfl rfl) ?_
  refine ev_ss DL_law_2 1 82 (pc' := 595) (lv' := [(7, .int _), (6, .int _), (0, .ref _), (1, .ref _), (2, .ref _), (3, .ref _), (4, .ref _), (5, .int _)]) (st' := [.int _, .int _]) rfl ?_
  refine ev_iceq DL_law_2 83 rfl (tgt := 600) (by decide) (fun _ => ?_) (fun h => h.elim rfl)
  refine ev_ss DL_law_2 1 86 (pc' := 602) (lv' := [(7, .int _), (6, .int _), (0, .ref _), (1, .ref _), (2, .ref _), (3, .ref _), (4, .ref _), (5, .int _)]) (st' := [.int _]) rfl ?_
  refine ev_ifne DL_law_2 87 rfl (tgt := 617) (by decide) (fun c_2 => ?_) (fun c_2 => ?_)
  · refine ev_goto DL_law_2 97 rfl (tgt := 1728) (by decide) ?_
    refine ev_ss DL_law_8 1 85 (pc' := 1731) (lv' := [(5, .int _), (7, .int _), (6, .int _), (0, .ref _), (1, .ref _), (2, .ref _), (3, .ref _), (4, .ref _)]) (st' := []) rfl ?_
    refine ev_goto DL_law_8 86 rfl (tgt := 28) (by decide) ?_
    refine ev_lvp [3, 4, 5, 6, 7, 0] (lv2 := lawL E ad (nI i + 5)) rfl ?_
    exact ev_room (by omega) (by omega) (hK _ _ _ _ hW2)
  · refine ev_ss DL_law_2 2 88 (pc' := 607) (lv' := [(7, .int _), (6, .int _), (0, .ref _), (1, .ref _), (2, .ref _), (3, .ref _), (4, .ref _), (5, .int _)]) (st' := [.int 0, .ref _]) rfl ?_
    refine ev_lald DL_law_2 90 rfl hW2.h3 (by unfold vp_in; decide) ?_
    refine ev_ss DL_law_2 3 91 (pc' := 612) (lv' := [(7, .int _), (6, .int _), (0, .ref _), (1, .ref _), (2, .ref _), (3, .ref _), (4, .ref _), (5, .int _)]) (st' := [.int _]) rfl ?_
    refine ev_ifeq DL_law_2 94 rfl (tgt := 617) (by decide) (fun _ => ?_) (fun h => h.elim (lcm_eq (hR c_2)))
    refine ev_goto DL_law_2 97 rfl (tgt := 1728) (by decide) ?_
    refine ev_ss DL_law_8 1 85 (pc' := 1731) (lv' := [(5, .int _), (7, .int _), (6, .int _), (0, .ref _), (1, .ref _), (2, .ref _), (3, .ref _), (4, .ref _)]) (st' := []) rfl ?_
    refine ev_goto DL_law_8 86 rfl (tgt := 28) (by decide) ?_
    refine ev_lvp [3, 4, 5, 6, 7, 0] (lv2 := lawL E ad (nI i + 5)) rfl ?_
    exact ev_room (by omega) (by omega) (hK _ _ _ _ hW2)
set_option maxRecDepth 100000 in
set_option maxHeartbeats 4000000 in
theorem LC_6 {E : gE} {ad : Nat → Nat} {Pr : Option Value → va_W → Prop} {ws : va_W} {tw : Int32} {o : Nat → Int64} {d : Nat → UInt64} {i kk nn : Nat} (hW : WD E ad ws tw o d) (hi : i + 4 < (gSc E).2.1) (hN : (gSc E).2.1 < 2 ^ 31) (hK : ∀ (w : va_W) (k : Int32) (o : Nat → Int64) (d : Nat → UInt64), WD E ad w k o d → Ev E YL_law Pr nX kk nn 28 (lawL E ad (nI i + 5)) [] w) : Ev E YL_law Pr nX (kk + 1) (nn + 6) 620 (lawL E ad (nI i)) [] ws := by
  refine ev_ss DL_law_2 5 98 (pc' := 626) (lv' := [(0, .ref _), (1, .ref _), (2, .ref _), (3, .ref _), (4, .ref _), (5, .int _)]) (st' := [.int _, .ref _, .ref _]) rfl ?_
  refine ev_sld DL_law_2 103 rfl (sv_in (k := (i + 1)) (nx_add (a := i) (b := 1) rfl rfl) (by omega) hN) ?_
  refine ev_ss DL_law_2 1 104 (pc' := 628) (lv' := [(0, .ref _), (1, .ref _), (2, .ref _), (3, .ref _), (4, .ref _), (5, .int _)]) (st' := [.ref _, .int _, .ref _]) rfl ?_
  refine ev_callSW DL_law_2 105 vL_forget rfl qL_121 (Nat.le_of_ble_eq_true rfl) (Nat.le_of_ble_eq_true rfl) rfl (st := []) (Nat.le_of_ble_eq_true rfl) rfl (k1 := 1) (n1 := 6) (k2 := kk) (n2 := nn) (by omega) (by omega) (J_forget hW _) (fun v1 w1 h1 => ?_)
  obtain ⟨k1, rfl, ⟨f7, h7⟩, hB⟩ := h1
  refine ev_ss DL_law_2 6 106 (pc' := 639) (lv' := [(6, .int _), (0, .ref _), (1, .ref _), (2, .ref _), (3, .ref _), (4, .ref _), (5, .int _)]) (st' := [.int _, .ref _, .ref _]) rfl ?_
  refine ev_sld DL_law_2 112 rfl (sv_in (k := (i + 1)) (nx_add (a := i) (b := 1) rfl rfl) (by omega) hN) ?_
  refine ev_rV DL_law_2 113 hB vX7_forget rfl qL_124 rfl h7 rfl (hd_of rfl rfl rfl rfl) (fun v2 w2 h2 => ?_)
  obtain ⟨o2, d2, ⟨R, rfl, hR⟩, hW2⟩ := h2
  obtain ⟨f8, h8⟩ := hW2.o7
  refine ev_ss DL_law_2 2 114 (pc' := 646) (lv' := [(7, .int _), (6, .int _), (0, .ref _), (1, .ref _), (2, .ref _), (3, .ref _), (4, .ref _), (5, .int _)]) (st' := [.ref _]) rfl ?_
  refine ev_cV DL_law_2 116 hW2.th vX7_thrown rfl qL_101 rfl h8 rfl (hd_of rfl rfl rfl rfl) ?_
  refine ev_ss DL_law_2 1 117 (pc' := 651) (lv' := [(7, .int _), (6, .int _), (0, .ref _), (1, .ref _), (2, .ref _), (3, .ref _), (4, .ref _), (5, .int _)]) (st' := [.int _, .int _]) rfl ?_
  refine ev_iceq DL_law_2 118 rfl (tgt := 656) (by decide) (fun _ => ?_) (fun h => h.elim rfl)
  refine ev_ss DL_law_3 1 1 (pc' := 658) (lv' := [(7, .int _), (6, .int _), (0, .ref _), (1, .ref _), (2, .ref _), (3, .ref _), (4, .ref _), (5, .int _)]) (st' := [.int _]) rfl ?_
  refine ev_ifne DL_law_3 2 rfl (tgt := 673) (by decide) (fun c_2 => ?_) (fun c_2 => ?_)
  · refine ev_goto DL_law_3 12 rfl (tgt := 1728) (by decide) ?_
    refine ev_ss DL_law_8 1 85 (pc' := 1731) (lv' := [(5, .int _), (7, .int _), (6, .int _), (0, .ref _), (1, .ref _), (2, .ref _), (3, .ref _), (4, .ref _)]) (st' := []) rfl ?_
    refine ev_goto DL_law_8 86 rfl (tgt := 28) (by decide) ?_
    refine ev_lvp [3, 4, 5, 6, 7, 0] (lv2 := lawL E ad (nI i + 5)) rfl ?_
    exact ev_room (by omega) (by omega) (hK _ _ _ _ hW2)
  · refine ev_ss DL_law_3 2 3 (pc' := 663) (lv' := [(7, .int _), (6, .int _), (0, .ref _), (1, .ref _), (2, .ref _), (3, .ref _), (4, .ref _), (5, .int _)]) (st' := [.int 0, .ref _]) rfl ?_
    refine ev_lald DL_law_3 5 rfl hW2.h3 (by unfold vp_in; decide) ?_
    refine ev_ss DL_law_3 3 6 (pc' := 668) (lv' := [(7, .int _), (6, .int _), (0, .ref _), (1, .ref _), (2, .ref _), (3, .ref _), (4, .ref _), (5, .int _)]) (st' := [.int _]) rfl ?_
    refine ev_ifeq DL_law_3 9 rfl (tgt := 673) (by decide) (fun _ => ?_) (fun h => h.elim (lcm_eq (hR c_2)))
    refine ev_goto DL_law_3 12 rfl (tgt := 1728) (by decide) ?_
    refine ev_ss DL_law_8 1 85 (pc' := 1731) (lv' := [(5, .int _), (7, .int _), (6, .int _), (0, .ref _), (1, .ref _), (2, .ref _), (3, .ref _), (4, .ref _)]) (st' := []) rfl ?_
    refine ev_goto DL_law_8 86 rfl (tgt := 28) (by decide) ?_
    refine ev_lvp [3, 4, 5, 6, 7, 0] (lv2 := lawL E ad (nI i + 5)) rfl ?_
    exact ev_room (by omega) (by omega) (hK _ _ _ _ hW2)
set_option maxRecDepth 100000 in
set_option maxHeartbeats 4000000 in
theorem LC_7 {E : gE} {ad : Nat → Nat} {Pr : Option Value → va_W → Prop} {ws : va_W} {tw : Int32} {o : Nat → Int64} {d : Nat → UInt64} {i kk nn : Nat} (hW : WD E ad ws tw o d) (hi : i + 4 < (gSc E).2.1) (hN : (gSc E).2.1 < 2 ^ 31) (hK : ∀ (w : va_W) (k : Int32) (o : Nat → Int64) (d : Nat → UInt64), WD E ad w k o d → Ev E YL_law Pr nX kk nn 28 (lawL E ad (nI i + 5)) [] w) : Ev E YL_law Pr nX (kk + 1) (nn + 6) 676 (lawL E ad (nI i)) [] ws := by
  refine ev_ss DL_law_3 5 13 (pc' := 682) (lv' := [(0, .ref _), (1, .ref _), (2, .ref _), (3, .ref _), (4, .ref _), (5, .int _)]) (st' := [.int _, .ref _, .ref _]) rfl ?_
  refine ev_sld DL_law_3 18 rfl (sv_in (k := (i + 1)) (nx_add (a := i) (b := 1) rfl rfl) (by omega) hN) ?_
  refine ev_ss DL_law_3 1 19 (pc' := 684) (lv' := [(0, .ref _), (1, .ref _), (2, .ref _), (3, .ref _), (4, .ref _), (5, .int _)]) (st' := [.ref _, .int _, .ref _]) rfl ?_
  refine ev_callSW DL_law_3 20 vL_append rfl qL_125 (Nat.le_of_ble_eq_true rfl) (Nat.le_of_ble_eq_true rfl) rfl (st := []) (Nat.le_of_ble_eq_true rfl) rfl (k1 := 1) (n1 := 6) (k2 := kk) (n2 := nn) (by omega) (by omega) (J_append hW _) (fun v1 w1 h1 => ?_)
  obtain ⟨k1, rfl, ⟨f7, h7⟩, hB⟩ := h1
  refine ev_ss DL_law_3 6 21 (pc' := 695) (lv' := [(6, .int _), (0, .ref _), (1, .ref _), (2, .ref _), (3, .ref _), (4, .ref _), (5, .int _)]) (st' := [.int _, .ref _, .ref _]) rfl ?_
  refine ev_sld DL_law_3 27 rfl (sv_in (k := (i + 1)) (nx_add (a := i) (b := 1) rfl rfl) (by omega) hN) ?_
  refine ev_rV DL_law_3 28 hB vX7_append rfl qL_127 rfl h7 rfl (hd_of rfl rfl rfl rfl) (fun v2 w2 h2 => ?_)
  obtain ⟨o2, d2, ⟨R, rfl, hR⟩, hW2⟩ := h2
  obtain ⟨f8, h8⟩ := hW2.o7
  refine ev_ss DL_law_3 2 29 (pc' := 702) (lv' := [(7, .int _), (6, .int _), (0, .ref _), (1, .ref _), (2, .ref _), (3, .ref _), (4, .ref _), (5, .int _)]) (st' := [.ref _]) rfl ?_
  refine ev_cV DL_law_3 31 hW2.th vX7_thrown rfl qL_101 rfl h8 rfl (hd_of rfl rfl rfl rfl) ?_
  refine ev_ss DL_law_3 1 32 (pc' := 707) (lv' := [(7, .int _), (6, .int _), (0, .ref _), (1, .ref _), (2, .ref _), (3, .ref _), (4, .ref _), (5, .int _)]) (st' := [.int _, .int _]) rfl ?_
  refine ev_iceq DL_law_3 33 rfl (tgt := 712) (by decide) (fun _ => ?_) (fun h => h.elim rfl)
  refine ev_ss DL_law_3 1 36 (pc' := 714) (lv' := [(7, .int _), (6, .int _), (0, .ref _), (1, .ref _), (2, .ref _), (3, .ref _), (4, .ref _), (5, .int _)]) (st' := [.int _]) rfl ?_
  refine ev_ifne DL_law_3 37 rfl (tgt := 729) (by decide) (fun c_2 => ?_) (fun c_2 => ?_)
  · refine ev_goto DL_law_3 47 rfl (tgt := 1728) (by decide) ?_
    refine ev_ss DL_law_8 1 85 (pc' := 1731) (lv' := [(5, .int _), (7, .int _), (6, .int _), (0, .ref _), (1, .ref _), (2, .ref _), (3, .ref _), (4, .ref _)]) (st' := []) rfl ?_
    refine ev_goto DL_law_8 86 rfl (tgt := 28) (by decide) ?_
    refine ev_lvp [3, 4, 5, 6, 7, 0] (lv2 := lawL E ad (nI i + 5)) rfl ?_
    exact ev_room (by omega) (by omega) (hK _ _ _ _ hW2)
  · refine ev_ss DL_law_3 2 38 (pc' := 719) (lv' := [(7, .int _), (6, .int _), (0, .ref _), (1, .ref _), (2, .ref _), (3, .ref _), (4, .ref _), (5, .int _)]) (st' := [.int 0, .ref _]) rfl ?_
    refine ev_lald DL_law_3 40 rfl hW2.h3 (by unfold vp_in; decide) ?_
    refine ev_ss DL_law_3 3 41 (pc' := 724) (lv' := [(7, .int _), (6, .int _), (0, .ref _), (1, .ref _), (2, .ref _), (3, .ref _), (4, .ref _), (5, .int _)]) (st' := [.int _]) rfl ?_
    refine ev_ifeq DL_law_3 44 rfl (tgt := 729) (by decide) (fun _ => ?_) (fun h => h.elim (lcm_eq (hR c_2)))
    refine ev_goto DL_law_3 47 rfl (tgt := 1728) (by decide) ?_
    refine ev_ss DL_law_8 1 85 (pc' := 1731) (lv' := [(5, .int _), (7, .int _), (6, .int _), (0, .ref _), (1, .ref _), (2, .ref _), (3, .ref _), (4, .ref _)]) (st' := []) rfl ?_
    refine ev_goto DL_law_8 86 rfl (tgt := 28) (by decide) ?_
    refine ev_lvp [3, 4, 5, 6, 7, 0] (lv2 := lawL E ad (nI i + 5)) rfl ?_
    exact ev_room (by omega) (by omega) (hK _ _ _ _ hW2)
set_option maxRecDepth 100000 in
set_option maxHeartbeats 4000000 in
theorem LC_8 {E : gE} {ad : Nat → Nat} {Pr : Option Value → va_W → Prop} {ws : va_W} {tw : Int32} {o : Nat → Int64} {d : Nat → UInt64} {i kk nn : Nat} (hW : WD E ad ws tw o d) (hi : i + 4 < (gSc E).2.1) (hN : (gSc E).2.1 < 2 ^ 31) (hK : ∀ (w : va_W) (k : Int32) (o : Nat → Int64) (d : Nat → UInt64), WD E ad w k o d → Ev E YL_law Pr nX kk nn 28 (lawL E ad (nI i + 5)) [] w) : Ev E YL_law Pr nX (kk + 1) (nn + 6) 732 (lawL E ad (nI i)) [] ws := by
  refine ev_ss DL_law_3 1 48 (pc' := 733) (lv' := [(0, .ref _), (1, .ref _), (2, .ref _), (3, .ref _), (4, .ref _), (5, .int _)]) (st' := [.ref _]) rfl ?_
  obtain ⟨f6, h6⟩ := hW.o6
  refine ev_rV DL_law_3 49 (J_clearBuffer hW) vX6_clearBuffer rfl qL_128 rfl h6 rfl (hd_of rfl rfl rfl rfl) (fun v1 w1 h1 => ?_)
  obtain ⟨⟨R, rfl⟩, ⟨f7, h7⟩, hB⟩ := h1
  refine ev_ss DL_law_3 1 50 (pc' := 737) (lv' := [(0, .ref _), (1, .ref _), (2, .ref _), (3, .ref _), (4, .ref _), (5, .int _)]) (st' := [.ref _, .int _]) rfl ?_
  refine ev_rV DL_law_3 51 hB vX7_clearBuffer rfl qL_131 rfl h7 rfl (hd_of rfl rfl rfl rfl) (fun v2 w2 h2 => ?_)
  obtain ⟨rfl, o2, d2, k2, hW2⟩ := h2
  refine ev_iceq DL_law_3 52 rfl (tgt := 1728) (by decide) (fun _ => ?_) (fun h => h.elim rfl)
  refine ev_ss DL_law_8 1 85 (pc' := 1731) (lv' := [(5, .int _), (0, .ref _), (1, .ref _), (2, .ref _), (3, .ref _), (4, .ref _)]) (st' := []) rfl ?_
  refine ev_goto DL_law_8 86 rfl (tgt := 28) (by decide) ?_
  refine ev_lvp [1, 2, 3, 4, 5, 0] (lv2 := lawL E ad (nI i + 5)) rfl ?_
  exact ev_room (by omega) (by omega) (hK _ _ _ _ hW2)
set_option maxRecDepth 100000 in
set_option maxHeartbeats 4000000 in
theorem LC_9 {E : gE} {ad : Nat → Nat} {Pr : Option Value → va_W → Prop} {ws : va_W} {tw : Int32} {o : Nat → Int64} {d : Nat → UInt64} {i kk nn : Nat} (hW : WD E ad ws tw o d) (hi : i + 4 < (gSc E).2.1) (hN : (gSc E).2.1 < 2 ^ 31) (hK : ∀ (w : va_W) (k : Int32) (o : Nat → Int64) (d : Nat → UInt64), WD E ad w k o d → Ev E YL_law Pr nX kk nn 28 (lawL E ad (nI i + 5)) [] w) : Ev E YL_law Pr nX (kk + 1) (nn + 6) 745 (lawL E ad (nI i)) [] ws := by
  refine ev_ss DL_law_3 1 55 (pc' := 746) (lv' := [(0, .ref _), (1, .ref _), (2, .ref _), (3, .ref _), (4, .ref _), (5, .int _)]) (st' := [.ref _]) rfl ?_
  obtain ⟨f6, h6⟩ := hW.o6
  refine ev_rV DL_law_3 56 (J_firstError hW) vX6_firstError rfl qL_132 rfl h6 rfl (hd_of rfl rfl rfl rfl) (fun v1 w1 h1 => ?_)
  obtain ⟨⟨R, rfl⟩, ⟨f7, h7⟩, hB⟩ := h1
  refine ev_ss DL_law_3 1 57 (pc' := 750) (lv' := [(0, .ref _), (1, .ref _), (2, .ref _), (3, .ref _), (4, .ref _), (5, .int _)]) (st' := [.ref _, .int _]) rfl ?_
  refine ev_rV DL_law_3 58 hB vX7_firstError rfl qL_135 rfl h7 rfl (hd_of rfl rfl rfl rfl) (fun v2 w2 h2 => ?_)
  obtain ⟨rfl, o2, d2, k2, hW2⟩ := h2
  refine ev_iceq DL_law_3 59 rfl (tgt := 1728) (by decide) (fun _ => ?_) (fun h => h.elim rfl)
  refine ev_ss DL_law_8 1 85 (pc' := 1731) (lv' := [(5, .int _), (0, .ref _), (1, .ref _), (2, .ref _), (3, .ref _), (4, .ref _)]) (st' := []) rfl ?_
  refine ev_goto DL_law_8 86 rfl (tgt := 28) (by decide) ?_
  refine ev_lvp [1, 2, 3, 4, 5, 0] (lv2 := lawL E ad (nI i + 5)) rfl ?_
  exact ev_room (by omega) (by omega) (hK _ _ _ _ hW2)
set_option maxRecDepth 100000 in
set_option maxHeartbeats 4000000 in
theorem LC_10 {E : gE} {ad : Nat → Nat} {Pr : Option Value → va_W → Prop} {ws : va_W} {tw : Int32} {o : Nat → Int64} {d : Nat → UInt64} {i kk nn : Nat} (hW : WD E ad ws tw o d) (hi : i + 4 < (gSc E).2.1) (hN : (gSc E).2.1 < 2 ^ 31) (hK : ∀ (w : va_W) (k : Int32) (o : Nat → Int64) (d : Nat → UInt64), WD E ad w k o d → Ev E YL_law Pr nX kk nn 28 (lawL E ad (nI i + 5)) [] w) : Ev E YL_law Pr nX (kk + 1) (nn + 6) 758 (lawL E ad (nI i)) [] ws := by
  refine ev_ss DL_law_3 2 62 (pc' := 760) (lv' := [(0, .ref _), (1, .ref _), (2, .ref _), (3, .ref _), (4, .ref _), (5, .int _)]) (st' := [.ref _, .ref _]) rfl ?_
  refine ev_callSW DL_law_3 64 vL_say rfl qL_136 (Nat.le_of_ble_eq_true rfl) (Nat.le_of_ble_eq_true rfl) rfl (st := []) (Nat.le_of_ble_eq_true rfl) rfl (k1 := 1) (n1 := 6) (k2 := kk) (n2 := nn) (by omega) (by omega) (J_say hW) (fun v1 w1 h1 => ?_)
  obtain ⟨k1, rfl, ⟨f7, h7⟩, hB⟩ := h1
  refine ev_ss DL_law_3 2 65 (pc' := 766) (lv' := [(6, .int _), (0, .ref _), (1, .ref _), (2, .ref _), (3, .ref _), (4, .ref _), (5, .int _)]) (st' := [.ref _]) rfl ?_
  refine ev_rV DL_law_3 67 hB vX7_say rfl qL_139 rfl h7 rfl (hd_of rfl rfl rfl rfl) (fun v2 w2 h2 => ?_)
  obtain ⟨o2, d2, ⟨R, rfl, hR⟩, hW2⟩ := h2
  obtain ⟨f8, h8⟩ := hW2.o7
  refine ev_ss DL_law_3 2 68 (pc' := 772) (lv' := [(7, .int _), (6, .int _), (0, .ref _), (1, .ref _), (2, .ref _), (3, .ref _), (4, .ref _), (5, .int _)]) (st' := [.ref _]) rfl ?_
  refine ev_cV DL_law_3 70 hW2.th vX7_thrown rfl qL_101 rfl h8 rfl (hd_of rfl rfl rfl rfl) ?_
  refine ev_ss DL_law_3 1 71 (pc' := 777) (lv' := [(7, .int _), (6, .int _), (0, .ref _), (1, .ref _), (2, .ref _), (3, .ref _), (4, .ref _), (5, .int _)]) (st' := [.int _, .int _]) rfl ?_
  refine ev_iceq DL_law_3 72 rfl (tgt := 782) (by decide) (fun _ => ?_) (fun h => h.elim rfl)
  refine ev_ss DL_law_3 1 75 (pc' := 784) (lv' := [(7, .int _), (6, .int _), (0, .ref _), (1, .ref _), (2, .ref _), (3, .ref _), (4, .ref _), (5, .int _)]) (st' := [.int _]) rfl ?_
  refine ev_ifne DL_law_3 76 rfl (tgt := 799) (by decide) (fun c_2 => ?_) (fun c_2 => ?_)
  · refine ev_goto DL_law_3 86 rfl (tgt := 1728) (by decide) ?_
    refine ev_ss DL_law_8 1 85 (pc' := 1731) (lv' := [(5, .int _), (7, .int _), (6, .int _), (0, .ref _), (1, .ref _), (2, .ref _), (3, .ref _), (4, .ref _)]) (st' := []) rfl ?_
    refine ev_goto DL_law_8 86 rfl (tgt := 28) (by decide) ?_
    refine ev_lvp [3, 4, 5, 6, 7, 0] (lv2 := lawL E ad (nI i + 5)) rfl ?_
    exact ev_room (by omega) (by omega) (hK _ _ _ _ hW2)
  · refine ev_ss DL_law_3 2 77 (pc' := 789) (lv' := [(7, .int _), (6, .int _), (0, .ref _), (1, .ref _), (2, .ref _), (3, .ref _), (4, .ref _), (5, .int _)]) (st' := [.int 0, .ref _]) rfl ?_
    refine ev_lald DL_law_3 79 rfl hW2.h3 (by unfold vp_in; decide) ?_
    refine ev_ss DL_law_3 3 80 (pc' := 794) (lv' := [(7, .int _), (6, .int _), (0, .ref _), (1, .ref _), (2, .ref _), (3, .ref _), (4, .ref _), (5, .int _)]) (st' := [.int _]) rfl ?_
    refine ev_ifeq DL_law_3 83 rfl (tgt := 799) (by decide) (fun _ => ?_) (fun h => h.elim (lcm_eq (hR c_2)))
    refine ev_goto DL_law_3 86 rfl (tgt := 1728) (by decide) ?_
    refine ev_ss DL_law_8 1 85 (pc' := 1731) (lv' := [(5, .int _), (7, .int _), (6, .int _), (0, .ref _), (1, .ref _), (2, .ref _), (3, .ref _), (4, .ref _)]) (st' := []) rfl ?_
    refine ev_goto DL_law_8 86 rfl (tgt := 28) (by decide) ?_
    refine ev_lvp [3, 4, 5, 6, 7, 0] (lv2 := lawL E ad (nI i + 5)) rfl ?_
    exact ev_room (by omega) (by omega) (hK _ _ _ _ hW2)
set_option maxRecDepth 100000 in
set_option maxHeartbeats 4000000 in
theorem LC_11 {E : gE} {ad : Nat → Nat} {Pr : Option Value → va_W → Prop} {ws : va_W} {tw : Int32} {o : Nat → Int64} {d : Nat → UInt64} {i kk nn : Nat} (hW : WD E ad ws tw o d) (hi : i + 4 < (gSc E).2.1) (hN : (gSc E).2.1 < 2 ^ 31) (hK : ∀ (w : va_W) (k : Int32) (o : Nat → Int64) (d : Nat → UInt64), WD E ad w k o d → Ev E YL_law Pr nX kk nn 28 (lawL E ad (nI i + 5)) [] w) : Ev E YL_law Pr nX (kk + 1) (nn + 6) 802 (lawL E ad (nI i)) [] ws := by
  refine ev_ss DL_law_3 2 87 (pc' := 804) (lv' := [(0, .ref _), (1, .ref _), (2, .ref _), (3, .ref _), (4, .ref _), (5, .int _)]) (st' := [.ref _, .ref _]) rfl ?_
  refine ev_callSW DL_law_3 89 vL_undo rfl qL_140 (Nat.le_of_ble_eq_true rfl) (Nat.le_of_ble_eq_true rfl) rfl (st := []) (Nat.le_of_ble_eq_true rfl) rfl (k1 := 1) (n1 := 6) (k2 := kk) (n2 := nn) (by omega) (by omega) (J_undo hW) (fun v1 w1 h1 => ?_)
  obtain ⟨k1, rfl, ⟨f7, h7⟩, hB⟩ := h1
  refine ev_ss DL_law_3 2 90 (pc' := 810) (lv' := [(6, .int _), (0, .ref _), (1, .ref _), (2, .ref _), (3, .ref _), (4, .ref _), (5, .int _)]) (st' := [.ref _]) rfl ?_
  refine ev_rV DL_law_3 92 hB vX7_undo rfl qL_142 rfl h7 rfl (hd_of rfl rfl rfl rfl) (fun v2 w2 h2 => ?_)
  obtain ⟨o2, d2, ⟨R, rfl, hR⟩, hW2⟩ := h2
  obtain ⟨f8, h8⟩ := hW2.o7
  refine ev_ss DL_law_3 2 93 (pc' := 816) (lv' := [(7, .int _), (6, .int _), (0, .ref _), (1, .ref _), (2, .ref _), (3, .ref _), (4, .ref _), (5, .int _)]) (st' := [.ref _]) rfl ?_
  refine ev_cV DL_law_3 95 hW2.th vX7_thrown rfl qL_101 rfl h8 rfl (hd_of rfl rfl rfl rfl) ?_
  refine ev_ss DL_law_3 1 96 (pc' := 821) (lv' := [(7, .int _), (6, .int _), (0, .ref _), (1, .ref _), (2, .ref _), (3, .ref _), (4, .ref _), (5, .int _)]) (st' := [.int _, .int _]) rfl ?_
  refine ev_iceq DL_law_3 97 rfl (tgt := 826) (by decide) (fun _ => ?_) (fun h => h.elim rfl)
  refine ev_ss DL_law_3 1 100 (pc' := 828) (lv' := [(7, .int _), (6, .int _), (0, .ref _), (1, .ref _), (2, .ref _), (3, .ref _), (4, .ref _), (5, .int _)]) (st' := [.int _]) rfl ?_
  refine ev_ifne DL_law_3 101 rfl (tgt := 843) (by decide) (fun c_2 => ?_) (fun c_2 => ?_)
  · refine ev_goto DL_law_3 111 rfl (tgt := 1728) (by decide) ?_
    refine ev_ss DL_law_8 1 85 (pc' := 1731) (lv' := [(5, .int _), (7, .int _), (6, .int _), (0, .ref _), (1, .ref _), (2, .ref _), (3, .ref _), (4, .ref _)]) (st' := []) rfl ?_
    refine ev_goto DL_law_8 86 rfl (tgt := 28) (by decide) ?_
    refine ev_lvp [3, 4, 5, 6, 7, 0] (lv2 := lawL E ad (nI i + 5)) rfl ?_
    exact ev_room (by omega) (by omega) (hK _ _ _ _ hW2)
  · refine ev_ss DL_law_3 2 102 (pc' := 833) (lv' := [(7, .int _), (6, .int _), (0, .ref _), (1, .ref _), (2, .ref _), (3, .ref _), (4, .ref _), (5, .int _)]) (st' := [.int 0, .ref _]) rfl ?_
    refine ev_lald DL_law_3 104 rfl hW2.h3 (by unfold vp_in; decide) ?_
    refine ev_ss DL_law_3 3 105 (pc' := 838) (lv' := [(7, .int _), (6, .int _), (0, .ref _), (1, .ref _), (2, .ref _), (3, .ref _), (4, .ref _), (5, .int _)]) (st' := [.int _]) rfl ?_
    refine ev_ifeq DL_law_3 108 rfl (tgt := 843) (by decide) (fun _ => ?_) (fun h => h.elim (lcm_eq (hR c_2)))
    refine ev_goto DL_law_3 111 rfl (tgt := 1728) (by decide) ?_
    refine ev_ss DL_law_8 1 85 (pc' := 1731) (lv' := [(5, .int _), (7, .int _), (6, .int _), (0, .ref _), (1, .ref _), (2, .ref _), (3, .ref _), (4, .ref _)]) (st' := []) rfl ?_
    refine ev_goto DL_law_8 86 rfl (tgt := 28) (by decide) ?_
    refine ev_lvp [3, 4, 5, 6, 7, 0] (lv2 := lawL E ad (nI i + 5)) rfl ?_
    exact ev_room (by omega) (by omega) (hK _ _ _ _ hW2)
set_option maxRecDepth 100000 in
set_option maxHeartbeats 4000000 in
theorem LC_12 {E : gE} {ad : Nat → Nat} {Pr : Option Value → va_W → Prop} {ws : va_W} {tw : Int32} {o : Nat → Int64} {d : Nat → UInt64} {i kk nn : Nat} (hW : WD E ad ws tw o d) (hi : i + 4 < (gSc E).2.1) (hN : (gSc E).2.1 < 2 ^ 31) (hK : ∀ (w : va_W) (k : Int32) (o : Nat → Int64) (d : Nat → UInt64), WD E ad w k o d → Ev E YL_law Pr nX kk nn 28 (lawL E ad (nI i + 5)) [] w) : Ev E YL_law Pr nX (kk + 1) (nn + 6) 846 (lawL E ad (nI i)) [] ws := by
  refine ev_ss DL_law_3 5 112 (pc' := 852) (lv' := [(0, .ref _), (1, .ref _), (2, .ref _), (3, .ref _), (4, .ref _), (5, .int _)]) (st' := [.int _, .ref _, .ref _]) rfl ?_
  refine ev_sld DL_law_3 117 rfl (sv_in (k := (i + 1)) (nx_add (a := i) (b := 1) rfl rfl) (by omega) hN) ?_
  refine ev_ss DL_law_3 2 118 (pc' := 856) (lv' := [(0, .ref _), (1, .ref _), (2, .ref _), (3, .ref _), (4, .ref _), (5, .int _)]) (st' := [.int _, .ref _, .int _, .ref _]) rfl ?_
  refine ev_ss DL_law_4 2 0 (pc' := 858) (lv' := [(0, .ref _), (1, .ref _), (2, .ref _), (3, .ref _), (4, .ref _), (5, .int _)]) (st' := [.int _, .ref _, .int _, .ref _]) rfl ?_
  refine ev_sld DL_law_4 2 rfl (sv_in (k := (i + 2)) (nx_add (a := i) (b := 2) rfl rfl) (by omega) hN) ?_
  refine ev_ss DL_law_4 4 3 (pc' := 864) (lv' := [(0, .ref _), (1, .ref _), (2, .ref _), (3, .ref _), (4, .ref _), (5, .int _)]) (st' := [.int _, .ref _, .int _, .int _, .ref _]) rfl ?_
  refine ev_sld DL_law_4 7 rfl (sv_in (k := (i + 3)) (nx_add (a := i) (b := 3) rfl rfl) (by omega) hN) ?_
  refine ev_ss DL_law_4 1 8 (pc' := 866) (lv' := [(0, .ref _), (1, .ref _), (2, .ref _), (3, .ref _), (4, .ref _), (5, .int _)]) (st' := [.ref _, .int _, .int _, .int _, .ref _]) rfl ?_
  refine ev_callSW DL_law_4 9 vL_street rfl qL_143 (Nat.le_of_ble_eq_true rfl) (Nat.le_of_ble_eq_true rfl) rfl (st := []) (Nat.le_of_ble_eq_true rfl) rfl (k1 := 1) (n1 := 6) (k2 := kk) (n2 := nn) (by omega) (by omega) (J_street hW _ _ _) (fun v1 w1 h1 => ?_)
  obtain ⟨k1, rfl, ⟨f7, h7⟩, hB⟩ := h1
  refine ev_ss DL_law_4 6 10 (pc' := 877) (lv' := [(6, .int _), (0, .ref _), (1, .ref _), (2, .ref _), (3, .ref _), (4, .ref _), (5, .int _)]) (st' := [.int _, .ref _, .ref _]) rfl ?_
  refine ev_sld DL_law_4 16 rfl (sv_in (k := (i + 1)) (nx_add (a := i) (b := 1) rfl rfl) (by omega) hN) ?_
  refine ev_ss DL_law_4 4 17 (pc' := 883) (lv' := [(6, .int _), (0, .ref _), (1, .ref _), (2, .ref _), (3, .ref _), (4, .ref _), (5, .int _)]) (st' := [.int _, .ref _, .int _, .ref _]) rfl ?_
  refine ev_sld DL_law_4 21 rfl (sv_in (k := (i + 2)) (nx_add (a := i) (b := 2) rfl rfl) (by omega) hN) ?_
  refine ev_ss DL_law_4 4 22 (pc' := 889) (lv' := [(6, .int _), (0, .ref _), (1, .ref _), (2, .ref _), (3, .ref _), (4, .ref _), (5, .int _)]) (st' := [.int _, .ref _, .int _, .int _, .ref _]) rfl ?_
  refine ev_sld DL_law_4 26 rfl (sv_in (k := (i + 3)) (nx_add (a := i) (b := 3) rfl rfl) (by omega) hN) ?_
  refine ev_rV DL_law_4 27 hB vX7_street rfl qL_145 rfl h7 rfl (hd_of rfl rfl rfl rfl) (fun v2 w2 h2 => ?_)
  obtain ⟨o2, d2, ⟨R, rfl, hR⟩, hW2⟩ := h2
  obtain ⟨f8, h8⟩ := hW2.o7
  refine ev_ss DL_law_4 2 28 (pc' := 896) (lv' := [(7, .int _), (6, .int _), (0, .ref _), (1, .ref _), (2, .ref _), (3, .ref _), (4, .ref _), (5, .int _)]) (st' := [.ref _]) rfl ?_
  refine ev_cV DL_law_4 30 hW2.th vX7_thrown rfl qL_101 rfl h8 rfl (hd_of rfl rfl rfl rfl) ?_
  refine ev_ss DL_law_4 1 31 (pc' := 901) (lv' := [(7, .int _), (6, .int _), (0, .ref _), (1, .ref _), (2, .ref _), (3, .ref _), (4, .ref _), (5, .int _)]) (st' := [.int _, .int _]) rfl ?_
  refine ev_iceq DL_law_4 32 rfl (tgt := 906) (by decide) (fun _ => ?_) (fun h => h.elim rfl)
  refine ev_ss DL_law_4 1 35 (pc' := 908) (lv' := [(7, .int _), (6, .int _), (0, .ref _), (1, .ref _), (2, .ref _), (3, .ref _), (4, .ref _), (5, .int _)]) (st' := [.int _]) rfl ?_
  refine ev_ifne DL_law_4 36 rfl (tgt := 923) (by decide) (fun c_2 => ?_) (fun c_2 => ?_)
  · refine ev_goto DL_law_4 46 rfl (tgt := 1728) (by decide) ?_
    refine ev_ss DL_law_8 1 85 (pc' := 1731) (lv' := [(5, .int _), (7, .int _), (6, .int _), (0, .ref _), (1, .ref _), (2, .ref _), (3, .ref _), (4, .ref _)]) (st' := []) rfl ?_
    refine ev_goto DL_law_8 86 rfl (tgt := 28) (by decide) ?_
    refine ev_lvp [3, 4, 5, 6, 7, 0] (lv2 := lawL E ad (nI i + 5)) rfl ?_
    exact ev_room (by omega) (by omega) (hK _ _ _ _ hW2)
  · refine ev_ss DL_law_4 2 37 (pc' := 913) (lv' := [(7, .int _), (6, .int _), (0, .ref _), (1, .ref _), (2, .ref _), (3, .ref _), (4, .ref _), (5, .int _)]) (st' := [.int 0, .ref _]) rfl ?_
    refine ev_lald DL_law_4 39 rfl hW2.h3 (by unfold vp_in; decide) ?_
    refine ev_ss DL_law_4 3 40 (pc' := 918) (lv' := [(7, .int _), (6, .int _), (0, .ref _), (1, .ref _), (2, .ref _), (3, .ref _), (4, .ref _), (5, .int _)]) (st' := [.int _]) rfl ?_
    refine ev_ifeq DL_law_4 43 rfl (tgt := 923) (by decide) (fun _ => ?_) (fun h => h.elim (lcm_eq (hR c_2)))
    refine ev_goto DL_law_4 46 rfl (tgt := 1728) (by decide) ?_
    refine ev_ss DL_law_8 1 85 (pc' := 1731) (lv' := [(5, .int _), (7, .int _), (6, .int _), (0, .ref _), (1, .ref _), (2, .ref _), (3, .ref _), (4, .ref _)]) (st' := []) rfl ?_
    refine ev_goto DL_law_8 86 rfl (tgt := 28) (by decide) ?_
    refine ev_lvp [3, 4, 5, 6, 7, 0] (lv2 := lawL E ad (nI i + 5)) rfl ?_
    exact ev_room (by omega) (by omega) (hK _ _ _ _ hW2)
set_option maxRecDepth 100000 in
set_option maxHeartbeats 4000000 in
theorem LC_13 {E : gE} {ad : Nat → Nat} {Pr : Option Value → va_W → Prop} {ws : va_W} {tw : Int32} {o : Nat → Int64} {d : Nat → UInt64} {i kk nn : Nat} (hW : WD E ad ws tw o d) (hi : i + 4 < (gSc E).2.1) (hN : (gSc E).2.1 < 2 ^ 31) (hK : ∀ (w : va_W) (k : Int32) (o : Nat → Int64) (d : Nat → UInt64), WD E ad w k o d → Ev E YL_law Pr nX kk nn 28 (lawL E ad (nI i + 5)) [] w) : Ev E YL_law Pr nX (kk + 1) (nn + 6) 926 (lawL E ad (nI i)) [] ws := by
  refine ev_ss DL_law_4 5 47 (pc' := 932) (lv' := [(0, .ref _), (1, .ref _), (2, .ref _), (3, .ref _), (4, .ref _), (5, .int _)]) (st' := [.int _, .ref _, .ref _]) rfl ?_
  refine ev_sld DL_law_4 52 rfl (sv_in (k := (i + 1)) (nx_add (a := i) (b := 1) rfl rfl) (by omega) hN) ?_
  refine ev_ss DL_law_4 4 53 (pc' := 938) (lv' := [(0, .ref _), (1, .ref _), (2, .ref _), (3, .ref _), (4, .ref _), (5, .int _)]) (st' := [.int _, .ref _, .int _, .ref _]) rfl ?_
  refine ev_sld DL_law_4 57 rfl (sv_in (k := (i + 2)) (nx_add (a := i) (b := 2) rfl rfl) (by omega) hN) ?_
  refine ev_ss DL_law_4 4 58 (pc' := 944) (lv' := [(0, .ref _), (1, .ref _), (2, .ref _), (3, .ref _), (4, .ref _), (5, .int _)]) (st' := [.int _, .ref _, .int _, .int _, .ref _]) rfl ?_
  refine ev_sld DL_law_4 62 rfl (sv_in (k := (i + 3)) (nx_add (a := i) (b := 3) rfl rfl) (by omega) hN) ?_
  refine ev_ss DL_law_4 1 63 (pc' := 946) (lv' := [(0, .ref _), (1, .ref _), (2, .ref _), (3, .ref _), (4, .ref _), (5, .int _)]) (st' := [.ref _, .int _, .int _, .int _, .ref _]) rfl ?_
  refine ev_callSW DL_law_4 64 vL_accent rfl qL_146 (Nat.le_of_ble_eq_true rfl) (Nat.le_of_ble_eq_true rfl) rfl (st := []) (Nat.le_of_ble_eq_true rfl) rfl (k1 := 1) (n1 := 6) (k2 := kk) (n2 := nn) (by omega) (by omega) (J_accent hW _ _ _) (fun v1 w1 h1 => ?_)
  obtain ⟨k1, rfl, ⟨f7, h7⟩, hB⟩ := h1
  refine ev_ss DL_law_4 6 65 (pc' := 957) (lv' := [(6, .int _), (0, .ref _), (1, .ref _), (2, .ref _), (3, .ref _), (4, .ref _), (5, .int _)]) (st' := [.int _, .ref _, .ref _]) rfl ?_
  refine ev_sld DL_law_4 71 rfl (sv_in (k := (i + 1)) (nx_add (a := i) (b := 1) rfl rfl) (by omega) hN) ?_
  refine ev_ss DL_law_4 4 72 (pc' := 963) (lv' := [(6, .int _), (0, .ref _), (1, .ref _), (2, .ref _), (3, .ref _), (4, .ref _), (5, .int _)]) (st' := [.int _, .ref _, .int _, .ref _]) rfl ?_
  refine ev_sld DL_law_4 76 rfl (sv_in (k := (i + 2)) (nx_add (a := i) (b := 2) rfl rfl) (by omega) hN) ?_
  refine ev_ss DL_law_4 4 77 (pc' := 969) (lv' := [(6, .int _), (0, .ref _), (1, .ref _), (2, .ref _), (3, .ref _), (4, .ref _), (5, .int _)]) (st' := [.int _, .ref _, .int _, .int _, .ref _]) rfl ?_
  refine ev_sld DL_law_4 81 rfl (sv_in (k := (i + 3)) (nx_add (a := i) (b := 3) rfl rfl) (by omega) hN) ?_
  refine ev_rV DL_law_4 82 hB vX7_accent rfl qL_148 rfl h7 rfl (hd_of rfl rfl rfl rfl) (fun v2 w2 h2 => ?_)
  obtain ⟨o2, d2, ⟨R, rfl, hR⟩, hW2⟩ := h2
  obtain ⟨f8, h8⟩ := hW2.o7
  refine ev_ss DL_law_4 2 83 (pc' := 976) (lv' := [(7, .int _), (6, .int _), (0, .ref _), (1, .ref _), (2, .ref _), (3, .ref _), (4, .ref _), (5, .int _)]) (st' := [.ref _]) rfl ?_
  refine ev_cV DL_law_4 85 hW2.th vX7_thrown rfl qL_101 rfl h8 rfl (hd_of rfl rfl rfl rfl) ?_
  refine ev_ss DL_law_4 1 86 (pc' := 981) (lv' := [(7, .int _), (6, .int _), (0, .ref _), (1, .ref _), (2, .ref _), (3, .ref _), (4, .ref _), (5, .int _)]) (st' := [.int _, .int _]) rfl ?_
  refine ev_iceq DL_law_4 87 rfl (tgt := 986) (by decide) (fun _ => ?_) (fun h => h.elim rfl)
  refine ev_ss DL_law_4 1 90 (pc' := 988) (lv' := [(7, .int _), (6, .int _), (0, .ref _), (1, .ref _), (2, .ref _), (3, .ref _), (4, .ref _), (5, .int _)]) (st' := [.int _]) rfl ?_
  refine ev_ifne DL_law_4 91 rfl (tgt := 1003) (by decide) (fun c_2 => ?_) (fun c_2 => ?_)
  · refine ev_goto DL_law_4 101 rfl (tgt := 1728) (by decide) ?_
    refine ev_ss DL_law_8 1 85 (pc' := 1731) (lv' := [(5, .int _), (7, .int _), (6, .int _), (0, .ref _), (1, .ref _), (2, .ref _), (3, .ref _), (4, .ref _)]) (st' := []) rfl ?_
    refine ev_goto DL_law_8 86 rfl (tgt := 28) (by decide) ?_
    refine ev_lvp [3, 4, 5, 6, 7, 0] (lv2 := lawL E ad (nI i + 5)) rfl ?_
    exact ev_room (by omega) (by omega) (hK _ _ _ _ hW2)
  · refine ev_ss DL_law_4 2 92 (pc' := 993) (lv' := [(7, .int _), (6, .int _), (0, .ref _), (1, .ref _), (2, .ref _), (3, .ref _), (4, .ref _), (5, .int _)]) (st' := [.int 0, .ref _]) rfl ?_
    refine ev_lald DL_law_4 94 rfl hW2.h3 (by unfold vp_in; decide) ?_
    refine ev_ss DL_law_4 3 95 (pc' := 998) (lv' := [(7, .int _), (6, .int _), (0, .ref _), (1, .ref _), (2, .ref _), (3, .ref _), (4, .ref _), (5, .int _)]) (st' := [.int _]) rfl ?_
    refine ev_ifeq DL_law_4 98 rfl (tgt := 1003) (by decide) (fun _ => ?_) (fun h => h.elim (lcm_eq (hR c_2)))
    refine ev_goto DL_law_4 101 rfl (tgt := 1728) (by decide) ?_
    refine ev_ss DL_law_8 1 85 (pc' := 1731) (lv' := [(5, .int _), (7, .int _), (6, .int _), (0, .ref _), (1, .ref _), (2, .ref _), (3, .ref _), (4, .ref _)]) (st' := []) rfl ?_
    refine ev_goto DL_law_8 86 rfl (tgt := 28) (by decide) ?_
    refine ev_lvp [3, 4, 5, 6, 7, 0] (lv2 := lawL E ad (nI i + 5)) rfl ?_
    exact ev_room (by omega) (by omega) (hK _ _ _ _ hW2)
set_option maxRecDepth 100000 in
set_option maxHeartbeats 4000000 in
theorem LC_14 {E : gE} {ad : Nat → Nat} {Pr : Option Value → va_W → Prop} {ws : va_W} {tw : Int32} {o : Nat → Int64} {d : Nat → UInt64} {i kk nn : Nat} (hW : WD E ad ws tw o d) (hi : i + 4 < (gSc E).2.1) (hN : (gSc E).2.1 < 2 ^ 31) (hK : ∀ (w : va_W) (k : Int32) (o : Nat → Int64) (d : Nat → UInt64), WD E ad w k o d → Ev E YL_law Pr nX kk nn 28 (lawL E ad (nI i + 5)) [] w) : Ev E YL_law Pr nX (kk + 1) (nn + 6) 1006 (lawL E ad (nI i)) [] ws := by
  refine ev_ss DL_law_4 5 102 (pc' := 1012) (lv' := [(0, .ref _), (1, .ref _), (2, .ref _), (3, .ref _), (4, .ref _), (5, .int _)]) (st' := [.int _, .ref _, .ref _]) rfl ?_
  refine ev_sld DL_law_4 107 rfl (sv_in (k := (i + 1)) (nx_add (a := i) (b := 1) rfl rfl) (by omega) hN) ?_
  refine ev_ss DL_law_4 4 108 (pc' := 1018) (lv' := [(0, .ref _), (1, .ref _), (2, .ref _), (3, .ref _), (4, .ref _), (5, .int _)]) (st' := [.int _, .ref _, .int _, .ref _]) rfl ?_
  refine ev_sld DL_law_4 112 rfl (sv_in (k := (i + 2)) (nx_add (a := i) (b := 2) rfl rfl) (by omega) hN) ?_
  refine ev_ss DL_law_4 1 113 (pc' := 1020) (lv' := [(0, .ref _), (1, .ref _), (2, .ref _), (3, .ref _), (4, .ref _), (5, .int _)]) (st' := [.ref _, .int _, .int _, .ref _]) rfl ?_
  refine ev_callSW DL_law_4 114 vL_waits rfl qL_149 (Nat.le_of_ble_eq_true rfl) (Nat.le_of_ble_eq_true rfl) rfl (st := []) (Nat.le_of_ble_eq_true rfl) rfl (k1 := 1) (n1 := 6) (k2 := kk) (n2 := nn) (by omega) (by omega) (J_waits hW _ _) (fun v1 w1 h1 => ?_)
  obtain ⟨k1, rfl, ⟨f7, h7⟩, hB⟩ := h1
  refine ev_ss DL_law_4 5 115 (pc' := 1030) (lv' := [(6, .int _), (0, .ref _), (1, .ref _), (2, .ref _), (3, .ref _), (4, .ref _), (5, .int _)]) (st' := [.int 1, .int _, .ref _, .ref _]) rfl ?_
  refine ev_ss DL_law_5 1 0 (pc' := 1031) (lv' := [(6, .int _), (0, .ref _), (1, .ref _), (2, .ref _), (3, .ref _), (4, .ref _), (5, .int _)]) (st' := [.int _, .ref _, .ref _]) rfl ?_
  refine ev_sld DL_law_5 1 rfl (sv_in (k := (i + 1)) (nx_add (a := i) (b := 1) rfl rfl) (by omega) hN) ?_
  refine ev_ss DL_law_5 4 2 (pc' := 1037) (lv' := [(6, .int _), (0, .ref _), (1, .ref _), (2, .ref _), (3, .ref _), (4, .ref _), (5, .int _)]) (st' := [.int _, .ref _, .int _, .ref _]) rfl ?_
  refine ev_sld DL_law_5 6 rfl (sv_in (k := (i + 2)) (nx_add (a := i) (b := 2) rfl rfl) (by omega) hN) ?_
  refine ev_rV DL_law_5 7 hB vX7_waits rfl qL_151 rfl h7 rfl (hd_of rfl rfl rfl rfl) (fun v2 w2 h2 => ?_)
  obtain ⟨o2, d2, ⟨R, rfl, hR⟩, hW2⟩ := h2
  obtain ⟨f8, h8⟩ := hW2.o7
  refine ev_ss DL_law_5 2 8 (pc' := 1044) (lv' := [(7, .int _), (6, .int _), (0, .ref _), (1, .ref _), (2, .ref _), (3, .ref _), (4, .ref _), (5, .int _)]) (st' := [.ref _]) rfl ?_
  refine ev_cV DL_law_5 10 hW2.th vX7_thrown rfl qL_101 rfl h8 rfl (hd_of rfl rfl rfl rfl) ?_
  refine ev_ss DL_law_5 1 11 (pc' := 1049) (lv' := [(7, .int _), (6, .int _), (0, .ref _), (1, .ref _), (2, .ref _), (3, .ref _), (4, .ref _), (5, .int _)]) (st' := [.int _, .int _]) rfl ?_
  refine ev_iceq DL_law_5 12 rfl (tgt := 1054) (by decide) (fun _ => ?_) (fun h => h.elim rfl)
  refine ev_ss DL_law_5 1 15 (pc' := 1056) (lv' := [(7, .int _), (6, .int _), (0, .ref _), (1, .ref _), (2, .ref _), (3, .ref _), (4, .ref _), (5, .int _)]) (st' := [.int _]) rfl ?_
  refine ev_ifne DL_law_5 16 rfl (tgt := 1071) (by decide) (fun c_2 => ?_) (fun c_2 => ?_)
  · refine ev_goto DL_law_5 26 rfl (tgt := 1728) (by decide) ?_
    refine ev_ss DL_law_8 1 85 (pc' := 1731) (lv' := [(5, .int _), (7, .int _), (6, .int _), (0, .ref _), (1, .ref _), (2, .ref _), (3, .ref _), (4, .ref _)]) (st' := []) rfl ?_
    refine ev_goto DL_law_8 86 rfl (tgt := 28) (by decide) ?_
    refine ev_lvp [3, 4, 5, 6, 7, 0] (lv2 := lawL E ad (nI i + 5)) rfl ?_
    exact ev_room (by omega) (by omega) (hK _ _ _ _ hW2)
  · refine ev_ss DL_law_5 2 17 (pc' := 1061) (lv' := [(7, .int _), (6, .int _), (0, .ref _), (1, .ref _), (2, .ref _), (3, .ref _), (4, .ref _), (5, .int _)]) (st' := [.int 0, .ref _]) rfl ?_
    refine ev_lald DL_law_5 19 rfl hW2.h3 (by unfold vp_in; decide) ?_
    refine ev_ss DL_law_5 3 20 (pc' := 1066) (lv' := [(7, .int _), (6, .int _), (0, .ref _), (1, .ref _), (2, .ref _), (3, .ref _), (4, .ref _), (5, .int _)]) (st' := [.int _]) rfl ?_
    refine ev_ifeq DL_law_5 23 rfl (tgt := 1071) (by decide) (fun _ => ?_) (fun h => h.elim (lcm_eq (hR c_2)))
    refine ev_goto DL_law_5 26 rfl (tgt := 1728) (by decide) ?_
    refine ev_ss DL_law_8 1 85 (pc' := 1731) (lv' := [(5, .int _), (7, .int _), (6, .int _), (0, .ref _), (1, .ref _), (2, .ref _), (3, .ref _), (4, .ref _)]) (st' := []) rfl ?_
    refine ev_goto DL_law_8 86 rfl (tgt := 28) (by decide) ?_
    refine ev_lvp [3, 4, 5, 6, 7, 0] (lv2 := lawL E ad (nI i + 5)) rfl ?_
    exact ev_room (by omega) (by omega) (hK _ _ _ _ hW2)
set_option maxRecDepth 100000 in
set_option maxHeartbeats 4000000 in
theorem LC_15 {E : gE} {ad : Nat → Nat} {Pr : Option Value → va_W → Prop} {ws : va_W} {tw : Int32} {o : Nat → Int64} {d : Nat → UInt64} {i kk nn : Nat} (hW : WD E ad ws tw o d) (hi : i + 4 < (gSc E).2.1) (hN : (gSc E).2.1 < 2 ^ 31) (hK : ∀ (w : va_W) (k : Int32) (o : Nat → Int64) (d : Nat → UInt64), WD E ad w k o d → Ev E YL_law Pr nX kk nn 28 (lawL E ad (nI i + 5)) [] w) : Ev E YL_law Pr nX (kk + 1) (nn + 6) 1074 (lawL E ad (nI i)) [] ws := by
  refine ev_ss DL_law_5 5 27 (pc' := 1080) (lv' := [(0, .ref _), (1, .ref _), (2, .ref _), (3, .ref _), (4, .ref _), (5, .int _)]) (st' := [.int _, .ref _, .ref _]) rfl ?_
  refine ev_sld DL_law_5 32 rfl (sv_in (k := (i + 1)) (nx_add (a := i) (b := 1) rfl rfl) (by omega) hN) ?_
  refine ev_ss DL_law_5 1 33 (pc' := 1082) (lv' := [(0, .ref _), (1, .ref _), (2, .ref _), (3, .ref _), (4, .ref _), (5, .int _)]) (st' := [.ref _, .int _, .ref _]) rfl ?_
  refine ev_callSW DL_law_5 34 vL_had rfl qL_152 (Nat.le_of_ble_eq_true rfl) (Nat.le_of_ble_eq_true rfl) rfl (st := []) (Nat.le_of_ble_eq_true rfl) rfl (k1 := 1) (n1 := 6) (k2 := kk) (n2 := nn) (by omega) (by omega) (J_had hW _) (fun v1 w1 h1 => ?_)
  obtain ⟨k1, rfl, ⟨f7, h7⟩, hB⟩ := h1
  refine ev_ss DL_law_5 6 35 (pc' := 1093) (lv' := [(6, .int _), (0, .ref _), (1, .ref _), (2, .ref _), (3, .ref _), (4, .ref _), (5, .int _)]) (st' := [.int _, .ref _, .ref _]) rfl ?_
  refine ev_sld DL_law_5 41 rfl (sv_in (k := (i + 1)) (nx_add (a := i) (b := 1) rfl rfl) (by omega) hN) ?_
  refine ev_rV DL_law_5 42 hB vX7_had rfl qL_154 rfl h7 rfl (hd_of rfl rfl rfl rfl) (fun v2 w2 h2 => ?_)
  obtain ⟨o2, d2, ⟨R, rfl, hR⟩, hW2⟩ := h2
  obtain ⟨f8, h8⟩ := hW2.o7
  refine ev_ss DL_law_5 2 43 (pc' := 1100) (lv' := [(7, .long _), (6, .int _), (0, .ref _), (1, .ref _), (2, .ref _), (3, .ref _), (4, .ref _), (5, .int _)]) (st' := [.ref _]) rfl ?_
  refine ev_cV DL_law_5 45 hW2.th vX7_thrown rfl qL_101 rfl h8 rfl (hd_of rfl rfl rfl rfl) ?_
  refine ev_ss DL_law_5 1 46 (pc' := 1105) (lv' := [(7, .long _), (6, .int _), (0, .ref _), (1, .ref _), (2, .ref _), (3, .ref _), (4, .ref _), (5, .int _)]) (st' := [.int _, .int _]) rfl ?_
  refine ev_iceq DL_law_5 47 rfl (tgt := 1110) (by decide) (fun _ => ?_) (fun h => h.elim rfl)
  refine ev_ss DL_law_5 1 50 (pc' := 1112) (lv' := [(7, .long _), (6, .int _), (0, .ref _), (1, .ref _), (2, .ref _), (3, .ref _), (4, .ref _), (5, .int _)]) (st' := [.int _]) rfl ?_
  refine ev_ifne DL_law_5 51 rfl (tgt := 1126) (by decide) (fun c_2 => ?_) (fun c_2 => ?_)
  · refine ev_goto DL_law_5 60 rfl (tgt := 1728) (by decide) ?_
    refine ev_ss DL_law_8 1 85 (pc' := 1731) (lv' := [(5, .int _), (7, .long _), (6, .int _), (0, .ref _), (1, .ref _), (2, .ref _), (3, .ref _), (4, .ref _)]) (st' := []) rfl ?_
    refine ev_goto DL_law_8 86 rfl (tgt := 28) (by decide) ?_
    refine ev_lvp [3, 4, 5, 6, 7, 0] (lv2 := lawL E ad (nI i + 5)) rfl ?_
    exact ev_room (by omega) (by omega) (hK _ _ _ _ hW2)
  · refine ev_ss DL_law_5 2 52 (pc' := 1117) (lv' := [(7, .long _), (6, .int _), (0, .ref _), (1, .ref _), (2, .ref _), (3, .ref _), (4, .ref _), (5, .int _)]) (st' := [.int 0, .ref _]) rfl ?_
    refine ev_lald DL_law_5 54 rfl hW2.h3 (by unfold vp_in; decide) ?_
    refine ev_ss DL_law_5 2 55 (pc' := 1121) (lv' := [(7, .long _), (6, .int _), (0, .ref _), (1, .ref _), (2, .ref _), (3, .ref _), (4, .ref _), (5, .int _)]) (st' := [.int _]) rfl ?_
    refine ev_ifeq DL_law_5 57 rfl (tgt := 1126) (by decide) (fun _ => ?_) (fun h => h.elim (lcm_eq (hR c_2)))
    refine ev_goto DL_law_5 60 rfl (tgt := 1728) (by decide) ?_
    refine ev_ss DL_law_8 1 85 (pc' := 1731) (lv' := [(5, .int _), (7, .long _), (6, .int _), (0, .ref _), (1, .ref _), (2, .ref _), (3, .ref _), (4, .ref _)]) (st' := []) rfl ?_
    refine ev_goto DL_law_8 86 rfl (tgt := 28) (by decide) ?_
    refine ev_lvp [3, 4, 5, 6, 7, 0] (lv2 := lawL E ad (nI i + 5)) rfl ?_
    exact ev_room (by omega) (by omega) (hK _ _ _ _ hW2)
set_option maxRecDepth 100000 in
set_option maxHeartbeats 4000000 in
theorem LC_16 {E : gE} {ad : Nat → Nat} {Pr : Option Value → va_W → Prop} {ws : va_W} {tw : Int32} {o : Nat → Int64} {d : Nat → UInt64} {i kk nn : Nat} (hW : WD E ad ws tw o d) (hi : i + 4 < (gSc E).2.1) (hN : (gSc E).2.1 < 2 ^ 31) (hK : ∀ (w : va_W) (k : Int32) (o : Nat → Int64) (d : Nat → UInt64), WD E ad w k o d → Ev E YL_law Pr nX kk nn 28 (lawL E ad (nI i + 5)) [] w) : Ev E YL_law Pr nX (kk + 1) (nn + 6) 1129 (lawL E ad (nI i)) [] ws := by
  refine ev_ss DL_law_5 5 61 (pc' := 1135) (lv' := [(0, .ref _), (1, .ref _), (2, .ref _), (3, .ref _), (4, .ref _), (5, .int _)]) (st' := [.int _, .ref _, .ref _]) rfl ?_
  refine ev_sld DL_law_5 66 rfl (sv_in (k := (i + 1)) (nx_add (a := i) (b := 1) rfl rfl) (by omega) hN) ?_
  refine ev_ss DL_law_5 1 67 (pc' := 1137) (lv' := [(0, .ref _), (1, .ref _), (2, .ref _), (3, .ref _), (4, .ref _), (5, .int _)]) (st' := [.ref _, .int _, .ref _]) rfl ?_
  refine ev_callSW DL_law_5 68 vL_count rfl qL_155 (Nat.le_of_ble_eq_true rfl) (Nat.le_of_ble_eq_true rfl) rfl (st := []) (Nat.le_of_ble_eq_true rfl) rfl (k1 := 1) (n1 := 6) (k2 := kk) (n2 := nn) (by omega) (by omega) (J_count hW _) (fun v1 w1 h1 => ?_)
  obtain ⟨k1, rfl, ⟨f7, h7⟩, hB⟩ := h1
  refine ev_ss DL_law_5 6 69 (pc' := 1148) (lv' := [(6, .int _), (0, .ref _), (1, .ref _), (2, .ref _), (3, .ref _), (4, .ref _), (5, .int _)]) (st' := [.int _, .ref _, .ref _]) rfl ?_
  refine ev_sld DL_law_5 75 rfl (sv_in (k := (i + 1)) (nx_add (a := i) (b := 1) rfl rfl) (by omega) hN) ?_
  refine ev_rV DL_law_5 76 hB vX7_count rfl qL_157 rfl h7 rfl (hd_of rfl rfl rfl rfl) (fun v2 w2 h2 => ?_)
  obtain ⟨o2, d2, ⟨R, rfl, hR⟩, hW2⟩ := h2
  obtain ⟨f8, h8⟩ := hW2.o7
  refine ev_ss DL_law_5 2 77 (pc' := 1155) (lv' := [(7, .int _), (6, .int _), (0, .ref _), (1, .ref _), (2, .ref _), (3, .ref _), (4, .ref _), (5, .int _)]) (st' := [.ref _]) rfl ?_
  refine ev_cV DL_law_5 79 hW2.th vX7_thrown rfl qL_101 rfl h8 rfl (hd_of rfl rfl rfl rfl) ?_
  refine ev_ss DL_law_5 1 80 (pc' := 1160) (lv' := [(7, .int _), (6, .int _), (0, .ref _), (1, .ref _), (2, .ref _), (3, .ref _), (4, .ref _), (5, .int _)]) (st' := [.int _, .int _]) rfl ?_
  refine ev_iceq DL_law_5 81 rfl (tgt := 1165) (by decide) (fun _ => ?_) (fun h => h.elim rfl)
  refine ev_ss DL_law_5 1 84 (pc' := 1167) (lv' := [(7, .int _), (6, .int _), (0, .ref _), (1, .ref _), (2, .ref _), (3, .ref _), (4, .ref _), (5, .int _)]) (st' := [.int _]) rfl ?_
  refine ev_ifne DL_law_5 85 rfl (tgt := 1182) (by decide) (fun c_2 => ?_) (fun c_2 => ?_)
  · refine ev_goto DL_law_5 95 rfl (tgt := 1728) (by decide) ?_
    refine ev_ss DL_law_8 1 85 (pc' := 1731) (lv' := [(5, .int _), (7, .int _), (6, .int _), (0, .ref _), (1, .ref _), (2, .ref _), (3, .ref _), (4, .ref _)]) (st' := []) rfl ?_
    refine ev_goto DL_law_8 86 rfl (tgt := 28) (by decide) ?_
    refine ev_lvp [3, 4, 5, 6, 7, 0] (lv2 := lawL E ad (nI i + 5)) rfl ?_
    exact ev_room (by omega) (by omega) (hK _ _ _ _ hW2)
  · refine ev_ss DL_law_5 2 86 (pc' := 1172) (lv' := [(7, .int _), (6, .int _), (0, .ref _), (1, .ref _), (2, .ref _), (3, .ref _), (4, .ref _), (5, .int _)]) (st' := [.int 0, .ref _]) rfl ?_
    refine ev_lald DL_law_5 88 rfl hW2.h3 (by unfold vp_in; decide) ?_
    refine ev_ss DL_law_5 3 89 (pc' := 1177) (lv' := [(7, .int _), (6, .int _), (0, .ref _), (1, .ref _), (2, .ref _), (3, .ref _), (4, .ref _), (5, .int _)]) (st' := [.int _]) rfl ?_
    refine ev_ifeq DL_law_5 92 rfl (tgt := 1182) (by decide) (fun _ => ?_) (fun h => h.elim (lcm_eq (hR c_2)))
    refine ev_goto DL_law_5 95 rfl (tgt := 1728) (by decide) ?_
    refine ev_ss DL_law_8 1 85 (pc' := 1731) (lv' := [(5, .int _), (7, .int _), (6, .int _), (0, .ref _), (1, .ref _), (2, .ref _), (3, .ref _), (4, .ref _)]) (st' := []) rfl ?_
    refine ev_goto DL_law_8 86 rfl (tgt := 28) (by decide) ?_
    refine ev_lvp [3, 4, 5, 6, 7, 0] (lv2 := lawL E ad (nI i + 5)) rfl ?_
    exact ev_room (by omega) (by omega) (hK _ _ _ _ hW2)
set_option maxRecDepth 100000 in
set_option maxHeartbeats 4000000 in
theorem LC_17 {E : gE} {ad : Nat → Nat} {Pr : Option Value → va_W → Prop} {ws : va_W} {tw : Int32} {o : Nat → Int64} {d : Nat → UInt64} {i kk nn : Nat} (hW : WD E ad ws tw o d) (hi : i + 4 < (gSc E).2.1) (hN : (gSc E).2.1 < 2 ^ 31) (hK : ∀ (w : va_W) (k : Int32) (o : Nat → Int64) (d : Nat → UInt64), WD E ad w k o d → Ev E YL_law Pr nX kk nn 28 (lawL E ad (nI i + 5)) [] w) : Ev E YL_law Pr nX (kk + 1) (nn + 6) 1185 (lawL E ad (nI i)) [] ws := by
  refine ev_ss DL_law_5 5 96 (pc' := 1191) (lv' := [(0, .ref _), (1, .ref _), (2, .ref _), (3, .ref _), (4, .ref _), (5, .int _)]) (st' := [.int _, .ref _, .ref _]) rfl ?_
  refine ev_sld DL_law_5 101 rfl (sv_in (k := (i + 1)) (nx_add (a := i) (b := 1) rfl rfl) (by omega) hN) ?_
  refine ev_ss DL_law_5 1 102 (pc' := 1193) (lv' := [(0, .ref _), (1, .ref _), (2, .ref _), (3, .ref _), (4, .ref _), (5, .int _)]) (st' := [.ref _, .int _, .ref _]) rfl ?_
  refine ev_callSW DL_law_5 103 vL_setting rfl qL_158 (Nat.le_of_ble_eq_true rfl) (Nat.le_of_ble_eq_true rfl) rfl (st := []) (Nat.le_of_ble_eq_true rfl) rfl (k1 := 1) (n1 := 6) (k2 := kk) (n2 := nn) (by omega) (by omega) (J_setting hW _) (fun v1 w1 h1 => ?_)
  obtain ⟨k1, rfl, ⟨f7, h7⟩, hB⟩ := h1
  refine ev_ss DL_law_5 6 104 (pc' := 1204) (lv' := [(6, .int _), (0, .ref _), (1, .ref _), (2, .ref _), (3, .ref _), (4, .ref _), (5, .int _)]) (st' := [.int _, .ref _, .ref _]) rfl ?_
  refine ev_sld DL_law_5 110 rfl (sv_in (k := (i + 1)) (nx_add (a := i) (b := 1) rfl rfl) (by omega) hN) ?_
  refine ev_rV DL_law_5 111 hB vX7_setting rfl qL_160 rfl h7 rfl (hd_of rfl rfl rfl rfl) (fun v2 w2 h2 => ?_)
  obtain ⟨o2, d2, ⟨R, rfl, hR⟩, hW2⟩ := h2
  obtain ⟨f8, h8⟩ := hW2.o7
  refine ev_ss DL_law_5 2 112 (pc' := 1211) (lv' := [(7, .int _), (6, .int _), (0, .ref _), (1, .ref _), (2, .ref _), (3, .ref _), (4, .ref _), (5, .int _)]) (st' := [.ref _]) rfl ?_
  refine ev_cV DL_law_5 114 hW2.th vX7_thrown rfl qL_101 rfl h8 rfl (hd_of rfl rfl rfl rfl) ?_
  refine ev_ss DL_law_5 1 115 (pc' := 1216) (lv' := [(7, .int _), (6, .int _), (0, .ref _), (1, .ref _), (2, .ref _), (3, .ref _), (4, .ref _), (5, .int _)]) (st' := [.int _, .int _]) rfl ?_
  refine ev_iceq DL_law_5 116 rfl (tgt := 1221) (by decide) (fun _ => ?_) (fun h => h.elim rfl)
  refine ev_ss DL_law_5 1 119 (pc' := 1223) (lv' := [(7, .int _), (6, .int _), (0, .ref _), (1, .ref _), (2, .ref _), (3, .ref _), (4, .ref _), (5, .int _)]) (st' := [.int _]) rfl ?_
  refine ev_ifne DL_law_6 0 rfl (tgt := 1238) (by decide) (fun c_2 => ?_) (fun c_2 => ?_)
  · refine ev_goto DL_law_6 10 rfl (tgt := 1728) (by decide) ?_
    refine ev_ss DL_law_8 1 85 (pc' := 1731) (lv' := [(5, .int _), (7, .int _), (6, .int _), (0, .ref _), (1, .ref _), (2, .ref _), (3, .ref _), (4, .ref _)]) (st' := []) rfl ?_
    refine ev_goto DL_law_8 86 rfl (tgt := 28) (by decide) ?_
    refine ev_lvp [3, 4, 5, 6, 7, 0] (lv2 := lawL E ad (nI i + 5)) rfl ?_
    exact ev_room (by omega) (by omega) (hK _ _ _ _ hW2)
  · refine ev_ss DL_law_6 2 1 (pc' := 1228) (lv' := [(7, .int _), (6, .int _), (0, .ref _), (1, .ref _), (2, .ref _), (3, .ref _), (4, .ref _), (5, .int _)]) (st' := [.int 0, .ref _]) rfl ?_
    refine ev_lald DL_law_6 3 rfl hW2.h3 (by unfold vp_in; decide) ?_
    refine ev_ss DL_law_6 3 4 (pc' := 1233) (lv' := [(7, .int _), (6, .int _), (0, .ref _), (1, .ref _), (2, .ref _), (3, .ref _), (4, .ref _), (5, .int _)]) (st' := [.int _]) rfl ?_
    refine ev_ifeq DL_law_6 7 rfl (tgt := 1238) (by decide) (fun _ => ?_) (fun h => h.elim (lcm_eq (hR c_2)))
    refine ev_goto DL_law_6 10 rfl (tgt := 1728) (by decide) ?_
    refine ev_ss DL_law_8 1 85 (pc' := 1731) (lv' := [(5, .int _), (7, .int _), (6, .int _), (0, .ref _), (1, .ref _), (2, .ref _), (3, .ref _), (4, .ref _)]) (st' := []) rfl ?_
    refine ev_goto DL_law_8 86 rfl (tgt := 28) (by decide) ?_
    refine ev_lvp [3, 4, 5, 6, 7, 0] (lv2 := lawL E ad (nI i + 5)) rfl ?_
    exact ev_room (by omega) (by omega) (hK _ _ _ _ hW2)
set_option maxRecDepth 100000 in
set_option maxHeartbeats 4000000 in
theorem LC_18 {E : gE} {ad : Nat → Nat} {Pr : Option Value → va_W → Prop} {ws : va_W} {tw : Int32} {o : Nat → Int64} {d : Nat → UInt64} {i kk nn : Nat} (hW : WD E ad ws tw o d) (hi : i + 4 < (gSc E).2.1) (hN : (gSc E).2.1 < 2 ^ 31) (hK : ∀ (w : va_W) (k : Int32) (o : Nat → Int64) (d : Nat → UInt64), WD E ad w k o d → Ev E YL_law Pr nX kk nn 28 (lawL E ad (nI i + 5)) [] w) : Ev E YL_law Pr nX (kk + 1) (nn + 6) 1241 (lawL E ad (nI i)) [] ws := by
  refine ev_ss DL_law_6 5 11 (pc' := 1247) (lv' := [(0, .ref _), (1, .ref _), (2, .ref _), (3, .ref _), (4, .ref _), (5, .int _)]) (st' := [.int _, .ref _, .ref _]) rfl ?_
  refine ev_sld DL_law_6 16 rfl (sv_in (k := (i + 1)) (nx_add (a := i) (b := 1) rfl rfl) (by omega) hN) ?_
  refine ev_ss DL_law_6 4 17 (pc' := 1253) (lv' := [(0, .ref _), (1, .ref _), (2, .ref _), (3, .ref _), (4, .ref _), (5, .int _)]) (st' := [.int _, .ref _, .int _, .ref _]) rfl ?_
  refine ev_sld DL_law_6 21 rfl (sv_in (k := (i + 2)) (nx_add (a := i) (b := 2) rfl rfl) (by omega) hN) ?_
  refine ev_ss DL_law_6 1 22 (pc' := 1255) (lv' := [(0, .ref _), (1, .ref _), (2, .ref _), (3, .ref _), (4, .ref _), (5, .int _)]) (st' := [.ref _, .int _, .int _, .ref _]) rfl ?_
  refine ev_callSW DL_law_6 23 vL_sure rfl qL_161 (Nat.le_of_ble_eq_true rfl) (Nat.le_of_ble_eq_true rfl) rfl (st := []) (Nat.le_of_ble_eq_true rfl) rfl (k1 := 1) (n1 := 6) (k2 := kk) (n2 := nn) (by omega) (by omega) (J_sure hW _ _) (fun v1 w1 h1 => ?_)
  obtain ⟨k1, rfl, ⟨f7, h7⟩, hB⟩ := h1
  refine ev_ss DL_law_6 6 24 (pc' := 1266) (lv' := [(6, .int _), (0, .ref _), (1, .ref _), (2, .ref _), (3, .ref _), (4, .ref _), (5, .int _)]) (st' := [.int _, .ref _, .ref _]) rfl ?_
  refine ev_sld DL_law_6 30 rfl (sv_in (k := (i + 1)) (nx_add (a := i) (b := 1) rfl rfl) (by omega) hN) ?_
  refine ev_ss DL_law_6 4 31 (pc' := 1272) (lv' := [(6, .int _), (0, .ref _), (1, .ref _), (2, .ref _), (3, .ref _), (4, .ref _), (5, .int _)]) (st' := [.int _, .ref _, .int _, .ref _]) rfl ?_
  refine ev_sld DL_law_6 35 rfl (sv_in (k := (i + 2)) (nx_add (a := i) (b := 2) rfl rfl) (by omega) hN) ?_
  refine ev_rV DL_law_6 36 hB vX7_sure rfl qL_163 rfl h7 rfl (hd_of rfl rfl rfl rfl) (fun v2 w2 h2 => ?_)
  obtain ⟨o2, d2, ⟨R, rfl, hR⟩, hW2⟩ := h2
  obtain ⟨f8, h8⟩ := hW2.o7
  refine ev_ss DL_law_6 2 37 (pc' := 1279) (lv' := [(7, .int _), (6, .int _), (0, .ref _), (1, .ref _), (2, .ref _), (3, .ref _), (4, .ref _), (5, .int _)]) (st' := [.ref _]) rfl ?_
  refine ev_cV DL_law_6 39 hW2.th vX7_thrown rfl qL_101 rfl h8 rfl (hd_of rfl rfl rfl rfl) ?_
  refine ev_ss DL_law_6 1 40 (pc' := 1284) (lv' := [(7, .int _), (6, .int _), (0, .ref _), (1, .ref _), (2, .ref _), (3, .ref _), (4, .ref _), (5, .int _)]) (st' := [.int _, .int _]) rfl ?_
  refine ev_iceq DL_law_6 41 rfl (tgt := 1289) (by decide) (fun _ => ?_) (fun h => h.elim rfl)
  refine ev_ss DL_law_6 1 44 (pc' := 1291) (lv' := [(7, .int _), (6, .int _), (0, .ref _), (1, .ref _), (2, .ref _), (3, .ref _), (4, .ref _), (5, .int _)]) (st' := [.int _]) rfl ?_
  refine ev_ifne DL_law_6 45 rfl (tgt := 1306) (by decide) (fun c_2 => ?_) (fun c_2 => ?_)
  · refine ev_goto DL_law_6 55 rfl (tgt := 1728) (by decide) ?_
    refine ev_ss DL_law_8 1 85 (pc' := 1731) (lv' := [(5, .int _), (7, .int _), (6, .int _), (0, .ref _), (1, .ref _), (2, .ref _), (3, .ref _), (4, .ref _)]) (st' := []) rfl ?_
    refine ev_goto DL_law_8 86 rfl (tgt := 28) (by decide) ?_
    refine ev_lvp [3, 4, 5, 6, 7, 0] (lv2 := lawL E ad (nI i + 5)) rfl ?_
    exact ev_room (by omega) (by omega) (hK _ _ _ _ hW2)
  · refine ev_ss DL_law_6 2 46 (pc' := 1296) (lv' := [(7, .int _), (6, .int _), (0, .ref _), (1, .ref _), (2, .ref _), (3, .ref _), (4, .ref _), (5, .int _)]) (st' := [.int 0, .ref _]) rfl ?_
    refine ev_lald DL_law_6 48 rfl hW2.h3 (by unfold vp_in; decide) ?_
    refine ev_ss DL_law_6 3 49 (pc' := 1301) (lv' := [(7, .int _), (6, .int _), (0, .ref _), (1, .ref _), (2, .ref _), (3, .ref _), (4, .ref _), (5, .int _)]) (st' := [.int _]) rfl ?_
    refine ev_ifeq DL_law_6 52 rfl (tgt := 1306) (by decide) (fun _ => ?_) (fun h => h.elim (lcm_eq (hR c_2)))
    refine ev_goto DL_law_6 55 rfl (tgt := 1728) (by decide) ?_
    refine ev_ss DL_law_8 1 85 (pc' := 1731) (lv' := [(5, .int _), (7, .int _), (6, .int _), (0, .ref _), (1, .ref _), (2, .ref _), (3, .ref _), (4, .ref _)]) (st' := []) rfl ?_
    refine ev_goto DL_law_8 86 rfl (tgt := 28) (by decide) ?_
    refine ev_lvp [3, 4, 5, 6, 7, 0] (lv2 := lawL E ad (nI i + 5)) rfl ?_
    exact ev_room (by omega) (by omega) (hK _ _ _ _ hW2)
set_option maxRecDepth 100000 in
set_option maxHeartbeats 4000000 in
theorem LC_19 {E : gE} {ad : Nat → Nat} {Pr : Option Value → va_W → Prop} {ws : va_W} {tw : Int32} {o : Nat → Int64} {d : Nat → UInt64} {i kk nn : Nat} (hW : WD E ad ws tw o d) (hi : i + 4 < (gSc E).2.1) (hN : (gSc E).2.1 < 2 ^ 31) (hK : ∀ (w : va_W) (k : Int32) (o : Nat → Int64) (d : Nat → UInt64), WD E ad w k o d → Ev E YL_law Pr nX kk nn 28 (lawL E ad (nI i + 5)) [] w) : Ev E YL_law Pr nX (kk + 1) (nn + 6) 1309 (lawL E ad (nI i)) [] ws := by
  refine ev_ss DL_law_6 5 56 (pc' := 1315) (lv' := [(0, .ref _), (1, .ref _), (2, .ref _), (3, .ref _), (4, .ref _), (5, .int _)]) (st' := [.int _, .ref _, .ref _]) rfl ?_
  refine ev_sld DL_law_6 61 rfl (sv_in (k := (i + 1)) (nx_add (a := i) (b := 1) rfl rfl) (by omega) hN) ?_
  refine ev_ss DL_law_6 4 62 (pc' := 1321) (lv' := [(0, .ref _), (1, .ref _), (2, .ref _), (3, .ref _), (4, .ref _), (5, .int _)]) (st' := [.int _, .ref _, .int _, .ref _]) rfl ?_
  refine ev_sld DL_law_6 66 rfl (sv_in (k := (i + 2)) (nx_add (a := i) (b := 2) rfl rfl) (by omega) hN) ?_
  refine ev_ss DL_law_6 4 67 (pc' := 1327) (lv' := [(0, .ref _), (1, .ref _), (2, .ref _), (3, .ref _), (4, .ref _), (5, .int _)]) (st' := [.int _, .ref _, .int _, .int _, .ref _]) rfl ?_
  refine ev_sld DL_law_6 71 rfl (sv_in (k := (i + 3)) (nx_add (a := i) (b := 3) rfl rfl) (by omega) hN) ?_
  refine ev_ss DL_law_6 1 72 (pc' := 1329) (lv' := [(0, .ref _), (1, .ref _), (2, .ref _), (3, .ref _), (4, .ref _), (5, .int _)]) (st' := [.ref _, .int _, .int _, .int _, .ref _]) rfl ?_
  refine ev_callSW DL_law_6 73 vL_ifSent rfl qL_164 (Nat.le_of_ble_eq_true rfl) (Nat.le_of_ble_eq_true rfl) rfl (st := []) (Nat.le_of_ble_eq_true rfl) rfl (k1 := 1) (n1 := 6) (k2 := kk) (n2 := nn) (by omega) (by omega) (J_ifSent hW _ _ _) (fun v1 w1 h1 => ?_)
  obtain ⟨k1, rfl, ⟨f7, h7⟩, hB⟩ := h1
  refine ev_ss DL_law_6 6 74 (pc' := 1340) (lv' := [(6, .int _), (0, .ref _), (1, .ref _), (2, .ref _), (3, .ref _), (4, .ref _), (5, .int _)]) (st' := [.int _, .ref _, .ref _]) rfl ?_
  refine ev_sld DL_law_6 80 rfl (sv_in (k := (i + 1)) (nx_add (a := i) (b := 1) rfl rfl) (by omega) hN) ?_
  refine ev_ss DL_law_6 4 81 (pc' := 1346) (lv' := [(6, .int _), (0, .ref _), (1, .ref _), (2, .ref _), (3, .ref _), (4, .ref _), (5, .int _)]) (st' := [.int _, .ref _, .int _, .ref _]) rfl ?_
  refine ev_sld DL_law_6 85 rfl (sv_in (k := (i + 2)) (nx_add (a := i) (b := 2) rfl rfl) (by omega) hN) ?_
  refine ev_ss DL_law_6 4 86 (pc' := 1352) (lv' := [(6, .int _), (0, .ref _), (1, .ref _), (2, .ref _), (3, .ref _), (4, .ref _), (5, .int _)]) (st' := [.int _, .ref _, .int _, .int _, .ref _]) rfl ?_
  refine ev_sld DL_law_6 90 rfl (sv_in (k := (i + 3)) (nx_add (a := i) (b := 3) rfl rfl) (by omega) hN) ?_
  refine ev_rV DL_law_6 91 hB vX7_ifSent rfl qL_166 rfl h7 rfl (hd_of rfl rfl rfl rfl) (fun v2 w2 h2 => ?_)
  obtain ⟨o2, d2, ⟨R, rfl, hR⟩, hW2⟩ := h2
  obtain ⟨f8, h8⟩ := hW2.o7
  refine ev_ss DL_law_6 2 92 (pc' := 1359) (lv' := [(7, .int _), (6, .int _), (0, .ref _), (1, .ref _), (2, .ref _), (3, .ref _), (4, .ref _), (5, .int _)]) (st' := [.ref _]) rfl ?_
  refine ev_cV DL_law_6 94 hW2.th vX7_thrown rfl qL_101 rfl h8 rfl (hd_of rfl rfl rfl rfl) ?_
  refine ev_ss DL_law_6 1 95 (pc' := 1364) (lv' := [(7, .int _), (6, .int _), (0, .ref _), (1, .ref _), (2, .ref _), (3, .ref _), (4, .ref _), (5, .int _)]) (st' := [.int _, .int _]) rfl ?_
  refine ev_iceq DL_law_6 96 rfl (tgt := 1369) (by decide) (fun _ => ?_) (fun h => h.elim rfl)
  refine ev_ss DL_law_6 1 99 (pc' := 1371) (lv' := [(7, .int _), (6, .int _), (0, .ref _), (1, .ref _), (2, .ref _), (3, .ref _), (4, .ref _), (5, .int _)]) (st' := [.int _]) rfl ?_
  refine ev_ifne DL_law_6 100 rfl (tgt := 1386) (by decide) (fun c_2 => ?_) (fun c_2 => ?_)
  · refine ev_goto DL_law_6 110 rfl (tgt := 1728) (by decide) ?_
    refine ev_ss DL_law_8 1 85 (pc' := 1731) (lv' := [(5, .int _), (7, .int _), (6, .int _), (0, .ref _), (1, .ref _), (2, .ref _), (3, .ref _), (4, .ref _)]) (st' := []) rfl ?_
    refine ev_goto DL_law_8 86 rfl (tgt := 28) (by decide) ?_
    refine ev_lvp [3, 4, 5, 6, 7, 0] (lv2 := lawL E ad (nI i + 5)) rfl ?_
    exact ev_room (by omega) (by omega) (hK _ _ _ _ hW2)
  · refine ev_ss DL_law_6 2 101 (pc' := 1376) (lv' := [(7, .int _), (6, .int _), (0, .ref _), (1, .ref _), (2, .ref _), (3, .ref _), (4, .ref _), (5, .int _)]) (st' := [.int 0, .ref _]) rfl ?_
    refine ev_lald DL_law_6 103 rfl hW2.h3 (by unfold vp_in; decide) ?_
    refine ev_ss DL_law_6 3 104 (pc' := 1381) (lv' := [(7, .int _), (6, .int _), (0, .ref _), (1, .ref _), (2, .ref _), (3, .ref _), (4, .ref _), (5, .int _)]) (st' := [.int _]) rfl ?_
    refine ev_ifeq DL_law_6 107 rfl (tgt := 1386) (by decide) (fun _ => ?_) (fun h => h.elim (lcm_eq (hR c_2)))
    refine ev_goto DL_law_6 110 rfl (tgt := 1728) (by decide) ?_
    refine ev_ss DL_law_8 1 85 (pc' := 1731) (lv' := [(5, .int _), (7, .int _), (6, .int _), (0, .ref _), (1, .ref _), (2, .ref _), (3, .ref _), (4, .ref _)]) (st' := []) rfl ?_
    refine ev_goto DL_law_8 86 rfl (tgt := 28) (by decide) ?_
    refine ev_lvp [3, 4, 5, 6, 7, 0] (lv2 := lawL E ad (nI i + 5)) rfl ?_
    exact ev_room (by omega) (by omega) (hK _ _ _ _ hW2)
set_option maxRecDepth 100000 in
set_option maxHeartbeats 4000000 in
theorem LC_20 {E : gE} {ad : Nat → Nat} {Pr : Option Value → va_W → Prop} {ws : va_W} {tw : Int32} {o : Nat → Int64} {d : Nat → UInt64} {i kk nn : Nat} (hW : WD E ad ws tw o d) (hi : i + 4 < (gSc E).2.1) (hN : (gSc E).2.1 < 2 ^ 31) (hK : ∀ (w : va_W) (k : Int32) (o : Nat → Int64) (d : Nat → UInt64), WD E ad w k o d → Ev E YL_law Pr nX kk nn 28 (lawL E ad (nI i + 5)) [] w) : Ev E YL_law Pr nX (kk + 1) (nn + 6) 1389 (lawL E ad (nI i)) [] ws := by
  refine ev_ss DL_law_6 5 111 (pc' := 1395) (lv' := [(0, .ref _), (1, .ref _), (2, .ref _), (3, .ref _), (4, .ref _), (5, .int _)]) (st' := [.int _, .ref _, .ref _]) rfl ?_
  refine ev_sld DL_law_6 116 rfl (sv_in (k := (i + 1)) (nx_add (a := i) (b := 1) rfl rfl) (by omega) hN) ?_
  refine ev_ss DL_law_6 3 117 (pc' := 1400) (lv' := [(0, .ref _), (1, .ref _), (2, .ref _), (3, .ref _), (4, .ref _), (5, .int _)]) (st' := [.int 2, .int _, .ref _, .int _, .ref _]) rfl ?_
  refine ev_ss DL_law_7 1 0 (pc' := 1401) (lv' := [(0, .ref _), (1, .ref _), (2, .ref _), (3, .ref _), (4, .ref _), (5, .int _)]) (st' := [.int _, .ref _, .int _, .ref _]) rfl ?_
  refine ev_sld DL_law_7 1 rfl (sv_in (k := (i + 2)) (nx_add (a := i) (b := 2) rfl rfl) (by omega) hN) ?_
  refine ev_ss DL_law_7 1 2 (pc' := 1403) (lv' := [(0, .ref _), (1, .ref _), (2, .ref _), (3, .ref _), (4, .ref _), (5, .int _)]) (st' := [.ref _, .int _, .int _, .ref _]) rfl ?_
  refine ev_callSW DL_law_7 3 vL_ifLearned rfl qL_167 (Nat.le_of_ble_eq_true rfl) (Nat.le_of_ble_eq_true rfl) rfl (st := []) (Nat.le_of_ble_eq_true rfl) rfl (k1 := 1) (n1 := 6) (k2 := kk) (n2 := nn) (by omega) (by omega) (J_ifLearned hW _ _) (fun v1 w1 h1 => ?_)
  obtain ⟨k1, rfl, ⟨f7, h7⟩, hB⟩ := h1
  refine ev_ss DL_law_7 6 4 (pc' := 1414) (lv' := [(6, .int _), (0, .ref _), (1, .ref _), (2, .ref _), (3, .ref _), (4, .ref _), (5, .int _)]) (st' := [.int _, .ref _, .ref _]) rfl ?_
  refine ev_sld DL_law_7 10 rfl (sv_in (k := (i + 1)) (nx_add (a := i) (b := 1) rfl rfl) (by omega) hN) ?_
  refine ev_ss DL_law_7 4 11 (pc' := 1420) (lv' := [(6, .int _), (0, .ref _), (1, .ref _), (2, .ref _), (3, .ref _), (4, .ref _), (5, .int _)]) (st' := [.int _, .ref _, .int _, .ref _]) rfl ?_
  refine ev_sld DL_law_7 15 rfl (sv_in (k := (i + 2)) (nx_add (a := i) (b := 2) rfl rfl) (by omega) hN) ?_
  refine ev_rV DL_law_7 16 hB vX7_ifLearned rfl qL_169 rfl h7 rfl (hd_of rfl rfl rfl rfl) (fun v2 w2 h2 => ?_)
  obtain ⟨o2, d2, ⟨R, rfl, hR⟩, hW2⟩ := h2
  obtain ⟨f8, h8⟩ := hW2.o7
  refine ev_ss DL_law_7 2 17 (pc' := 1427) (lv' := [(7, .int _), (6, .int _), (0, .ref _), (1, .ref _), (2, .ref _), (3, .ref _), (4, .ref _), (5, .int _)]) (st' := [.ref _]) rfl ?_
  refine ev_cV DL_law_7 19 hW2.th vX7_thrown rfl qL_101 rfl h8 rfl (hd_of rfl rfl rfl rfl) ?_
  refine ev_ss DL_law_7 1 20 (pc' := 1432) (lv' := [(7, .int _), (6, .int _), (0, .ref _), (1, .ref _), (2, .ref _), (3, .ref _), (4, .ref _), (5, .int _)]) (st' := [.int _, .int _]) rfl ?_
  refine ev_iceq DL_law_7 21 rfl (tgt := 1437) (by decide) (fun _ => ?_) (fun h => h.elim rfl)
  refine ev_ss DL_law_7 1 24 (pc' := 1439) (lv' := [(7, .int _), (6, .int _), (0, .ref _), (1, .ref _), (2, .ref _), (3, .ref _), (4, .ref _), (5, .int _)]) (st' := [.int _]) rfl ?_
  refine ev_ifne DL_law_7 25 rfl (tgt := 1454) (by decide) (fun c_2 => ?_) (fun c_2 => ?_)
  · refine ev_goto DL_law_7 35 rfl (tgt := 1728) (by decide) ?_
    refine ev_ss DL_law_8 1 85 (pc' := 1731) (lv' := [(5, .int _), (7, .int _), (6, .int _), (0, .ref _), (1, .ref _), (2, .ref _), (3, .ref _), (4, .ref _)]) (st' := []) rfl ?_
    refine ev_goto DL_law_8 86 rfl (tgt := 28) (by decide) ?_
    refine ev_lvp [3, 4, 5, 6, 7, 0] (lv2 := lawL E ad (nI i + 5)) rfl ?_
    exact ev_room (by omega) (by omega) (hK _ _ _ _ hW2)
  · refine ev_ss DL_law_7 2 26 (pc' := 1444) (lv' := [(7, .int _), (6, .int _), (0, .ref _), (1, .ref _), (2, .ref _), (3, .ref _), (4, .ref _), (5, .int _)]) (st' := [.int 0, .ref _]) rfl ?_
    refine ev_lald DL_law_7 28 rfl hW2.h3 (by unfold vp_in; decide) ?_
    refine ev_ss DL_law_7 3 29 (pc' := 1449) (lv' := [(7, .int _), (6, .int _), (0, .ref _), (1, .ref _), (2, .ref _), (3, .ref _), (4, .ref _), (5, .int _)]) (st' := [.int _]) rfl ?_
    refine ev_ifeq DL_law_7 32 rfl (tgt := 1454) (by decide) (fun _ => ?_) (fun h => h.elim (lcm_eq (hR c_2)))
    refine ev_goto DL_law_7 35 rfl (tgt := 1728) (by decide) ?_
    refine ev_ss DL_law_8 1 85 (pc' := 1731) (lv' := [(5, .int _), (7, .int _), (6, .int _), (0, .ref _), (1, .ref _), (2, .ref _), (3, .ref _), (4, .ref _)]) (st' := []) rfl ?_
    refine ev_goto DL_law_8 86 rfl (tgt := 28) (by decide) ?_
    refine ev_lvp [3, 4, 5, 6, 7, 0] (lv2 := lawL E ad (nI i + 5)) rfl ?_
    exact ev_room (by omega) (by omega) (hK _ _ _ _ hW2)
set_option maxRecDepth 100000 in
set_option maxHeartbeats 4000000 in
theorem LC_21 {E : gE} {ad : Nat → Nat} {Pr : Option Value → va_W → Prop} {ws : va_W} {tw : Int32} {o : Nat → Int64} {d : Nat → UInt64} {i kk nn : Nat} (hW : WD E ad ws tw o d) (hi : i + 4 < (gSc E).2.1) (hN : (gSc E).2.1 < 2 ^ 31) (hK : ∀ (w : va_W) (k : Int32) (o : Nat → Int64) (d : Nat → UInt64), WD E ad w k o d → Ev E YL_law Pr nX kk nn 28 (lawL E ad (nI i + 5)) [] w) : Ev E YL_law Pr nX (kk + 1) (nn + 6) 1457 (lawL E ad (nI i)) [] ws := by
  refine ev_ss DL_law_7 5 36 (pc' := 1463) (lv' := [(0, .ref _), (1, .ref _), (2, .ref _), (3, .ref _), (4, .ref _), (5, .int _)]) (st' := [.int _, .ref _, .ref _]) rfl ?_
  refine ev_sld DL_law_7 41 rfl (sv_in (k := (i + 1)) (nx_add (a := i) (b := 1) rfl rfl) (by omega) hN) ?_
  refine ev_ss DL_law_7 1 42 (pc' := 1465) (lv' := [(0, .ref _), (1, .ref _), (2, .ref _), (3, .ref _), (4, .ref _), (5, .int _)]) (st' := [.ref _, .int _, .ref _]) rfl ?_
  refine ev_callSW DL_law_7 43 vL_beatsFor rfl qL_170 (Nat.le_of_ble_eq_true rfl) (Nat.le_of_ble_eq_true rfl) rfl (st := []) (Nat.le_of_ble_eq_true rfl) rfl (k1 := 1) (n1 := 6) (k2 := kk) (n2 := nn) (by omega) (by omega) (J_beatsFor hW _) (fun v1 w1 h1 => ?_)
  obtain ⟨k1, rfl, ⟨f7, h7⟩, hB⟩ := h1
  refine ev_ss DL_law_7 6 44 (pc' := 1476) (lv' := [(6, .int _), (0, .ref _), (1, .ref _), (2, .ref _), (3, .ref _), (4, .ref _), (5, .int _)]) (st' := [.int _, .ref _, .ref _]) rfl ?_
  refine ev_sld DL_law_7 50 rfl (sv_in (k := (i + 1)) (nx_add (a := i) (b := 1) rfl rfl) (by omega) hN) ?_
  refine ev_rV DL_law_7 51 hB vX7_beatsFor rfl qL_172 rfl h7 rfl (hd_of rfl rfl rfl rfl) (fun v2 w2 h2 => ?_)
  obtain ⟨o2, d2, ⟨R, rfl, hR⟩, hW2⟩ := h2
  obtain ⟨f8, h8⟩ := hW2.o7
  refine ev_ss DL_law_7 2 52 (pc' := 1483) (lv' := [(7, .int _), (6, .int _), (0, .ref _), (1, .ref _), (2, .ref _), (3, .ref _), (4, .ref _), (5, .int _)]) (st' := [.ref _]) rfl ?_
  refine ev_cV DL_law_7 54 hW2.th vX7_thrown rfl qL_101 rfl h8 rfl (hd_of rfl rfl rfl rfl) ?_
  refine ev_ss DL_law_7 1 55 (pc' := 1488) (lv' := [(7, .int _), (6, .int _), (0, .ref _), (1, .ref _), (2, .ref _), (3, .ref _), (4, .ref _), (5, .int _)]) (st' := [.int _, .int _]) rfl ?_
  refine ev_iceq DL_law_7 56 rfl (tgt := 1493) (by decide) (fun _ => ?_) (fun h => h.elim rfl)
  refine ev_ss DL_law_7 1 59 (pc' := 1495) (lv' := [(7, .int _), (6, .int _), (0, .ref _), (1, .ref _), (2, .ref _), (3, .ref _), (4, .ref _), (5, .int _)]) (st' := [.int _]) rfl ?_
  refine ev_ifne DL_law_7 60 rfl (tgt := 1510) (by decide) (fun c_2 => ?_) (fun c_2 => ?_)
  · refine ev_goto DL_law_7 70 rfl (tgt := 1728) (by decide) ?_
    refine ev_ss DL_law_8 1 85 (pc' := 1731) (lv' := [(5, .int _), (7, .int _), (6, .int _), (0, .ref _), (1, .ref _), (2, .ref _), (3, .ref _), (4, .ref _)]) (st' := []) rfl ?_
    refine ev_goto DL_law_8 86 rfl (tgt := 28) (by decide) ?_
    refine ev_lvp [3, 4, 5, 6, 7, 0] (lv2 := lawL E ad (nI i + 5)) rfl ?_
    exact ev_room (by omega) (by omega) (hK _ _ _ _ hW2)
  · refine ev_ss DL_law_7 2 61 (pc' := 1500) (lv' := [(7, .int _), (6, .int _), (0, .ref _), (1, .ref _), (2, .ref _), (3, .ref _), (4, .ref _), (5, .int _)]) (st' := [.int 0, .ref _]) rfl ?_
    refine ev_lald DL_law_7 63 rfl hW2.h3 (by unfold vp_in; decide) ?_
    refine ev_ss DL_law_7 3 64 (pc' := 1505) (lv' := [(7, .int _), (6, .int _), (0, .ref _), (1, .ref _), (2, .ref _), (3, .ref _), (4, .ref _), (5, .int _)]) (st' := [.int _]) rfl ?_
    refine ev_ifeq DL_law_7 67 rfl (tgt := 1510) (by decide) (fun _ => ?_) (fun h => h.elim (lcm_eq (hR c_2)))
    refine ev_goto DL_law_7 70 rfl (tgt := 1728) (by decide) ?_
    refine ev_ss DL_law_8 1 85 (pc' := 1731) (lv' := [(5, .int _), (7, .int _), (6, .int _), (0, .ref _), (1, .ref _), (2, .ref _), (3, .ref _), (4, .ref _)]) (st' := []) rfl ?_
    refine ev_goto DL_law_8 86 rfl (tgt := 28) (by decide) ?_
    refine ev_lvp [3, 4, 5, 6, 7, 0] (lv2 := lawL E ad (nI i + 5)) rfl ?_
    exact ev_room (by omega) (by omega) (hK _ _ _ _ hW2)
set_option maxRecDepth 100000 in
set_option maxHeartbeats 4000000 in
theorem LC_22 {E : gE} {ad : Nat → Nat} {Pr : Option Value → va_W → Prop} {ws : va_W} {tw : Int32} {o : Nat → Int64} {d : Nat → UInt64} {i kk nn : Nat} (hW : WD E ad ws tw o d) (hi : i + 4 < (gSc E).2.1) (hN : (gSc E).2.1 < 2 ^ 31) (hK : ∀ (w : va_W) (k : Int32) (o : Nat → Int64) (d : Nat → UInt64), WD E ad w k o d → Ev E YL_law Pr nX kk nn 28 (lawL E ad (nI i + 5)) [] w) : Ev E YL_law Pr nX (kk + 1) (nn + 6) 1513 (lawL E ad (nI i)) [] ws := by
  refine ev_ss DL_law_7 5 71 (pc' := 1519) (lv' := [(0, .ref _), (1, .ref _), (2, .ref _), (3, .ref _), (4, .ref _), (5, .int _)]) (st' := [.int _, .ref _, .ref _]) rfl ?_
  refine ev_sld DL_law_7 76 rfl (sv_in (k := (i + 1)) (nx_add (a := i) (b := 1) rfl rfl) (by omega) hN) ?_
  refine ev_ss DL_law_7 1 77 (pc' := 1521) (lv' := [(0, .ref _), (1, .ref _), (2, .ref _), (3, .ref _), (4, .ref _), (5, .int _)]) (st' := [.ref _, .int _, .ref _]) rfl ?_
  refine ev_callSW DL_law_7 78 vL_bestLesson rfl qL_173 (Nat.le_of_ble_eq_true rfl) (Nat.le_of_ble_eq_true rfl) rfl (st := []) (Nat.le_of_ble_eq_true rfl) rfl (k1 := 1) (n1 := 6) (k2 := kk) (n2 := nn) (by omega) (by omega) (J_bestLesson hW _) (fun v1 w1 h1 => ?_)
  obtain ⟨k1, rfl, ⟨f7, h7⟩, hB⟩ := h1
  refine ev_ss DL_law_7 6 79 (pc' := 1532) (lv' := [(6, .int _), (0, .ref _), (1, .ref _), (2, .ref _), (3, .ref _), (4, .ref _), (5, .int _)]) (st' := [.int _, .ref _, .ref _]) rfl ?_
  refine ev_sld DL_law_7 85 rfl (sv_in (k := (i + 1)) (nx_add (a := i) (b := 1) rfl rfl) (by omega) hN) ?_
  refine ev_rV DL_law_7 86 hB vX7_bestLesson rfl qL_175 rfl h7 rfl (hd_of rfl rfl rfl rfl) (fun v2 w2 h2 => ?_)
  obtain ⟨o2, d2, ⟨R, rfl, hR⟩, hW2⟩ := h2
  obtain ⟨f8, h8⟩ := hW2.o7
  refine ev_ss DL_law_7 2 87 (pc' := 1539) (lv' := [(7, .int _), (6, .int _), (0, .ref _), (1, .ref _), (2, .ref _), (3, .ref _), (4, .ref _), (5, .int _)]) (st' := [.ref _]) rfl ?_
  refine ev_cV DL_law_7 89 hW2.th vX7_thrown rfl qL_101 rfl h8 rfl (hd_of rfl rfl rfl rfl) ?_
  refine ev_ss DL_law_7 1 90 (pc' := 1544) (lv' := [(7, .int _), (6, .int _), (0, .ref _), (1, .ref _), (2, .ref _), (3, .ref _), (4, .ref _), (5, .int _)]) (st' := [.int _, .int _]) rfl ?_
  refine ev_iceq DL_law_7 91 rfl (tgt := 1549) (by decide) (fun _ => ?_) (fun h => h.elim rfl)
  refine ev_ss DL_law_7 1 94 (pc' := 1551) (lv' := [(7, .int _), (6, .int _), (0, .ref _), (1, .ref _), (2, .ref _), (3, .ref _), (4, .ref _), (5, .int _)]) (st' := [.int _]) rfl ?_
  refine ev_ifne DL_law_7 95 rfl (tgt := 1566) (by decide) (fun c_2 => ?_) (fun c_2 => ?_)
  · refine ev_goto DL_law_7 105 rfl (tgt := 1728) (by decide) ?_
    refine ev_ss DL_law_8 1 85 (pc' := 1731) (lv' := [(5, .int _), (7, .int _), (6, .int _), (0, .ref _), (1, .ref _), (2, .ref _), (3, .ref _), (4, .ref _)]) (st' := []) rfl ?_
    refine ev_goto DL_law_8 86 rfl (tgt := 28) (by decide) ?_
    refine ev_lvp [3, 4, 5, 6, 7, 0] (lv2 := lawL E ad (nI i + 5)) rfl ?_
    exact ev_room (by omega) (by omega) (hK _ _ _ _ hW2)
  · refine ev_ss DL_law_7 2 96 (pc' := 1556) (lv' := [(7, .int _), (6, .int _), (0, .ref _), (1, .ref _), (2, .ref _), (3, .ref _), (4, .ref _), (5, .int _)]) (st' := [.int 0, .ref _]) rfl ?_
    refine ev_lald DL_law_7 98 rfl hW2.h3 (by unfold vp_in; decide) ?_
    refine ev_ss DL_law_7 3 99 (pc' := 1561) (lv' := [(7, .int _), (6, .int _), (0, .ref _), (1, .ref _), (2, .ref _), (3, .ref _), (4, .ref _), (5, .int _)]) (st' := [.int _]) rfl ?_
    refine ev_ifeq DL_law_7 102 rfl (tgt := 1566) (by decide) (fun _ => ?_) (fun h => h.elim (lcm_eq (hR c_2)))
    refine ev_goto DL_law_7 105 rfl (tgt := 1728) (by decide) ?_
    refine ev_ss DL_law_8 1 85 (pc' := 1731) (lv' := [(5, .int _), (7, .int _), (6, .int _), (0, .ref _), (1, .ref _), (2, .ref _), (3, .ref _), (4, .ref _)]) (st' := []) rfl ?_
    refine ev_goto DL_law_8 86 rfl (tgt := 28) (by decide) ?_
    refine ev_lvp [3, 4, 5, 6, 7, 0] (lv2 := lawL E ad (nI i + 5)) rfl ?_
    exact ev_room (by omega) (by omega) (hK _ _ _ _ hW2)
set_option maxRecDepth 100000 in
set_option maxHeartbeats 4000000 in
theorem LC_23 {E : gE} {ad : Nat → Nat} {Pr : Option Value → va_W → Prop} {ws : va_W} {tw : Int32} {o : Nat → Int64} {d : Nat → UInt64} {i kk nn : Nat} (hW : WD E ad ws tw o d) (hi : i + 4 < (gSc E).2.1) (hN : (gSc E).2.1 < 2 ^ 31) (hK : ∀ (w : va_W) (k : Int32) (o : Nat → Int64) (d : Nat → UInt64), WD E ad w k o d → Ev E YL_law Pr nX kk nn 28 (lawL E ad (nI i + 5)) [] w) : Ev E YL_law Pr nX (kk + 1) (nn + 6) 1569 (lawL E ad (nI i)) [] ws := by
  refine ev_ss DL_law_7 5 106 (pc' := 1575) (lv' := [(0, .ref _), (1, .ref _), (2, .ref _), (3, .ref _), (4, .ref _), (5, .int _)]) (st' := [.int _, .ref _, .ref _]) rfl ?_
  refine ev_sld DL_law_7 111 rfl (sv_in (k := (i + 1)) (nx_add (a := i) (b := 1) rfl rfl) (by omega) hN) ?_
  refine ev_ss DL_law_7 4 112 (pc' := 1581) (lv' := [(0, .ref _), (1, .ref _), (2, .ref _), (3, .ref _), (4, .ref _), (5, .int _)]) (st' := [.int _, .ref _, .int _, .ref _]) rfl ?_
  refine ev_sld DL_law_7 116 rfl (sv_in (k := (i + 2)) (nx_add (a := i) (b := 2) rfl rfl) (by omega) hN) ?_
  refine ev_ss DL_law_7 1 117 (pc' := 1583) (lv' := [(0, .ref _), (1, .ref _), (2, .ref _), (3, .ref _), (4, .ref _), (5, .int _)]) (st' := [.ref _, .int _, .int _, .ref _]) rfl ?_
  refine ev_callSW DL_law_7 118 vL_hurts rfl qL_176 (Nat.le_of_ble_eq_true rfl) (Nat.le_of_ble_eq_true rfl) rfl (st := []) (Nat.le_of_ble_eq_true rfl) rfl (k1 := 1) (n1 := 6) (k2 := kk) (n2 := nn) (by omega) (by omega) (J_hurts hW _ _) (fun v1 w1 h1 => ?_)
  obtain ⟨k1, rfl, ⟨f7, h7⟩, hB⟩ := h1
  refine ev_ss DL_law_7 1 119 (pc' := 1588) (lv' := [(6, .int _), (0, .ref _), (1, .ref _), (2, .ref _), (3, .ref _), (4, .ref _), (5, .int _)]) (st' := []) rfl ?_
  refine ev_ss DL_law_8 5 0 (pc' := 1594) (lv' := [(6, .int _), (0, .ref _), (1, .ref _), (2, .ref _), (3, .ref _), (4, .ref _), (5, .int _)]) (st' := [.int _, .ref _, .ref _]) rfl ?_
  refine ev_sld DL_law_8 5 rfl (sv_in (k := (i + 1)) (nx_add (a := i) (b := 1) rfl rfl) (by omega) hN) ?_
  refine ev_ss DL_law_8 4 6 (pc' := 1600) (lv' := [(6, .int _), (0, .ref _), (1, .ref _), (2, .ref _), (3, .ref _), (4, .ref _), (5, .int _)]) (st' := [.int _, .ref _, .int _, .ref _]) rfl ?_
  refine ev_sld DL_law_8 10 rfl (sv_in (k := (i + 2)) (nx_add (a := i) (b := 2) rfl rfl) (by omega) hN) ?_
  refine ev_rV DL_law_8 11 hB vX7_hurts rfl qL_178 rfl h7 rfl (hd_of rfl rfl rfl rfl) (fun v2 w2 h2 => ?_)
  obtain ⟨o2, d2, ⟨R, rfl, hR⟩, hW2⟩ := h2
  obtain ⟨f8, h8⟩ := hW2.o7
  refine ev_ss DL_law_8 2 12 (pc' := 1607) (lv' := [(7, .int _), (6, .int _), (0, .ref _), (1, .ref _), (2, .ref _), (3, .ref _), (4, .ref _), (5, .int _)]) (st' := [.ref _]) rfl ?_
  refine ev_cV DL_law_8 14 hW2.th vX7_thrown rfl qL_101 rfl h8 rfl (hd_of rfl rfl rfl rfl) ?_
  refine ev_ss DL_law_8 1 15 (pc' := 1612) (lv' := [(7, .int _), (6, .int _), (0, .ref _), (1, .ref _), (2, .ref _), (3, .ref _), (4, .ref _), (5, .int _)]) (st' := [.int _, .int _]) rfl ?_
  refine ev_iceq DL_law_8 16 rfl (tgt := 1617) (by decide) (fun _ => ?_) (fun h => h.elim rfl)
  refine ev_ss DL_law_8 1 19 (pc' := 1619) (lv' := [(7, .int _), (6, .int _), (0, .ref _), (1, .ref _), (2, .ref _), (3, .ref _), (4, .ref _), (5, .int _)]) (st' := [.int _]) rfl ?_
  refine ev_ifne DL_law_8 20 rfl (tgt := 1634) (by decide) (fun c_2 => ?_) (fun c_2 => ?_)
  · refine ev_goto DL_law_8 30 rfl (tgt := 1728) (by decide) ?_
    refine ev_ss DL_law_8 1 85 (pc' := 1731) (lv' := [(5, .int _), (7, .int _), (6, .int _), (0, .ref _), (1, .ref _), (2, .ref _), (3, .ref _), (4, .ref _)]) (st' := []) rfl ?_
    refine ev_goto DL_law_8 86 rfl (tgt := 28) (by decide) ?_
    refine ev_lvp [3, 4, 5, 6, 7, 0] (lv2 := lawL E ad (nI i + 5)) rfl ?_
    exact ev_room (by omega) (by omega) (hK _ _ _ _ hW2)
  · refine ev_ss DL_law_8 2 21 (pc' := 1624) (lv' := [(7, .int _), (6, .int _), (0, .ref _), (1, .ref _), (2, .ref _), (3, .ref _), (4, .ref _), (5, .int _)]) (st' := [.int 0, .ref _]) rfl ?_
    refine ev_lald DL_law_8 23 rfl hW2.h3 (by unfold vp_in; decide) ?_
    refine ev_ss DL_law_8 3 24 (pc' := 1629) (lv' := [(7, .int _), (6, .int _), (0, .ref _), (1, .ref _), (2, .ref _), (3, .ref _), (4, .ref _), (5, .int _)]) (st' := [.int _]) rfl ?_
    refine ev_ifeq DL_law_8 27 rfl (tgt := 1634) (by decide) (fun _ => ?_) (fun h => h.elim (lcm_eq (hR c_2)))
    refine ev_goto DL_law_8 30 rfl (tgt := 1728) (by decide) ?_
    refine ev_ss DL_law_8 1 85 (pc' := 1731) (lv' := [(5, .int _), (7, .int _), (6, .int _), (0, .ref _), (1, .ref _), (2, .ref _), (3, .ref _), (4, .ref _)]) (st' := []) rfl ?_
    refine ev_goto DL_law_8 86 rfl (tgt := 28) (by decide) ?_
    refine ev_lvp [3, 4, 5, 6, 7, 0] (lv2 := lawL E ad (nI i + 5)) rfl ?_
    exact ev_room (by omega) (by omega) (hK _ _ _ _ hW2)
set_option maxRecDepth 100000 in
set_option maxHeartbeats 4000000 in
theorem LC_24 {E : gE} {ad : Nat → Nat} {Pr : Option Value → va_W → Prop} {ws : va_W} {tw : Int32} {o : Nat → Int64} {d : Nat → UInt64} {i kk nn : Nat} (hW : WD E ad ws tw o d) (hi : i + 4 < (gSc E).2.1) (hN : (gSc E).2.1 < 2 ^ 31) (hK : ∀ (w : va_W) (k : Int32) (o : Nat → Int64) (d : Nat → UInt64), WD E ad w k o d → Ev E YL_law Pr nX kk nn 28 (lawL E ad (nI i + 5)) [] w) : Ev E YL_law Pr nX (kk + 1) (nn + 6) 1637 (lawL E ad (nI i)) [] ws := by
  refine ev_ss DL_law_8 5 31 (pc' := 1643) (lv' := [(0, .ref _), (1, .ref _), (2, .ref _), (3, .ref _), (4, .ref _), (5, .int _)]) (st' := [.int _, .ref _, .ref _]) rfl ?_
  refine ev_sld DL_law_8 36 rfl (sv_in (k := (i + 1)) (nx_add (a := i) (b := 1) rfl rfl) (by omega) hN) ?_
  refine ev_ss DL_law_8 1 37 (pc' := 1646) (lv' := [(0, .ref _), (1, .ref _), (2, .ref _), (3, .ref _), (4, .ref _), (5, .int _)]) (st' := [.ref _, .int _, .ref _]) rfl ?_
  refine ev_callSW DL_law_8 38 vL_rightShare rfl qL_179 (Nat.le_of_ble_eq_true rfl) (Nat.le_of_ble_eq_true rfl) rfl (st := []) (Nat.le_of_ble_eq_true rfl) rfl (k1 := 1) (n1 := 6) (k2 := kk) (n2 := nn) (by omega) (by omega) (J_rightShare hW _) (fun v1 w1 h1 => ?_)
  obtain ⟨k1, rfl, ⟨f7, h7⟩, hB⟩ := h1
  refine ev_ss DL_law_8 6 39 (pc' := 1657) (lv' := [(6, .int _), (0, .ref _), (1, .ref _), (2, .ref _), (3, .ref _), (4, .ref _), (5, .int _)]) (st' := [.int _, .ref _, .ref _]) rfl ?_
  refine ev_sld DL_law_8 45 rfl (sv_in (k := (i + 1)) (nx_add (a := i) (b := 1) rfl rfl) (by omega) hN) ?_
  refine ev_rV DL_law_8 46 hB vX7_rightShare rfl qL_182 rfl h7 rfl (hd_of rfl rfl rfl rfl) (fun v2 w2 h2 => ?_)
  obtain ⟨o2, d2, ⟨R, rfl, hR⟩, hW2⟩ := h2
  obtain ⟨f8, h8⟩ := hW2.o7
  refine ev_ss DL_law_8 2 47 (pc' := 1664) (lv' := [(7, .double _), (6, .int _), (0, .ref _), (1, .ref _), (2, .ref _), (3, .ref _), (4, .ref _), (5, .int _)]) (st' := [.ref _]) rfl ?_
  refine ev_cV DL_law_8 49 hW2.th vX7_thrown rfl qL_101 rfl h8 rfl (hd_of rfl rfl rfl rfl) ?_
  refine ev_ss DL_law_8 1 50 (pc' := 1669) (lv' := [(7, .double _), (6, .int _), (0, .ref _), (1, .ref _), (2, .ref _), (3, .ref _), (4, .ref _), (5, .int _)]) (st' := [.int _, .int _]) rfl ?_
  refine ev_iceq DL_law_8 51 rfl (tgt := 1674) (by decide) (fun _ => ?_) (fun h => h.elim rfl)
  refine ev_ss DL_law_8 1 54 (pc' := 1676) (lv' := [(7, .double _), (6, .int _), (0, .ref _), (1, .ref _), (2, .ref _), (3, .ref _), (4, .ref _), (5, .int _)]) (st' := [.int _]) rfl ?_
  refine ev_ifne DL_law_8 55 rfl (tgt := 1711) (by decide) (fun c_2 => ?_) (fun c_2 => ?_)
  · refine ev_goto DL_law_8 76 rfl (tgt := 1728) (by decide) ?_
    refine ev_ss DL_law_8 1 85 (pc' := 1731) (lv' := [(5, .int _), (7, .double _), (6, .int _), (0, .ref _), (1, .ref _), (2, .ref _), (3, .ref _), (4, .ref _)]) (st' := []) rfl ?_
    refine ev_goto DL_law_8 86 rfl (tgt := 28) (by decide) ?_
    refine ev_lvp [3, 4, 5, 6, 7, 0] (lv2 := lawL E ad (nI i + 5)) rfl ?_
    exact ev_room (by omega) (by omega) (hK _ _ _ _ hW2)
  · refine ev_ss DL_law_8 2 56 (pc' := 1682) (lv' := [(7, .double _), (6, .int _), (0, .ref _), (1, .ref _), (2, .ref _), (3, .ref _), (4, .ref _), (5, .int _)]) (st' := [.int 0, .ref _]) rfl ?_
    refine ev_dald DL_law_8 58 rfl hW2.h4 (by unfold vp_in; decide) ?_
    refine ev_ss DL_law_8 2 59 (pc' := 1686) (lv' := [(7, .double _), (6, .int _), (0, .ref _), (1, .ref _), (2, .ref _), (3, .ref _), (4, .ref _), (5, .int _)]) (st' := [.int _]) rfl ?_
    refine ev_ifeq DL_law_8 61 rfl (tgt := 1711) (by decide) (fun _ => ?_) (fun h => h.elim (dcm_eq (hR c_2)))
    refine ev_goto DL_law_8 76 rfl (tgt := 1728) (by decide) ?_
    refine ev_ss DL_law_8 1 85 (pc' := 1731) (lv' := [(5, .int _), (7, .double _), (6, .int _), (0, .ref _), (1, .ref _), (2, .ref _), (3, .ref _), (4, .ref _)]) (st' := []) rfl ?_
    refine ev_goto DL_law_8 86 rfl (tgt := 28) (by decide) ?_
    refine ev_lvp [3, 4, 5, 6, 7, 0] (lv2 := lawL E ad (nI i + 5)) rfl ?_
    exact ev_room (by omega) (by omega) (hK _ _ _ _ hW2)
set_option maxRecDepth 100000 in
set_option maxHeartbeats 4000000 in
theorem LC_25 {E : gE} {ad : Nat → Nat} {Pr : Option Value → va_W → Prop} {ws : va_W} {tw : Int32} {o : Nat → Int64} {d : Nat → UInt64} {i kk nn : Nat} (hW : WD E ad ws tw o d) (hi : i + 4 < (gSc E).2.1) (hN : (gSc E).2.1 < 2 ^ 31) (hK : ∀ (w : va_W) (k : Int32) (o : Nat → Int64) (d : Nat → UInt64), WD E ad w k o d → Ev E YL_law Pr nX kk nn 28 (lawL E ad (nI i + 5)) [] w) : Ev E YL_law Pr nX (kk + 1) (nn + 6) 1714 (lawL E ad (nI i)) [] ws := by
  refine ev_ss DL_law_8 1 77 (pc' := 1715) (lv' := [(0, .ref _), (1, .ref _), (2, .ref _), (3, .ref _), (4, .ref _), (5, .int _)]) (st' := [.ref _]) rfl ?_
  obtain ⟨f6, h6⟩ := hW.o6
  refine ev_rV DL_law_8 78 (J_digest hW) vX6_digest rfl qL_183 rfl h6 rfl (hd_of rfl rfl rfl rfl) (fun v1 w1 h1 => ?_)
  obtain ⟨⟨R, rfl⟩, ⟨f7, h7⟩, hB⟩ := h1
  refine ev_ss DL_law_8 1 79 (pc' := 1719) (lv' := [(0, .ref _), (1, .ref _), (2, .ref _), (3, .ref _), (4, .ref _), (5, .int _)]) (st' := [.ref _, .long _]) rfl ?_
  refine ev_rV DL_law_8 80 hB vX7_digest rfl qL_187 rfl h7 rfl (hd_of rfl rfl rfl rfl) (fun v2 w2 h2 => ?_)
  obtain ⟨rfl, o2, d2, k2, hW2⟩ := h2
  refine ev_ss DL_law_8 1 81 (pc' := 1723) (lv' := [(0, .ref _), (1, .ref _), (2, .ref _), (3, .ref _), (4, .ref _), (5, .int _)]) (st' := [.int _]) rfl ?_
  refine ev_ifeq DL_law_8 82 rfl (tgt := 1728) (by decide) (fun _ => ?_) (fun h => h.elim (lcm_eq rfl))
  refine ev_ss DL_law_8 1 85 (pc' := 1731) (lv' := [(5, .int _), (0, .ref _), (1, .ref _), (2, .ref _), (3, .ref _), (4, .ref _)]) (st' := []) rfl ?_
  refine ev_goto DL_law_8 86 rfl (tgt := 28) (by decide) ?_
  refine ev_lvp [1, 2, 3, 4, 5, 0] (lv2 := lawL E ad (nI i + 5)) rfl ?_
  exact ev_room (by omega) (by omega) (hK _ _ _ _ hW2)
theorem law_more {N i : Nat} (hN : N ≤ 2560) (hi : i ≤ N) (h : ¬ Int32.ofNat N - 5 < nI i) : i + 5 ≤ N := by
  have e1 : (Int32.ofNat N - 5).toInt = (N : Int) - 5 := pk_sub_toInt (a := N) (b := 5) (by omega) (by decide)
  have e2 := nI_toInt (n := i) (by omega)
  have e3 : ¬ (Int32.ofNat N - 5).toInt < (nI i).toInt := fun q => h (Int32.lt_iff_toInt_lt.mpr q)
  rw [e1, e2] at e3
  omega
theorem and_31 (x : Int32) : ∃ c, c < 32 ∧ x &&& 31 = nI c := ⟨x.toBitVec.toNat % 2 ^ 5, Nat.mod_lt _ (by decide), pk_and x (m := 31) 5 (by decide)⟩
set_option maxRecDepth 100000 in
set_option maxHeartbeats 4000000 in
theorem law_loop {E : gE} {ad : Nat → Nat} (hN : (gSc E).2.1 ≤ 2560) : ∀ (q i : Nat) (ws : va_W) (tw : Int32) (o : Nat → Int64) (d : Nat → UInt64), WD E ad ws tw o d → i ≤ (gSc E).2.1 → (gSc E).2.1 ≤ i + 5 * q + 4 → Ev E YL_law (fun v _ => v = some (.int 1)) nX q (6 * q) 28 (lawL E ad (nI i)) [] ws := by
  intro q
  induction q with
  | zero =>
    intro i ws tw o d hW hi hq
    refine ev_ss DL_law_0 2 16 (pc' := 31) (lv' := lawL E ad (nI i)) (st' := [.ref _, .int _]) rfl ?_
    refine ev_slen DL_law_0 18 rfl ?_
    refine ev_ss DL_law_0 2 19 (pc' := 34) (lv' := lawL E ad (nI i)) (st' := [.int _, .int _]) rfl ?_
    refine ev_icgt DL_law_0 21 rfl (tgt := 1734) (by decide) (fun _ => ?_) (fun h => absurd (law_more hN hi h) (by omega))
    refine ev_ss DL_law_8 1 87 (pc' := 1735) (lv' := lawL E ad (nI i)) (st' := [.int 1]) rfl ?_
    exact ev_zret DL_law_8 88 rfl rfl rfl rfl
  | succ q ih =>
    intro i ws tw o d hW hi hq
    refine ev_ss DL_law_0 2 16 (pc' := 31) (lv' := lawL E ad (nI i)) (st' := [.ref _, .int _]) rfl ?_
    refine ev_slen DL_law_0 18 rfl ?_
    refine ev_ss DL_law_0 2 19 (pc' := 34) (lv' := lawL E ad (nI i)) (st' := [.int _, .int _]) rfl ?_
    refine ev_icgt DL_law_0 21 rfl (tgt := 1734) (by decide) (fun _ => ?_) (fun h => ?_)
    · refine ev_ss DL_law_8 1 87 (pc' := 1735) (lv' := lawL E ad (nI i)) (st' := [.int 1]) rfl ?_
      exact ev_zret DL_law_8 88 rfl rfl rfl rfl
    · have h5 := law_more hN hi h
      have hi4 : i + 4 < (gSc E).2.1 := by omega
      have hN2 : (gSc E).2.1 < 2 ^ 31 := by omega
      have hK : ∀ (w : va_W) (k : Int32) (o : Nat → Int64) (d : Nat → UInt64), WD E ad w k o d → Ev E YL_law (fun v _ => v = some (.int 1)) nX q (6 * q) 28 (lawL E ad (nI i + 5)) [] w := fun w k o d hw => by
        have e := ih (i + 5) w k o d hw h5 (by omega)
        rw [← nI_add] at e
        exact e
      refine ev_room (k2 := q + 1) (n2 := 6 * q + 6) (by omega) (by omega) ?_
      refine ev_ss DL_law_0 2 22 (pc' := 40) (lv' := lawL E ad (nI i)) (st' := [.int _, .ref _]) rfl ?_
      refine ev_sld DL_law_0 24 rfl (sv_in rfl (by omega) hN2) ?_
      obtain ⟨c, hc, e⟩ := and_31 ((gSc E).2.2 (nI i).toNatClampNeg)
      refine ev_ss DL_law_0 2 25 (pc' := 44) (lv' := lawL E ad (nI i)) (st' := [.int ((gSc E).2.2 (nI i).toNatClampNeg &&& 31)]) rfl ?_
      rw [e]
      rcases (show c = 0 ∨ c = 1 ∨ c = 2 ∨ c = 3 ∨ c = 4 ∨ c = 5 ∨ c = 6 ∨ c = 7 ∨ c = 8 ∨ c = 9 ∨ c = 10 ∨ c = 11 ∨ c = 12 ∨ c = 13 ∨ c = 14 ∨ c = 15 ∨ c = 16 ∨ c = 17 ∨ c = 18 ∨ c = 19 ∨ c = 20 ∨ c = 21 ∨ c = 22 ∨ c = 23 ∨ c = 24 ∨ c = 25 ∨ c = 26 ∨ c = 27 ∨ c = 28 ∨ c = 29 ∨ c = 30 ∨ c = 31 by omega) with rfl | rfl | rfl | rfl | rfl | rfl | rfl | rfl | rfl | rfl | rfl | rfl | rfl | rfl | rfl | rfl | rfl | rfl | rfl | rfl | rfl | rfl | rfl | rfl | rfl | rfl | rfl | rfl | rfl | rfl | rfl | rfl
      · exact ev_swin DL_law_0 27 rfl (by decide) (by decide) (off := 120) (by decide) (tgt := 164) (by decide) (LC_0 hW hi4 hN2 hK)
      · exact ev_swin DL_law_0 27 rfl (by decide) (by decide) (off := 212) (by decide) (tgt := 256) (by decide) (LC_1 hW hi4 hN2 hK)
      · exact ev_swin DL_law_0 27 rfl (by decide) (by decide) (off := 292) (by decide) (tgt := 336) (by decide) (LC_2 hW hi4 hN2 hK)
      · exact ev_swin DL_law_0 27 rfl (by decide) (by decide) (off := 372) (by decide) (tgt := 416) (by decide) (LC_3 hW hi4 hN2 hK)
      · exact ev_swin DL_law_0 27 rfl (by decide) (by decide) (off := 440) (by decide) (tgt := 484) (by decide) (LC_4 hW hi4 hN2 hK)
      · exact ev_swin DL_law_0 27 rfl (by decide) (by decide) (off := 508) (by decide) (tgt := 552) (by decide) (LC_5 hW hi4 hN2 hK)
      · exact ev_swin DL_law_0 27 rfl (by decide) (by decide) (off := 576) (by decide) (tgt := 620) (by decide) (LC_6 hW hi4 hN2 hK)
      · exact ev_swin DL_law_0 27 rfl (by decide) (by decide) (off := 632) (by decide) (tgt := 676) (by decide) (LC_7 hW hi4 hN2 hK)
      · exact ev_swin DL_law_0 27 rfl (by decide) (by decide) (off := 688) (by decide) (tgt := 732) (by decide) (LC_8 hW hi4 hN2 hK)
      · exact ev_swin DL_law_0 27 rfl (by decide) (by decide) (off := 701) (by decide) (tgt := 745) (by decide) (LC_9 hW hi4 hN2 hK)
      · exact ev_swin DL_law_0 27 rfl (by decide) (by decide) (off := 714) (by decide) (tgt := 758) (by decide) (LC_10 hW hi4 hN2 hK)
      · exact ev_swin DL_law_0 27 rfl (by decide) (by decide) (off := 758) (by decide) (tgt := 802) (by decide) (LC_11 hW hi4 hN2 hK)
      · exact ev_swin DL_law_0 27 rfl (by decide) (by decide) (off := 802) (by decide) (tgt := 846) (by decide) (LC_12 hW hi4 hN2 hK)
      · exact ev_swin DL_law_0 27 rfl (by decide) (by decide) (off := 882) (by decide) (tgt := 926) (by decide) (LC_13 hW hi4 hN2 hK)
      · exact ev_swin DL_law_0 27 rfl (by decide) (by decide) (off := 962) (by decide) (tgt := 1006) (by decide) (LC_14 hW hi4 hN2 hK)
      · exact ev_swin DL_law_0 27 rfl (by decide) (by decide) (off := 1030) (by decide) (tgt := 1074) (by decide) (LC_15 hW hi4 hN2 hK)
      · exact ev_swin DL_law_0 27 rfl (by decide) (by decide) (off := 1085) (by decide) (tgt := 1129) (by decide) (LC_16 hW hi4 hN2 hK)
      · exact ev_swin DL_law_0 27 rfl (by decide) (by decide) (off := 1141) (by decide) (tgt := 1185) (by decide) (LC_17 hW hi4 hN2 hK)
      · exact ev_swin DL_law_0 27 rfl (by decide) (by decide) (off := 1197) (by decide) (tgt := 1241) (by decide) (LC_18 hW hi4 hN2 hK)
      · exact ev_swin DL_law_0 27 rfl (by decide) (by decide) (off := 1265) (by decide) (tgt := 1309) (by decide) (LC_19 hW hi4 hN2 hK)
      · exact ev_swin DL_law_0 27 rfl (by decide) (by decide) (off := 1345) (by decide) (tgt := 1389) (by decide) (LC_20 hW hi4 hN2 hK)
      · exact ev_swin DL_law_0 27 rfl (by decide) (by decide) (off := 1413) (by decide) (tgt := 1457) (by decide) (LC_21 hW hi4 hN2 hK)
      · exact ev_swin DL_law_0 27 rfl (by decide) (by decide) (off := 1469) (by decide) (tgt := 1513) (by decide) (LC_22 hW hi4 hN2 hK)
      · exact ev_swin DL_law_0 27 rfl (by decide) (by decide) (off := 1525) (by decide) (tgt := 1569) (by decide) (LC_23 hW hi4 hN2 hK)
      · exact ev_swin DL_law_0 27 rfl (by decide) (by decide) (off := 1593) (by decide) (tgt := 1637) (by decide) (LC_24 hW hi4 hN2 hK)
      · exact ev_swin DL_law_0 27 rfl (by decide) (by decide) (off := 1670) (by decide) (tgt := 1714) (by decide) (LC_25 hW hi4 hN2 hK)
      · refine ev_swout DL_law_0 27 rfl (Or.inr (by decide)) (tgt := 1728) (by decide) ?_
        refine ev_ss DL_law_8 1 85 (pc' := 1731) (lv' := [(5, .int _), (0, .ref _), (1, .ref _), (2, .ref _), (3, .ref _), (4, .ref _)]) (st' := []) rfl ?_
        refine ev_goto DL_law_8 86 rfl (tgt := 28) (by decide) ?_
        refine ev_lvp [1, 2, 3, 4, 5, 0] (lv2 := lawL E ad (nI i + 5)) rfl ?_
        exact ev_room (by omega) (by omega) (hK _ _ _ _ hW)
      · refine ev_swout DL_law_0 27 rfl (Or.inr (by decide)) (tgt := 1728) (by decide) ?_
        refine ev_ss DL_law_8 1 85 (pc' := 1731) (lv' := [(5, .int _), (0, .ref _), (1, .ref _), (2, .ref _), (3, .ref _), (4, .ref _)]) (st' := []) rfl ?_
        refine ev_goto DL_law_8 86 rfl (tgt := 28) (by decide) ?_
        refine ev_lvp [1, 2, 3, 4, 5, 0] (lv2 := lawL E ad (nI i + 5)) rfl ?_
        exact ev_room (by omega) (by omega) (hK _ _ _ _ hW)
      · refine ev_swout DL_law_0 27 rfl (Or.inr (by decide)) (tgt := 1728) (by decide) ?_
        refine ev_ss DL_law_8 1 85 (pc' := 1731) (lv' := [(5, .int _), (0, .ref _), (1, .ref _), (2, .ref _), (3, .ref _), (4, .ref _)]) (st' := []) rfl ?_
        refine ev_goto DL_law_8 86 rfl (tgt := 28) (by decide) ?_
        refine ev_lvp [1, 2, 3, 4, 5, 0] (lv2 := lawL E ad (nI i + 5)) rfl ?_
        exact ev_room (by omega) (by omega) (hK _ _ _ _ hW)
      · refine ev_swout DL_law_0 27 rfl (Or.inr (by decide)) (tgt := 1728) (by decide) ?_
        refine ev_ss DL_law_8 1 85 (pc' := 1731) (lv' := [(5, .int _), (0, .ref _), (1, .ref _), (2, .ref _), (3, .ref _), (4, .ref _)]) (st' := []) rfl ?_
        refine ev_goto DL_law_8 86 rfl (tgt := 28) (by decide) ?_
        refine ev_lvp [1, 2, 3, 4, 5, 0] (lv2 := lawL E ad (nI i + 5)) rfl ?_
        exact ev_room (by omega) (by omega) (hK _ _ _ _ hW)
      · refine ev_swout DL_law_0 27 rfl (Or.inr (by decide)) (tgt := 1728) (by decide) ?_
        refine ev_ss DL_law_8 1 85 (pc' := 1731) (lv' := [(5, .int _), (0, .ref _), (1, .ref _), (2, .ref _), (3, .ref _), (4, .ref _)]) (st' := []) rfl ?_
        refine ev_goto DL_law_8 86 rfl (tgt := 28) (by decide) ?_
        refine ev_lvp [1, 2, 3, 4, 5, 0] (lv2 := lawL E ad (nI i + 5)) rfl ?_
        exact ev_room (by omega) (by omega) (hK _ _ _ _ hW)
      · refine ev_swout DL_law_0 27 rfl (Or.inr (by decide)) (tgt := 1728) (by decide) ?_
        refine ev_ss DL_law_8 1 85 (pc' := 1731) (lv' := [(5, .int _), (0, .ref _), (1, .ref _), (2, .ref _), (3, .ref _), (4, .ref _)]) (st' := []) rfl ?_
        refine ev_goto DL_law_8 86 rfl (tgt := 28) (by decide) ?_
        refine ev_lvp [1, 2, 3, 4, 5, 0] (lv2 := lawL E ad (nI i + 5)) rfl ?_
        exact ev_room (by omega) (by omega) (hK _ _ _ _ hW)
