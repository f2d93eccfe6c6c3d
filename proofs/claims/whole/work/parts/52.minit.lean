/-- the numbers of a new object, i lines long -/
def inZ (i j : Nat) : Int32 := if j < 112 then (if j % 7 = 0 ∧ j / 7 < i then 64 else 0) else if j < 288 then (if (j - 112) % 11 = 0 ∧ (j - 112) / 11 < i then 64 else if (j - 112) % 11 = 4 ∧ (j - 112) / 11 < i then -1 else 0) else 0
theorem inZ_0 : inZ 0 = fun _ => 0 := by
  funext j
  unfold inZ
  split
  · exact if_neg (by omega)
  · split
    · rw [if_neg (by omega), if_neg (by omega)]
    · rfl
theorem inZ_s {i : Nat} (hi : i < 16) : upd (upd (upd (inZ i) (7 * i) 64) (112 + 11 * i) 64) (112 + 11 * i + 4) (-1) = inZ (i + 1) := by
  funext j
  unfold upd inZ
  by_cases h1 : j = 112 + 11 * i + 4
  · rw [if_pos h1, if_neg (by omega), if_pos (by omega), if_neg (by omega), if_pos (by omega)]
  · rw [if_neg h1]
    by_cases h2 : j = 112 + 11 * i
    · rw [if_pos h2, if_neg (by omega), if_pos (by omega), if_pos (by omega)]
    · rw [if_neg h2]
      by_cases h3 : j = 7 * i
      · rw [if_pos h3, if_pos (by omega), if_pos (by omega)]
      · rw [if_neg h3]
        by_cases h4 : j < 112
        · have e1 : (j % 7 = 0 ∧ j / 7 < i) ↔ (j % 7 = 0 ∧ j / 7 < i + 1) := by constructor <;> omega
          rw [if_pos h4, if_pos h4]
          simp only [e1]
        · have e2 : ((j - 112) % 11 = 0 ∧ (j - 112) / 11 < i) ↔ ((j - 112) % 11 = 0 ∧ (j - 112) / 11 < i + 1) := by constructor <;> omega
          have e3 : ((j - 112) % 11 = 4 ∧ (j - 112) / 11 < i) ↔ ((j - 112) % 11 = 4 ∧ (j - 112) / 11 < i + 1) := by constructor <;> omega
          rw [if_neg h4, if_neg h4]
          simp only [e2, e3]
theorem inZ_hi {i j : Nat} (h : 288 ≤ j) : inZ i j = 0 := by
  unfold inZ
  rw [if_neg (by omega), if_neg (by omega)]
def nwZ : Nat → Int32 := upd (upd (upd (upd (inZ 16) 807 1) 808 8) 809 8) 810 3
theorem nwZ_lo {j : Nat} (h : j < 807) : nwZ j = inZ 16 j := by
  unfold nwZ
  rw [upd_ne (by omega), upd_ne (by omega), upd_ne (by omega), upd_ne (by omega)]
theorem pW_0 {a : Nat} : pW ps0 a = w0S := by
  unfold pW
  split <;> rfl
theorem nwZ_G : ZG nwZ ps0 := by
  refine ⟨fun a t j ha ht hj => ?_, fun a t j ha ht hj => ?_, fun a i ha hi => ?_, fun a ha => ?_, ?_, ?_, fun j hj => ?_⟩
  · rw [nwZ_lo (by unfold stA; omega), pW_0]
    show inZ 16 (stA a t + j) = nt0 j
    unfold inZ stA nt0
    rw [if_pos (by omega)]
    by_cases e : j = 0
    · rw [if_pos (by omega), if_pos e]
    · rw [if_neg (by omega), if_neg e, if_neg (by omega), if_neg (by omega)]
  · rw [nwZ_lo (by unfold acA; omega), pW_0]
    show inZ 16 (acA a t + j) = nt0 (7 + j)
    unfold inZ acA nt0
    rw [if_neg (by omega), if_pos (by omega), if_neg (show ¬ 7 + j = 0 by omega)]
    by_cases e : j = 0
    · rw [if_pos (by omega), if_pos (by omega)]
    · rw [if_neg (by omega), if_neg (show ¬ 7 + j = 7 by omega)]
      by_cases e2 : j = 4
      · rw [if_pos (by omega), if_pos (by omega)]
      · rw [if_neg (by omega), if_neg (by omega)]
  · rw [pW_0] at hi
    exact absurd hi (Nat.not_lt_zero i)
  · rw [pW_0]
    refine ⟨Nat.zero_le _, ?_, ?_, ?_⟩
    · rw [nwZ_lo (by omega), inZ_hi (by omega)]; rfl
    · rw [nwZ_lo (by omega), inZ_hi (by omega)]; rfl
    · rw [nwZ_lo (by omega), inZ_hi (by omega)]; rfl
  · rw [nwZ_lo (by omega), inZ_hi (by omega)]; rfl
  · rfl
  · rcases (show j = 0 ∨ j = 1 ∨ j = 2 by omega) with rfl | rfl | rfl <;> rfl
abbrev moX (x_1 x_2 x_3 x_4 x_5 x_6 x_7 x_8 : Nat) : va_E := .inr (7, [.ref x_1, .ref x_2, .ref x_3, .ref x_4, .ref x_5, .ref x_6, .int 0, .ref x_7, .int 0, .int 0, .ref x_8, .int 0, .int 0, .long 0])
set_option maxRecDepth 100000 in
set_option maxHeartbeats 4000000 in
theorem mi_end {E : gE} {b x_1 x_2 x_3 x_4 x_5 x_6 x_7 x_8 : Nat} {ws w8 : va_W} (l8 : w8.length = 223) (g8 : w8[214]? = some (b, moX x_1 x_2 x_3 x_4 x_5 x_6 x_7 x_8)) (r1 : w8[215]? = some (x_1, iaC E 811 nwZ)) (r2 : w8[216]? = some (x_2, iaC E 4866 (fun _ => 0))) (r3 : w8[217]? = some (x_3, iaC E 811 (fun _ => 0))) (r4 : w8[218]? = some (x_4, laC E 2 (fun _ => 0))) (r5 : w8[219]? = some (x_5, laC E 12 (fun _ => 0))) (r6 : w8[220]? = some (x_6, laC E 2 (fun _ => 0))) (r7 : w8[221]? = some (x_7, iaC E 60 (fun _ => 0))) (r8 : w8[222]? = some (x_8, iaC E 64 (fun _ => 0))) (k8 : ∀ j, j < 214 → w8[j]? = ws[j]?) : w8.length = 223 ∧ (∀ j, j < 214 → w8[j]? = ws[j]?) ∧ adW w8 214 = b ∧ ZM E (adW w8) w8 ps0 (fun _ => ps0) 0 0 (fun _ => 0) 0 0 := by
  have b0 := adW_of g8
  have b1 := adW_of r1
  have b2 := adW_of r2
  have b3 := adW_of r3
  have b4 := adW_of r4
  have b5 := adW_of r5
  have b6 := adW_of r6
  have b7 := adW_of r7
  have b8 := adW_of r8
  refine ⟨l8, k8, b0, 0, 0, nwZ, (fun _ => 0), (fun _ => 0), (fun _ => 0), (fun _ => 0), (fun _ => 0), (fun _ => 0), (fun _ => 0), ⟨?_, ?_, ?_, ?_, ?_⟩, ⟨?_, ?_, ?_, ?_⟩, ⟨nwZ_G, fun a ha => by rw [pW_0]; rfl⟩, fun k hk => absurd hk (Nat.not_lt_zero k), Nat.zero_le _, fun j hj => absurd hj (Nat.not_lt_zero j)⟩
  · rw [b0]
    show w8[214]? = some (b, .inr (7, [.ref (adW w8 215), .ref (adW w8 216), .ref (adW w8 217), .ref (adW w8 218), .ref (adW w8 219), .ref (adW w8 220), .int 0, .ref (adW w8 221), .int 0, .int 0, .ref (adW w8 222), .int 0, .int 0, .long 0]))
    rw [b1, b2, b3, b4, b5, b6, b7, b8]
    exact g8
  · rw [b1]; exact r1
  · rw [b2]; exact r2
  · rw [b3]; exact r3
  · rw [b4]; exact r4
  · rw [b5]; exact r5
  · rw [b6]; exact r6
  · rw [b7]; exact r7
  · rw [b8]; exact r8
set_option maxRecDepth 100000 in
set_option maxHeartbeats 4000000 in
theorem mi_loop {E : gE} {b x_1 x_2 x_3 x_4 x_5 x_6 x_7 x_8 : Nat} {ws w8 : va_W} (l8 : w8.length = 223) (g8 : w8[214]? = some (b, moX x_1 x_2 x_3 x_4 x_5 x_6 x_7 x_8)) (r1 : w8[215]? = some (x_1, iaC E 811 (fun _ => 0))) (r2 : w8[216]? = some (x_2, iaC E 4866 (fun _ => 0))) (r3 : w8[217]? = some (x_3, iaC E 811 (fun _ => 0))) (r4 : w8[218]? = some (x_4, laC E 2 (fun _ => 0))) (r5 : w8[219]? = some (x_5, laC E 12 (fun _ => 0))) (r6 : w8[220]? = some (x_6, laC E 2 (fun _ => 0))) (r7 : w8[221]? = some (x_7, iaC E 60 (fun _ => 0))) (r8 : w8[222]? = some (x_8, iaC E 64 (fun _ => 0))) (k8 : ∀ j, j < 214 → w8[j]? = ws[j]?) : Ev E YX7_init (fun v w => v = none ∧ w.length = 223 ∧ (∀ j, j < 214 → w[j]? = ws[j]?) ∧ adW w 214 = b ∧ ZM E (adW w) w ps0 (fun _ => ps0) 0 0 (fun _ => 0) 0 0) nX 0 0 71 [(0, .ref b), (1, .int 0)] [] w8 := by
  have eK := kOe 16
  suffices K : ∀ (m i : Nat) (x : Int32) (w : va_W), i + m = kO 16 → x = nI i → w.length = 223 → w[215]? = some (x_1, iaC E 811 (inZ i)) → (∀ j, j ≠ 215 → w[j]? = w8[j]?) → Ev E YX7_init (fun v w => v = none ∧ w.length = 223 ∧ (∀ j, j < 214 → w[j]? = ws[j]?) ∧ adW w 214 = b ∧ ZM E (adW w) w ps0 (fun _ => ps0) 0 0 (fun _ => 0) 0 0) nX 0 0 71 [(0, .ref b), (1, .int x)] [] w from K (kO 16) 0 _ w8 (Nat.zero_add _) nI_0.symm l8 (by rw [inZ_0]; exact r1) (fun _ _ => rfl)
  intro m
  induction m with
  | zero =>
    intro i x w hm hx hl h2 hO
    obtain rfl : i = kO 16 := by omega
    subst hx
    have h1 := (hO 214 (by decide)).trans g8
    rw [eK] at h2
    refine ev_ss DX7_init 2 36 (pc' := 74) (lv' := [(0, .ref _), (1, .int _)]) (st' := [.int 16, .int _]) rfl ?_
    refine ev_icge DX7_init 38 rfl (tgt := 123) (by decide) (fun _ => ?_) (fun h => h.elim (by rw [eK]; decide))
    refine ev_ss DX7_init 1 68 (pc' := 124) (lv' := [(0, .ref _), (1, .int _)]) (st' := [.ref _]) rfl ?_
    refine ev_get DX7_init 69 GX7 rfl (k0 := 0) (Nat.le_of_ble_eq_true rfl) fX7_7 h1 rfl ?_
    refine ev_ss DX7_init 2 70 (pc' := 131) (lv' := [(0, .ref _), (1, .int _)]) (st' := [.int 1, .int 807, .ref _]) rfl ?_
    refine ev_iastv DX7_init 72 (k0 := 807) rfl h2 rfl (by omega) (by decide) rfl ?_
    refine ev_ss DX7_init 1 73 (pc' := 133) (lv' := [(0, .ref _), (1, .int _)]) (st' := [.ref _]) rfl ?_
    refine ev_get DX7_init 74 GX7 rfl (k0 := 0) (Nat.le_of_ble_eq_true rfl) fX7_7 (wset_o h1 h2 rfl) rfl ?_
    refine ev_ss DX7_init 2 75 (pc' := 141) (lv' := [(0, .ref _), (1, .int _)]) (st' := [.int 8, .int 808, .ref _]) rfl ?_
    refine ev_iastv DX7_init 77 (k0 := 808) rfl (wset_get h2) rfl (by omega) (by decide) wset_set ?_
    refine ev_ss DX7_init 1 78 (pc' := 143) (lv' := [(0, .ref _), (1, .int _)]) (st' := [.ref _]) rfl ?_
    refine ev_get DX7_init 79 GX7 rfl (k0 := 0) (Nat.le_of_ble_eq_true rfl) fX7_7 (wset_o h1 h2 rfl) rfl ?_
    refine ev_ss DX7_init 2 80 (pc' := 151) (lv' := [(0, .ref _), (1, .int _)]) (st' := [.int 8, .int 809, .ref _]) rfl ?_
    refine ev_iastv DX7_init 82 (k0 := 809) rfl (wset_get h2) rfl (by omega) (by decide) wset_set ?_
    refine ev_ss DX7_init 1 83 (pc' := 153) (lv' := [(0, .ref _), (1, .int _)]) (st' := [.ref _]) rfl ?_
    refine ev_get DX7_init 84 GX7 rfl (k0 := 0) (Nat.le_of_ble_eq_true rfl) fX7_7 (wset_o h1 h2 rfl) rfl ?_
    refine ev_ss DX7_init 2 85 (pc' := 160) (lv' := [(0, .ref _), (1, .int _)]) (st' := [.int 3, .int 810, .ref _]) rfl ?_
    refine ev_iastv DX7_init 87 (k0 := 810) rfl (wset_get h2) rfl (by omega) (by decide) wset_set ?_
    exact ev_vret DX7_init 88 rfl rfl ⟨rfl, mi_end (x_1 := x_1) (by rw [List.length_set, hl]) ((List.getElem?_set_ne (by decide)).trans h1) (wset_get h2) ((List.getElem?_set_ne (by decide)).trans ((hO 216 (by decide)).trans r2)) ((List.getElem?_set_ne (by decide)).trans ((hO 217 (by decide)).trans r3)) ((List.getElem?_set_ne (by decide)).trans ((hO 218 (by decide)).trans r4)) ((List.getElem?_set_ne (by decide)).trans ((hO 219 (by decide)).trans r5)) ((List.getElem?_set_ne (by decide)).trans ((hO 220 (by decide)).trans r6)) ((List.getElem?_set_ne (by decide)).trans ((hO 221 (by decide)).trans r7)) ((List.getElem?_set_ne (by decide)).trans ((hO 222 (by decide)).trans r8)) (fun j hj => (List.getElem?_set_ne (by omega)).trans ((hO j (by omega)).trans (k8 j hj)))⟩
  | succ m ih =>
    intro i x w hm hx hl h2 hO
    subst hx
    have h1 := (hO 214 (by decide)).trans g8
    refine ev_ss DX7_init 2 36 (pc' := 74) (lv' := [(0, .ref _), (1, .int _)]) (st' := [.int 16, .int _]) rfl ?_
    refine ev_icge DX7_init 38 rfl (tgt := 123) (by decide) (fun h => absurd h (nI_ge (b := 16) (by omega) (by decide))) (fun _ => ?_)
    refine ev_ss DX7_init 1 39 (pc' := 78) (lv' := [(0, .ref _), (1, .int _)]) (st' := [.ref _]) rfl ?_
    refine ev_get DX7_init 40 GX7 rfl (k0 := 0) (Nat.le_of_ble_eq_true rfl) fX7_7 h1 rfl ?_
    refine ev_ss DX7_init 4 41 (pc' := 87) (lv' := [(0, .ref _), (1, .int _)]) (st' := [.int 64, .int _, .ref _]) rfl ?_
    refine ev_iastv DX7_init 45 (k0 := (7 * i)) rfl h2 (nx_mul (a := 7) (b := i) rfl rfl) (by omega) (by decide) rfl ?_
    refine ev_ss DX7_init 1 46 (pc' := 89) (lv' := [(0, .ref _), (1, .int _)]) (st' := [.ref _]) rfl ?_
    refine ev_get DX7_init 47 GX7 rfl (k0 := 0) (Nat.le_of_ble_eq_true rfl) fX7_7 (wset_o h1 h2 rfl) rfl ?_
    refine ev_ss DX7_init 6 48 (pc' := 101) (lv' := [(0, .ref _), (1, .int _)]) (st' := [.int 64, .int _, .ref _]) rfl ?_
    refine ev_iastv DX7_init 54 (k0 := (112 + (11 * i))) rfl (wset_get h2) (nx_add (a := 112) (b := (11 * i)) rfl (nx_mul (a := 11) (b := i) rfl rfl)) (by omega) (by decide) wset_set ?_
    refine ev_ss DX7_init 1 55 (pc' := 103) (lv' := [(0, .ref _), (1, .int _)]) (st' := [.ref _]) rfl ?_
    refine ev_get DX7_init 56 GX7 rfl (k0 := 0) (Nat.le_of_ble_eq_true rfl) fX7_7 (wset_o h1 h2 rfl) rfl ?_
    refine ev_ss DX7_init 8 57 (pc' := 116) (lv' := [(0, .ref _), (1, .int _)]) (st' := [.int (-1), .int _, .ref _]) rfl ?_
    refine ev_iastv DX7_init 65 (k0 := ((112 + (11 * i)) + 4)) rfl (wset_get h2) (nx_add (a := (112 + (11 * i))) (b := 4) (nx_add (a := 112) (b := (11 * i)) rfl (nx_mul (a := 11) (b := i) rfl rfl)) rfl) (by omega) (by decide) wset_set ?_
    refine ev_ss DX7_init 1 66 (pc' := 120) (lv' := [(1, .int _), (0, .ref _)]) (st' := []) rfl ?_
    refine ev_goto DX7_init 67 rfl (tgt := 71) (by decide) ?_
    refine ev_lvp (lv2 := [(0, .ref _), (1, .int _)]) [1, 0] rfl ?_
    refine ih (i + 1) _ _ (by omega) (nI_1 i) (by rw [List.length_set, hl]) ?_ (fun j c => (List.getElem?_set_ne (Ne.symm c)).trans (hO j c))
    refine (wset_get h2).trans ?_
    exact congrArg (fun g => some (x_1, iaC E 811 g)) (inZ_s (by omega))
set_option maxRecDepth 100000 in
set_option maxHeartbeats 4000000 in
theorem m_X7_init {E : gE} {ws : va_W} {b : Nat} (hl : ws.length = 215) (h : ws[214]? = some (b, .inr (7, [.null, .null, .null, .null, .null, .null, .int 0, .null, .int 0, .int 0, .null, .int 0, .int 0, .long 0]))) : C0 E YX7_init 8 6628 [.ref b] ws (fun v w => v = none ∧ w.length = 223 ∧ (∀ j, j < 214 → w[j]? = ws[j]?) ∧ adW w 214 = b ∧ ZM E (adW w) w ps0 (fun _ => ps0) 0 0 (fun _ => 0) 0 0) := by
  refine c0I vX7_init (Nat.le_of_ble_eq_true rfl) (lv0 := [(0, .ref b)]) rfl ?_
  refine ev_ss DX7_init 1 0 (pc' := 1) (lv' := [(0, .ref _)]) (st' := [.ref _]) rfl ?_
  refine ev_objI DX7_init 1 rfl qX7_1 (Nat.le_of_ble_eq_true rfl) (Nat.le_of_ble_eq_true rfl) ?_
  refine ev_ss DX7_init 2 2 (pc' := 8) (lv' := [(0, .ref _)]) (st' := [.int 811, .ref _]) rfl ?_
  refine ev_newa DX7_init 4 (k := 7) (n := 5817) (t0 := 0) (a0 := (811, .inl (fun _ => 0))) rfl rfl arc_int rfl (fun _ _ h => h) (fun _ => rfl) (by decide) (N := 811) (by decide) (Nat.le_of_ble_eq_true rfl) (fun x_1 => ?_)
  refine ev_putF (fs' := [_, _, _, _, _, _, _, _, _, _, _, _, _, _]) DX7_init 5 GX7 rfl (k0 := 0) (Nat.le_of_ble_eq_true rfl) fX7_7 rfl rfl rfl ⟨rfl, rfl⟩ (app_o h) (Nat.le_of_ble_eq_true rfl) rfl rfl ?_
  refine (fun (K : ∀ W : va_W, W.length = 216 → W[214]? = some (b, .inr (7, [.ref x_1, .null, .null, .null, .null, .null, .int 0, .null, .int 0, .int 0, .null, .int 0, .int 0, .long 0])) → W[215]? = some (x_1, iaC E 811 (fun _ => 0)) → (∀ j, j < 214 → W[j]? = ws[j]?) → Ev E YX7_init (fun v w => v = none ∧ w.length = 223 ∧ (∀ j, j < 214 → w[j]? = ws[j]?) ∧ adW w 214 = b ∧ ZM E (adW w) w ps0 (fun _ => ps0) 0 0 (fun _ => 0) 0 0) nX 7 5817 13 [(0, .ref b)] [] W) => K _ (by rw [List.length_set, List.length_append, hl]; rfl) (by exact wset_get (app_o h)) (by exact wset_n (app_at hl) (by decide)) (by exact fun j a => (List.getElem?_set_ne (by omega)).trans ((app_k (by omega)).trans rfl))) ?_
  intro W1 l1 g1 r1 k1
  refine ev_ss DX7_init 2 6 (pc' := 17) (lv' := [(0, .ref _)]) (st' := [.int 4866, .ref _]) rfl ?_
  refine ev_newa DX7_init 8 (k := 6) (n := 951) (t0 := 0) (a0 := (4866, .inl (fun _ => 0))) rfl rfl arc_int rfl (fun _ _ h => h) (fun _ => rfl) (by decide) (N := 4866) (by decide) (Nat.le_of_ble_eq_true rfl) (fun x_2 => ?_)
  refine ev_putF (fs' := [_, _, _, _, _, _, _, _, _, _, _, _, _, _]) DX7_init 9 GX7 rfl (k0 := 1) (Nat.le_of_ble_eq_true rfl) fX7_13 rfl rfl rfl ⟨rfl, rfl⟩ (app_o g1) (Nat.le_of_ble_eq_true rfl) rfl rfl ?_
  refine (fun (K : ∀ W : va_W, W.length = 217 → W[214]? = some (b, .inr (7, [.ref x_1, .ref x_2, .null, .null, .null, .null, .int 0, .null, .int 0, .int 0, .null, .int 0, .int 0, .long 0])) → W[215]? = some (x_1, iaC E 811 (fun _ => 0)) → W[216]? = some (x_2, iaC E 4866 (fun _ => 0)) → (∀ j, j < 214 → W[j]? = ws[j]?) → Ev E YX7_init (fun v w => v = none ∧ w.length = 223 ∧ (∀ j, j < 214 → w[j]? = ws[j]?) ∧ adW w 214 = b ∧ ZM E (adW w) w ps0 (fun _ => ps0) 0 0 (fun _ => 0) 0 0) nX 6 951 22 [(0, .ref b)] [] W) => K _ (by rw [List.length_set, List.length_append, l1]; rfl) (by exact wset_get (app_o g1)) (by exact wset_n (app_o r1) (by decide)) (by exact wset_n (app_at l1) (by decide)) (by exact fun j a => (List.getElem?_set_ne (by omega)).trans ((app_k (by omega)).trans (k1 j a)))) ?_
  intro W2 l2 g2 r1 r2 k2
  refine ev_ss DX7_init 2 10 (pc' := 26) (lv' := [(0, .ref _)]) (st' := [.int 811, .ref _]) rfl ?_
  refine ev_newa DX7_init 12 (k := 5) (n := 140) (t0 := 0) (a0 := (811, .inl (fun _ => 0))) rfl rfl arc_int rfl (fun _ _ h => h) (fun _ => rfl) (by decide) (N := 811) (by decide) (Nat.le_of_ble_eq_true rfl) (fun x_3 => ?_)
  refine ev_putF (fs' := [_, _, _, _, _, _, _, _, _, _, _, _, _, _]) DX7_init 13 GX7 rfl (k0 := 2) (Nat.le_of_ble_eq_true rfl) fX7_16 rfl rfl rfl ⟨rfl, rfl⟩ (app_o g2) (Nat.le_of_ble_eq_true rfl) rfl rfl ?_
  refine (fun (K : ∀ W : va_W, W.length = 218 → W[214]? = some (b, .inr (7, [.ref x_1, .ref x_2, .ref x_3, .null, .null, .null, .int 0, .null, .int 0, .int 0, .null, .int 0, .int 0, .long 0])) → W[215]? = some (x_1, iaC E 811 (fun _ => 0)) → W[216]? = some (x_2, iaC E 4866 (fun _ => 0)) → W[217]? = some (x_3, iaC E 811 (fun _ => 0)) → (∀ j, j < 214 → W[j]? = ws[j]?) → Ev E YX7_init (fun v w => v = none ∧ w.length = 223 ∧ (∀ j, j < 214 → w[j]? = ws[j]?) ∧ adW w 214 = b ∧ ZM E (adW w) w ps0 (fun _ => ps0) 0 0 (fun _ => 0) 0 0) nX 5 140 31 [(0, .ref b)] [] W) => K _ (by rw [List.length_set, List.length_append, l2]; rfl) (by exact wset_get (app_o g2)) (by exact wset_n (app_o r1) (by decide)) (by exact wset_n (app_o r2) (by decide)) (by exact wset_n (app_at l2) (by decide)) (by exact fun j a => (List.getElem?_set_ne (by omega)).trans ((app_k (by omega)).trans (k2 j a)))) ?_
  intro W3 l3 g3 r1 r2 r3 k3
  refine ev_ss DX7_init 2 14 (pc' := 33) (lv' := [(0, .ref _)]) (st' := [.int 2, .ref _]) rfl ?_
  refine ev_newa DX7_init 16 (k := 4) (n := 138) (t0 := 1) (a0 := (2, .inr (.inl (fun _ => 0)))) rfl rfl arc_long rfl (fun _ _ h => h) (fun _ => rfl) (by decide) (N := 2) (by decide) (Nat.le_of_ble_eq_true rfl) (fun x_4 => ?_)
  refine ev_putF (fs' := [_, _, _, _, _, _, _, _, _, _, _, _, _, _]) DX7_init 17 GX7 rfl (k0 := 3) (Nat.le_of_ble_eq_true rfl) fX7_19 rfl rfl rfl ⟨rfl, rfl⟩ (app_o g3) (Nat.le_of_ble_eq_true rfl) rfl rfl ?_
  refine (fun (K : ∀ W : va_W, W.length = 219 → W[214]? = some (b, .inr (7, [.ref x_1, .ref x_2, .ref x_3, .ref x_4, .null, .null, .int 0, .null, .int 0, .int 0, .null, .int 0, .int 0, .long 0])) → W[215]? = some (x_1, iaC E 811 (fun _ => 0)) → W[216]? = some (x_2, iaC E 4866 (fun _ => 0)) → W[217]? = some (x_3, iaC E 811 (fun _ => 0)) → W[218]? = some (x_4, laC E 2 (fun _ => 0)) → (∀ j, j < 214 → W[j]? = ws[j]?) → Ev E YX7_init (fun v w => v = none ∧ w.length = 223 ∧ (∀ j, j < 214 → w[j]? = ws[j]?) ∧ adW w 214 = b ∧ ZM E (adW w) w ps0 (fun _ => ps0) 0 0 (fun _ => 0) 0 0) nX 4 138 38 [(0, .ref b)] [] W) => K _ (by rw [List.length_set, List.length_append, l3]; rfl) (by exact wset_get (app_o g3)) (by exact wset_n (app_o r1) (by decide)) (by exact wset_n (app_o r2) (by decide)) (by exact wset_n (app_o r3) (by decide)) (by exact wset_n (app_at l3) (by decide)) (by exact fun j a => (List.getElem?_set_ne (by omega)).trans ((app_k (by omega)).trans (k3 j a)))) ?_
  intro W4 l4 g4 r1 r2 r3 r4 k4
  refine ev_ss DX7_init 2 18 (pc' := 41) (lv' := [(0, .ref _)]) (st' := [.int 12, .ref _]) rfl ?_
  refine ev_newa DX7_init 20 (k := 3) (n := 126) (t0 := 1) (a0 := (12, .inr (.inl (fun _ => 0)))) rfl rfl arc_long rfl (fun _ _ h => h) (fun _ => rfl) (by decide) (N := 12) (by decide) (Nat.le_of_ble_eq_true rfl) (fun x_5 => ?_)
  refine ev_putF (fs' := [_, _, _, _, _, _, _, _, _, _, _, _, _, _]) DX7_init 21 GX7 rfl (k0 := 4) (Nat.le_of_ble_eq_true rfl) fX7_23 rfl rfl rfl ⟨rfl, rfl⟩ (app_o g4) (Nat.le_of_ble_eq_true rfl) rfl rfl ?_
  refine (fun (K : ∀ W : va_W, W.length = 220 → W[214]? = some (b, .inr (7, [.ref x_1, .ref x_2, .ref x_3, .ref x_4, .ref x_5, .null, .int 0, .null, .int 0, .int 0, .null, .int 0, .int 0, .long 0])) → W[215]? = some (x_1, iaC E 811 (fun _ => 0)) → W[216]? = some (x_2, iaC E 4866 (fun _ => 0)) → W[217]? = some (x_3, iaC E 811 (fun _ => 0)) → W[218]? = some (x_4, laC E 2 (fun _ => 0)) → W[219]? = some (x_5, laC E 12 (fun _ => 0)) → (∀ j, j < 214 → W[j]? = ws[j]?) → Ev E YX7_init (fun v w => v = none ∧ w.length = 223 ∧ (∀ j, j < 214 → w[j]? = ws[j]?) ∧ adW w 214 = b ∧ ZM E (adW w) w ps0 (fun _ => ps0) 0 0 (fun _ => 0) 0 0) nX 3 126 46 [(0, .ref b)] [] W) => K _ (by rw [List.length_set, List.length_append, l4]; rfl) (by exact wset_get (app_o g4)) (by exact wset_n (app_o r1) (by decide)) (by exact wset_n (app_o r2) (by decide)) (by exact wset_n (app_o r3) (by decide)) (by exact wset_n (app_o r4) (by decide)) (by exact wset_n (app_at l4) (by decide)) (by exact fun j a => (List.getElem?_set_ne (by omega)).trans ((app_k (by omega)).trans (k4 j a)))) ?_
  intro W5 l5 g5 r1 r2 r3 r4 r5 k5
  refine ev_ss DX7_init 2 22 (pc' := 48) (lv' := [(0, .ref _)]) (st' := [.int 2, .ref _]) rfl ?_
  refine ev_newa DX7_init 24 (k := 2) (n := 124) (t0 := 1) (a0 := (2, .inr (.inl (fun _ => 0)))) rfl rfl arc_long rfl (fun _ _ h => h) (fun _ => rfl) (by decide) (N := 2) (by decide) (Nat.le_of_ble_eq_true rfl) (fun x_6 => ?_)
  refine ev_putF (fs' := [_, _, _, _, _, _, _, _, _, _, _, _, _, _]) DX7_init 25 GX7 rfl (k0 := 5) (Nat.le_of_ble_eq_true rfl) fX7_26 rfl rfl rfl ⟨rfl, rfl⟩ (app_o g5) (Nat.le_of_ble_eq_true rfl) rfl rfl ?_
  refine (fun (K : ∀ W : va_W, W.length = 221 → W[214]? = some (b, .inr (7, [.ref x_1, .ref x_2, .ref x_3, .ref x_4, .ref x_5, .ref x_6, .int 0, .null, .int 0, .int 0, .null, .int 0, .int 0, .long 0])) → W[215]? = some (x_1, iaC E 811 (fun _ => 0)) → W[216]? = some (x_2, iaC E 4866 (fun _ => 0)) → W[217]? = some (x_3, iaC E 811 (fun _ => 0)) → W[218]? = some (x_4, laC E 2 (fun _ => 0)) → W[219]? = some (x_5, laC E 12 (fun _ => 0)) → W[220]? = some (x_6, laC E 2 (fun _ => 0)) → (∀ j, j < 214 → W[j]? = ws[j]?) → Ev E YX7_init (fun v w => v = none ∧ w.length = 223 ∧ (∀ j, j < 214 → w[j]? = ws[j]?) ∧ adW w 214 = b ∧ ZM E (adW w) w ps0 (fun _ => ps0) 0 0 (fun _ => 0) 0 0) nX 2 124 53 [(0, .ref b)] [] W) => K _ (by rw [List.length_set, List.length_append, l5]; rfl) (by exact wset_get (app_o g5)) (by exact wset_n (app_o r1) (by decide)) (by exact wset_n (app_o r2) (by decide)) (by exact wset_n (app_o r3) (by decide)) (by exact wset_n (app_o r4) (by decide)) (by exact wset_n (app_o r5) (by decide)) (by exact wset_n (app_at l5) (by decide)) (by exact fun j a => (List.getElem?_set_ne (by omega)).trans ((app_k (by omega)).trans (k5 j a)))) ?_
  intro W6 l6 g6 r1 r2 r3 r4 r5 r6 k6
  refine ev_ss DX7_init 2 26 (pc' := 56) (lv' := [(0, .ref _)]) (st' := [.int 60, .ref _]) rfl ?_
  refine ev_newa DX7_init 28 (k := 1) (n := 64) (t0 := 0) (a0 := (60, .inl (fun _ => 0))) rfl rfl arc_int rfl (fun _ _ h => h) (fun _ => rfl) (by decide) (N := 60) (by decide) (Nat.le_of_ble_eq_true rfl) (fun x_7 => ?_)
  refine ev_putF (fs' := [_, _, _, _, _, _, _, _, _, _, _, _, _, _]) DX7_init 29 GX7 rfl (k0 := 7) (Nat.le_of_ble_eq_true rfl) fX7_29 rfl rfl rfl ⟨rfl, rfl⟩ (app_o g6) (Nat.le_of_ble_eq_true rfl) rfl rfl ?_
  refine (fun (K : ∀ W : va_W, W.length = 222 → W[214]? = some (b, .inr (7, [.ref x_1, .ref x_2, .ref x_3, .ref x_4, .ref x_5, .ref x_6, .int 0, .ref x_7, .int 0, .int 0, .null, .int 0, .int 0, .long 0])) → W[215]? = some (x_1, iaC E 811 (fun _ => 0)) → W[216]? = some (x_2, iaC E 4866 (fun _ => 0)) → W[217]? = some (x_3, iaC E 811 (fun _ => 0)) → W[218]? = some (x_4, laC E 2 (fun _ => 0)) → W[219]? = some (x_5, laC E 12 (fun _ => 0)) → W[220]? = some (x_6, laC E 2 (fun _ => 0)) → W[221]? = some (x_7, iaC E 60 (fun _ => 0)) → (∀ j, j < 214 → W[j]? = ws[j]?) → Ev E YX7_init (fun v w => v = none ∧ w.length = 223 ∧ (∀ j, j < 214 → w[j]? = ws[j]?) ∧ adW w 214 = b ∧ ZM E (adW w) w ps0 (fun _ => ps0) 0 0 (fun _ => 0) 0 0) nX 1 64 61 [(0, .ref b)] [] W) => K _ (by rw [List.length_set, List.length_append, l6]; rfl) (by exact wset_get (app_o g6)) (by exact wset_n (app_o r1) (by decide)) (by exact wset_n (app_o r2) (by decide)) (by exact wset_n (app_o r3) (by decide)) (by exact wset_n (app_o r4) (by decide)) (by exact wset_n (app_o r5) (by decide)) (by exact wset_n (app_o r6) (by decide)) (by exact wset_n (app_at l6) (by decide)) (by exact fun j a => (List.getElem?_set_ne (by omega)).trans ((app_k (by omega)).trans (k6 j a)))) ?_
  intro W7 l7 g7 r1 r2 r3 r4 r5 r6 r7 k7
  refine ev_ss DX7_init 2 30 (pc' := 64) (lv' := [(0, .ref _)]) (st' := [.int 64, .ref _]) rfl ?_
  refine ev_newa DX7_init 32 (k := 0) (n := 0) (t0 := 0) (a0 := (64, .inl (fun _ => 0))) rfl rfl arc_int rfl (fun _ _ h => h) (fun _ => rfl) (by decide) (N := 64) (by decide) (Nat.le_of_ble_eq_true rfl) (fun x_8 => ?_)
  refine ev_putF (fs' := [_, _, _, _, _, _, _, _, _, _, _, _, _, _]) DX7_init 33 GX7 rfl (k0 := 10) (Nat.le_of_ble_eq_true rfl) fX7_32 rfl rfl rfl ⟨rfl, rfl⟩ (app_o g7) (Nat.le_of_ble_eq_true rfl) rfl rfl ?_
  refine (fun (K : ∀ W : va_W, W.length = 223 → W[214]? = some (b, .inr (7, [.ref x_1, .ref x_2, .ref x_3, .ref x_4, .ref x_5, .ref x_6, .int 0, .ref x_7, .int 0, .int 0, .ref x_8, .int 0, .int 0, .long 0])) → W[215]? = some (x_1, iaC E 811 (fun _ => 0)) → W[216]? = some (x_2, iaC E 4866 (fun _ => 0)) → W[217]? = some (x_3, iaC E 811 (fun _ => 0)) → W[218]? = some (x_4, laC E 2 (fun _ => 0)) → W[219]? = some (x_5, laC E 12 (fun _ => 0)) → W[220]? = some (x_6, laC E 2 (fun _ => 0)) → W[221]? = some (x_7, iaC E 60 (fun _ => 0)) → W[222]? = some (x_8, iaC E 64 (fun _ => 0)) → (∀ j, j < 214 → W[j]? = ws[j]?) → Ev E YX7_init (fun v w => v = none ∧ w.length = 223 ∧ (∀ j, j < 214 → w[j]? = ws[j]?) ∧ adW w 214 = b ∧ ZM E (adW w) w ps0 (fun _ => ps0) 0 0 (fun _ => 0) 0 0) nX 0 0 69 [(0, .ref b)] [] W) => K _ (by rw [List.length_set, List.length_append, l7]; rfl) (by exact wset_get (app_o g7)) (by exact wset_n (app_o r1) (by decide)) (by exact wset_n (app_o r2) (by decide)) (by exact wset_n (app_o r3) (by decide)) (by exact wset_n (app_o r4) (by decide)) (by exact wset_n (app_o r5) (by decide)) (by exact wset_n (app_o r6) (by decide)) (by exact wset_n (app_o r7) (by decide)) (by exact wset_n (app_at l7) (by decide)) (by exact fun j a => (List.getElem?_set_ne (by omega)).trans ((app_k (by omega)).trans (k7 j a)))) ?_
  intro W8 l8 g8 r1 r2 r3 r4 r5 r6 r7 r8 k8
  refine ev_ss DX7_init 2 34 (pc' := 71) (lv' := [(1, .int 0), (0, .ref _)]) (st' := []) rfl ?_
  refine ev_lvp (lv2 := [(0, .ref _), (1, .int _)]) [1, 0] rfl ?_
  exact mi_loop l8 g8 r1 r2 r3 r4 r5 r6 r7 r8 k8
