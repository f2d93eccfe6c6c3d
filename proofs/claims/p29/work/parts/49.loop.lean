theorem m_L_toldW {E : gE} {ad : Nat → Nat} {ws : va_W} {B m : Nat} (hWD : WD E ad ws B m) : CD E YL_told 0 0 [.ref (ad 0), .ref (ad 214), .ref (ad 215), .ref (ad 216), .ref (ad 217), .ref (ad 218), .ref (ad 219), .ref (ad 220), .ref (ad 221), .ref (ad 223)] ws (some (.int 1)) ws := by
  obtain ⟨p, sv, sc, r, len, ch, ze, hM, hL, hG, -⟩ := hWD
  exact m_L_told hM hL (fun a ha => hG.C ha)
theorem WD.cell {E : gE} {ad : Nat → Nat} {ws : va_W} {B m : Nat} (h : WD E ad ws B m) : ∃ fs, ws[0]? = some (ad 0, .inr (6, fs)) := by
  obtain ⟨p, sv, sc, r, len, ch, ze, hM, -⟩ := h
  exact ⟨_, hM.1⟩
theorem WD.c12 {E : gE} {ad : Nat → Nat} {ws : va_W} {B : Nat} (h : WD E ad ws B 1) : ∃ c, 1 ≤ c ∧ c < 100 ∧ CD E YX6_count 0 0 [.ref (ad 0), .int (nI 12)] ws (some (.int (nI c))) ws := by
  obtain ⟨p, sv, sc, r, len, ch, ze, hM, -, -, -, -, h6, h1⟩ := h
  exact ⟨sc, h1, by omega, m_X6_count hM (j := 12) (by decide)⟩
theorem lw_gen {P : Int32 → Int32 → Prop} (h : ∀ X Y, P X Y) (X Y : Int32) : P X Y := h X Y
set_option maxRecDepth 100000 in
set_option maxHeartbeats 4000000 in
theorem law_loop {E : gE} {ad : Nat → Nat} {kk nn : Nat} (hN : (gSc E).2.1 < 2 ^ 31) : ∀ (q i : Nat) (x : Int32) (w : va_W), i + q = 40 → x = nI i → WD E ad w (30 * i) (min 1 i) → Ev E YL_law (fun v _ => v = some (.int 1)) nX kk nn 156 [(0, .ref (gSc E).1), (1, .ref (ad 0)), (2, .ref (ad 214)), (3, .ref (ad 215)), (4, .ref (ad 216)), (5, .ref (ad 217)), (6, .ref (ad 218)), (7, .ref (ad 219)), (8, .ref (ad 220)), (9, .ref (ad 221)), (10, .ref (ad 222)), (11, .ref (ad 223)), (12, .int x)] [] w := by
  intro q
  induction q with
  | zero =>
    intro i x w hq hx hW
    obtain rfl : i = 40 := by omega
    subst hx
    obtain ⟨fs, hf⟩ := hW.cell
    obtain ⟨c, hc1, hc2, hc⟩ := WD.c12 hW
    refine ev_ss DL_law_0 2 93 (pc' := 160) (lv' := [(0, .ref _), (1, .ref _), (2, .ref _), (3, .ref _), (4, .ref _), (5, .ref _), (6, .ref _), (7, .ref _), (8, .ref _), (9, .ref _), (10, .ref _), (11, .ref _), (12, .int _)]) (st' := [.int 40, .int _]) rfl ?_
    refine ev_icge DL_law_0 95 rfl (tgt := 309) (by decide) (fun _ => ?_) (fun h => h.elim (by decide))
    refine ev_ss DL_law_1 2 51 (pc' := 312) (lv' := [(0, .ref _), (1, .ref _), (2, .ref _), (3, .ref _), (4, .ref _), (5, .ref _), (6, .ref _), (7, .ref _), (8, .ref _), (9, .ref _), (10, .ref _), (11, .ref _), (12, .int _)]) (st' := [.int 12, .ref _]) rfl ?_
    refine ev_cV DL_law_1 53 hc vX6_count rfl qL_72 rfl hf rfl (hd_of rfl rfl rfl rfl) ?_
    refine ev_ifle DL_law_1 54 rfl (tgt := 322) (by decide) (fun h => absurd h (nI_nle (by omega) (by omega))) (fun _ => ?_)
    refine ev_ss DL_law_1 1 55 (pc' := 319) (lv' := [(0, .ref _), (1, .ref _), (2, .ref _), (3, .ref _), (4, .ref _), (5, .ref _), (6, .ref _), (7, .ref _), (8, .ref _), (9, .ref _), (10, .ref _), (11, .ref _), (12, .int _)]) (st' := [.int 1]) rfl ?_
    refine ev_goto DL_law_1 56 rfl (tgt := 323) (by decide) ?_
    exact ev_zret DL_law_1 58 rfl rfl rfl rfl
  | succ q ih =>
    intro i x w hq hx hW
    subst hx
    refine ev_ss DL_law_0 2 93 (pc' := 160) (lv' := [(0, .ref _), (1, .ref _), (2, .ref _), (3, .ref _), (4, .ref _), (5, .ref _), (6, .ref _), (7, .ref _), (8, .ref _), (9, .ref _), (10, .ref _), (11, .ref _), (12, .int _)]) (st' := [.int 40, .int _]) rfl ?_
    refine ev_icge DL_law_0 95 rfl (tgt := 309) (by decide) (fun h => absurd h (nI_ge (b := 40) (by omega) (by decide))) (fun _ => ?_)
    refine ev_ss DL_law_0 4 96 (pc' := 168) (lv' := [(0, .ref _), (1, .ref _), (2, .ref _), (3, .ref _), (4, .ref _), (5, .ref _), (6, .ref _), (7, .ref _), (8, .ref _), (9, .ref _), (10, .ref _), (11, .ref _), (12, .int _)]) (st' := [.int _, .ref _]) rfl ?_
    refine ev_topv (nx_mul (a := 2) (b := i) rfl rfl) ?_
    refine ev_rS DL_law_0 100 (m_L_cell (by omega) hN) vL_cell rfl qL_156 rfl (hd_of rfl rfl rfl rfl) (fun v_ w_ h_ => ?_)
    obtain ⟨⟨x100, rfl⟩, rfl⟩ := h_
    refine ev_ldc DL_law_0 101 rfl kL_160 ?_
    refine ev_ss DL_law_0 8 102 (pc' := 183) (lv' := [(13, .int _), (0, .ref _), (1, .ref _), (2, .ref _), (3, .ref _), (4, .ref _), (5, .ref _), (6, .ref _), (7, .ref _), (8, .ref _), (9, .ref _), (10, .ref _), (11, .ref _), (12, .int _)]) (st' := [.int _, .ref _]) rfl ?_
    refine ev_topv (nx_add (a := (2 * i)) (b := 1) (nx_mul (a := 2) (b := i) rfl rfl) rfl) ?_
    refine ev_rS DL_law_0 110 (m_L_cell (by omega) hN) vL_cell rfl qL_156 rfl (hd_of rfl rfl rfl rfl) (fun v_ w_ h_ => ?_)
    obtain ⟨⟨x110, rfl⟩, rfl⟩ := h_
    refine ev_ldc DL_law_0 111 rfl kL_160 ?_
    refine ev_ss DL_law_0 2 112 (pc' := 191) (lv' := [(14, .int _), (13, .int _), (0, .ref _), (1, .ref _), (2, .ref _), (3, .ref _), (4, .ref _), (5, .ref _), (6, .ref _), (7, .ref _), (8, .ref _), (9, .ref _), (10, .ref _), (11, .ref _), (12, .int _)]) (st' := []) rfl ?_
    refine ev_lvp (lv2 := [(0, .ref _), (1, .ref _), (2, .ref _), (3, .ref _), (4, .ref _), (5, .ref _), (6, .ref _), (7, .ref _), (8, .ref _), (9, .ref _), (10, .ref _), (11, .ref _), (12, .int _), (13, .int _), (14, .int _)]) [2, 3, 4, 5, 6, 7, 8, 9, 10, 11, 12, 13, 14, 1, 0] rfl ?_
    refine lw_gen (P := fun X Y => Ev E YL_law (fun v _ => v = some (.int 1)) nX kk nn 191 [(0, .ref (gSc E).1), (1, .ref (ad 0)), (2, .ref (ad 214)), (3, .ref (ad 215)), (4, .ref (ad 216)), (5, .ref (ad 217)), (6, .ref (ad 218)), (7, .ref (ad 219)), (8, .ref (ad 220)), (9, .ref (ad 221)), (10, .ref (ad 222)), (11, .ref (ad 223)), (12, .int (nI i)), (13, .int X), (14, .int Y)] [] w_) (fun X Y => ?_) _ _
    suffices J : ∀ z : Int32, (i = 0 → z = 0) → Ev E YL_law (fun v _ => v = some (.int 1)) nX kk nn 245 [(0, .ref (gSc E).1), (1, .ref (ad 0)), (2, .ref (ad 214)), (3, .ref (ad 215)), (4, .ref (ad 216)), (5, .ref (ad 217)), (6, .ref (ad 218)), (7, .ref (ad 219)), (8, .ref (ad 220)), (9, .ref (ad 221)), (10, .ref (ad 222)), (11, .ref (ad 223)), (12, .int (nI i)), (13, .int X), (14, .int Y)] [.int z] w_ by
      refine ev_ss DL_law_0 1 114 (pc' := 193) (lv' := [(0, .ref _), (1, .ref _), (2, .ref _), (3, .ref _), (4, .ref _), (5, .ref _), (6, .ref _), (7, .ref _), (8, .ref _), (9, .ref _), (10, .ref _), (11, .ref _), (12, .int _), (13, .int _), (14, .int _)]) (st' := [.int _]) rfl ?_
      refine ev_ifne DL_law_0 115 rfl (tgt := 200) (by decide) (fun c_1 => ?_) (fun c_1 => ?_)
      · refine ev_ss DL_law_0 2 118 (pc' := 203) (lv' := [(0, .ref _), (1, .ref _), (2, .ref _), (3, .ref _), (4, .ref _), (5, .ref _), (6, .ref _), (7, .ref _), (8, .ref _), (9, .ref _), (10, .ref _), (11, .ref _), (12, .int _), (13, .int _), (14, .int _)]) (st' := [.int 4, .int _]) rfl ?_
        refine ev_icne DL_law_1 0 rfl (tgt := 211) (by decide) (fun c_2 => ?_) (fun c_2 => ?_)
        · refine ev_ss DL_law_1 2 3 (pc' := 215) (lv' := [(0, .ref _), (1, .ref _), (2, .ref _), (3, .ref _), (4, .ref _), (5, .ref _), (6, .ref _), (7, .ref _), (8, .ref _), (9, .ref _), (10, .ref _), (11, .ref _), (12, .int _), (13, .int _), (14, .int _)]) (st' := [.int 6, .int _]) rfl ?_
          refine ev_icne DL_law_1 5 rfl (tgt := 223) (by decide) (fun c_3 => ?_) (fun c_3 => ?_)
          · refine ev_ss DL_law_1 2 8 (pc' := 227) (lv' := [(0, .ref _), (1, .ref _), (2, .ref _), (3, .ref _), (4, .ref _), (5, .ref _), (6, .ref _), (7, .ref _), (8, .ref _), (9, .ref _), (10, .ref _), (11, .ref _), (12, .int _), (13, .int _), (14, .int _)]) (st' := [.int 7, .int _]) rfl ?_
            refine ev_icne DL_law_1 10 rfl (tgt := 235) (by decide) (fun c_4 => ?_) (fun c_4 => ?_)
            · refine ev_ss DL_law_1 4 13 (pc' := 242) (lv' := [(0, .ref _), (1, .ref _), (2, .ref _), (3, .ref _), (4, .ref _), (5, .ref _), (6, .ref _), (7, .ref _), (8, .ref _), (9, .ref _), (10, .ref _), (11, .ref _), (12, .int _), (13, .int _), (14, .int _)]) (st' := [.int 18, .int _]) rfl ?_
              refine ev_cS DL_law_1 17 (m_L_at (n := 18) rfl (by decide) (by decide)) vL_at rfl qL_96 rfl (hd_of rfl rfl rfl rfl) ?_
              refine ev_lvp (lv2 := [(0, .ref _), (1, .ref _), (2, .ref _), (3, .ref _), (4, .ref _), (5, .ref _), (6, .ref _), (7, .ref _), (8, .ref _), (9, .ref _), (10, .ref _), (11, .ref _), (12, .int _), (13, .int _), (14, .int _)]) [0, 1, 2, 3, 4, 5, 6, 7, 8, 9, 10, 11, 12, 13, 14] rfl ?_
              exact J _ (fun e => absurd (by rw [e]; rfl) c_1)
            · refine ev_ss DL_law_1 1 11 (pc' := 232) (lv' := [(0, .ref _), (1, .ref _), (2, .ref _), (3, .ref _), (4, .ref _), (5, .ref _), (6, .ref _), (7, .ref _), (8, .ref _), (9, .ref _), (10, .ref _), (11, .ref _), (12, .int _), (13, .int _), (14, .int _)]) (st' := [.int 15]) rfl ?_
              refine ev_goto DL_law_1 12 rfl (tgt := 245) (by decide) ?_
              refine ev_lvp (lv2 := [(0, .ref _), (1, .ref _), (2, .ref _), (3, .ref _), (4, .ref _), (5, .ref _), (6, .ref _), (7, .ref _), (8, .ref _), (9, .ref _), (10, .ref _), (11, .ref _), (12, .int _), (13, .int _), (14, .int _)]) [0, 1, 2, 3, 4, 5, 6, 7, 8, 9, 10, 11, 12, 13, 14] rfl ?_
              exact J _ (fun e => absurd (by rw [e]; rfl) c_1)
          · refine ev_ss DL_law_1 1 6 (pc' := 220) (lv' := [(0, .ref _), (1, .ref _), (2, .ref _), (3, .ref _), (4, .ref _), (5, .ref _), (6, .ref _), (7, .ref _), (8, .ref _), (9, .ref _), (10, .ref _), (11, .ref _), (12, .int _), (13, .int _), (14, .int _)]) (st' := [.int 9]) rfl ?_
            refine ev_goto DL_law_1 7 rfl (tgt := 245) (by decide) ?_
            refine ev_lvp (lv2 := [(0, .ref _), (1, .ref _), (2, .ref _), (3, .ref _), (4, .ref _), (5, .ref _), (6, .ref _), (7, .ref _), (8, .ref _), (9, .ref _), (10, .ref _), (11, .ref _), (12, .int _), (13, .int _), (14, .int _)]) [0, 1, 2, 3, 4, 5, 6, 7, 8, 9, 10, 11, 12, 13, 14] rfl ?_
            exact J _ (fun e => absurd (by rw [e]; rfl) c_1)
        · refine ev_ss DL_law_1 1 1 (pc' := 208) (lv' := [(0, .ref _), (1, .ref _), (2, .ref _), (3, .ref _), (4, .ref _), (5, .ref _), (6, .ref _), (7, .ref _), (8, .ref _), (9, .ref _), (10, .ref _), (11, .ref _), (12, .int _), (13, .int _), (14, .int _)]) (st' := [.int 12]) rfl ?_
          refine ev_goto DL_law_1 2 rfl (tgt := 245) (by decide) ?_
          refine ev_lvp (lv2 := [(0, .ref _), (1, .ref _), (2, .ref _), (3, .ref _), (4, .ref _), (5, .ref _), (6, .ref _), (7, .ref _), (8, .ref _), (9, .ref _), (10, .ref _), (11, .ref _), (12, .int _), (13, .int _), (14, .int _)]) [0, 1, 2, 3, 4, 5, 6, 7, 8, 9, 10, 11, 12, 13, 14] rfl ?_
          exact J _ (fun e => absurd (by rw [e]; rfl) c_1)
      · refine ev_ss DL_law_0 1 116 (pc' := 197) (lv' := [(0, .ref _), (1, .ref _), (2, .ref _), (3, .ref _), (4, .ref _), (5, .ref _), (6, .ref _), (7, .ref _), (8, .ref _), (9, .ref _), (10, .ref _), (11, .ref _), (12, .int _), (13, .int _), (14, .int _)]) (st' := [.int 0]) rfl ?_
        refine ev_goto DL_law_0 117 rfl (tgt := 245) (by decide) ?_
        refine ev_lvp (lv2 := [(0, .ref _), (1, .ref _), (2, .ref _), (3, .ref _), (4, .ref _), (5, .ref _), (6, .ref _), (7, .ref _), (8, .ref _), (9, .ref _), (10, .ref _), (11, .ref _), (12, .int _), (13, .int _), (14, .int _)]) [0, 1, 2, 3, 4, 5, 6, 7, 8, 9, 10, 11, 12, 13, 14] rfl ?_
        exact J _ (fun _ => rfl)
    intro z hz
    have hA : C0 E YL_act 0 0 [.ref (ad 0), .int z, .int X, .int Y, .ref (ad 214), .ref (ad 215), .ref (ad 216), .ref (ad 217), .ref (ad 218), .ref (ad 219), .ref (ad 220), .ref (ad 221), .ref (ad 222), .ref (ad 223)] w_ (fun v w => v = some (.int 1) ∧ WD E ad w (30 * i + 30) 1) := by
      by_cases e : i = 0
      · rw [hz e]
        exact m_L_act0 hW (Nat.min_le_left 1 i) (by omega)
      · have em : min 1 i = 1 := by omega
        have h9 := m_L_act (x := X) (y := Y) (z := z) hW (Nat.min_le_left 1 i) (by omega)
        rw [em] at h9
        exact h9
    refine ev_ss DL_law_1 15 18 (pc' := 272) (lv' := [(15, .int _), (0, .ref _), (1, .ref _), (2, .ref _), (3, .ref _), (4, .ref _), (5, .ref _), (6, .ref _), (7, .ref _), (8, .ref _), (9, .ref _), (10, .ref _), (11, .ref _), (12, .int _), (13, .int _), (14, .int _)]) (st' := [.ref _, .ref _, .ref _, .ref _, .ref _, .ref _, .ref _, .ref _, .ref _, .ref _, .int _, .int _, .int _, .ref _]) rfl ?_
    refine ev_rS DL_law_1 33 hA vL_act rfl qL_161 rfl (hd_of rfl rfl rfl rfl) (fun v w2 hvw => ?_)
    obtain ⟨rfl, hW2⟩ := hvw
    refine ev_ifeq DL_law_1 34 rfl (tgt := 301) (by decide) (fun h => absurd h (by decide)) (fun _ => ?_)
    refine ev_ss DL_law_1 10 35 (pc' := 295) (lv' := [(15, .int _), (0, .ref _), (1, .ref _), (2, .ref _), (3, .ref _), (4, .ref _), (5, .ref _), (6, .ref _), (7, .ref _), (8, .ref _), (9, .ref _), (10, .ref _), (11, .ref _), (12, .int _), (13, .int _), (14, .int _)]) (st' := [.ref _, .ref _, .ref _, .ref _, .ref _, .ref _, .ref _, .ref _, .ref _, .ref _]) rfl ?_
    refine ev_cS DL_law_1 45 (m_L_toldW hW2) vL_told rfl qL_152 rfl (hd_of rfl rfl rfl rfl) ?_
    refine ev_ifne DL_law_1 46 rfl (tgt := 303) (by decide) (fun _ => ?_) (fun h => absurd h (by decide))
    refine ev_ss DL_law_1 1 49 (pc' := 306) (lv' := [(12, .int _), (15, .int _), (0, .ref _), (1, .ref _), (2, .ref _), (3, .ref _), (4, .ref _), (5, .ref _), (6, .ref _), (7, .ref _), (8, .ref _), (9, .ref _), (10, .ref _), (11, .ref _), (13, .int _), (14, .int _)]) (st' := []) rfl ?_
    refine ev_goto DL_law_1 50 rfl (tgt := 156) (by decide) ?_
    refine ev_lvp (lv2 := [(0, .ref _), (1, .ref _), (2, .ref _), (3, .ref _), (4, .ref _), (5, .ref _), (6, .ref _), (7, .ref _), (8, .ref _), (9, .ref _), (10, .ref _), (11, .ref _), (12, .int _)]) [2, 3, 4, 5, 6, 7, 8, 9, 10, 11, 12, 13, 0] rfl ?_
    exact ih (i + 1) _ w2 (by omega) (nI_1 i) (hW2.le (by omega) (Nat.min_le_left 1 (i + 1)))
