theorem btB {p : PS} {B n : Nat} (hb : ∃ k, k ≤ B ∧ p.2.1 = nI k) (hB : B ≤ 4000) (hn : n ≤ 100) : ¬ 5000 < p.2.1 + nI n := by
  obtain ⟨k, hk, e⟩ := hb
  rw [e, nI_add]
  exact nI_nlt (a := 5000) (by omega) (by decide)
theorem WD.lr {E : gE} {ad : Nat → Nat} {w : va_W} {B n : Nat} {p p2 q : PS} {sv : Nat → PS} {sc r len : Nat} {ch ze : Nat → Int32} (h1 : MW E ad w p2 (svN q sv sc) (scN sc) r len ch) (h2 : LM E ad w p2 ze) (h3 : GI p2) (h4 : SN p2.1) (hb : ∃ n, n ≤ B ∧ p.2.1 = nI n) (e : p2.2.1 = p.2.1 + nI n) (hn : n ≤ 30) (hsc : sc ≤ 6) : WD E ad w (B + 30) 1 := by
  obtain ⟨k, hk, en⟩ := hb
  exact ⟨p2, _, _, r, len, ch, ze, h1, h2, h3, h4, ⟨k + n, by omega, by rw [e, en, nI_add]⟩, scN_6 hsc, scN_1⟩
set_option maxRecDepth 100000 in
set_option maxHeartbeats 4000000 in
theorem m_L_act {E : gE} {ad : Nat → Nat} {ws : va_W} {x y z : Int32} {B m : Nat} (hWD : WD E ad ws B m) (hm1 : m ≤ 1) (hB : B ≤ 4000) : C0 E YL_act 0 0 [.ref (ad 0), .int z, .int x, .int y, .ref (ad 214), .ref (ad 215), .ref (ad 216), .ref (ad 217), .ref (ad 218), .ref (ad 219), .ref (ad 220), .ref (ad 221), .ref (ad 222), .ref (ad 223)] ws (fun v w => v = some (.int 1) ∧ WD E ad w (B + 30) m) := by
  refine c0S vL_act (Nat.le_of_ble_eq_true rfl) (lv0 := [(0, .ref (ad 0)), (1, .int z), (2, .int x), (3, .int y), (4, .ref (ad 214)), (5, .ref (ad 215)), (6, .ref (ad 216)), (7, .ref (ad 217)), (8, .ref (ad 218)), (9, .ref (ad 219)), (10, .ref (ad 220)), (11, .ref (ad 221)), (12, .ref (ad 222)), (13, .ref (ad 223))]) rfl ?_
  suffices J : ∀ r3 : Nat, r3 < 30 → Ev E YL_act (fun v w => v = some (.int 1) ∧ WD E ad w (B + 30) m) nX 0 0 25 [(0, .ref (ad 0)), (1, .int z), (2, .int x), (3, .int y), (4, .ref (ad 214)), (5, .ref (ad 215)), (6, .ref (ad 216)), (7, .ref (ad 217)), (8, .ref (ad 218)), (9, .ref (ad 219)), (10, .ref (ad 220)), (11, .ref (ad 221)), (12, .ref (ad 222)), (13, .ref (ad 223))] [.int (nI (1 + r3))] ws by
    refine ev_ss DL_act_0 8 0 (pc' := 9) (lv' := [(0, .ref _), (1, .int _), (2, .int _), (3, .int _), (4, .ref _), (5, .ref _), (6, .ref _), (7, .ref _), (8, .ref _), (9, .ref _), (10, .ref _), (11, .ref _), (12, .ref _), (13, .ref _)]) (st' := [.int 3, .int _, .int _, .int 1]) rfl ?_
    refine ev_rS DL_act_0 8 (m_L_atE (n := 3) rfl (by decide) (by decide)) vL_at rfl qL_96 rfl (hd_of rfl rfl rfl rfl) (fun v_ w_ h_ => ?_)
    obtain ⟨⟨r4, hr4, rfl⟩, rfl⟩ := h_
    refine ev_ifne DL_act_0 9 rfl (tgt := 20) (by decide) (fun c_1 => ?_) (fun c_1 => ?_)
    · refine ev_ss DL_act_0 1 12 (pc' := 21) (lv' := [(0, .ref _), (1, .int _), (2, .int _), (3, .int _), (4, .ref _), (5, .ref _), (6, .ref _), (7, .ref _), (8, .ref _), (9, .ref _), (10, .ref _), (11, .ref _), (12, .ref _), (13, .ref _)]) (st' := [.int 5, .int _, .int 1]) rfl ?_
      refine ev_rS DL_act_0 13 (m_L_atE (n := 5) rfl (by decide) (by decide)) vL_at rfl qL_96 rfl (hd_of rfl rfl rfl rfl) (fun v_ w_ h_ => ?_)
      obtain ⟨⟨r3, hr3, rfl⟩, rfl⟩ := h_
      refine ev_ss DL_act_0 1 14 (pc' := 25) (lv' := [(0, .ref _), (1, .int _), (2, .int _), (3, .int _), (4, .ref _), (5, .ref _), (6, .ref _), (7, .ref _), (8, .ref _), (9, .ref _), (10, .ref _), (11, .ref _), (12, .ref _), (13, .ref _)]) (st' := [.int _]) rfl ?_
      refine ev_topv (nx_add (a := 1) (b := r3) rfl rfl) ?_
      refine ev_lvp (lv2 := [(0, .ref _), (1, .int _), (2, .int _), (3, .int _), (4, .ref _), (5, .ref _), (6, .ref _), (7, .ref _), (8, .ref _), (9, .ref _), (10, .ref _), (11, .ref _), (12, .ref _), (13, .ref _)]) [0, 1, 2, 3, 4, 5, 6, 7, 8, 9, 10, 11, 12, 13] rfl ?_
      exact J r3 (by omega)
    · refine ev_ss DL_act_0 1 10 (pc' := 17) (lv' := [(0, .ref _), (1, .int _), (2, .int _), (3, .int _), (4, .ref _), (5, .ref _), (6, .ref _), (7, .ref _), (8, .ref _), (9, .ref _), (10, .ref _), (11, .ref _), (12, .ref _), (13, .ref _)]) (st' := [.int 30, .int _, .int 1]) rfl ?_
      refine ev_goto DL_act_0 11 rfl (tgt := 21) (by decide) ?_
      refine ev_rS DL_act_0 13 (m_L_atE (n := 30) rfl (by decide) (by decide)) vL_at rfl qL_96 rfl (hd_of rfl rfl rfl rfl) (fun v_ w_ h_ => ?_)
      obtain ⟨⟨r3, hr3, rfl⟩, rfl⟩ := h_
      refine ev_ss DL_act_0 1 14 (pc' := 25) (lv' := [(0, .ref _), (1, .int _), (2, .int _), (3, .int _), (4, .ref _), (5, .ref _), (6, .ref _), (7, .ref _), (8, .ref _), (9, .ref _), (10, .ref _), (11, .ref _), (12, .ref _), (13, .ref _)]) (st' := [.int _]) rfl ?_
      refine ev_topv (nx_add (a := 1) (b := r3) rfl rfl) ?_
      refine ev_lvp (lv2 := [(0, .ref _), (1, .int _), (2, .int _), (3, .int _), (4, .ref _), (5, .ref _), (6, .ref _), (7, .ref _), (8, .ref _), (9, .ref _), (10, .ref _), (11, .ref _), (12, .ref _), (13, .ref _)]) [0, 1, 2, 3, 4, 5, 6, 7, 8, 9, 10, 11, 12, 13] rfl ?_
      exact J r3 (by omega)
  intro r3 hr3
  obtain ⟨a, ha, ea⟩ := and1E x
  obtain ⟨p, sv, sc, r, len, ch, ze, hM, hL, hG, hs, hb, hsc, hm⟩ := id hWD
  have hl := btB hb hB (n := 1 + r3) (by omega)
  clear hm
  refine ev_ss DL_act_0 3 15 (pc' := 29) (lv' := [(14, .int _), (0, .ref _), (1, .int _), (2, .int _), (3, .int _), (4, .ref _), (5, .ref _), (6, .ref _), (7, .ref _), (8, .ref _), (9, .ref _), (10, .ref _), (11, .ref _), (12, .ref _), (13, .ref _)]) (st' := [.int 3, .int _]) rfl ?_
  refine ev_icge DL_act_0 18 rfl (tgt := 41) (by decide) (fun c_1 => ?_) (fun c_1 => ?_)
  · refine ev_ss DL_act_0 2 25 (pc' := 43) (lv' := [(14, .int _), (0, .ref _), (1, .int _), (2, .int _), (3, .int _), (4, .ref _), (5, .ref _), (6, .ref _), (7, .ref _), (8, .ref _), (9, .ref _), (10, .ref _), (11, .ref _), (12, .ref _), (13, .ref _)]) (st' := [.int 3, .int _]) rfl ?_
    refine ev_icne DL_act_0 27 rfl (tgt := 55) (by decide) (fun c_2 => ?_) (fun c_2 => ?_)
    · refine ev_ss DL_act_0 2 34 (pc' := 58) (lv' := [(14, .int _), (0, .ref _), (1, .int _), (2, .int _), (3, .int _), (4, .ref _), (5, .ref _), (6, .ref _), (7, .ref _), (8, .ref _), (9, .ref _), (10, .ref _), (11, .ref _), (12, .ref _), (13, .ref _)]) (st' := [.int 6, .int _]) rfl ?_
      refine ev_icge DL_act_0 36 rfl (tgt := 70) (by decide) (fun c_3 => ?_) (fun c_3 => ?_)
      · refine ev_ss DL_act_0 2 43 (pc' := 73) (lv' := [(14, .int _), (0, .ref _), (1, .int _), (2, .int _), (3, .int _), (4, .ref _), (5, .ref _), (6, .ref _), (7, .ref _), (8, .ref _), (9, .ref _), (10, .ref _), (11, .ref _), (12, .ref _), (13, .ref _)]) (st' := [.int 6, .int _]) rfl ?_
        refine ev_icne DL_act_0 45 rfl (tgt := 85) (by decide) (fun c_4 => ?_) (fun c_4 => ?_)
        · refine ev_ss DL_act_0 2 52 (pc' := 88) (lv' := [(14, .int _), (0, .ref _), (1, .int _), (2, .int _), (3, .int _), (4, .ref _), (5, .ref _), (6, .ref _), (7, .ref _), (8, .ref _), (9, .ref _), (10, .ref _), (11, .ref _), (12, .ref _), (13, .ref _)]) (st' := [.int 7, .int _]) rfl ?_
          refine ev_icne DL_act_0 54 rfl (tgt := 105) (by decide) (fun c_5 => ?_) (fun c_5 => ?_)
          · refine ev_ss DL_act_0 2 64 (pc' := 108) (lv' := [(14, .int _), (0, .ref _), (1, .int _), (2, .int _), (3, .int _), (4, .ref _), (5, .ref _), (6, .ref _), (7, .ref _), (8, .ref _), (9, .ref _), (10, .ref _), (11, .ref _), (12, .ref _), (13, .ref _)]) (st' := [.int 11, .int _]) rfl ?_
            refine ev_icge DL_act_0 66 rfl (tgt := 122) (by decide) (fun c_6 => ?_) (fun c_6 => ?_)
            · refine ev_ss DL_act_0 2 74 (pc' := 125) (lv' := [(14, .int _), (0, .ref _), (1, .int _), (2, .int _), (3, .int _), (4, .ref _), (5, .ref _), (6, .ref _), (7, .ref _), (8, .ref _), (9, .ref _), (10, .ref _), (11, .ref _), (12, .ref _), (13, .ref _)]) (st' := [.int 14, .int _]) rfl ?_
              refine ev_icge DL_act_0 76 rfl (tgt := 170) (by decide) (fun c_7 => ?_) (fun c_7 => ?_)
              · refine ev_ss DL_act_0 4 101 (pc' := 174) (lv' := [(14, .int _), (0, .ref _), (1, .int _), (2, .int _), (3, .int _), (4, .ref _), (5, .ref _), (6, .ref _), (7, .ref _), (8, .ref _), (9, .ref _), (10, .ref _), (11, .ref _), (12, .ref _), (13, .ref _)]) (st' := [.int _, .ref _]) rfl ?_
                refine ev_topv ea ?_
                refine ev_ss DL_act_0 1 105 (pc' := 176) (lv' := [(14, .int _), (0, .ref _), (1, .int _), (2, .int _), (3, .int _), (4, .ref _), (5, .ref _), (6, .ref _), (7, .ref _), (8, .ref _), (9, .ref _), (10, .ref _), (11, .ref _), (12, .ref _), (13, .ref _)]) (st' := [.int _, .int _, .ref _]) rfl ?_
                refine ev_rV DL_act_0 106 (m_X6_send hM ha (n := 1 + r3) (by omega) (by omega) hsc hl (WI_TA (hG.1 a ha))) vX6_send rfl qL_145 rfl hM.1 rfl (hd_of rfl rfl rfl rfl) (fun v w9 hvw => ?_)
                obtain ⟨rfl, ⟨r2, hM2⟩, hFO⟩ := hvw
                have hL9 := LM.of hL (fun j a b => hFO j a)
                refine ev_ss DL_act_0 3 107 (pc' := 182) (lv' := [(14, .int _), (0, .ref _), (1, .int _), (2, .int _), (3, .int _), (4, .ref _), (5, .ref _), (6, .ref _), (7, .ref _), (8, .ref _), (9, .ref _), (10, .ref _), (11, .ref _), (12, .ref _), (13, .ref _)]) (st' := [.int _, .int _]) rfl ?_
                refine ev_topv ea ?_
                refine ev_ss DL_act_0 10 110 (pc' := 202) (lv' := [(14, .int _), (0, .ref _), (1, .int _), (2, .int _), (3, .int _), (4, .ref _), (5, .ref _), (6, .ref _), (7, .ref _), (8, .ref _), (9, .ref _), (10, .ref _), (11, .ref _), (12, .ref _), (13, .ref _)]) (st' := [.ref _, .ref _, .ref _, .ref _, .ref _, .ref _, .ref _, .ref _, .ref _, .int _, .int _, .int _]) rfl ?_
                refine ev_rS DL_act_1 0 (m_L_send hL9 ha (by omega) (hG.1 a ha)) vL_send rfl qL_148 rfl (hd_of rfl rfl rfl rfl) (fun v w2 hvw => ?_)
                obtain ⟨rfl, hL3, hO3⟩ := hvw
                have hW2 : WD E ad w2 (B + 30) 1 := WD.lr (p := p) (hM2.mo hO3) hL3 (hG.send ha (by omega) hl) (SN_btN hs _) hb rfl (by omega) hsc
                refine ev_icne DL_act_1 1 rfl (tgt := 212) (by decide) (fun h => h.elim rfl) (fun _ => ?_)
                refine ev_ss DL_act_1 1 2 (pc' := 209) (lv' := [(14, .int _), (0, .ref _), (1, .int _), (2, .int _), (3, .int _), (4, .ref _), (5, .ref _), (6, .ref _), (7, .ref _), (8, .ref _), (9, .ref _), (10, .ref _), (11, .ref _), (12, .ref _), (13, .ref _)]) (st' := [.int 1]) rfl ?_
                refine ev_goto DL_act_1 3 rfl (tgt := 213) (by decide) ?_
                exact ev_zret DL_act_1 5 rfl rfl rfl ⟨rfl, WD.le hW2 (Nat.le_refl _) hm1⟩
              · refine ev_ss DL_act_0 4 77 (pc' := 132) (lv' := [(14, .int _), (0, .ref _), (1, .int _), (2, .int _), (3, .int _), (4, .ref _), (5, .ref _), (6, .ref _), (7, .ref _), (8, .ref _), (9, .ref _), (10, .ref _), (11, .ref _), (12, .ref _), (13, .ref _)]) (st' := [.int _, .ref _]) rfl ?_
                refine ev_topv ea ?_
                refine ev_ss DL_act_0 1 81 (pc' := 134) (lv' := [(14, .int _), (0, .ref _), (1, .int _), (2, .int _), (3, .int _), (4, .ref _), (5, .ref _), (6, .ref _), (7, .ref _), (8, .ref _), (9, .ref _), (10, .ref _), (11, .ref _), (12, .ref _), (13, .ref _)]) (st' := [.int _, .int _, .ref _]) rfl ?_
                refine ev_rV DL_act_0 82 (m_X6_learn hM ha (n := 1 + r3) (by omega) (by omega) hsc hl (hG.L ha)) vX6_learn rfl qL_139 rfl hM.1 rfl (hd_of rfl rfl rfl rfl) (fun v w9 hvw => ?_)
                obtain ⟨rfl, ⟨r2, hM2⟩, hFO⟩ := hvw
                have hL9 := LM.of hL (fun j a b => hFO j a)
                refine ev_ss DL_act_0 3 83 (pc' := 140) (lv' := [(14, .int _), (0, .ref _), (1, .int _), (2, .int _), (3, .int _), (4, .ref _), (5, .ref _), (6, .ref _), (7, .ref _), (8, .ref _), (9, .ref _), (10, .ref _), (11, .ref _), (12, .ref _), (13, .ref _)]) (st' := [.int _, .int _]) rfl ?_
                refine ev_topv ea ?_
                refine ev_ss DL_act_0 9 86 (pc' := 158) (lv' := [(14, .int _), (0, .ref _), (1, .int _), (2, .int _), (3, .int _), (4, .ref _), (5, .ref _), (6, .ref _), (7, .ref _), (8, .ref _), (9, .ref _), (10, .ref _), (11, .ref _), (12, .ref _), (13, .ref _)]) (st' := [.ref _, .ref _, .ref _, .ref _, .ref _, .ref _, .ref _, .ref _, .int _, .int _, .int _]) rfl ?_
                refine ev_rS DL_act_0 95 (m_L_learn hL9 ha (by omega) hs (hG.L ha)) vL_learn rfl qL_142 rfl (hd_of rfl rfl rfl rfl) (fun v w2 hvw => ?_)
                obtain ⟨rfl, ⟨ze2, hL3⟩, hO3⟩ := hvw
                have hW2 : WD E ad w2 (B + 30) 1 := WD.lr (p := p) (hM2.mo hO3) hL3 (hG.learn ha (by omega) hl) (SN_lrN hs _) hb rfl (by omega) hsc
                refine ev_icne DL_act_0 96 rfl (tgt := 168) (by decide) (fun h => h.elim rfl) (fun _ => ?_)
                refine ev_ss DL_act_0 1 97 (pc' := 165) (lv' := [(14, .int _), (0, .ref _), (1, .int _), (2, .int _), (3, .int _), (4, .ref _), (5, .ref _), (6, .ref _), (7, .ref _), (8, .ref _), (9, .ref _), (10, .ref _), (11, .ref _), (12, .ref _), (13, .ref _)]) (st' := [.int 1]) rfl ?_
                refine ev_goto DL_act_0 98 rfl (tgt := 169) (by decide) ?_
                exact ev_zret DL_act_0 100 rfl rfl rfl ⟨rfl, WD.le hW2 (Nat.le_refl _) hm1⟩
            · refine ev_ss DL_act_0 5 67 (pc' := 118) (lv' := [(14, .int _), (0, .ref _), (1, .int _), (2, .int _), (3, .int _), (4, .ref _), (5, .ref _), (6, .ref _), (7, .ref _), (8, .ref _), (9, .ref _), (10, .ref _), (11, .ref _), (12, .ref _), (13, .ref _)]) (st' := [.ref _, .ref _, .int _, .int _, .ref _]) rfl ?_
              refine ev_rS DL_act_0 72 (m_L_say hWD hm1) vL_say rfl qL_136 rfl (hd_of rfl rfl rfl rfl) (fun v w2 hvw => ?_)
              obtain ⟨rfl, hW2⟩ := hvw
              exact ev_zret DL_act_0 73 rfl rfl rfl ⟨rfl, WD.le hW2 (Nat.le_refl _) (Nat.le_refl _)⟩
          · refine ev_ss DL_act_0 4 55 (pc' := 95) (lv' := [(14, .int _), (0, .ref _), (1, .int _), (2, .int _), (3, .int _), (4, .ref _), (5, .ref _), (6, .ref _), (7, .ref _), (8, .ref _), (9, .ref _), (10, .ref _), (11, .ref _), (12, .ref _), (13, .ref _)]) (st' := [.int _, .ref _]) rfl ?_
            refine ev_topv ea ?_
            refine ev_ss DL_act_0 3 59 (pc' := 101) (lv' := [(14, .int _), (0, .ref _), (1, .int _), (2, .int _), (3, .int _), (4, .ref _), (5, .ref _), (6, .ref _), (7, .ref _), (8, .ref _), (9, .ref _), (10, .ref _), (11, .ref _), (12, .ref _), (13, .ref _)]) (st' := [.ref _, .ref _, .ref _, .int _, .ref _]) rfl ?_
            refine ev_rS DL_act_0 62 (m_L_forget hWD hm1 ha) vL_forget rfl qL_133 rfl (hd_of rfl rfl rfl rfl) (fun v w2 hvw => ?_)
            obtain ⟨rfl, hW2⟩ := hvw
            exact ev_zret DL_act_0 63 rfl rfl rfl ⟨rfl, WD.le hW2 (Nat.le_refl _) (Nat.le_refl _)⟩
        · refine ev_ss DL_act_0 4 46 (pc' := 81) (lv' := [(14, .int _), (0, .ref _), (1, .int _), (2, .int _), (3, .int _), (4, .ref _), (5, .ref _), (6, .ref _), (7, .ref _), (8, .ref _), (9, .ref _), (10, .ref _), (11, .ref _), (12, .ref _), (13, .ref _)]) (st' := [.ref _, .int _, .int _, .ref _]) rfl ?_
          refine ev_rS DL_act_0 50 (m_L_set hWD hm1) vL_set rfl qL_131 rfl (hd_of rfl rfl rfl rfl) (fun v w2 hvw => ?_)
          obtain ⟨rfl, hW2⟩ := hvw
          exact ev_zret DL_act_0 51 rfl rfl rfl ⟨rfl, WD.le hW2 (Nat.le_refl _) (Nat.le_refl _)⟩
      · refine ev_ss DL_act_0 4 37 (pc' := 66) (lv' := [(14, .int _), (0, .ref _), (1, .int _), (2, .int _), (3, .int _), (4, .ref _), (5, .ref _), (6, .ref _), (7, .ref _), (8, .ref _), (9, .ref _), (10, .ref _), (11, .ref _), (12, .ref _), (13, .ref _)]) (st' := [.ref _, .int _, .int _, .ref _]) rfl ?_
        refine ev_rS DL_act_0 41 (m_L_insult hWD hm1) vL_insult rfl qL_129 rfl (hd_of rfl rfl rfl rfl) (fun v w2 hvw => ?_)
        obtain ⟨rfl, hW2⟩ := hvw
        exact ev_zret DL_act_0 42 rfl rfl rfl ⟨rfl, WD.le hW2 (Nat.le_refl _) (Nat.le_refl _)⟩
    · refine ev_ss DL_act_0 4 28 (pc' := 51) (lv' := [(14, .int _), (0, .ref _), (1, .int _), (2, .int _), (3, .int _), (4, .ref _), (5, .ref _), (6, .ref _), (7, .ref _), (8, .ref _), (9, .ref _), (10, .ref _), (11, .ref _), (12, .ref _), (13, .ref _)]) (st' := [.ref _, .int _, .int _, .ref _]) rfl ?_
      refine ev_rS DL_act_0 32 (m_L_carry hWD hm1) vL_carry rfl qL_127 rfl (hd_of rfl rfl rfl rfl) (fun v w2 hvw => ?_)
      obtain ⟨rfl, hW2⟩ := hvw
      exact ev_zret DL_act_0 33 rfl rfl rfl ⟨rfl, WD.le hW2 (Nat.le_refl _) (Nat.le_refl _)⟩
  · refine ev_ss DL_act_0 4 19 (pc' := 37) (lv' := [(14, .int _), (0, .ref _), (1, .int _), (2, .int _), (3, .int _), (4, .ref _), (5, .ref _), (6, .ref _), (7, .ref _), (8, .ref _), (9, .ref _), (10, .ref _), (11, .ref _), (12, .ref _), (13, .ref _)]) (st' := [.ref _, .int _, .int _, .ref _]) rfl ?_
    refine ev_rS DL_act_0 23 (m_L_street hWD) vL_street rfl qL_124 rfl (hd_of rfl rfl rfl rfl) (fun v w2 hvw => ?_)
    obtain ⟨rfl, hW2⟩ := hvw
    exact ev_zret DL_act_0 24 rfl rfl rfl ⟨rfl, WD.le hW2 (Nat.le_refl _) hm1⟩
set_option maxRecDepth 100000 in
set_option maxHeartbeats 4000000 in
theorem m_L_act0 {E : gE} {ad : Nat → Nat} {ws : va_W} {x y : Int32} {B m : Nat} (hWD : WD E ad ws B m) (hm1 : m ≤ 1) (hB : B ≤ 4000) : C0 E YL_act 0 0 [.ref (ad 0), .int 0, .int x, .int y, .ref (ad 214), .ref (ad 215), .ref (ad 216), .ref (ad 217), .ref (ad 218), .ref (ad 219), .ref (ad 220), .ref (ad 221), .ref (ad 222), .ref (ad 223)] ws (fun v w => v = some (.int 1) ∧ WD E ad w (B + 30) 1) := by
  refine c0S vL_act (Nat.le_of_ble_eq_true rfl) (lv0 := [(0, .ref (ad 0)), (1, .int 0), (2, .int x), (3, .int y), (4, .ref (ad 214)), (5, .ref (ad 215)), (6, .ref (ad 216)), (7, .ref (ad 217)), (8, .ref (ad 218)), (9, .ref (ad 219)), (10, .ref (ad 220)), (11, .ref (ad 221)), (12, .ref (ad 222)), (13, .ref (ad 223))]) rfl ?_
  suffices J : ∀ r3 : Nat, r3 < 30 → Ev E YL_act (fun v w => v = some (.int 1) ∧ WD E ad w (B + 30) 1) nX 0 0 25 [(0, .ref (ad 0)), (1, .int 0), (2, .int x), (3, .int y), (4, .ref (ad 214)), (5, .ref (ad 215)), (6, .ref (ad 216)), (7, .ref (ad 217)), (8, .ref (ad 218)), (9, .ref (ad 219)), (10, .ref (ad 220)), (11, .ref (ad 221)), (12, .ref (ad 222)), (13, .ref (ad 223))] [.int (nI (1 + r3))] ws by
    refine ev_ss DL_act_0 8 0 (pc' := 9) (lv' := [(0, .ref _), (1, .int 0), (2, .int _), (3, .int _), (4, .ref _), (5, .ref _), (6, .ref _), (7, .ref _), (8, .ref _), (9, .ref _), (10, .ref _), (11, .ref _), (12, .ref _), (13, .ref _)]) (st' := [.int 3, .int _, .int _, .int 1]) rfl ?_
    refine ev_rS DL_act_0 8 (m_L_atE (n := 3) rfl (by decide) (by decide)) vL_at rfl qL_96 rfl (hd_of rfl rfl rfl rfl) (fun v_ w_ h_ => ?_)
    obtain ⟨⟨r4, hr4, rfl⟩, rfl⟩ := h_
    refine ev_ifne DL_act_0 9 rfl (tgt := 20) (by decide) (fun c_1 => ?_) (fun c_1 => ?_)
    · refine ev_ss DL_act_0 1 12 (pc' := 21) (lv' := [(0, .ref _), (1, .int 0), (2, .int _), (3, .int _), (4, .ref _), (5, .ref _), (6, .ref _), (7, .ref _), (8, .ref _), (9, .ref _), (10, .ref _), (11, .ref _), (12, .ref _), (13, .ref _)]) (st' := [.int 5, .int _, .int 1]) rfl ?_
      refine ev_rS DL_act_0 13 (m_L_atE (n := 5) rfl (by decide) (by decide)) vL_at rfl qL_96 rfl (hd_of rfl rfl rfl rfl) (fun v_ w_ h_ => ?_)
      obtain ⟨⟨r3, hr3, rfl⟩, rfl⟩ := h_
      refine ev_ss DL_act_0 1 14 (pc' := 25) (lv' := [(0, .ref _), (1, .int 0), (2, .int _), (3, .int _), (4, .ref _), (5, .ref _), (6, .ref _), (7, .ref _), (8, .ref _), (9, .ref _), (10, .ref _), (11, .ref _), (12, .ref _), (13, .ref _)]) (st' := [.int _]) rfl ?_
      refine ev_topv (nx_add (a := 1) (b := r3) rfl rfl) ?_
      refine ev_lvp (lv2 := [(0, .ref _), (1, .int _), (2, .int _), (3, .int _), (4, .ref _), (5, .ref _), (6, .ref _), (7, .ref _), (8, .ref _), (9, .ref _), (10, .ref _), (11, .ref _), (12, .ref _), (13, .ref _)]) [0, 1, 2, 3, 4, 5, 6, 7, 8, 9, 10, 11, 12, 13] rfl ?_
      exact J r3 (by omega)
    · refine ev_ss DL_act_0 1 10 (pc' := 17) (lv' := [(0, .ref _), (1, .int 0), (2, .int _), (3, .int _), (4, .ref _), (5, .ref _), (6, .ref _), (7, .ref _), (8, .ref _), (9, .ref _), (10, .ref _), (11, .ref _), (12, .ref _), (13, .ref _)]) (st' := [.int 30, .int _, .int 1]) rfl ?_
      refine ev_goto DL_act_0 11 rfl (tgt := 21) (by decide) ?_
      refine ev_rS DL_act_0 13 (m_L_atE (n := 30) rfl (by decide) (by decide)) vL_at rfl qL_96 rfl (hd_of rfl rfl rfl rfl) (fun v_ w_ h_ => ?_)
      obtain ⟨⟨r3, hr3, rfl⟩, rfl⟩ := h_
      refine ev_ss DL_act_0 1 14 (pc' := 25) (lv' := [(0, .ref _), (1, .int 0), (2, .int _), (3, .int _), (4, .ref _), (5, .ref _), (6, .ref _), (7, .ref _), (8, .ref _), (9, .ref _), (10, .ref _), (11, .ref _), (12, .ref _), (13, .ref _)]) (st' := [.int _]) rfl ?_
      refine ev_topv (nx_add (a := 1) (b := r3) rfl rfl) ?_
      refine ev_lvp (lv2 := [(0, .ref _), (1, .int _), (2, .int _), (3, .int _), (4, .ref _), (5, .ref _), (6, .ref _), (7, .ref _), (8, .ref _), (9, .ref _), (10, .ref _), (11, .ref _), (12, .ref _), (13, .ref _)]) [0, 1, 2, 3, 4, 5, 6, 7, 8, 9, 10, 11, 12, 13] rfl ?_
      exact J r3 (by omega)
  intro r3 hr3
  obtain ⟨a, ha, ea⟩ := and1E x
  obtain ⟨p, sv, sc, r, len, ch, ze, hM, hL, hG, hs, hb, hsc, hm⟩ := id hWD
  have hl := btB hb hB (n := 1 + r3) (by omega)
  clear hm
  refine ev_ss DL_act_0 3 15 (pc' := 29) (lv' := [(14, .int _), (0, .ref _), (1, .int 0), (2, .int _), (3, .int _), (4, .ref _), (5, .ref _), (6, .ref _), (7, .ref _), (8, .ref _), (9, .ref _), (10, .ref _), (11, .ref _), (12, .ref _), (13, .ref _)]) (st' := [.int 3, .int 0]) rfl ?_
  refine ev_icge DL_act_0 18 rfl (tgt := 41) (by decide) (fun h => absurd h (by decide)) (fun _ => ?_)
  refine ev_ss DL_act_0 4 19 (pc' := 37) (lv' := [(14, .int _), (0, .ref _), (1, .int 0), (2, .int _), (3, .int _), (4, .ref _), (5, .ref _), (6, .ref _), (7, .ref _), (8, .ref _), (9, .ref _), (10, .ref _), (11, .ref _), (12, .ref _), (13, .ref _)]) (st' := [.ref _, .int _, .int _, .ref _]) rfl ?_
  refine ev_rS DL_act_0 23 (m_L_street hWD) vL_street rfl qL_124 rfl (hd_of rfl rfl rfl rfl) (fun v w2 hvw => ?_)
  obtain ⟨rfl, hW2⟩ := hvw
  exact ev_zret DL_act_0 24 rfl rfl rfl ⟨rfl, WD.le hW2 (Nat.le_refl _) (Nat.le_refl _)⟩
