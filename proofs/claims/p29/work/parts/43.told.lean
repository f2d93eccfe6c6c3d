theorem lcm_eq {a b : Int64} (h : a = b) : lg_cmp a b = 0 := by
  rw [h]
  unfold lg_cmp
  rw [if_neg (show ¬ b > b from Int64.lt_irrefl), if_pos rfl]
theorem dcm_eq {a b : UInt64} {op : CmpOp} (h : a = b ∧ FP.dcmp b b = some .eq) : Op.cmpValue (FP.dcmp a b) op = 0 := by
  rw [h.1, h.2]
  rfl
theorem i2d_B {n : Nat} (h : n < 1000000) : (FP.i2d (nI n)).toNat ≤ 9218868437227405312 := by
  by_cases h0 : n = 0
  · subst h0; decide +kernel
  · obtain ⟨b1, b2⟩ := fp_i2d h0 h
    obtain ⟨c1, c2⟩ := fp_upm h0 (show n.log2 ≤ 52 by omega)
    rw [b2]
    omega
theorem fp_mul1 {n : Nat} (h : n < 1000000) : FP.dmul (FP.i2d (nI n)) FP.dconst1 = FP.i2d (nI n) := by
  by_cases h0 : n = 0
  · subst h0; decide +kernel
  · obtain ⟨b1, b2⟩ := fp_i2d h0 h
    obtain ⟨c1, c2⟩ := fp_upm h0 (show n.log2 ≤ 52 by omega)
    apply UInt64.toNat_inj.mp
    rw [fp_mul b2 (F := 1023) (by decide +kernel) (by omega) (by omega) (by omega) (by decide) (by decide), b2]
    omega
section EVD
variable {E : gE} {Y : MI} {Pr : Option Value → va_W → Prop} {Px : String → va_W → Prop} {k n : Nat} {ws : va_W} {pc : Nat} {lv : List (Nat × Value)} {st : List Value}
theorem ev_topd {x y : UInt64} (h : x = y) (kt : Ev E Y Pr Px k n pc lv (.double y :: st) ws) : Ev E Y Pr Px k n pc lv (.double x :: st) ws := h ▸ kt
end EVD
theorem sumN_add {g : Nat → Int32} {a : Nat} : ∀ b, sumN g (a + b) = sumN g a + sumN (fun j => g (a + j)) b
  | 0 => (Int32.add_zero _).symm
  | b + 1 => by
    show sumN g (a + b) + g (a + b) = sumN g a + (sumN (fun j => g (a + j)) b + g (a + b))
    rw [sumN_add b, Int32.add_assoc]
/-- what is told of each tone, row by row -/
def s16 (F : TF → Int32) (p : PS) (i : Nat) : Int32 := F ((pW p (i / 8)).1 (i % 8))
theorem s16_e {F : TF → Int32} {p : PS} : sumN (s16 F p) 16 = sumN (fun t => F ((pW p 0).1 t)) 8 + sumN (fun t => F ((pW p 1).1 t)) 8 := by
  rw [show 16 = 8 + 8 from rfl, sumN_add 8, sumN_c (f := s16 F p) (g := fun t => F ((pW p 0).1 t)) 8 (fun t ht => by unfold s16; rw [show t / 8 = 0 by omega, show t % 8 = t by omega]), sumN_c (f := fun j => s16 F p (8 + j)) (g := fun t => F ((pW p 1).1 t)) 8 (fun t ht => by show s16 F p (8 + t) = _; unfold s16; rw [show (8 + t) / 8 = 1 by omega, show (8 + t) % 8 = t by omega])]
def inF (f : TF) : Int32 := if f 4 = 0 then 0 else 1
set_option maxRecDepth 100000 in
set_option maxHeartbeats 4000000 in
theorem tld_w {E : gE} {ad : Nat → Nat} {ws : va_W} {Pr : Option Value → va_W → Prop} {p : PS} {sv : Nat → PS} {sc r len : Nat} {ch : Nat → Int32} {zw zc : Nat → Int32} {zh : Nat → Int64} {y : Nat} {b0 b1 : Int32} (h : MW E ad ws p sv sc r len ch) (hzw : ws[219]? = some (ad 219, iaC E 64 zw)) (hzc : ws[220]? = some (ad 220, iaC E 8 zc)) (hW : LW zw zc zh p) (hy : y < 2)
    (hP : Ev E YL_told Pr nX 0 0 212 [(0, .ref (ad 0)), (1, .ref (ad 214)), (2, .ref (ad 215)), (3, .ref (ad 216)), (4, .ref (ad 217)), (5, .ref (ad 218)), (6, .ref (ad 219)), (7, .ref (ad 220)), (8, .ref (ad 221)), (9, .ref (ad 223)), (10, .int b0), (11, .int b1), (12, .int (nI y))] [] ws) : ∀ (m i : Nat) (x : Int32), i + m = (pW p y).2.1.length → x = nI i → Ev E YL_told Pr nX 0 0 170 [(0, .ref (ad 0)), (1, .ref (ad 214)), (2, .ref (ad 215)), (3, .ref (ad 216)), (4, .ref (ad 217)), (5, .ref (ad 218)), (6, .ref (ad 219)), (7, .ref (ad 220)), (8, .ref (ad 221)), (9, .ref (ad 223)), (10, .int b0), (11, .int b1), (12, .int (nI y)), (13, .int x)] [] ws := by
  obtain ⟨q1, q2, -, -, -⟩ := hW.2.1 y hy
  have hyc : y = 0 ∨ y = 1 := by omega
  intro m
  induction m with
  | zero =>
    intro i x hm hx
    obtain rfl : i = (pW p y).2.1.length := by omega
    subst hx
    refine ev_ss DL_told_0 5 94 (pc' := 178) (lv' := [(0, .ref _), (1, .ref _), (2, .ref _), (3, .ref _), (4, .ref _), (5, .ref _), (6, .ref _), (7, .ref _), (8, .ref _), (9, .ref _), (10, .int _), (11, .int _), (12, .int _), (13, .int _)]) (st' := [.int _, .ref _, .int _]) rfl ?_
    refine ev_ialdv DL_told_0 99 (k0 := (2 + y)) rfl hzc (nx_add (a := 2) (b := y) rfl rfl) (by omega) (by decide) (q2) ?_
    refine ev_icge DL_told_0 100 rfl (tgt := 212) (by decide) (fun _ => ?_) (fun h => h.elim (nI_le (Nat.le_refl _) (by omega)))
    refine ev_lvp (lv2 := [(0, .ref _), (1, .ref _), (2, .ref _), (3, .ref _), (4, .ref _), (5, .ref _), (6, .ref _), (7, .ref _), (8, .ref _), (9, .ref _), (10, .int _), (11, .int _), (12, .int _)]) [0, 1, 2, 3, 4, 5, 6, 7, 8, 9, 10, 11, 12] rfl ?_
    exact hP
  | succ m ih =>
    intro i x hm hx
    subst hx
    have hi : i < (pW p y).2.1.length := by omega
    have e3 : (pW p y).2.1[i]? = some ((pW p y).2.1.getD i 0) := by
      rw [List.getD_eq_getElem?_getD, List.getElem?_eq_getElem hi]
      rfl
    refine ev_ss DL_told_0 5 94 (pc' := 178) (lv' := [(0, .ref _), (1, .ref _), (2, .ref _), (3, .ref _), (4, .ref _), (5, .ref _), (6, .ref _), (7, .ref _), (8, .ref _), (9, .ref _), (10, .int _), (11, .int _), (12, .int _), (13, .int _)]) (st' := [.int _, .ref _, .int _]) rfl ?_
    refine ev_ialdv DL_told_0 99 (k0 := (2 + y)) rfl hzc (nx_add (a := 2) (b := y) rfl rfl) (by omega) (by decide) (q2) ?_
    refine ev_icge DL_told_0 100 rfl (tgt := 212) (by decide) (fun h => absurd h (nI_ge (b := (pW p y).2.1.length) hi (by omega))) (fun _ => ?_)
    refine ev_ss DL_told_0 3 101 (pc' := 187) (lv' := [(0, .ref _), (1, .ref _), (2, .ref _), (3, .ref _), (4, .ref _), (5, .ref _), (6, .ref _), (7, .ref _), (8, .ref _), (9, .ref _), (10, .int _), (11, .int _), (12, .int _), (13, .int _)]) (st' := [.int _, .int _, .ref _]) rfl ?_
    refine ev_cV DL_told_0 104 (m_X6_waits h hy e3) vX6_waits rfl qL_78 rfl h.1 rfl (hd_of rfl rfl rfl rfl) ?_
    refine ev_ss DL_told_0 6 105 (pc' := 200) (lv' := [(0, .ref _), (1, .ref _), (2, .ref _), (3, .ref _), (4, .ref _), (5, .ref _), (6, .ref _), (7, .ref _), (8, .ref _), (9, .ref _), (10, .int _), (11, .int _), (12, .int _), (13, .int _)]) (st' := [.int _, .ref _, .int _]) rfl ?_
    refine ev_ialdv DL_told_0 111 (k0 := ((32 * y) + i)) rfl hzw (nx_add (a := (32 * y)) (b := i) (nx_mul (a := 32) (b := y) rfl rfl) rfl) (by omega) (by decide) ((hW.1 y i hy hi)) ?_
    refine ev_iceq DL_told_0 112 rfl (tgt := 206) (by decide) (fun _ => ?_) (fun h => h.elim rfl)
    refine ev_ss DL_told_0 1 115 (pc' := 209) (lv' := [(13, .int _), (0, .ref _), (1, .ref _), (2, .ref _), (3, .ref _), (4, .ref _), (5, .ref _), (6, .ref _), (7, .ref _), (8, .ref _), (9, .ref _), (10, .int _), (11, .int _), (12, .int _)]) (st' := []) rfl ?_
    refine ev_goto DL_told_0 116 rfl (tgt := 170) (by decide) ?_
    refine ev_lvp (lv2 := [(0, .ref _), (1, .ref _), (2, .ref _), (3, .ref _), (4, .ref _), (5, .ref _), (6, .ref _), (7, .ref _), (8, .ref _), (9, .ref _), (10, .int _), (11, .int _), (12, .int _), (13, .int _)]) [1, 2, 3, 4, 5, 6, 7, 8, 9, 10, 11, 12, 13, 0] rfl ?_
    exact ih (i + 1) _ (by omega) (nI_1 i)
set_option maxRecDepth 100000 in
set_option maxHeartbeats 4000000 in
theorem tld_y {E : gE} {ad : Nat → Nat} {ws : va_W} {Pr : Option Value → va_W → Prop} {p : PS} {sv : Nat → PS} {sc r len : Nat} {ch : Nat → Int32} {za zw zc : Nat → Int32} {zh : Nat → Int64} {y : Nat} {b0 b1 : Int32} (h : MW E ad ws p sv sc r len ch) (hza : ws[216]? = some (ad 216, iaC E 64 za)) (hzw : ws[219]? = some (ad 219, iaC E 64 zw)) (hzc : ws[220]? = some (ad 220, iaC E 8 zc)) (hzh : ws[223]? = some (ad 223, laC E 2 zh)) (hA : A4 mA za p) (hW : LW zw zc zh p) (hy : y < 2) (hI : CI p y)
    (hP : Ev E YL_told Pr nX 0 0 161 [(0, .ref (ad 0)), (1, .ref (ad 214)), (2, .ref (ad 215)), (3, .ref (ad 216)), (4, .ref (ad 217)), (5, .ref (ad 218)), (6, .ref (ad 219)), (7, .ref (ad 220)), (8, .ref (ad 221)), (9, .ref (ad 223)), (10, .int b0), (11, .int b1), (12, .int (nI y + 1))] [] ws) : Ev E YL_told Pr nX 0 0 167 [(0, .ref (ad 0)), (1, .ref (ad 214)), (2, .ref (ad 215)), (3, .ref (ad 216)), (4, .ref (ad 217)), (5, .ref (ad 218)), (6, .ref (ad 219)), (7, .ref (ad 220)), (8, .ref (ad 221)), (9, .ref (ad 223)), (10, .int b0), (11, .int b1), (12, .int (nI y))] [] ws := by
  obtain ⟨q1, q2, q3, q4, q5⟩ := hW.2.1 y hy
  obtain ⟨c, wr, e1, e2, e3, e4⟩ := id hI
  have hF := hI.F
  have hc8 : CD E YX6_count 0 0 [.ref (ad 0), .int (nI (8 + y))] ws (some (.int (sumN (fun t => (pW p y).1 t 10) 8))) ws := by
    rcases (show y = 0 ∨ y = 1 by omega) with rfl | rfl
    · exact m_X6_count h (j := 8) (by decide)
    · exact m_X6_count h (j := 9) (by decide)
  have hrs := m_X6_rightShare h hy hI.R
  rw [e1, e2] at hrs hF
  have q3' : zc (4 + y) = nI c := q3.trans e1
  have q4' : zc (6 + y) = nI wr := q4.trans e2
  have eS : nI c - nI wr = nI (c - wr) := pk_sub e3
  refine ev_ss DL_told_0 2 92 (pc' := 170) (lv' := [(13, .int 0), (0, .ref _), (1, .ref _), (2, .ref _), (3, .ref _), (4, .ref _), (5, .ref _), (6, .ref _), (7, .ref _), (8, .ref _), (9, .ref _), (10, .int _), (11, .int _), (12, .int _)]) (st' := []) rfl ?_
  refine ev_lvp (lv2 := [(0, .ref _), (1, .ref _), (2, .ref _), (3, .ref _), (4, .ref _), (5, .ref _), (6, .ref _), (7, .ref _), (8, .ref _), (9, .ref _), (10, .int _), (11, .int _), (12, .int _), (13, .int _)]) [1, 2, 3, 4, 5, 6, 7, 8, 9, 10, 11, 12, 13, 0] rfl ?_
  refine tld_w h hzw hzc hW hy ?_ (pW p y).2.1.length 0 _ (Nat.zero_add _) nI_0.symm
  by_cases c0 : c = 0
  · have rs0 : rsP (nI c) (nI wr) = FP.dconst1 := if_pos (by rw [c0]; decide)
    have hF0 : FSh FP.dconst1 := rs0 ▸ hF
    refine ev_ss DL_told_0 2 117 (pc' := 215) (lv' := [(0, .ref _), (1, .ref _), (2, .ref _), (3, .ref _), (4, .ref _), (5, .ref _), (6, .ref _), (7, .ref _), (8, .ref _), (9, .ref _), (10, .int _), (11, .int _), (12, .int _)]) (st' := [.int _, .ref _]) rfl ?_
    refine ev_cV DL_told_0 119 (m_X6_had h hy) vX6_had rfl qL_81 rfl h.1 rfl (hd_of rfl rfl rfl rfl) ?_
    refine ev_ss DL_told_1 2 0 (pc' := 222) (lv' := [(0, .ref _), (1, .ref _), (2, .ref _), (3, .ref _), (4, .ref _), (5, .ref _), (6, .ref _), (7, .ref _), (8, .ref _), (9, .ref _), (10, .int _), (11, .int _), (12, .int _)]) (st' := [.int _, .ref _, .long _]) rfl ?_
    refine ev_laldv DL_told_1 2 (k0 := y) rfl hzh rfl (by omega) (by decide) (q5) ?_
    refine ev_ss DL_told_1 1 3 (pc' := 224) (lv' := [(0, .ref _), (1, .ref _), (2, .ref _), (3, .ref _), (4, .ref _), (5, .ref _), (6, .ref _), (7, .ref _), (8, .ref _), (9, .ref _), (10, .int _), (11, .int _), (12, .int _)]) (st' := [.int _]) rfl ?_
    refine ev_ifne DL_told_1 4 rfl (tgt := 297) (by decide) (fun h => h.elim (lcm_eq rfl)) (fun _ => ?_)
    refine ev_ss DL_told_1 4 5 (pc' := 233) (lv' := [(0, .ref _), (1, .ref _), (2, .ref _), (3, .ref _), (4, .ref _), (5, .ref _), (6, .ref _), (7, .ref _), (8, .ref _), (9, .ref _), (10, .int _), (11, .int _), (12, .int _)]) (st' := [.int _, .ref _]) rfl ?_
    refine ev_topv (nx_add (a := 8) (b := y) rfl rfl) ?_
    refine ev_cV DL_told_1 9 hc8 vX6_count rfl qL_72 rfl h.1 rfl (hd_of rfl rfl rfl rfl) ?_
    refine ev_ss DL_told_1 2 10 (pc' := 239) (lv' := [(0, .ref _), (1, .ref _), (2, .ref _), (3, .ref _), (4, .ref _), (5, .ref _), (6, .ref _), (7, .ref _), (8, .ref _), (9, .ref _), (10, .int _), (11, .int _), (12, .int _)]) (st' := [.ref _, .int _, .int _]) rfl ?_
    refine ev_cS DL_told_1 12 (m_L_carried hza hy hA) vL_carried rfl qL_85 rfl (hd_of rfl rfl rfl rfl) ?_
    refine ev_icne DL_told_1 13 rfl (tgt := 297) (by decide) (fun h => h.elim rfl) (fun _ => ?_)
    refine ev_ss DL_told_1 2 14 (pc' := 248) (lv' := [(0, .ref _), (1, .ref _), (2, .ref _), (3, .ref _), (4, .ref _), (5, .ref _), (6, .ref _), (7, .ref _), (8, .ref _), (9, .ref _), (10, .int _), (11, .int _), (12, .int _)]) (st' := [.int _, .ref _]) rfl ?_
    refine ev_cV DL_told_1 16 hrs vX6_rightShare rfl qL_88 rfl h.1 rfl (hd_of rfl rfl rfl rfl) ?_
    refine ev_ss DL_told_1 4 17 (pc' := 257) (lv' := [(0, .ref _), (1, .ref _), (2, .ref _), (3, .ref _), (4, .ref _), (5, .ref _), (6, .ref _), (7, .ref _), (8, .ref _), (9, .ref _), (10, .int _), (11, .int _), (12, .int _)]) (st' := [.int _, .ref _, .double _]) rfl ?_
    refine ev_ialdv DL_told_1 21 (k0 := (4 + y)) rfl hzc (nx_add (a := 4) (b := y) rfl rfl) (by omega) (by decide) (q3') ?_
    refine ev_ifne DL_told_1 22 rfl (tgt := 265) (by decide) (fun h => h.elim (by rw [c0]; rfl)) (fun _ => ?_)
    refine ev_dconst1 DL_told_1 23 rfl ?_
    refine ev_goto DL_told_1 24 rfl (tgt := 293) (by decide) ?_
    refine ev_ss DL_told_1 1 46 (pc' := 294) (lv' := [(0, .ref _), (1, .ref _), (2, .ref _), (3, .ref _), (4, .ref _), (5, .ref _), (6, .ref _), (7, .ref _), (8, .ref _), (9, .ref _), (10, .int _), (11, .int _), (12, .int _)]) (st' := [.int _]) rfl ?_
    refine ev_ifeq DL_told_1 47 rfl (tgt := 299) (by decide) (fun _ => ?_) (fun h => h.elim (dcm_eq ⟨rs0, FSh_x hF0⟩))
    refine ev_ss DL_told_1 1 50 (pc' := 302) (lv' := [(12, .int _), (0, .ref _), (1, .ref _), (2, .ref _), (3, .ref _), (4, .ref _), (5, .ref _), (6, .ref _), (7, .ref _), (8, .ref _), (9, .ref _), (10, .int _), (11, .int _)]) (st' := []) rfl ?_
    refine ev_goto DL_told_1 51 rfl (tgt := 161) (by decide) ?_
    refine ev_lvp (lv2 := [(0, .ref _), (1, .ref _), (2, .ref _), (3, .ref _), (4, .ref _), (5, .ref _), (6, .ref _), (7, .ref _), (8, .ref _), (9, .ref _), (10, .int _), (11, .int _), (12, .int _)]) [1, 2, 3, 4, 5, 6, 7, 8, 9, 10, 11, 12, 0] rfl ?_
    exact hP
  · have rs1 : rsP (nI c) (nI wr) = FP.ddiv (FP.i2d (nI (c - wr))) (FP.i2d (nI c)) := (if_neg (nI_nle (Nat.pos_of_ne_zero c0) (by omega))).trans (by rw [eS])
    have hF1 : FSh (FP.ddiv (FP.i2d (nI (c - wr))) (FP.i2d (nI c))) := rs1 ▸ hF
    have hV := FSh_vf hF1
    refine ev_ss DL_told_0 2 117 (pc' := 215) (lv' := [(0, .ref _), (1, .ref _), (2, .ref _), (3, .ref _), (4, .ref _), (5, .ref _), (6, .ref _), (7, .ref _), (8, .ref _), (9, .ref _), (10, .int _), (11, .int _), (12, .int _)]) (st' := [.int _, .ref _]) rfl ?_
    refine ev_cV DL_told_0 119 (m_X6_had h hy) vX6_had rfl qL_81 rfl h.1 rfl (hd_of rfl rfl rfl rfl) ?_
    refine ev_ss DL_told_1 2 0 (pc' := 222) (lv' := [(0, .ref _), (1, .ref _), (2, .ref _), (3, .ref _), (4, .ref _), (5, .ref _), (6, .ref _), (7, .ref _), (8, .ref _), (9, .ref _), (10, .int _), (11, .int _), (12, .int _)]) (st' := [.int _, .ref _, .long _]) rfl ?_
    refine ev_laldv DL_told_1 2 (k0 := y) rfl hzh rfl (by omega) (by decide) (q5) ?_
    refine ev_ss DL_told_1 1 3 (pc' := 224) (lv' := [(0, .ref _), (1, .ref _), (2, .ref _), (3, .ref _), (4, .ref _), (5, .ref _), (6, .ref _), (7, .ref _), (8, .ref _), (9, .ref _), (10, .int _), (11, .int _), (12, .int _)]) (st' := [.int _]) rfl ?_
    refine ev_ifne DL_told_1 4 rfl (tgt := 297) (by decide) (fun h => h.elim (lcm_eq rfl)) (fun _ => ?_)
    refine ev_ss DL_told_1 4 5 (pc' := 233) (lv' := [(0, .ref _), (1, .ref _), (2, .ref _), (3, .ref _), (4, .ref _), (5, .ref _), (6, .ref _), (7, .ref _), (8, .ref _), (9, .ref _), (10, .int _), (11, .int _), (12, .int _)]) (st' := [.int _, .ref _]) rfl ?_
    refine ev_topv (nx_add (a := 8) (b := y) rfl rfl) ?_
    refine ev_cV DL_told_1 9 hc8 vX6_count rfl qL_72 rfl h.1 rfl (hd_of rfl rfl rfl rfl) ?_
    refine ev_ss DL_told_1 2 10 (pc' := 239) (lv' := [(0, .ref _), (1, .ref _), (2, .ref _), (3, .ref _), (4, .ref _), (5, .ref _), (6, .ref _), (7, .ref _), (8, .ref _), (9, .ref _), (10, .int _), (11, .int _), (12, .int _)]) (st' := [.ref _, .int _, .int _]) rfl ?_
    refine ev_cS DL_told_1 12 (m_L_carried hza hy hA) vL_carried rfl qL_85 rfl (hd_of rfl rfl rfl rfl) ?_
    refine ev_icne DL_told_1 13 rfl (tgt := 297) (by decide) (fun h => h.elim rfl) (fun _ => ?_)
    refine ev_ss DL_told_1 2 14 (pc' := 248) (lv' := [(0, .ref _), (1, .ref _), (2, .ref _), (3, .ref _), (4, .ref _), (5, .ref _), (6, .ref _), (7, .ref _), (8, .ref _), (9, .ref _), (10, .int _), (11, .int _), (12, .int _)]) (st' := [.int _, .ref _]) rfl ?_
    refine ev_cV DL_told_1 16 hrs vX6_rightShare rfl qL_88 rfl h.1 rfl (hd_of rfl rfl rfl rfl) ?_
    refine ev_ss DL_told_1 4 17 (pc' := 257) (lv' := [(0, .ref _), (1, .ref _), (2, .ref _), (3, .ref _), (4, .ref _), (5, .ref _), (6, .ref _), (7, .ref _), (8, .ref _), (9, .ref _), (10, .int _), (11, .int _), (12, .int _)]) (st' := [.int _, .ref _, .double _]) rfl ?_
    refine ev_ialdv DL_told_1 21 (k0 := (4 + y)) rfl hzc (nx_add (a := 4) (b := y) rfl rfl) (by omega) (by decide) (q3') ?_
    refine ev_ifne DL_told_1 22 rfl (tgt := 265) (by decide) (fun _ => ?_) (fun h => absurd h (nI_ne0 (Nat.pos_of_ne_zero c0) (by omega)))
    refine ev_ss DL_told_1 4 25 (pc' := 271) (lv' := [(0, .ref _), (1, .ref _), (2, .ref _), (3, .ref _), (4, .ref _), (5, .ref _), (6, .ref _), (7, .ref _), (8, .ref _), (9, .ref _), (10, .int _), (11, .int _), (12, .int _)]) (st' := [.int _, .ref _, .double _]) rfl ?_
    refine ev_ialdv DL_told_1 29 (k0 := (4 + y)) rfl hzc (nx_add (a := 4) (b := y) rfl rfl) (by omega) (by decide) (q3') ?_
    refine ev_ss DL_told_1 4 30 (pc' := 279) (lv' := [(0, .ref _), (1, .ref _), (2, .ref _), (3, .ref _), (4, .ref _), (5, .ref _), (6, .ref _), (7, .ref _), (8, .ref _), (9, .ref _), (10, .int _), (11, .int _), (12, .int _)]) (st' := [.int _, .ref _, .int _, .double _]) rfl ?_
    refine ev_ialdv DL_told_1 34 (k0 := (6 + y)) rfl hzc (nx_add (a := 6) (b := y) rfl rfl) (by omega) (by decide) (q4') ?_
    refine ev_ss DL_told_1 2 35 (pc' := 282) (lv' := [(0, .ref _), (1, .ref _), (2, .ref _), (3, .ref _), (4, .ref _), (5, .ref _), (6, .ref _), (7, .ref _), (8, .ref _), (9, .ref _), (10, .int _), (11, .int _), (12, .int _)]) (st' := [.double _, .double _]) rfl ?_
    refine ev_dconst1 DL_told_1 37 rfl ?_
    refine ev_dmul DL_told_1 38 rfl (by rw [show FP.i2d ((fun x y => x - y) (nI c) (nI wr)) = FP.i2d (nI (c - wr)) from congrArg FP.i2d eS, fp_mul1 (by omega)]; exact vf_of (i2d_B (by omega))) ?_
    refine ev_topd (show FP.dmul (FP.i2d (nI c - nI wr)) FP.dconst1 = FP.i2d (nI (c - wr)) from by rw [eS]; exact fp_mul1 (by omega)) ?_
    refine ev_ss DL_told_1 4 39 (pc' := 290) (lv' := [(0, .ref _), (1, .ref _), (2, .ref _), (3, .ref _), (4, .ref _), (5, .ref _), (6, .ref _), (7, .ref _), (8, .ref _), (9, .ref _), (10, .int _), (11, .int _), (12, .int _)]) (st' := [.int _, .ref _, .double _, .double _]) rfl ?_
    refine ev_ialdv DL_told_1 43 (k0 := (4 + y)) rfl hzc (nx_add (a := 4) (b := y) rfl rfl) (by omega) (by decide) (q3') ?_
    refine ev_ss DL_told_1 1 44 (pc' := 292) (lv' := [(0, .ref _), (1, .ref _), (2, .ref _), (3, .ref _), (4, .ref _), (5, .ref _), (6, .ref _), (7, .ref _), (8, .ref _), (9, .ref _), (10, .int _), (11, .int _), (12, .int _)]) (st' := [.double _, .double _, .double _]) rfl ?_
    refine ev_ddiv DL_told_1 45 rfl hV ?_
    refine ev_ss DL_told_1 1 46 (pc' := 294) (lv' := [(0, .ref _), (1, .ref _), (2, .ref _), (3, .ref _), (4, .ref _), (5, .ref _), (6, .ref _), (7, .ref _), (8, .ref _), (9, .ref _), (10, .int _), (11, .int _), (12, .int _)]) (st' := [.int _]) rfl ?_
    refine ev_ifeq DL_told_1 47 rfl (tgt := 299) (by decide) (fun _ => ?_) (fun h => h.elim (dcm_eq ⟨rs1, FSh_x hF1⟩))
    refine ev_ss DL_told_1 1 50 (pc' := 302) (lv' := [(12, .int _), (0, .ref _), (1, .ref _), (2, .ref _), (3, .ref _), (4, .ref _), (5, .ref _), (6, .ref _), (7, .ref _), (8, .ref _), (9, .ref _), (10, .int _), (11, .int _)]) (st' := []) rfl ?_
    refine ev_goto DL_told_1 51 rfl (tgt := 161) (by decide) ?_
    refine ev_lvp (lv2 := [(0, .ref _), (1, .ref _), (2, .ref _), (3, .ref _), (4, .ref _), (5, .ref _), (6, .ref _), (7, .ref _), (8, .ref _), (9, .ref _), (10, .int _), (11, .int _), (12, .int _)]) [1, 2, 3, 4, 5, 6, 7, 8, 9, 10, 11, 12, 0] rfl ?_
    exact hP
set_option maxRecDepth 100000 in
set_option maxHeartbeats 4000000 in
theorem m_L_told {E : gE} {ad : Nat → Nat} {ws : va_W} {p : PS} {sv : Nat → PS} {sc r len : Nat} {ch : Nat → Int32} (h : MW E ad ws p sv sc r len ch) {ze : Nat → Int32} (hM : LM E ad ws p ze) (hI : ∀ a, a < 2 → CI p a) : CD E YL_told 0 0 [.ref (ad 0), .ref (ad 214), .ref (ad 215), .ref (ad 216), .ref (ad 217), .ref (ad 218), .ref (ad 219), .ref (ad 220), .ref (ad 221), .ref (ad 223)] ws (some (.int 1)) ws := by
  obtain ⟨zq, zu, za, zn, zd, zw, zc, zt, zh, hC, hT, hW, hS⟩ := id hM
  obtain ⟨hzq, hzu, hza, hzn, hzd, hzw, hzc, hzt, hze, hzh⟩ := id hC
  have hZ : ∀ j, j < 8 → zc j = cntV p sc j := fun j hj => by
    rcases (show j = 0 ∨ j = 1 ∨ j = 2 ∨ j = 3 ∨ j = 4 ∨ j = 5 ∨ j = 6 ∨ j = 7 by omega) with rfl | rfl | rfl | rfl | rfl | rfl | rfl | rfl
    · exact hW.2.2.1
    · exact hW.2.2.2
    · exact (hW.2.1 0 (by decide)).2.1
    · exact (hW.2.1 1 (by decide)).2.1
    · exact (hW.2.1 0 (by decide)).2.2.1
    · exact (hW.2.1 1 (by decide)).2.2.1
    · exact (hW.2.1 0 (by decide)).2.2.2.1
    · exact (hW.2.1 1 (by decide)).2.2.2.1
  refine cdS vL_told (Nat.le_of_ble_eq_true rfl) (lv0 := [(0, .ref (ad 0)), (1, .ref (ad 214)), (2, .ref (ad 215)), (3, .ref (ad 216)), (4, .ref (ad 217)), (5, .ref (ad 218)), (6, .ref (ad 219)), (7, .ref (ad 220)), (8, .ref (ad 221)), (9, .ref (ad 223))]) rfl ?_
  refine ev_ss DL_told_0 6 0 (pc' := 8) (lv' := [(0, .ref _), (1, .ref _), (2, .ref _), (3, .ref _), (4, .ref _), (5, .ref _), (6, .ref _), (7, .ref _), (8, .ref _), (9, .ref _)]) (st' := [.ref _, .ref _, .ref _, .ref _, .ref _, .ref _]) rfl ?_
  refine ev_cS DL_told_0 6 (m_L_lines h hzq hzu hza hzn hzd hT) vL_lines rfl qL_68 rfl (hd_of rfl rfl rfl rfl) ?_
  refine ev_ifne DL_told_0 7 rfl (tgt := 16) (by decide) (fun _ => ?_) (fun h => absurd h (by decide))
  refine ev_ss DL_told_0 4 10 (pc' := 23) (lv' := [(10, .int 0), (0, .ref _), (1, .ref _), (2, .ref _), (3, .ref _), (4, .ref _), (5, .ref _), (6, .ref _), (7, .ref _), (8, .ref _), (9, .ref _)]) (st' := [.int 8, .int 0]) rfl ?_
  refine ev_icge DL_told_0 14 rfl (tgt := 48) (by decide) (fun h => absurd h (by decide)) (fun _ => ?_)
  refine ev_ss DL_told_0 2 15 (pc' := 29) (lv' := [(10, .int 0), (0, .ref _), (1, .ref _), (2, .ref _), (3, .ref _), (4, .ref _), (5, .ref _), (6, .ref _), (7, .ref _), (8, .ref _), (9, .ref _)]) (st' := [.int 0, .ref _]) rfl ?_
  refine ev_cV DL_told_0 17 (m_X6_count h (j := 0) (by decide)) vX6_count rfl qL_72 rfl h.1 rfl (hd_of rfl rfl rfl rfl) ?_
  refine ev_ss DL_told_0 2 18 (pc' := 36) (lv' := [(10, .int 0), (0, .ref _), (1, .ref _), (2, .ref _), (3, .ref _), (4, .ref _), (5, .ref _), (6, .ref _), (7, .ref _), (8, .ref _), (9, .ref _)]) (st' := [.int 0, .ref _, .int _]) rfl ?_
  refine ev_ialdv DL_told_0 20 (k0 := 0) rfl hzc rfl (by omega) (by decide) ((hZ 0 (by decide))) ?_
  refine ev_iceq DL_told_0 21 rfl (tgt := 42) (by decide) (fun _ => ?_) (fun h => h.elim rfl)
  refine ev_ss DL_told_0 1 24 (pc' := 45) (lv' := [(10, .int 1), (0, .ref _), (1, .ref _), (2, .ref _), (3, .ref _), (4, .ref _), (5, .ref _), (6, .ref _), (7, .ref _), (8, .ref _), (9, .ref _)]) (st' := []) rfl ?_
  refine ev_goto DL_told_0 25 rfl (tgt := 19) (by decide) ?_
  refine ev_ss DL_told_0 2 12 (pc' := 23) (lv' := [(10, .int 1), (0, .ref _), (1, .ref _), (2, .ref _), (3, .ref _), (4, .ref _), (5, .ref _), (6, .ref _), (7, .ref _), (8, .ref _), (9, .ref _)]) (st' := [.int 8, .int 1]) rfl ?_
  refine ev_icge DL_told_0 14 rfl (tgt := 48) (by decide) (fun h => absurd h (by decide)) (fun _ => ?_)
  refine ev_ss DL_told_0 2 15 (pc' := 29) (lv' := [(10, .int 1), (0, .ref _), (1, .ref _), (2, .ref _), (3, .ref _), (4, .ref _), (5, .ref _), (6, .ref _), (7, .ref _), (8, .ref _), (9, .ref _)]) (st' := [.int 1, .ref _]) rfl ?_
  refine ev_cV DL_told_0 17 (m_X6_count h (j := 1) (by decide)) vX6_count rfl qL_72 rfl h.1 rfl (hd_of rfl rfl rfl rfl) ?_
  refine ev_ss DL_told_0 2 18 (pc' := 36) (lv' := [(10, .int 1), (0, .ref _), (1, .ref _), (2, .ref _), (3, .ref _), (4, .ref _), (5, .ref _), (6, .ref _), (7, .ref _), (8, .ref _), (9, .ref _)]) (st' := [.int 1, .ref _, .int _]) rfl ?_
  refine ev_ialdv DL_told_0 20 (k0 := 1) rfl hzc rfl (by omega) (by decide) ((hZ 1 (by decide))) ?_
  refine ev_iceq DL_told_0 21 rfl (tgt := 42) (by decide) (fun _ => ?_) (fun h => h.elim rfl)
  refine ev_ss DL_told_0 1 24 (pc' := 45) (lv' := [(10, .int 2), (0, .ref _), (1, .ref _), (2, .ref _), (3, .ref _), (4, .ref _), (5, .ref _), (6, .ref _), (7, .ref _), (8, .ref _), (9, .ref _)]) (st' := []) rfl ?_
  refine ev_goto DL_told_0 25 rfl (tgt := 19) (by decide) ?_
  refine ev_ss DL_told_0 2 12 (pc' := 23) (lv' := [(10, .int 2), (0, .ref _), (1, .ref _), (2, .ref _), (3, .ref _), (4, .ref _), (5, .ref _), (6, .ref _), (7, .ref _), (8, .ref _), (9, .ref _)]) (st' := [.int 8, .int 2]) rfl ?_
  refine ev_icge DL_told_0 14 rfl (tgt := 48) (by decide) (fun h => absurd h (by decide)) (fun _ => ?_)
  refine ev_ss DL_told_0 2 15 (pc' := 29) (lv' := [(10, .int 2), (0, .ref _), (1, .ref _), (2, .ref _), (3, .ref _), (4, .ref _), (5, .ref _), (6, .ref _), (7, .ref _), (8, .ref _), (9, .ref _)]) (st' := [.int 2, .ref _]) rfl ?_
  refine ev_cV DL_told_0 17 (m_X6_count h (j := 2) (by decide)) vX6_count rfl qL_72 rfl h.1 rfl (hd_of rfl rfl rfl rfl) ?_
  refine ev_ss DL_told_0 2 18 (pc' := 36) (lv' := [(10, .int 2), (0, .ref _), (1, .ref _), (2, .ref _), (3, .ref _), (4, .ref _), (5, .ref _), (6, .ref _), (7, .ref _), (8, .ref _), (9, .ref _)]) (st' := [.int 2, .ref _, .int _]) rfl ?_
  refine ev_ialdv DL_told_0 20 (k0 := 2) rfl hzc rfl (by omega) (by decide) ((hZ 2 (by decide))) ?_
  refine ev_iceq DL_told_0 21 rfl (tgt := 42) (by decide) (fun _ => ?_) (fun h => h.elim rfl)
  refine ev_ss DL_told_0 1 24 (pc' := 45) (lv' := [(10, .int 3), (0, .ref _), (1, .ref _), (2, .ref _), (3, .ref _), (4, .ref _), (5, .ref _), (6, .ref _), (7, .ref _), (8, .ref _), (9, .ref _)]) (st' := []) rfl ?_
  refine ev_goto DL_told_0 25 rfl (tgt := 19) (by decide) ?_
  refine ev_ss DL_told_0 2 12 (pc' := 23) (lv' := [(10, .int 3), (0, .ref _), (1, .ref _), (2, .ref _), (3, .ref _), (4, .ref _), (5, .ref _), (6, .ref _), (7, .ref _), (8, .ref _), (9, .ref _)]) (st' := [.int 8, .int 3]) rfl ?_
  refine ev_icge DL_told_0 14 rfl (tgt := 48) (by decide) (fun h => absurd h (by decide)) (fun _ => ?_)
  refine ev_ss DL_told_0 2 15 (pc' := 29) (lv' := [(10, .int 3), (0, .ref _), (1, .ref _), (2, .ref _), (3, .ref _), (4, .ref _), (5, .ref _), (6, .ref _), (7, .ref _), (8, .ref _), (9, .ref _)]) (st' := [.int 3, .ref _]) rfl ?_
  refine ev_cV DL_told_0 17 (m_X6_count h (j := 3) (by decide)) vX6_count rfl qL_72 rfl h.1 rfl (hd_of rfl rfl rfl rfl) ?_
  refine ev_ss DL_told_0 2 18 (pc' := 36) (lv' := [(10, .int 3), (0, .ref _), (1, .ref _), (2, .ref _), (3, .ref _), (4, .ref _), (5, .ref _), (6, .ref _), (7, .ref _), (8, .ref _), (9, .ref _)]) (st' := [.int 3, .ref _, .int _]) rfl ?_
  refine ev_ialdv DL_told_0 20 (k0 := 3) rfl hzc rfl (by omega) (by decide) ((hZ 3 (by decide))) ?_
  refine ev_iceq DL_told_0 21 rfl (tgt := 42) (by decide) (fun _ => ?_) (fun h => h.elim rfl)
  refine ev_ss DL_told_0 1 24 (pc' := 45) (lv' := [(10, .int 4), (0, .ref _), (1, .ref _), (2, .ref _), (3, .ref _), (4, .ref _), (5, .ref _), (6, .ref _), (7, .ref _), (8, .ref _), (9, .ref _)]) (st' := []) rfl ?_
  refine ev_goto DL_told_0 25 rfl (tgt := 19) (by decide) ?_
  refine ev_ss DL_told_0 2 12 (pc' := 23) (lv' := [(10, .int 4), (0, .ref _), (1, .ref _), (2, .ref _), (3, .ref _), (4, .ref _), (5, .ref _), (6, .ref _), (7, .ref _), (8, .ref _), (9, .ref _)]) (st' := [.int 8, .int 4]) rfl ?_
  refine ev_icge DL_told_0 14 rfl (tgt := 48) (by decide) (fun h => absurd h (by decide)) (fun _ => ?_)
  refine ev_ss DL_told_0 2 15 (pc' := 29) (lv' := [(10, .int 4), (0, .ref _), (1, .ref _), (2, .ref _), (3, .ref _), (4, .ref _), (5, .ref _), (6, .ref _), (7, .ref _), (8, .ref _), (9, .ref _)]) (st' := [.int 4, .ref _]) rfl ?_
  refine ev_cV DL_told_0 17 (m_X6_count h (j := 4) (by decide)) vX6_count rfl qL_72 rfl h.1 rfl (hd_of rfl rfl rfl rfl) ?_
  refine ev_ss DL_told_0 2 18 (pc' := 36) (lv' := [(10, .int 4), (0, .ref _), (1, .ref _), (2, .ref _), (3, .ref _), (4, .ref _), (5, .ref _), (6, .ref _), (7, .ref _), (8, .ref _), (9, .ref _)]) (st' := [.int 4, .ref _, .int _]) rfl ?_
  refine ev_ialdv DL_told_0 20 (k0 := 4) rfl hzc rfl (by omega) (by decide) ((hZ 4 (by decide))) ?_
  refine ev_iceq DL_told_0 21 rfl (tgt := 42) (by decide) (fun _ => ?_) (fun h => h.elim rfl)
  refine ev_ss DL_told_0 1 24 (pc' := 45) (lv' := [(10, .int 5), (0, .ref _), (1, .ref _), (2, .ref _), (3, .ref _), (4, .ref _), (5, .ref _), (6, .ref _), (7, .ref _), (8, .ref _), (9, .ref _)]) (st' := []) rfl ?_
  refine ev_goto DL_told_0 25 rfl (tgt := 19) (by decide) ?_
  refine ev_ss DL_told_0 2 12 (pc' := 23) (lv' := [(10, .int 5), (0, .ref _), (1, .ref _), (2, .ref _), (3, .ref _), (4, .ref _), (5, .ref _), (6, .ref _), (7, .ref _), (8, .ref _), (9, .ref _)]) (st' := [.int 8, .int 5]) rfl ?_
  refine ev_icge DL_told_0 14 rfl (tgt := 48) (by decide) (fun h => absurd h (by decide)) (fun _ => ?_)
  refine ev_ss DL_told_0 2 15 (pc' := 29) (lv' := [(10, .int 5), (0, .ref _), (1, .ref _), (2, .ref _), (3, .ref _), (4, .ref _), (5, .ref _), (6, .ref _), (7, .ref _), (8, .ref _), (9, .ref _)]) (st' := [.int 5, .ref _]) rfl ?_
  refine ev_cV DL_told_0 17 (m_X6_count h (j := 5) (by decide)) vX6_count rfl qL_72 rfl h.1 rfl (hd_of rfl rfl rfl rfl) ?_
  refine ev_ss DL_told_0 2 18 (pc' := 36) (lv' := [(10, .int 5), (0, .ref _), (1, .ref _), (2, .ref _), (3, .ref _), (4, .ref _), (5, .ref _), (6, .ref _), (7, .ref _), (8, .ref _), (9, .ref _)]) (st' := [.int 5, .ref _, .int _]) rfl ?_
  refine ev_ialdv DL_told_0 20 (k0 := 5) rfl hzc rfl (by omega) (by decide) ((hZ 5 (by decide))) ?_
  refine ev_iceq DL_told_0 21 rfl (tgt := 42) (by decide) (fun _ => ?_) (fun h => h.elim rfl)
  refine ev_ss DL_told_0 1 24 (pc' := 45) (lv' := [(10, .int 6), (0, .ref _), (1, .ref _), (2, .ref _), (3, .ref _), (4, .ref _), (5, .ref _), (6, .ref _), (7, .ref _), (8, .ref _), (9, .ref _)]) (st' := []) rfl ?_
  refine ev_goto DL_told_0 25 rfl (tgt := 19) (by decide) ?_
  refine ev_ss DL_told_0 2 12 (pc' := 23) (lv' := [(10, .int 6), (0, .ref _), (1, .ref _), (2, .ref _), (3, .ref _), (4, .ref _), (5, .ref _), (6, .ref _), (7, .ref _), (8, .ref _), (9, .ref _)]) (st' := [.int 8, .int 6]) rfl ?_
  refine ev_icge DL_told_0 14 rfl (tgt := 48) (by decide) (fun h => absurd h (by decide)) (fun _ => ?_)
  refine ev_ss DL_told_0 2 15 (pc' := 29) (lv' := [(10, .int 6), (0, .ref _), (1, .ref _), (2, .ref _), (3, .ref _), (4, .ref _), (5, .ref _), (6, .ref _), (7, .ref _), (8, .ref _), (9, .ref _)]) (st' := [.int 6, .ref _]) rfl ?_
  refine ev_cV DL_told_0 17 (m_X6_count h (j := 6) (by decide)) vX6_count rfl qL_72 rfl h.1 rfl (hd_of rfl rfl rfl rfl) ?_
  refine ev_ss DL_told_0 2 18 (pc' := 36) (lv' := [(10, .int 6), (0, .ref _), (1, .ref _), (2, .ref _), (3, .ref _), (4, .ref _), (5, .ref _), (6, .ref _), (7, .ref _), (8, .ref _), (9, .ref _)]) (st' := [.int 6, .ref _, .int _]) rfl ?_
  refine ev_ialdv DL_told_0 20 (k0 := 6) rfl hzc rfl (by omega) (by decide) ((hZ 6 (by decide))) ?_
  refine ev_iceq DL_told_0 21 rfl (tgt := 42) (by decide) (fun _ => ?_) (fun h => h.elim rfl)
  refine ev_ss DL_told_0 1 24 (pc' := 45) (lv' := [(10, .int 7), (0, .ref _), (1, .ref _), (2, .ref _), (3, .ref _), (4, .ref _), (5, .ref _), (6, .ref _), (7, .ref _), (8, .ref _), (9, .ref _)]) (st' := []) rfl ?_
  refine ev_goto DL_told_0 25 rfl (tgt := 19) (by decide) ?_
  refine ev_ss DL_told_0 2 12 (pc' := 23) (lv' := [(10, .int 7), (0, .ref _), (1, .ref _), (2, .ref _), (3, .ref _), (4, .ref _), (5, .ref _), (6, .ref _), (7, .ref _), (8, .ref _), (9, .ref _)]) (st' := [.int 8, .int 7]) rfl ?_
  refine ev_icge DL_told_0 14 rfl (tgt := 48) (by decide) (fun h => absurd h (by decide)) (fun _ => ?_)
  refine ev_ss DL_told_0 2 15 (pc' := 29) (lv' := [(10, .int 7), (0, .ref _), (1, .ref _), (2, .ref _), (3, .ref _), (4, .ref _), (5, .ref _), (6, .ref _), (7, .ref _), (8, .ref _), (9, .ref _)]) (st' := [.int 7, .ref _]) rfl ?_
  refine ev_cV DL_told_0 17 (m_X6_count h (j := 7) (by decide)) vX6_count rfl qL_72 rfl h.1 rfl (hd_of rfl rfl rfl rfl) ?_
  refine ev_ss DL_told_0 2 18 (pc' := 36) (lv' := [(10, .int 7), (0, .ref _), (1, .ref _), (2, .ref _), (3, .ref _), (4, .ref _), (5, .ref _), (6, .ref _), (7, .ref _), (8, .ref _), (9, .ref _)]) (st' := [.int 7, .ref _, .int _]) rfl ?_
  refine ev_ialdv DL_told_0 20 (k0 := 7) rfl hzc rfl (by omega) (by decide) ((hZ 7 (by decide))) ?_
  refine ev_iceq DL_told_0 21 rfl (tgt := 42) (by decide) (fun _ => ?_) (fun h => h.elim rfl)
  refine ev_ss DL_told_0 1 24 (pc' := 45) (lv' := [(10, .int 8), (0, .ref _), (1, .ref _), (2, .ref _), (3, .ref _), (4, .ref _), (5, .ref _), (6, .ref _), (7, .ref _), (8, .ref _), (9, .ref _)]) (st' := []) rfl ?_
  refine ev_goto DL_told_0 25 rfl (tgt := 19) (by decide) ?_
  refine ev_ss DL_told_0 2 12 (pc' := 23) (lv' := [(10, .int 8), (0, .ref _), (1, .ref _), (2, .ref _), (3, .ref _), (4, .ref _), (5, .ref _), (6, .ref _), (7, .ref _), (8, .ref _), (9, .ref _)]) (st' := [.int 8, .int 8]) rfl ?_
  refine ev_icge DL_told_0 14 rfl (tgt := 48) (by decide) (fun _ => ?_) (fun h => h.elim (by decide))
  refine ev_ss DL_told_0 4 26 (pc' := 54) (lv' := [(10, .int 0), (0, .ref _), (1, .ref _), (2, .ref _), (3, .ref _), (4, .ref _), (5, .ref _), (6, .ref _), (7, .ref _), (8, .ref _), (9, .ref _)]) (st' := [.int 3, .int 0]) rfl ?_
  refine ev_icge DL_told_0 30 rfl (tgt := 79) (by decide) (fun h => absurd h (by decide)) (fun _ => ?_)
  refine ev_ss DL_told_0 2 31 (pc' := 60) (lv' := [(10, .int 0), (0, .ref _), (1, .ref _), (2, .ref _), (3, .ref _), (4, .ref _), (5, .ref _), (6, .ref _), (7, .ref _), (8, .ref _), (9, .ref _)]) (st' := [.int 0, .ref _]) rfl ?_
  refine ev_cV DL_told_0 33 (m_X6_setting h (j := 0) (by decide)) vX6_setting rfl qL_75 rfl h.1 rfl (hd_of rfl rfl rfl rfl) ?_
  refine ev_ss DL_told_0 2 34 (pc' := 67) (lv' := [(10, .int 0), (0, .ref _), (1, .ref _), (2, .ref _), (3, .ref _), (4, .ref _), (5, .ref _), (6, .ref _), (7, .ref _), (8, .ref _), (9, .ref _)]) (st' := [.int 0, .ref _, .int _]) rfl ?_
  refine ev_ialdv DL_told_0 36 (k0 := 0) rfl hzt rfl (by omega) (by decide) ((hS 0 (by decide))) ?_
  refine ev_iceq DL_told_0 37 rfl (tgt := 73) (by decide) (fun _ => ?_) (fun h => h.elim rfl)
  refine ev_ss DL_told_0 1 40 (pc' := 76) (lv' := [(10, .int 1), (0, .ref _), (1, .ref _), (2, .ref _), (3, .ref _), (4, .ref _), (5, .ref _), (6, .ref _), (7, .ref _), (8, .ref _), (9, .ref _)]) (st' := []) rfl ?_
  refine ev_goto DL_told_0 41 rfl (tgt := 51) (by decide) ?_
  refine ev_ss DL_told_0 2 28 (pc' := 54) (lv' := [(10, .int 1), (0, .ref _), (1, .ref _), (2, .ref _), (3, .ref _), (4, .ref _), (5, .ref _), (6, .ref _), (7, .ref _), (8, .ref _), (9, .ref _)]) (st' := [.int 3, .int 1]) rfl ?_
  refine ev_icge DL_told_0 30 rfl (tgt := 79) (by decide) (fun h => absurd h (by decide)) (fun _ => ?_)
  refine ev_ss DL_told_0 2 31 (pc' := 60) (lv' := [(10, .int 1), (0, .ref _), (1, .ref _), (2, .ref _), (3, .ref _), (4, .ref _), (5, .ref _), (6, .ref _), (7, .ref _), (8, .ref _), (9, .ref _)]) (st' := [.int 1, .ref _]) rfl ?_
  refine ev_cV DL_told_0 33 (m_X6_setting h (j := 1) (by decide)) vX6_setting rfl qL_75 rfl h.1 rfl (hd_of rfl rfl rfl rfl) ?_
  refine ev_ss DL_told_0 2 34 (pc' := 67) (lv' := [(10, .int 1), (0, .ref _), (1, .ref _), (2, .ref _), (3, .ref _), (4, .ref _), (5, .ref _), (6, .ref _), (7, .ref _), (8, .ref _), (9, .ref _)]) (st' := [.int 1, .ref _, .int _]) rfl ?_
  refine ev_ialdv DL_told_0 36 (k0 := 1) rfl hzt rfl (by omega) (by decide) ((hS 1 (by decide))) ?_
  refine ev_iceq DL_told_0 37 rfl (tgt := 73) (by decide) (fun _ => ?_) (fun h => h.elim rfl)
  refine ev_ss DL_told_0 1 40 (pc' := 76) (lv' := [(10, .int 2), (0, .ref _), (1, .ref _), (2, .ref _), (3, .ref _), (4, .ref _), (5, .ref _), (6, .ref _), (7, .ref _), (8, .ref _), (9, .ref _)]) (st' := []) rfl ?_
  refine ev_goto DL_told_0 41 rfl (tgt := 51) (by decide) ?_
  refine ev_ss DL_told_0 2 28 (pc' := 54) (lv' := [(10, .int 2), (0, .ref _), (1, .ref _), (2, .ref _), (3, .ref _), (4, .ref _), (5, .ref _), (6, .ref _), (7, .ref _), (8, .ref _), (9, .ref _)]) (st' := [.int 3, .int 2]) rfl ?_
  refine ev_icge DL_told_0 30 rfl (tgt := 79) (by decide) (fun h => absurd h (by decide)) (fun _ => ?_)
  refine ev_ss DL_told_0 2 31 (pc' := 60) (lv' := [(10, .int 2), (0, .ref _), (1, .ref _), (2, .ref _), (3, .ref _), (4, .ref _), (5, .ref _), (6, .ref _), (7, .ref _), (8, .ref _), (9, .ref _)]) (st' := [.int 2, .ref _]) rfl ?_
  refine ev_cV DL_told_0 33 (m_X6_setting h (j := 2) (by decide)) vX6_setting rfl qL_75 rfl h.1 rfl (hd_of rfl rfl rfl rfl) ?_
  refine ev_ss DL_told_0 2 34 (pc' := 67) (lv' := [(10, .int 2), (0, .ref _), (1, .ref _), (2, .ref _), (3, .ref _), (4, .ref _), (5, .ref _), (6, .ref _), (7, .ref _), (8, .ref _), (9, .ref _)]) (st' := [.int 2, .ref _, .int _]) rfl ?_
  refine ev_ialdv DL_told_0 36 (k0 := 2) rfl hzt rfl (by omega) (by decide) ((hS 2 (by decide))) ?_
  refine ev_iceq DL_told_0 37 rfl (tgt := 73) (by decide) (fun _ => ?_) (fun h => h.elim rfl)
  refine ev_ss DL_told_0 1 40 (pc' := 76) (lv' := [(10, .int 3), (0, .ref _), (1, .ref _), (2, .ref _), (3, .ref _), (4, .ref _), (5, .ref _), (6, .ref _), (7, .ref _), (8, .ref _), (9, .ref _)]) (st' := []) rfl ?_
  refine ev_goto DL_told_0 41 rfl (tgt := 51) (by decide) ?_
  refine ev_ss DL_told_0 2 28 (pc' := 54) (lv' := [(10, .int 3), (0, .ref _), (1, .ref _), (2, .ref _), (3, .ref _), (4, .ref _), (5, .ref _), (6, .ref _), (7, .ref _), (8, .ref _), (9, .ref _)]) (st' := [.int 3, .int 3]) rfl ?_
  refine ev_icge DL_told_0 30 rfl (tgt := 79) (by decide) (fun _ => ?_) (fun h => h.elim (by decide))
  refine ev_ss DL_told_0 6 42 (pc' := 88) (lv' := [(12, .int 0), (11, .int 0), (10, .int 0), (0, .ref _), (1, .ref _), (2, .ref _), (3, .ref _), (4, .ref _), (5, .ref _), (6, .ref _), (7, .ref _), (8, .ref _), (9, .ref _)]) (st' := []) rfl ?_
  refine ev_lvp (lv2 := [(0, .ref _), (1, .ref _), (2, .ref _), (3, .ref _), (4, .ref _), (5, .ref _), (6, .ref _), (7, .ref _), (8, .ref _), (9, .ref _), (10, .int _), (11, .int _), (12, .int _)]) [3, 4, 5, 6, 7, 8, 9, 10, 11, 12, 2, 1, 0] rfl ?_
  suffices K : ∀ (m i : Nat) (x b0 b1 : Int32), i + m = 16 → x = nI i → b0 = sumN (s16 (fun f => f 13) p) i → b1 = sumN (s16 inF p) i → Ev E YL_told (fun v2 w2 => v2 = some (.int 1) ∧ w2 = ws) nX 0 0 88 [(0, .ref (ad 0)), (1, .ref (ad 214)), (2, .ref (ad 215)), (3, .ref (ad 216)), (4, .ref (ad 217)), (5, .ref (ad 218)), (6, .ref (ad 219)), (7, .ref (ad 220)), (8, .ref (ad 221)), (9, .ref (ad 223)), (10, .int b0), (11, .int b1), (12, .int x)] [] ws from K 16 0 _ _ _ rfl nI_0.symm rfl rfl
  intro m
  induction m with
  | zero =>
    intro i x b0 b1 hm hx h0 h1
    obtain rfl : i = 16 := by omega
    rw [s16_e] at h0 h1
    subst hx; subst h0; subst h1
    refine ev_ss DL_told_0 2 48 (pc' := 92) (lv' := [(0, .ref _), (1, .ref _), (2, .ref _), (3, .ref _), (4, .ref _), (5, .ref _), (6, .ref _), (7, .ref _), (8, .ref _), (9, .ref _), (10, .int _), (11, .int _), (12, .int _)]) (st' := [.int 16, .int _]) rfl ?_
    refine ev_icge DL_told_0 50 rfl (tgt := 134) (by decide) (fun _ => ?_) (fun h => h.elim (by decide))
    refine ev_ss DL_told_0 2 75 (pc' := 137) (lv' := [(0, .ref _), (1, .ref _), (2, .ref _), (3, .ref _), (4, .ref _), (5, .ref _), (6, .ref _), (7, .ref _), (8, .ref _), (9, .ref _), (10, .int _), (11, .int _), (12, .int _)]) (st' := [.int 10, .ref _]) rfl ?_
    refine ev_cV DL_told_0 77 (m_X6_count h (j := 10) (by decide)) vX6_count rfl qL_72 rfl h.1 rfl (hd_of rfl rfl rfl rfl) ?_
    refine ev_ss DL_told_0 1 78 (pc' := 142) (lv' := [(0, .ref _), (1, .ref _), (2, .ref _), (3, .ref _), (4, .ref _), (5, .ref _), (6, .ref _), (7, .ref _), (8, .ref _), (9, .ref _), (10, .int _), (11, .int _), (12, .int _)]) (st' := [.int _, .int _]) rfl ?_
    refine ev_icne DL_told_0 79 rfl (tgt := 156) (by decide) (fun h => h.elim rfl) (fun _ => ?_)
    refine ev_ss DL_told_0 2 80 (pc' := 148) (lv' := [(0, .ref _), (1, .ref _), (2, .ref _), (3, .ref _), (4, .ref _), (5, .ref _), (6, .ref _), (7, .ref _), (8, .ref _), (9, .ref _), (10, .int _), (11, .int _), (12, .int _)]) (st' := [.int 11, .ref _]) rfl ?_
    refine ev_cV DL_told_0 82 (m_X6_count h (j := 11) (by decide)) vX6_count rfl qL_72 rfl h.1 rfl (hd_of rfl rfl rfl rfl) ?_
    refine ev_ss DL_told_0 1 83 (pc' := 153) (lv' := [(0, .ref _), (1, .ref _), (2, .ref _), (3, .ref _), (4, .ref _), (5, .ref _), (6, .ref _), (7, .ref _), (8, .ref _), (9, .ref _), (10, .int _), (11, .int _), (12, .int _)]) (st' := [.int _, .int _]) rfl ?_
    refine ev_iceq DL_told_0 84 rfl (tgt := 158) (by decide) (fun _ => ?_) (fun h => h.elim rfl)
    refine ev_ss DL_told_0 4 87 (pc' := 164) (lv' := [(12, .int 0), (0, .ref _), (1, .ref _), (2, .ref _), (3, .ref _), (4, .ref _), (5, .ref _), (6, .ref _), (7, .ref _), (8, .ref _), (9, .ref _), (10, .int _), (11, .int _)]) (st' := [.int 2, .int 0]) rfl ?_
    refine ev_icge DL_told_0 91 rfl (tgt := 305) (by decide) (fun h => absurd h (by decide)) (fun _ => ?_)
    refine ev_lvp (lv2 := [(0, .ref _), (1, .ref _), (2, .ref _), (3, .ref _), (4, .ref _), (5, .ref _), (6, .ref _), (7, .ref _), (8, .ref _), (9, .ref _), (10, .int _), (11, .int _), (12, .int _)]) [1, 2, 3, 4, 5, 6, 7, 8, 9, 10, 11, 12, 0] rfl ?_
    refine tld_y (y := 0) h hza hzw hzc hzh hT.2.2.1 hW (by decide) (hI 0 (by decide)) ?_
    refine ev_lvp [0, 1, 2, 3, 4, 5, 6, 7, 8, 9, 10, 11, 12] (lv2 := [(0, .ref (ad 0)), (1, .ref (ad 214)), (2, .ref (ad 215)), (3, .ref (ad 216)), (4, .ref (ad 217)), (5, .ref (ad 218)), (6, .ref (ad 219)), (7, .ref (ad 220)), (8, .ref (ad 221)), (9, .ref (ad 223)), (10, .int _), (11, .int _), (12, .int 1)]) rfl ?_
    refine ev_ss DL_told_0 2 89 (pc' := 164) (lv' := [(0, .ref _), (1, .ref _), (2, .ref _), (3, .ref _), (4, .ref _), (5, .ref _), (6, .ref _), (7, .ref _), (8, .ref _), (9, .ref _), (10, .int _), (11, .int _), (12, .int 1)]) (st' := [.int 2, .int 1]) rfl ?_
    refine ev_icge DL_told_0 91 rfl (tgt := 305) (by decide) (fun h => absurd h (by decide)) (fun _ => ?_)
    refine ev_lvp (lv2 := [(0, .ref _), (1, .ref _), (2, .ref _), (3, .ref _), (4, .ref _), (5, .ref _), (6, .ref _), (7, .ref _), (8, .ref _), (9, .ref _), (10, .int _), (11, .int _), (12, .int _)]) [0, 1, 2, 3, 4, 5, 6, 7, 8, 9, 10, 11, 12] rfl ?_
    refine tld_y (y := 1) h hza hzw hzc hzh hT.2.2.1 hW (by decide) (hI 1 (by decide)) ?_
    refine ev_lvp [0, 1, 2, 3, 4, 5, 6, 7, 8, 9, 10, 11, 12] (lv2 := [(0, .ref (ad 0)), (1, .ref (ad 214)), (2, .ref (ad 215)), (3, .ref (ad 216)), (4, .ref (ad 217)), (5, .ref (ad 218)), (6, .ref (ad 219)), (7, .ref (ad 220)), (8, .ref (ad 221)), (9, .ref (ad 223)), (10, .int _), (11, .int _), (12, .int 2)]) rfl ?_
    refine ev_ss DL_told_0 2 89 (pc' := 164) (lv' := [(0, .ref _), (1, .ref _), (2, .ref _), (3, .ref _), (4, .ref _), (5, .ref _), (6, .ref _), (7, .ref _), (8, .ref _), (9, .ref _), (10, .int _), (11, .int _), (12, .int 2)]) (st' := [.int 2, .int 2]) rfl ?_
    refine ev_icge DL_told_0 91 rfl (tgt := 305) (by decide) (fun _ => ?_) (fun h => h.elim (by decide))
    refine ev_ss DL_told_1 1 52 (pc' := 306) (lv' := [(0, .ref _), (1, .ref _), (2, .ref _), (3, .ref _), (4, .ref _), (5, .ref _), (6, .ref _), (7, .ref _), (8, .ref _), (9, .ref _), (10, .int _), (11, .int _), (12, .int 2)]) (st' := [.int 1]) rfl ?_
    exact ev_zret DL_told_1 53 rfl rfl rfl ⟨rfl, rfl⟩
  | succ m ih =>
    intro i x b0 b1 hm hx h0 h1
    subst hx
    have e8 : 8 * (i / 8) + i % 8 = i := by omega
    have hN1 : zn (4 * i + 1) = s16 (fun f => f 13) p i := by
      have e := hT.2.2.2.1 (i / 8) (i % 8) 1 (by omega) (by omega) (by decide)
      rw [e8] at e
      exact e
    have hU0 : zu (4 * i) = (pW p (i / 8)).1 (i % 8) 4 := by
      have e := hT.2.1 (i / 8) (i % 8) 0 (by omega) (by omega) (by decide)
      rw [e8] at e
      exact e
    refine ev_ss DL_told_0 2 48 (pc' := 92) (lv' := [(0, .ref _), (1, .ref _), (2, .ref _), (3, .ref _), (4, .ref _), (5, .ref _), (6, .ref _), (7, .ref _), (8, .ref _), (9, .ref _), (10, .int _), (11, .int _), (12, .int _)]) (st' := [.int 16, .int _]) rfl ?_
    refine ev_icge DL_told_0 50 rfl (tgt := 134) (by decide) (fun h => absurd h (nI_ge (b := 16) (by omega) (by decide))) (fun _ => ?_)
    refine ev_ss DL_told_0 7 51 (pc' := 105) (lv' := [(0, .ref _), (1, .ref _), (2, .ref _), (3, .ref _), (4, .ref _), (5, .ref _), (6, .ref _), (7, .ref _), (8, .ref _), (9, .ref _), (10, .int _), (11, .int _), (12, .int _)]) (st' := [.int _, .ref _, .int _]) rfl ?_
    refine ev_ialdv DL_told_0 58 (k0 := ((4 * i) + 1)) rfl hzn (nx_add (a := (4 * i)) (b := 1) (nx_mul (a := 4) (b := i) rfl rfl) rfl) (by omega) (by decide) (hN1) ?_
    refine ev_ss DL_told_0 7 59 (pc' := 116) (lv' := [(10, .int _), (0, .ref _), (1, .ref _), (2, .ref _), (3, .ref _), (4, .ref _), (5, .ref _), (6, .ref _), (7, .ref _), (8, .ref _), (9, .ref _), (11, .int _), (12, .int _)]) (st' := [.int _, .ref _, .int _]) rfl ?_
    refine ev_ialdv DL_told_0 66 (k0 := (4 * i)) rfl hzu (nx_mul (a := 4) (b := i) rfl rfl) (by omega) (by decide) (hU0) ?_
    refine ev_ifeq DL_told_0 67 rfl (tgt := 124) (by decide) (fun c_2 => ?_) (fun c_2 => ?_)
    · refine ev_ss DL_told_0 4 70 (pc' := 131) (lv' := [(12, .int _), (11, .int _), (10, .int _), (0, .ref _), (1, .ref _), (2, .ref _), (3, .ref _), (4, .ref _), (5, .ref _), (6, .ref _), (7, .ref _), (8, .ref _), (9, .ref _)]) (st' := []) rfl ?_
      refine ev_goto DL_told_0 74 rfl (tgt := 88) (by decide) ?_
      refine ev_lvp (lv2 := [(0, .ref _), (1, .ref _), (2, .ref _), (3, .ref _), (4, .ref _), (5, .ref _), (6, .ref _), (7, .ref _), (8, .ref _), (9, .ref _), (10, .int _), (11, .int _), (12, .int _)]) [3, 4, 5, 6, 7, 8, 9, 10, 11, 12, 2, 1, 0] rfl ?_
      exact ih (i + 1) _ _ _ (by omega) (nI_1 i) (by rw [h0]; rfl) (by rw [h1]; exact congrArg (fun z => sumN (s16 inF p) i + z) (show _ = s16 inF p i from (if_pos c_2).symm))
    · refine ev_ss DL_told_0 1 68 (pc' := 121) (lv' := [(10, .int _), (0, .ref _), (1, .ref _), (2, .ref _), (3, .ref _), (4, .ref _), (5, .ref _), (6, .ref _), (7, .ref _), (8, .ref _), (9, .ref _), (11, .int _), (12, .int _)]) (st' := [.int 1, .int _]) rfl ?_
      refine ev_goto DL_told_0 69 rfl (tgt := 125) (by decide) ?_
      refine ev_ss DL_told_0 3 71 (pc' := 131) (lv' := [(12, .int _), (11, .int _), (10, .int _), (0, .ref _), (1, .ref _), (2, .ref _), (3, .ref _), (4, .ref _), (5, .ref _), (6, .ref _), (7, .ref _), (8, .ref _), (9, .ref _)]) (st' := []) rfl ?_
      refine ev_goto DL_told_0 74 rfl (tgt := 88) (by decide) ?_
      refine ev_lvp (lv2 := [(0, .ref _), (1, .ref _), (2, .ref _), (3, .ref _), (4, .ref _), (5, .ref _), (6, .ref _), (7, .ref _), (8, .ref _), (9, .ref _), (10, .int _), (11, .int _), (12, .int _)]) [3, 4, 5, 6, 7, 8, 9, 10, 11, 12, 2, 1, 0] rfl ?_
      exact ih (i + 1) _ _ _ (by omega) (nI_1 i) (by rw [h0]; rfl) (by rw [h1]; exact congrArg (fun z => sumN (s16 inF p) i + z) (show _ = s16 inF p i from (if_neg c_2).symm))
