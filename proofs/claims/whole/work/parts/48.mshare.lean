theorem lN_dec (n : Nat) : Int64.ofNat (n + 1) - Int64.ofNat 1 = Int64.ofNat n := by
  rw [Int64.ofNat_add, Int64.add_sub_cancel]
theorem bs_end {x y : UInt64} {E T : Nat} (hx : x.toNat = E * 4503599627370496 + T) (hT : T < 4503599627370496) (hE : E < 1024) (hy : y.toNat = 1023 * 4503599627370496 + T) : vf_n64 (FP.dsub y FP.dconst1) ∧ vf_n64 (FP.dmul (FP.dsub y FP.dconst1) 4841369599423283200) ∧ (Int64.ofNat E) <<< ((52 : Int32).toInt64 &&& 63) + FP.d2l (FP.dmul (FP.dsub y FP.dconst1) 4841369599423283200) = x.toInt64 := by
  by_cases h0 : T = 0
  · subst h0
    rw [fp_sub1z hy, show FP.dmul 0 4841369599423283200 = 0 from by decide +kernel, show FP.d2l 0 = Int64.ofInt ((0 : Nat) : Int) from by decide +kernel]
    exact ⟨vf_of (by decide), vf_of (by decide), fp_bits hx hE⟩
  · obtain ⟨hl, e1⟩ := fp_sub1p hy hT h0
    obtain ⟨b1, b2⟩ := fp_upm h0 (show T.log2 ≤ 52 by omega)
    have e2 := fp_mul (y := 4841369599423283200) (F := 1075) e1 (by decide +kernel) (by omega) (by omega) (by omega) (by decide) (by decide)
    have e3 : (FP.dmul (FP.dsub y FP.dconst1) 4841369599423283200).toNat = (T.log2 + 1023) * 4503599627370496 + (T * 2 ^ (52 - T.log2) - 4503599627370496) := by rw [e2]; omega
    refine ⟨vf_of (by rw [e1]; omega), vf_of (by rw [e3]; omega), ?_⟩
    rw [fp_d2l hT h0 hl e3]
    exact fp_bits hx hE
theorem cv_0 {x : UInt64} {E T : Nat} (hx : x.toNat = E * 4503599627370496 + T) (hT : T < 4503599627370496) (h1 : 1 ≤ E) (h2 : E ≤ 1023) : 0 < Op.cmpValue (FP.dcmp x FP.dconst0) .g := by rw [fp_cmp0 hx hT h1 (by omega)]; decide
theorem cv_1 {x : UInt64} {E T : Nat} (hx : x.toNat = E * 4503599627370496 + T) (hT : T < 4503599627370496) (h1 : 1 ≤ E) (h2 : E ≤ 1022) : ¬ 0 ≤ Op.cmpValue (FP.dcmp x FP.dconst1) .g := by rw [fp_cmp1 hx hT h1 h2]; decide
theorem cv_2 {x : UInt64} {T : Nat} (hx : x.toNat = 1023 * 4503599627370496 + T) (hT : T < 4503599627370496) : 0 ≤ Op.cmpValue (FP.dcmp x FP.dconst1) .g := by rcases fp_cmp1g hx hT with e | e <;> rw [e] <;> decide
set_option maxRecDepth 100000 in
set_option maxHeartbeats 4000000 in
theorem bs_tail {E : gE} {ws : va_W} {x y : UInt64} {E0 T : Nat} (hx : x.toNat = E0 * 4503599627370496 + T) (hT : T < 4503599627370496) (hE : E0 < 1024) (hy : y.toNat = 1023 * 4503599627370496 + T) : Ev E YX6_bitsOfShare (fun v2 w2 => v2 = some (.long x.toInt64) ∧ w2 = ws) nX 0 0 50 [(2, .double y), (4, .long (Int64.ofNat E0))] [] ws := by
  obtain ⟨q1, q2, q3⟩ := bs_end hx hT hE hy
  refine ev_ss DX6_bitsOfShare 4 29 (pc' := 56) (lv' := [(2, .double _), (4, .long _)]) (st' := [.double _, .long _]) rfl ?_
  refine ev_dconst1 DX6_bitsOfShare 33 rfl ?_
  refine ev_dsub DX6_bitsOfShare 34 rfl q1 ?_
  refine ev_ldc2d DX6_bitsOfShare 35 rfl kX6_303 ?_
  refine ev_dmul DX6_bitsOfShare 36 rfl q2 ?_
  refine ev_ss DX6_bitsOfShare 2 37 (pc' := 64) (lv' := [(2, .double _), (4, .long _)]) (st' := [.long _]) rfl ?_
  exact ev_lret DX6_bitsOfShare 39 rfl rfl ⟨congrArg (fun z => some (Value.long z)) q3, rfl⟩
set_option maxRecDepth 100000 in
set_option maxHeartbeats 4000000 in
theorem m_X6_bitsOfShare {E : gE} {ws : va_W} {x : UInt64} (hF : FSh x) : CD E YX6_bitsOfShare 0 0 [.double x] ws (some (.long x.toInt64)) ws := by
  refine cdS vX6_bitsOfShare (Nat.le_of_ble_eq_true rfl) (lv0 := [(0, .double x)]) rfl ?_
  rcases hF with rfl | ⟨E0, T, hx, hT, h1, h2⟩
  · refine ev_ss DX6_bitsOfShare 1 0 (pc' := 1) (lv' := [(0, .double _)]) (st' := [.double _]) rfl ?_
    refine ev_dconst0 DX6_bitsOfShare 1 rfl ?_
    refine ev_ss DX6_bitsOfShare 1 2 (pc' := 3) (lv' := [(0, .double _)]) (st' := [.int _]) rfl ?_
    refine ev_ifgt DX6_bitsOfShare 3 rfl (tgt := 8) (by decide) (fun h => absurd h (by decide +kernel)) (fun _ => ?_)
    refine ev_ss DX6_bitsOfShare 1 4 (pc' := 7) (lv' := [(0, .double _)]) (st' := [.long _]) rfl ?_
    exact ev_lret DX6_bitsOfShare 5 rfl rfl ⟨rfl, rfl⟩
  · suffices K : ∀ (m i : Nat) (x6 : Int32) (y : UInt64), E0 + i + m = 1023 → x6 = nI i → y.toNat = (E0 + i) * 4503599627370496 + T → Ev E YX6_bitsOfShare (fun v2 w2 => v2 = some (.long x.toInt64) ∧ w2 = ws) nX 0 0 18 [(0, .double x), (2, .double y), (4, .long (Int64.ofNat (1023 - i))), (6, .int x6)] [] ws by
      refine ev_ss DX6_bitsOfShare 1 0 (pc' := 1) (lv' := [(0, .double _)]) (st' := [.double _]) rfl ?_
      refine ev_dconst0 DX6_bitsOfShare 1 rfl ?_
      refine ev_ss DX6_bitsOfShare 1 2 (pc' := 3) (lv' := [(0, .double _)]) (st' := [.int _]) rfl ?_
      refine ev_ifgt DX6_bitsOfShare 3 rfl (tgt := 8) (by decide) (fun _ => ?_) (fun h => h.elim (cv_0 hx hT h1 h2))
      refine ev_ss DX6_bitsOfShare 2 6 (pc' := 10) (lv' := [(2, .double _), (0, .double _)]) (st' := []) rfl ?_
      refine ev_ldc2 DX6_bitsOfShare 8 rfl kX6_299 ?_
      refine ev_ss DX6_bitsOfShare 3 9 (pc' := 18) (lv' := [(6, .int 0), (4, .long _), (2, .double _), (0, .double _)]) (st' := []) rfl ?_
      refine ev_lvp (lv2 := [(0, .double _), (2, .double _), (4, .long _), (6, .int _)]) [3, 2, 1, 0] rfl ?_
      exact K (1023 - E0) 0 _ x (by omega) nI_0.symm (by rw [Nat.add_zero]; exact hx)
    intro m
    induction m with
    | zero =>
      intro i x6 y hm hx6 hy
      subst hx6
      have hy2 : y.toNat = 1023 * 4503599627370496 + T := by rw [hy]; omega
      have he : 1023 - i = E0 := by omega
      rw [he]
      by_cases q1 : i = 1022
      · refine ev_ss DX6_bitsOfShare 2 12 (pc' := 23) (lv' := [(0, .double _), (2, .double _), (4, .long _), (6, .int _)]) (st' := [.int 1022, .int _]) rfl ?_
        refine ev_icge DX6_bitsOfShare 14 rfl (tgt := 50) (by decide) (fun _ => ?_) (fun h => h.elim (by rw [q1]; decide))
        refine ev_lvp (lv2 := [(2, .double _), (4, .long _)]) [1, 2] rfl ?_
        exact bs_tail hx hT (by omega) hy2
      · refine ev_ss DX6_bitsOfShare 2 12 (pc' := 23) (lv' := [(0, .double _), (2, .double _), (4, .long _), (6, .int _)]) (st' := [.int 1022, .int _]) rfl ?_
        refine ev_icge DX6_bitsOfShare 14 rfl (tgt := 50) (by decide) (fun h => absurd h (nI_ge (b := 1022) (by omega) (by decide))) (fun _ => ?_)
        refine ev_ss DX6_bitsOfShare 1 15 (pc' := 27) (lv' := [(0, .double _), (2, .double _), (4, .long _), (6, .int _)]) (st' := [.double _]) rfl ?_
        refine ev_dconst1 DX6_bitsOfShare 16 rfl ?_
        refine ev_ss DX6_bitsOfShare 1 17 (pc' := 29) (lv' := [(0, .double _), (2, .double _), (4, .long _), (6, .int _)]) (st' := [.int _]) rfl ?_
        refine ev_ifge DX6_bitsOfShare 18 rfl (tgt := 50) (by decide) (fun _ => ?_) (fun h => h.elim (cv_2 hy2 hT))
        refine ev_lvp (lv2 := [(2, .double _), (4, .long _)]) [1, 2] rfl ?_
        exact bs_tail hx hT (by omega) hy2
    | succ m ih =>
      intro i x6 y hm hx6 hy
      subst hx6
      have ed : (FP.dmul y 4611686018427387904).toNat = (E0 + (i + 1)) * 4503599627370496 + T := by
        rw [fp_mul (F := 1024) hy (by decide +kernel) hT (by omega) (by omega) (by decide) (by decide)]
        omega
      have e1 : Int64.ofNat (1023 - i) - Int64.ofNat 1 = Int64.ofNat (1023 - (i + 1)) := by rw [show 1023 - i = (1023 - (i + 1)) + 1 by omega, lN_dec]
      refine ev_ss DX6_bitsOfShare 2 12 (pc' := 23) (lv' := [(0, .double _), (2, .double _), (4, .long _), (6, .int _)]) (st' := [.int 1022, .int _]) rfl ?_
      refine ev_icge DX6_bitsOfShare 14 rfl (tgt := 50) (by decide) (fun h => absurd h (nI_ge (b := 1022) (by omega) (by decide))) (fun _ => ?_)
      refine ev_ss DX6_bitsOfShare 1 15 (pc' := 27) (lv' := [(0, .double _), (2, .double _), (4, .long _), (6, .int _)]) (st' := [.double _]) rfl ?_
      refine ev_dconst1 DX6_bitsOfShare 16 rfl ?_
      refine ev_ss DX6_bitsOfShare 1 17 (pc' := 29) (lv' := [(0, .double _), (2, .double _), (4, .long _), (6, .int _)]) (st' := [.int _]) rfl ?_
      refine ev_ifge DX6_bitsOfShare 18 rfl (tgt := 50) (by decide) (fun h => absurd h (cv_1 hy hT (by omega) (by omega))) (fun _ => ?_)
      refine ev_ss DX6_bitsOfShare 1 19 (pc' := 33) (lv' := [(0, .double _), (2, .double _), (4, .long _), (6, .int _)]) (st' := [.double _]) rfl ?_
      refine ev_ldc2d DX6_bitsOfShare 20 rfl kX6_301 ?_
      refine ev_dmul DX6_bitsOfShare 21 rfl (vf_of (by rw [ed]; omega)) ?_
      refine ev_ss DX6_bitsOfShare 6 22 (pc' := 47) (lv' := [(6, .int _), (4, .long _), (2, .double _), (0, .double _)]) (st' := []) rfl ?_
      refine ev_goto DX6_bitsOfShare 28 rfl (tgt := 18) (by decide) ?_
      refine ev_lvp (lv2 := [(0, .double _), (2, .double _), (4, .long _), (6, .int _)]) [3, 2, 1, 0] rfl ?_
      have e9 := ih (i + 1) _ _ (by omega) (nI_1 i) ed
      rw [← e1] at e9
      exact e9
set_option maxRecDepth 100000 in
set_option maxHeartbeats 4000000 in
theorem m_Jxe99ae_isNaN_b9ae7 {E : gE} {ws : va_W} {x : UInt64} (hF : FSh x) : CD E YJxe99ae_isNaN_b9ae7 0 0 [.double x] ws (some (.int 0)) ws := by
  refine cdS vJxe99ae_isNaN_b9ae7 (Nat.le_of_ble_eq_true rfl) (lv0 := [(0, .double x)]) rfl ?_
  refine ev_ss DJxe99ae_isNaN_b9ae7 3 0 (pc' := 3) (lv' := [(0, .double _)]) (st' := [.int _]) rfl ?_
  refine ev_ifeq DJxe99ae_isNaN_b9ae7 3 rfl (tgt := 10) (by decide) (fun _ => ?_) (fun h => h.elim (by rw [FSh_x hF]; decide))
  refine ev_ss DJxe99ae_isNaN_b9ae7 1 6 (pc' := 11) (lv' := [(0, .double _)]) (st' := [.int 0]) rfl ?_
  exact ev_zret DJxe99ae_isNaN_b9ae7 7 rfl rfl rfl ⟨rfl, rfl⟩
set_option maxRecDepth 100000 in
set_option maxHeartbeats 4000000 in
theorem m_Jxe99ae_doubleToLongBits_ccdee {E : gE} {ws : va_W} {x : UInt64} (hF : FSh x) : CD E YJxe99ae_doubleToLongBits_ccdee 0 0 [.double x] ws (some (.long x.toInt64)) ws := by
  refine cdS vJxe99ae_doubleToLongBits_ccdee (Nat.le_of_ble_eq_true rfl) (lv0 := [(0, .double x)]) rfl ?_
  refine ev_ss DJxe99ae_doubleToLongBits_ccdee 1 0 (pc' := 1) (lv' := [(0, .double _)]) (st' := [.double _]) rfl ?_
  refine ev_cS DJxe99ae_doubleToLongBits_ccdee 1 (m_Jxe99ae_isNaN_b9ae7 hF) vJxe99ae_isNaN_b9ae7 rfl qJxe99ae_122 rfl (hd_of rfl rfl rfl rfl) ?_
  refine ev_ifne DJxe99ae_doubleToLongBits_ccdee 2 rfl (tgt := 12) (by decide) (fun h => h.elim rfl) (fun _ => ?_)
  refine ev_ss DJxe99ae_doubleToLongBits_ccdee 1 3 (pc' := 8) (lv' := [(0, .double _)]) (st' := [.double _]) rfl ?_
  refine ev_bits DJxe99ae_doubleToLongBits_ccdee 4 rfl qJxe99ae_134 (Nat.le_of_ble_eq_true rfl) (Nat.le_of_ble_eq_true rfl) ?_
  exact ev_lret DJxe99ae_doubleToLongBits_ccdee 5 rfl rfl ⟨rfl, rfl⟩
/-- what is counted of the bits that came -/
def CI (p : PS) (a : Nat) : Prop := ∃ c w : Nat, (pW p a).2.2.2.1 = nI c ∧ (pW p a).2.2.2.2 = nI w ∧ w ≤ c ∧ c < 1000000
theorem CI.F {p : PS} {a : Nat} (h : CI p a) : FSh (rsP (pW p a).2.2.2.1 (pW p a).2.2.2.2) := by
  obtain ⟨c, w, e1, e2, h1, h2⟩ := h
  rw [e1, e2]
  exact rsP_F h1 h2
theorem CI.R {p : PS} {a : Nat} (h : CI p a) : RSh p a := fun h0 => by
  have e := FSh_vf h.F
  unfold rsP at e
  rw [if_neg h0] at e
  exact e
set_option maxRecDepth 100000 in
set_option maxHeartbeats 4000000 in
theorem m_X7_shareOf {E : gE} {ad : Nat → Nat} {ws : va_W} {sm bm tw ea iw : Int32} {hh : Int64} {z : Nat → Int32} (h : ws[214]? = some (ad 214, moC ad sm bm tw ea iw hh)) (hz : ws[215]? = some (ad 215, iaC E 811 z)) {p : PS} (hG : ZG z p) {a : Nat} (ha : a < 2) (hC : CI p a) : CD E YX7_shareOf 0 0 [.ref (ad 214), .int (nI a)] ws (some (.double (rsP (pW p a).2.2.2.1 (pW p a).2.2.2.2))) ws := by
  refine cdV vX7_shareOf (Nat.le_of_ble_eq_true rfl) (lv0 := [(0, .ref (ad 214)), (1, .int (nI a))]) rfl ?_
  have hR := hC.R
  by_cases q1 : (pW p a).2.2.2.1 = 0
  · refine ev_ss DX7_shareOf 1 0 (pc' := 1) (lv' := [(0, .ref _), (1, .int _)]) (st' := [.ref _]) rfl ?_
    refine ev_get DX7_shareOf 1 GX7 rfl (k0 := 0) (Nat.le_of_ble_eq_true rfl) fX7_7 h rfl ?_
    refine ev_ss DX7_shareOf 3 2 (pc' := 9) (lv' := [(0, .ref _), (1, .int _)]) (st' := [.int _, .ref _]) rfl ?_
    refine ev_ialdv DX7_shareOf 5 (k0 := (802 + a)) rfl hz (nx_add (a := 802) (b := a) rfl rfl) (by omega) (by decide) ((hG.2.2.2.1 a ha).2.2.1) ?_
    refine ev_ss DX7_shareOf 2 6 (pc' := 12) (lv' := [(2, .int _), (0, .ref _), (1, .int _)]) (st' := [.int _]) rfl ?_
    refine ev_ifne DX7_shareOf 8 rfl (tgt := 19) (by decide) (fun h => h.elim q1) (fun _ => ?_)
    refine ev_dconst1 DX7_shareOf 9 rfl ?_
    refine ev_goto DX7_shareOf 10 rfl (tgt := 35) (by decide) ?_
    exact ev_dret DX7_shareOf 23 rfl rfl ⟨congrArg (fun z => some (Value.double z)) (if_pos (by rw [q1]; decide)).symm, rfl⟩
  · have q2 : ¬ (pW p a).2.2.2.1 ≤ 0 := by
      obtain ⟨c, w, e1, -, -, h2⟩ := hC
      rw [e1] at q1 ⊢
      exact nI_nle (Nat.pos_of_ne_zero (fun e => q1 (by rw [e]; rfl))) (by omega)
    refine ev_ss DX7_shareOf 1 0 (pc' := 1) (lv' := [(0, .ref _), (1, .int _)]) (st' := [.ref _]) rfl ?_
    refine ev_get DX7_shareOf 1 GX7 rfl (k0 := 0) (Nat.le_of_ble_eq_true rfl) fX7_7 h rfl ?_
    refine ev_ss DX7_shareOf 3 2 (pc' := 9) (lv' := [(0, .ref _), (1, .int _)]) (st' := [.int _, .ref _]) rfl ?_
    refine ev_ialdv DX7_shareOf 5 (k0 := (802 + a)) rfl hz (nx_add (a := 802) (b := a) rfl rfl) (by omega) (by decide) ((hG.2.2.2.1 a ha).2.2.1) ?_
    refine ev_ss DX7_shareOf 2 6 (pc' := 12) (lv' := [(2, .int _), (0, .ref _), (1, .int _)]) (st' := [.int _]) rfl ?_
    refine ev_ifne DX7_shareOf 8 rfl (tgt := 19) (by decide) (fun _ => ?_) (fun h => absurd h q1)
    refine ev_ss DX7_shareOf 2 11 (pc' := 21) (lv' := [(2, .int _), (0, .ref _), (1, .int _)]) (st' := [.ref _, .int _]) rfl ?_
    refine ev_get DX7_shareOf 13 GX7 rfl (k0 := 0) (Nat.le_of_ble_eq_true rfl) fX7_7 h rfl ?_
    refine ev_ss DX7_shareOf 3 14 (pc' := 29) (lv' := [(2, .int _), (0, .ref _), (1, .int _)]) (st' := [.int _, .ref _, .int _]) rfl ?_
    refine ev_ialdv DX7_shareOf 17 (k0 := (804 + a)) rfl hz (nx_add (a := 804) (b := a) rfl rfl) (by omega) (by decide) ((hG.2.2.2.1 a ha).2.2.2) ?_
    refine ev_ss DX7_shareOf 4 18 (pc' := 34) (lv' := [(2, .int _), (0, .ref _), (1, .int _)]) (st' := [.double _, .double _]) rfl ?_
    refine ev_ddiv DX7_shareOf 22 rfl (hR q2) ?_
    exact ev_dret DX7_shareOf 23 rfl rfl ⟨congrArg (fun z => some (Value.double z)) (if_neg q2).symm, rfl⟩
set_option maxRecDepth 100000 in
set_option maxHeartbeats 4000000 in
theorem m_X7_ifSent_ok {E : gE} {ad : Nat → Nat} {ws : va_W} {p : PS} {sv : Nat → PS} {sc len : Nat} {ch : Nat → Int32} {tw : Int32} {hh : Int64} (hM : ZM E ad ws p sv sc len ch tw hh) {a n j : Nat} (ha : a < 2) (hb1 : ¬ inP (nI n) 1 100 = 0) (hn : n ≤ 100) (hj : j < 3) (hI : WI (pW p a)) : C0 E YX7_ifSent 0 0 [.ref (ad 214), .int (nI a), .int (nI n), .int (nI j)] ws (fun v9 w9 => v9 = some (.int (ifS p a n j)) ∧ ZM E ad w9 p sv sc len ch 0 hh ∧ MO ws w9) := by
  obtain ⟨ea, iw, z, rw, as, l, hs, hq, er, bf, ⟨h, hz, hr, has, hl⟩, ⟨hhs, hha, hbf, he⟩, ⟨hG, hLG⟩, hsv, hlen, hch⟩ := id hM
  refine c0V vX7_ifSent (Nat.le_of_ble_eq_true rfl) (lv0 := [(0, .ref (ad 214)), (1, .int (nI a)), (2, .int (nI n)), (3, .int (nI j))]) rfl ?_
  refine ev_ss DX7_ifSent 2 0 (pc' := 2) (lv' := [(0, .ref _), (1, .int _), (2, .int _), (3, .int _)]) (st' := [.int 0, .ref _]) rfl ?_
  refine ev_put (fs' := [_, _, _, _, _, _, _, _, _, _, _, _, _, _]) DX7_ifSent 2 GX7 rfl (k0 := 9) (Nat.le_of_ble_eq_true rfl) fX7_35 rfl ⟨rfl, rfl⟩ h (Nat.le_of_ble_eq_true rfl) rfl rfl ?_
  refine ev_ss DX7_ifSent 1 3 (pc' := 6) (lv' := [(0, .ref _), (1, .int _), (2, .int _), (3, .int _)]) (st' := [.int _]) rfl ?_
  refine ev_cS DX7_ifSent 4 m_X7_isWay vX7_isWay rfl qX7_46 rfl (hd_of rfl rfl rfl rfl) ?_
  refine ev_ifne DX7_ifSent 5 rfl (tgt := 18) (by decide) (fun _ => ?_) (fun h => absurd h (inW_g ha))
  refine ev_ss DX7_ifSent 3 10 (pc' := 22) (lv' := [(0, .ref _), (1, .int _), (2, .int _), (3, .int _)]) (st' := [.int 100, .int 1, .int _]) rfl ?_
  refine ev_cS DX7_ifSent 13 m_X7_in vX7_in rfl qX7_39 rfl (hd_of rfl rfl rfl rfl) ?_
  refine ev_ifeq DX7_ifSent 14 rfl (tgt := 47) (by decide) (fun h => absurd h hb1) (fun _ => ?_)
  refine ev_ss DX7_ifSent 3 15 (pc' := 31) (lv' := [(0, .ref _), (1, .int _), (2, .int _), (3, .int _)]) (st' := [.int 2, .int 0, .int _]) rfl ?_
  refine ev_cS DX7_ifSent 18 m_X7_in vX7_in rfl qX7_39 rfl (hd_of rfl rfl rfl rfl) ?_
  refine ev_ifeq DX7_ifSent 19 rfl (tgt := 47) (by decide) (fun h => absurd h (in_nI 2 (by decide) j hj)) (fun _ => ?_)
  refine ev_ss DX7_ifSent 4 20 (pc' := 41) (lv' := [(0, .ref _), (1, .int _), (2, .int _), (3, .int _)]) (st' := [.int _, .int _, .int _, .ref _]) rfl ?_
  refine ev_rV DX7_ifSent 24 (m_X7_sentOf (hM.t0 h (tw := 0)) ha (by omega) hI hj) vX7_sentOf rfl qX7_181 rfl (wset_get h) rfl (hd_of rfl rfl rfl rfl) (fun v w hvw => ?_)
  obtain ⟨rfl, hM2, hO2⟩ := hvw
  refine ev_goto DX7_ifSent 25 rfl (tgt := 52) (by decide) ?_
  exact ev_iret DX7_ifSent 29 rfl rfl ⟨rfl, hM2, (MO.set (by decide) (by decide)).tr hO2⟩
set_option maxRecDepth 100000 in
set_option maxHeartbeats 4000000 in
theorem m_X7_ifLearned_ok {E : gE} {ad : Nat → Nat} {ws : va_W} {p : PS} {sv : Nat → PS} {sc len : Nat} {ch : Nat → Int32} {tw : Int32} {hh : Int64} (hM : ZM E ad ws p sv sc len ch tw hh) {a n : Nat} (ha : a < 2) (hb1 : ¬ inP (nI n) 1 100 = 0) (hn : n ≤ 100) (hN : LN p a) : C0 E YX7_ifLearned 0 0 [.ref (ad 214), .int (nI a), .int (nI n)] ws (fun v9 w9 => v9 = some (.int (ifL p a n)) ∧ ZM E ad w9 p sv sc len ch 0 hh ∧ MO ws w9) := by
  obtain ⟨ea, iw, z, rw, as, l, hs, hq, er, bf, ⟨h, hz, hr, has, hl⟩, ⟨hhs, hha, hbf, he⟩, ⟨hG, hLG⟩, hsv, hlen, hch⟩ := id hM
  refine c0V vX7_ifLearned (Nat.le_of_ble_eq_true rfl) (lv0 := [(0, .ref (ad 214)), (1, .int (nI a)), (2, .int (nI n))]) rfl ?_
  refine ev_ss DX7_ifLearned 2 0 (pc' := 2) (lv' := [(0, .ref _), (1, .int _), (2, .int _)]) (st' := [.int 0, .ref _]) rfl ?_
  refine ev_put (fs' := [_, _, _, _, _, _, _, _, _, _, _, _, _, _]) DX7_ifLearned 2 GX7 rfl (k0 := 9) (Nat.le_of_ble_eq_true rfl) fX7_35 rfl ⟨rfl, rfl⟩ h (Nat.le_of_ble_eq_true rfl) rfl rfl ?_
  refine ev_ss DX7_ifLearned 1 3 (pc' := 6) (lv' := [(0, .ref _), (1, .int _), (2, .int _)]) (st' := [.int _]) rfl ?_
  refine ev_cS DX7_ifLearned 4 m_X7_isWay vX7_isWay rfl qX7_46 rfl (hd_of rfl rfl rfl rfl) ?_
  refine ev_ifne DX7_ifLearned 5 rfl (tgt := 18) (by decide) (fun _ => ?_) (fun h => absurd h (inW_g ha))
  refine ev_ss DX7_ifLearned 3 10 (pc' := 22) (lv' := [(0, .ref _), (1, .int _), (2, .int _)]) (st' := [.int 100, .int 1, .int _]) rfl ?_
  refine ev_cS DX7_ifLearned 13 m_X7_in vX7_in rfl qX7_39 rfl (hd_of rfl rfl rfl rfl) ?_
  refine ev_ifeq DX7_ifLearned 14 rfl (tgt := 37) (by decide) (fun h => absurd h hb1) (fun _ => ?_)
  refine ev_ss DX7_ifLearned 3 15 (pc' := 31) (lv' := [(0, .ref _), (1, .int _), (2, .int _)]) (st' := [.int _, .int _, .ref _]) rfl ?_
  refine ev_rV DX7_ifLearned 18 (m_X7_learnedOf (hM.t0 h (tw := 0)) ha (by omega) hN) vX7_learnedOf rfl qX7_184 rfl (wset_get h) rfl (hd_of rfl rfl rfl rfl) (fun v w hvw => ?_)
  obtain ⟨rfl, hM2, hO2⟩ := hvw
  refine ev_goto DX7_ifLearned 19 rfl (tgt := 42) (by decide) ?_
  exact ev_iret DX7_ifLearned 23 rfl rfl ⟨rfl, hM2, (MO.set (by decide) (by decide)).tr hO2⟩
set_option maxRecDepth 100000 in
set_option maxHeartbeats 4000000 in
theorem m_X7_beatsFor_ok {E : gE} {ad : Nat → Nat} {ws : va_W} {p : PS} {sv : Nat → PS} {sc len : Nat} {ch : Nat → Int32} {tw : Int32} {hh : Int64} (hM : ZM E ad ws p sv sc len ch tw hh) {a : Nat} (ha : a < 2) (hI : WI (pW p a)) : C0 E YX7_beatsFor 0 0 [.ref (ad 214), .int (nI a)] ws (fun v9 w9 => v9 = some (.int (bfW (p.2.2.1 2) k301 0 p.1 (pW p a))) ∧ ZM E ad w9 p sv sc len ch 0 hh ∧ MO ws w9) := by
  obtain ⟨ea, iw, z, rw, as, l, hs, hq, er, bf, ⟨h, hz, hr, has, hl⟩, ⟨hhs, hha, hbf, he⟩, ⟨hG, hLG⟩, hsv, hlen, hch⟩ := id hM
  refine c0V vX7_beatsFor (Nat.le_of_ble_eq_true rfl) (lv0 := [(0, .ref (ad 214)), (1, .int (nI a))]) rfl ?_
  refine ev_ss DX7_beatsFor 2 0 (pc' := 2) (lv' := [(0, .ref _), (1, .int _)]) (st' := [.int 0, .ref _]) rfl ?_
  refine ev_put (fs' := [_, _, _, _, _, _, _, _, _, _, _, _, _, _]) DX7_beatsFor 2 GX7 rfl (k0 := 9) (Nat.le_of_ble_eq_true rfl) fX7_35 rfl ⟨rfl, rfl⟩ h (Nat.le_of_ble_eq_true rfl) rfl rfl ?_
  refine ev_ss DX7_beatsFor 1 3 (pc' := 6) (lv' := [(0, .ref _), (1, .int _)]) (st' := [.int _]) rfl ?_
  refine ev_cS DX7_beatsFor 4 m_X7_isWay vX7_isWay rfl qX7_46 rfl (hd_of rfl rfl rfl rfl) ?_
  refine ev_ifeq DX7_beatsFor 5 rfl (tgt := 20) (by decide) (fun h => absurd h (inW_g ha)) (fun _ => ?_)
  refine ev_ss DX7_beatsFor 2 6 (pc' := 14) (lv' := [(0, .ref _), (1, .int _)]) (st' := [.int _, .ref _]) rfl ?_
  refine ev_rV DX7_beatsFor 8 (m_X7_beatsOf (hM.t0 h (tw := 0)) ha hI) vX7_beatsOf rfl qX7_187 rfl (wset_get h) rfl (hd_of rfl rfl rfl rfl) (fun v w hvw => ?_)
  obtain ⟨rfl, hM2, hO2⟩ := hvw
  refine ev_goto DX7_beatsFor 9 rfl (tgt := 25) (by decide) ?_
  exact ev_iret DX7_beatsFor 13 rfl rfl ⟨rfl, hM2, (MO.set (by decide) (by decide)).tr hO2⟩
set_option maxRecDepth 100000 in
set_option maxHeartbeats 4000000 in
theorem m_X7_bestLesson_ok {E : gE} {ad : Nat → Nat} {ws : va_W} {p : PS} {sv : Nat → PS} {sc len : Nat} {ch : Nat → Int32} {tw : Int32} {hh : Int64} (hM : ZM E ad ws p sv sc len ch tw hh) {a : Nat} (ha : a < 2) (hN : LN p a) : C0 E YX7_bestLesson 0 0 [.ref (ad 214), .int (nI a)] ws (fun v9 w9 => v9 = some (.int (blN p a k40).1) ∧ ZM E ad w9 p sv sc len ch 0 hh ∧ MO ws w9) := by
  obtain ⟨ea, iw, z, rw, as, l, hs, hq, er, bf, ⟨h, hz, hr, has, hl⟩, ⟨hhs, hha, hbf, he⟩, ⟨hG, hLG⟩, hsv, hlen, hch⟩ := id hM
  refine c0V vX7_bestLesson (Nat.le_of_ble_eq_true rfl) (lv0 := [(0, .ref (ad 214)), (1, .int (nI a))]) rfl ?_
  refine ev_ss DX7_bestLesson 2 0 (pc' := 2) (lv' := [(0, .ref _), (1, .int _)]) (st' := [.int 0, .ref _]) rfl ?_
  refine ev_put (fs' := [_, _, _, _, _, _, _, _, _, _, _, _, _, _]) DX7_bestLesson 2 GX7 rfl (k0 := 9) (Nat.le_of_ble_eq_true rfl) fX7_35 rfl ⟨rfl, rfl⟩ h (Nat.le_of_ble_eq_true rfl) rfl rfl ?_
  refine ev_ss DX7_bestLesson 1 3 (pc' := 6) (lv' := [(0, .ref _), (1, .int _)]) (st' := [.int _]) rfl ?_
  refine ev_cS DX7_bestLesson 4 m_X7_isWay vX7_isWay rfl qX7_46 rfl (hd_of rfl rfl rfl rfl) ?_
  refine ev_ifeq DX7_bestLesson 5 rfl (tgt := 20) (by decide) (fun h => absurd h (inW_g ha)) (fun _ => ?_)
  refine ev_ss DX7_bestLesson 2 6 (pc' := 14) (lv' := [(0, .ref _), (1, .int _)]) (st' := [.int _, .ref _]) rfl ?_
  refine ev_rV DX7_bestLesson 8 (m_X7_lessonOf (hM.t0 h (tw := 0)) ha hN) vX7_lessonOf rfl qX7_193 rfl (wset_get h) rfl (hd_of rfl rfl rfl rfl) (fun v w hvw => ?_)
  obtain ⟨rfl, hM2, hO2⟩ := hvw
  refine ev_goto DX7_bestLesson 9 rfl (tgt := 25) (by decide) ?_
  exact ev_iret DX7_bestLesson 13 rfl rfl ⟨rfl, hM2, (MO.set (by decide) (by decide)).tr hO2⟩
set_option maxRecDepth 100000 in
set_option maxHeartbeats 4000000 in
theorem m_X7_hurts_ok {E : gE} {ad : Nat → Nat} {ws : va_W} {p : PS} {sv : Nat → PS} {sc len : Nat} {ch : Nat → Int32} {tw : Int32} {hh : Int64} (hM : ZM E ad ws p sv sc len ch tw hh) {a t : Nat} (ha : a < 2) (ht : t < 8) (hI : WI (pW p a)) : C0 E YX7_hurts 0 0 [.ref (ad 214), .int (nI a), .int (nI t)] ws (fun v9 w9 => v9 = some (.int (huP p a t)) ∧ ZM E ad w9 p sv sc len ch 0 hh ∧ MO ws w9) := by
  obtain ⟨ea, iw, z, rw, as, l, hs, hq, er, bf, ⟨h, hz, hr, has, hl⟩, ⟨hhs, hha, hbf, he⟩, ⟨hG, hLG⟩, hsv, hlen, hch⟩ := id hM
  have hs1 : stA a t + 7 ≤ 112 := by unfold stA; omega
  have hc1 : acA a t + 11 ≤ 288 := by unfold acA; omega
  refine c0V vX7_hurts (Nat.le_of_ble_eq_true rfl) (lv0 := [(0, .ref (ad 214)), (1, .int (nI a)), (2, .int (nI t))]) rfl ?_
  refine ev_ss DX7_hurts 2 0 (pc' := 2) (lv' := [(0, .ref _), (1, .int _), (2, .int _)]) (st' := [.int 0, .ref _]) rfl ?_
  refine ev_put (fs' := [_, _, _, _, _, _, _, _, _, _, _, _, _, _]) DX7_hurts 2 GX7 rfl (k0 := 9) (Nat.le_of_ble_eq_true rfl) fX7_35 rfl ⟨rfl, rfl⟩ h (Nat.le_of_ble_eq_true rfl) rfl rfl ?_
  refine ev_ss DX7_hurts 1 3 (pc' := 6) (lv' := [(0, .ref _), (1, .int _), (2, .int _)]) (st' := [.int _]) rfl ?_
  refine ev_cS DX7_hurts 4 m_X7_isWay vX7_isWay rfl qX7_46 rfl (hd_of rfl rfl rfl rfl) ?_
  refine ev_ifeq DX7_hurts 5 rfl (tgt := 28) (by decide) (fun h => absurd h (inW_g ha)) (fun _ => ?_)
  refine ev_ss DX7_hurts 1 6 (pc' := 13) (lv' := [(0, .ref _), (1, .int _), (2, .int _)]) (st' := [.int _]) rfl ?_
  refine ev_cS DX7_hurts 7 m_X7_isTone vX7_isTone rfl qX7_50 rfl (hd_of rfl rfl rfl rfl) ?_
  refine ev_ifeq DX7_hurts 8 rfl (tgt := 28) (by decide) (fun h => absurd h (inT_g ht)) (fun _ => ?_)
  refine ev_ss DX7_hurts 3 9 (pc' := 22) (lv' := [(0, .ref _), (1, .int _), (2, .int _)]) (st' := [.int _, .int _, .ref _]) rfl ?_
  refine ev_rV DX7_hurts 12 (m_X7_hurtsOf (hM.t0 h (tw := 0)) ha ht hI) vX7_hurtsOf rfl qX7_196 rfl (wset_get h) rfl (hd_of rfl rfl rfl rfl) (fun v w hvw => ?_)
  obtain ⟨rfl, hM2, hO2⟩ := hvw
  refine ev_goto DX7_hurts 13 rfl (tgt := 33) (by decide) ?_
  exact ev_iret DX7_hurts 17 rfl rfl ⟨rfl, hM2, (MO.set (by decide) (by decide)).tr hO2⟩
set_option maxRecDepth 100000 in
set_option maxHeartbeats 4000000 in
theorem m_X7_rightShare_ok {E : gE} {ad : Nat → Nat} {ws : va_W} {p : PS} {sv : Nat → PS} {sc len : Nat} {ch : Nat → Int32} {tw : Int32} {hh : Int64} (hM : ZM E ad ws p sv sc len ch tw hh) {a : Nat} (ha : a < 2) (hC : CI p a) : C0 E YX7_rightShare 0 0 [.ref (ad 214), .int (nI a)] ws (fun v9 w9 => v9 = some (.double (rsP (pW p a).2.2.2.1 (pW p a).2.2.2.2)) ∧ ZM E ad w9 p sv sc len ch 0 hh ∧ MO ws w9) := by
  obtain ⟨ea, iw, z, rw, as, l, hs, hq, er, bf, ⟨h, hz, hr, has, hl⟩, ⟨hhs, hha, hbf, he⟩, ⟨hG, hLG⟩, hsv, hlen, hch⟩ := id hM
  refine c0V vX7_rightShare (Nat.le_of_ble_eq_true rfl) (lv0 := [(0, .ref (ad 214)), (1, .int (nI a))]) rfl ?_
  refine ev_ss DX7_rightShare 2 0 (pc' := 2) (lv' := [(0, .ref _), (1, .int _)]) (st' := [.int 0, .ref _]) rfl ?_
  refine ev_put (fs' := [_, _, _, _, _, _, _, _, _, _, _, _, _, _]) DX7_rightShare 2 GX7 rfl (k0 := 9) (Nat.le_of_ble_eq_true rfl) fX7_35 rfl ⟨rfl, rfl⟩ h (Nat.le_of_ble_eq_true rfl) rfl rfl ?_
  refine ev_ss DX7_rightShare 1 3 (pc' := 6) (lv' := [(0, .ref _), (1, .int _)]) (st' := [.int _]) rfl ?_
  refine ev_cS DX7_rightShare 4 m_X7_isWay vX7_isWay rfl qX7_46 rfl (hd_of rfl rfl rfl rfl) ?_
  refine ev_ifeq DX7_rightShare 5 rfl (tgt := 20) (by decide) (fun h => absurd h (inW_g ha)) (fun _ => ?_)
  refine ev_ss DX7_rightShare 2 6 (pc' := 14) (lv' := [(0, .ref _), (1, .int _)]) (st' := [.int _, .ref _]) rfl ?_
  refine ev_cV DX7_rightShare 8 (m_X7_shareOf (wset_get h) (wset_o hz h rfl) hG ha hC) vX7_shareOf rfl qX7_199 rfl (wset_get h) rfl (hd_of rfl rfl rfl rfl) ?_
  refine ev_goto DX7_rightShare 9 rfl (tgt := 26) (by decide) ?_
  exact ev_dret DX7_rightShare 14 rfl rfl ⟨rfl, hM.t0 h, MO.set (by decide) (by decide)⟩
