theorem m_X4_takeX {E : gE} {ws : va_W} {q a qr ar : Nat} {r : Nat → Int32} {st sz x : Int32} {bs : List Int32} {n : Nat} (hx : x = nI n) (hn : n ≤ 4) (h : ws[q]? = some (a, waitC ar st sz)) (h2 : ws[qr]? = some (ar, iaC E 256 r)) (hq : RQ r st sz bs) :
    C0 E YX4_take 0 0 [.ref a, .int x] ws (fun v w => v = some (.int (takeQ n 0 bs).1) ∧ ∃ st2 sz2, RQ r st2 sz2 (takeQ n 0 bs).2 ∧ w = ws.set q (a, waitC ar st2 sz2)) := by
  subst hx
  exact m_X4_take n hn h h2 hq
/-- what a sign is sent with: the sign, its amplitude, the sign that is heard, how many of its bits are wrong -/
def sgV (f : TF) (bs : List Int32) : Int32 := (takeQ (f 10).toNatClampNeg 0 bs).1
def sgA (f : TF) (bs : List Int32) : Int32 := ampP (f 10) (sgV f bs)
def sgH (sd : Int32) (f : TF) (bs : List Int32) : Int32 := decP f (arrP f (sgA f bs) (drwN sd f))
def sgW (sd : Int32) (f : TF) (bs : List Int32) : Int32 := bcP (sgV f bs ^^^ sgH sd f bs)
def sgF (sd : Int32) (f : TF) (bs : List Int32) : TF := cntB (passP f (sgA f bs) (ampP (f 10) (sgH sd f bs))) (sgW sd f bs)
def sgB (f : TF) (bs : List Int32) : List Int32 := (takeQ (f 10).toNatClampNeg 0 bs).2
theorem cnt10 (f : TF) (b : Int32) : cntP f b 10 = f 10 := by
  unfold cntP
  split <;> split <;> simp [upd]
theorem s4 {X : va_W} {qt at0 qw aw : Nat} {g g2 : TF} {v v2 : va_E} (h1 : g = g2) (h2 : v = v2) : (X.set qt (at0, toneC g)).set qw (aw, v) = (X.set qt (at0, toneC g2)).set qw (aw, v2) := by rw [h1, h2]
/-- a tone that can be walked -/
def TS (f : TF) : Prop := ∃ n : Nat, n ≤ 4 ∧ f 10 = nI n ∧ ¬ f 7 ≤ 0 ∧ ¬ 2 * f 3 + 1 ≤ 0
set_option maxRecDepth 100000 in
set_option maxHeartbeats 4000000 in
theorem m_X1_sendSign_raw {E : gE} {ws : va_W} {qs as w0 w1 sg qw aw ta wt qr ar qt at0 : Nat} {sd bt cm wr st sz : Int32} {lt : Int64} {r : Nat → Int32} {f : TF} {bs : List Int32} (hs : ws[qs]? = some (as, stC w0 w1 sg sd bt)) (hw : ws[qw]? = some (aw, wayC ta wt lt cm wr)) {qq : Nat} (hq : ws[qq]? = some (wt, waitC ar st sz)) (hr : ws[qr]? = some (ar, iaC E 256 r)) (hT : ws[qt]? = some (at0, toneC f)) (hR : RQ r st sz bs) (hf : TS f) : C0 E YX1_sendSign 0 0 [.ref as, .ref aw, .ref at0] ws (fun v w => v = some (.int (sgW sd f bs)) ∧ ∃ st2 sz2, RQ r st2 sz2 (sgB f bs) ∧
      w = (((ws.set qq (wt, waitC ar st2 sz2)).set qs (as, stC w0 w1 sg (drwS sd) bt)).set qt (at0, toneC (sgF sd f bs))).set qw (aw, wayC ta wt (recL lt (f 10) (sgH sd f bs)) (cm + f 10) (wr + sgW sd f bs))) := by
  obtain ⟨n, hn, hb, hg, hm⟩ := hf
  have hbn : (f 10).toNatClampNeg = n := by rw [hb, nI_clamp (by omega)]
  refine c0V vX1_sendSign (Nat.le_of_ble_eq_true rfl) (lv0 := [(0, .ref as), (1, .ref aw), (2, .ref at0)]) rfl ?_
  refine ev_ss DX1_sendSign 1 0 (pc' := 1) (lv' := [(0, .ref _), (1, .ref _), (2, .ref _)]) (st' := [.ref _]) rfl ?_
  refine ev_get DX1_sendSign 1 GX5 rfl (k0 := 1) (Nat.le_of_ble_eq_true rfl) fX1_78 hw rfl ?_
  refine ev_ss DX1_sendSign 1 2 (pc' := 5) (lv' := [(0, .ref _), (1, .ref _), (2, .ref _)]) (st' := [.ref _, .ref _]) rfl ?_
  refine ev_get DX1_sendSign 3 GX3 rfl (k0 := 10) (Nat.le_of_ble_eq_true rfl) fX1_82 hT rfl ?_
  refine ev_rV DX1_sendSign 4 (m_X4_takeX hb hn hq hr hR) vX4_take rfl qX1_85 rfl hq rfl (hd_of rfl rfl rfl rfl) (fun v w hvw => ?_)
  obtain ⟨rfl, st2, sz2, hq2, rfl⟩ := hvw
  refine ev_ss DX1_sendSign 3 5 (pc' := 14) (lv' := [(3, .int _), (0, .ref _), (1, .ref _), (2, .ref _)]) (st' := [.int _, .ref _]) rfl ?_
  refine ev_cV DX1_sendSign 8 (m_X3_amplitudeOf (wset_o hT hq rfl)) vX3_amplitudeOf rfl qX1_90 rfl (wset_o hT hq rfl) rfl (hd_of rfl rfl rfl rfl) ?_
  refine ev_ss DX1_sendSign 6 9 (pc' := 25) (lv' := [(4, .int _), (3, .int _), (0, .ref _), (1, .ref _), (2, .ref _)]) (st' := [.ref _, .ref _, .int _, .ref _, .ref _]) rfl ?_
  refine ev_cV DX1_sendSign 15 (m_X1_drawNoise (wset_o hs hq rfl) (wset_o hT hq rfl) hm) vX1_drawNoise rfl qX1_93 rfl (wset_o hs hq rfl) rfl (hd_of rfl rfl rfl rfl) ?_
  refine ev_cV DX1_sendSign 16 (m_X3_arriving (wset_o (wset_o hT hq rfl) (wset_o hs hq rfl) rfl)) vX3_arriving rfl qX1_97 rfl (wset_o (wset_o hT hq rfl) (wset_o hs hq rfl) rfl) rfl (hd_of rfl rfl rfl rfl) ?_
  refine ev_cV DX1_sendSign 17 (m_X3_decide (wset_o (wset_o hT hq rfl) (wset_o hs hq rfl) rfl) hg) vX3_decide rfl qX1_101 rfl (wset_o (wset_o hT hq rfl) (wset_o hs hq rfl) rfl) rfl (hd_of rfl rfl rfl rfl) ?_
  refine ev_ss DX1_sendSign 4 18 (pc' := 40) (lv' := [(5, .int _), (4, .int _), (3, .int _), (0, .ref _), (1, .ref _), (2, .ref _)]) (st' := [.int _]) rfl ?_
  refine ev_cS DX1_sendSign 22 m_J6_bitCount vJ6_bitCount_0f7a4 rfl qX1_104 rfl (hd_of rfl rfl rfl rfl) ?_
  refine ev_ss DX1_sendSign 5 23 (pc' := 51) (lv' := [(6, .int _), (5, .int _), (4, .int _), (3, .int _), (0, .ref _), (1, .ref _), (2, .ref _)]) (st' := [.int _, .ref _, .int _, .ref _]) rfl ?_
  refine ev_cV DX1_sendSign 28 (m_X3_amplitudeOf (wset_o (wset_o hT hq rfl) (wset_o hs hq rfl) rfl)) vX3_amplitudeOf rfl qX1_90 rfl (wset_o (wset_o hT hq rfl) (wset_o hs hq rfl) rfl) rfl (hd_of rfl rfl rfl rfl) ?_
  refine ev_cV DX1_sendSign 29 (m_X3_pass (wset_o (wset_o hT hq rfl) (wset_o hs hq rfl) rfl)) vX3_pass rfl qX1_109 rfl (wset_o (wset_o hT hq rfl) (wset_o hs hq rfl) rfl) rfl (hd_of rfl rfl rfl rfl) ?_
  refine ev_ss DX1_sendSign 2 30 (pc' := 60) (lv' := [(6, .int _), (5, .int _), (4, .int _), (3, .int _), (0, .ref _), (1, .ref _), (2, .ref _)]) (st' := [.int _, .ref _]) rfl ?_
  refine ev_ifle DX1_sendSign 32 rfl (tgt := 67) (by decide) (fun c_1 => ?_) (fun c_1 => ?_)
  · refine ev_ss DX1_sendSign 1 35 (pc' := 68) (lv' := [(6, .int _), (5, .int _), (4, .int _), (3, .int _), (0, .ref _), (1, .ref _), (2, .ref _)]) (st' := [.int 0, .ref _]) rfl ?_
    refine ev_cV DX1_sendSign 36 (cd_hs (m_X3_countSign (wset_get (wset_o (wset_o hT hq rfl) (wset_o hs hq rfl) rfl))) wset_set) vX3_countSign rfl qX1_113 rfl (wset_get (wset_o (wset_o hT hq rfl) (wset_o hs hq rfl) rfl)) rfl (hd_of rfl rfl rfl rfl) ?_
    refine ev_ss DX1_sendSign 3 37 (pc' := 75) (lv' := [(6, .int _), (5, .int _), (4, .int _), (3, .int _), (0, .ref _), (1, .ref _), (2, .ref _)]) (st' := [.ref _, .int _, .ref _]) rfl ?_
    refine ev_get DX1_sendSign 40 GX3 rfl (k0 := 10) (Nat.le_of_ble_eq_true rfl) fX1_82 (wset_get (wset_o (wset_o hT hq rfl) (wset_o hs hq rfl) rfl)) rfl ?_
    refine ev_ss DX1_sendSign 1 41 (pc' := 80) (lv' := [(6, .int _), (5, .int _), (4, .int _), (3, .int _), (0, .ref _), (1, .ref _), (2, .ref _)]) (st' := [.int _, .int _, .int _, .ref _]) rfl ?_
    refine ev_cV DX1_sendSign 42 (m_X5_receive (wset_o (wset_o (wset_o hw hq rfl) (wset_o hs hq rfl) rfl) (wset_o (wset_o hT hq rfl) (wset_o hs hq rfl) rfl) rfl)) vX5_receive rfl qX1_117 rfl (wset_o (wset_o (wset_o hw hq rfl) (wset_o hs hq rfl) rfl) (wset_o (wset_o hT hq rfl) (wset_o hs hq rfl) rfl) rfl) rfl (hd_of rfl rfl rfl rfl) ?_
    refine ev_ss DX1_sendSign 1 43 (pc' := 85) (lv' := [(6, .int _), (5, .int _), (4, .int _), (3, .int _), (0, .ref _), (1, .ref _), (2, .ref _)]) (st' := [.int _]) rfl ?_
    exact ev_iret DX1_sendSign 44 rfl rfl ⟨by rw [← hbn]; rfl, st2, sz2, by rw [sgB, hbn]; exact hq2, by subst hbn; exact s4 (Eq.symm (if_pos c_1)) (by rw [cnt10]; rfl)⟩
  · refine ev_ss DX1_sendSign 1 33 (pc' := 64) (lv' := [(6, .int _), (5, .int _), (4, .int _), (3, .int _), (0, .ref _), (1, .ref _), (2, .ref _)]) (st' := [.int 1, .ref _]) rfl ?_
    refine ev_goto DX1_sendSign 34 rfl (tgt := 68) (by decide) ?_
    refine ev_cV DX1_sendSign 36 (cd_hs (m_X3_countSign (wset_get (wset_o (wset_o hT hq rfl) (wset_o hs hq rfl) rfl))) wset_set) vX3_countSign rfl qX1_113 rfl (wset_get (wset_o (wset_o hT hq rfl) (wset_o hs hq rfl) rfl)) rfl (hd_of rfl rfl rfl rfl) ?_
    refine ev_ss DX1_sendSign 3 37 (pc' := 75) (lv' := [(6, .int _), (5, .int _), (4, .int _), (3, .int _), (0, .ref _), (1, .ref _), (2, .ref _)]) (st' := [.ref _, .int _, .ref _]) rfl ?_
    refine ev_get DX1_sendSign 40 GX3 rfl (k0 := 10) (Nat.le_of_ble_eq_true rfl) fX1_82 (wset_get (wset_o (wset_o hT hq rfl) (wset_o hs hq rfl) rfl)) rfl ?_
    refine ev_ss DX1_sendSign 1 41 (pc' := 80) (lv' := [(6, .int _), (5, .int _), (4, .int _), (3, .int _), (0, .ref _), (1, .ref _), (2, .ref _)]) (st' := [.int _, .int _, .int _, .ref _]) rfl ?_
    refine ev_cV DX1_sendSign 42 (m_X5_receive (wset_o (wset_o (wset_o hw hq rfl) (wset_o hs hq rfl) rfl) (wset_o (wset_o hT hq rfl) (wset_o hs hq rfl) rfl) rfl)) vX5_receive rfl qX1_117 rfl (wset_o (wset_o (wset_o hw hq rfl) (wset_o hs hq rfl) rfl) (wset_o (wset_o hT hq rfl) (wset_o hs hq rfl) rfl) rfl) rfl (hd_of rfl rfl rfl rfl) ?_
    refine ev_ss DX1_sendSign 1 43 (pc' := 85) (lv' := [(6, .int _), (5, .int _), (4, .int _), (3, .int _), (0, .ref _), (1, .ref _), (2, .ref _)]) (st' := [.int _]) rfl ?_
    exact ev_iret DX1_sendSign 44 rfl rfl ⟨by rw [← hbn]; rfl, st2, sz2, by rw [sgB, hbn]; exact hq2, by subst hbn; exact s4 (Eq.symm (if_neg c_1)) (by rw [cnt10]; rfl)⟩
