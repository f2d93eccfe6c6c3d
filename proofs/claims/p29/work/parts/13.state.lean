abbrev stC (w0 w1 sg : Nat) (sd bt : Int32) : va_E := .inr (1, [.ref w0, .ref w1, .ref sg, .int sd, .int bt])
abbrev toA (E : gE) (f : Nat → Option Nat) : va_E := .inl (gK E 4, 8, .inr (.inr (.inr (.inr f))))
theorem ev_ldcw {E : gE} {Y : MI} {Pr : Option Value → va_W → Prop} {Px : String → va_W → Prop} {k n pc : Nat} {lv : List (Nat × Value)} {st : List Value} {ws : va_W} {L : LI} (D : Lst Y L) (i : Nat) {idx : Nat} {v : Int32} (hi : L[i]? = some (pc, .ldc_w idx, 3)) (hw : gw (.constant (mnm Y).cls idx v)) (kt : Ev E Y Pr Px k n (pc + 3) lv (.int v :: st) ws) : Ev E Y Pr Px k n pc lv st ws := by
  intro p e R s m args below meth c H locs cells slots ls hC hl hS hP hc hn
  have hd := D _ (List.mem_of_getElem? hi)
  exact lv_ldcw hC.1 hC.2.1 hC.2.2.2.2.2.2.1 (hC.2.2.2.2.2.1 _ hw) hd (kt p e R s m args below meth c H locs cells slots ls hC hl hS hP hc hn)
def drwS (sd : Int32) : Int32 := (((1103515245 : Int64) * sd.toInt64 + 12345) - ((1103515245 : Int64) * sd.toInt64 + 12345) / 2147483648 * 2147483648).toInt32
def drwV (s m : Int32) : Int32 := s / 65536 - s / 65536 / m * m
def drwN (sd : Int32) (f : TF) : Int32 := drwV (drwS sd) (2 * f 3 + 1) - f 3
def bcP (x : Int32) : Int32 :=
  let a := x - ((x.toUInt32 >>> ((1 : Int32).toUInt32 &&& Int32.toUInt32 31)).toInt32 &&& 1431655765)
  let b := (a &&& 858993459) + ((a.toUInt32 >>> ((2 : Int32).toUInt32 &&& Int32.toUInt32 31)).toInt32 &&& 858993459)
  let c := (b + (b.toUInt32 >>> ((4 : Int32).toUInt32 &&& Int32.toUInt32 31)).toInt32) &&& 252645135
  let d := c + (c.toUInt32 >>> ((8 : Int32).toUInt32 &&& Int32.toUInt32 31)).toInt32
  let e := d + (d.toUInt32 >>> ((16 : Int32).toUInt32 &&& Int32.toUInt32 31)).toInt32
  e &&& 63
def recL (lt : Int64) (b hd : Int32) : Int64 := ((lt <<< (b.toInt64 &&& 63)) ||| hd.toInt64) &&& 1152921504606846975
def sumN (g : Nat → Int32) : Nat → Int32
  | 0 => 0
  | n + 1 => sumN g n + g n
def cntB (f : TF) (wb : Int32) : TF := if wb ≤ 0 then cntP f 0 else cntP f 1
set_option maxRecDepth 100000 in
set_option maxHeartbeats 4000000 in
theorem m_X1_draw {E : gE} {ws : va_W} {q a w0 w1 sg : Nat} {sd bt : Int32} {m : Int32} (h : ws[q]? = some (a, stC w0 w1 sg sd bt)) (hm : ¬ m ≤ 0) : CD E YX1_draw 0 0 [.ref a, .int m] ws (some (.int (drwV (drwS sd) m))) (ws.set q (a, stC w0 w1 sg (drwS sd) bt)) := by
  refine cdV vX1_draw (Nat.le_of_ble_eq_true rfl) (lv0 := [(0, .ref a), (1, .int m)]) rfl ?_
  refine ev_ss DX1_draw 1 0 (pc' := 1) (lv' := [(0, .ref _), (1, .int _)]) (st' := [.ref _]) rfl ?_
  refine ev_ldc2 DX1_draw 1 rfl kX1_50 ?_
  refine ev_ss DX1_draw 1 2 (pc' := 5) (lv' := [(0, .ref _), (1, .int _)]) (st' := [.ref _, .long _, .ref _]) rfl ?_
  refine ev_get DX1_draw 3 GX1 rfl (k0 := 3) (Nat.le_of_ble_eq_true rfl) fX1_25 h rfl ?_
  refine ev_ss DX1_draw 2 4 (pc' := 10) (lv' := [(0, .ref _), (1, .int _)]) (st' := [.long _, .ref _]) rfl ?_
  refine ev_ldc2 DX1_draw 6 rfl kX1_52 ?_
  refine ev_ss DX1_draw 1 7 (pc' := 14) (lv' := [(0, .ref _), (1, .int _)]) (st' := [.long _, .ref _]) rfl ?_
  refine ev_ldc2 DX1_draw 8 rfl kX1_54 ?_
  refine ev_lrem DX1_draw 9 rfl (by decide) ?_
  refine ev_ss DX1_draw 1 10 (pc' := 19) (lv' := [(0, .ref _), (1, .int _)]) (st' := [.int _, .ref _]) rfl ?_
  refine ev_put (fs' := [_, _, _, _, _]) DX1_draw 11 GX1 rfl (k0 := 3) (Nat.le_of_ble_eq_true rfl) fX1_25 rfl ⟨rfl, rfl⟩ h (Nat.le_of_ble_eq_true rfl) rfl rfl ?_
  refine ev_ss DX1_draw 1 12 (pc' := 23) (lv' := [(0, .ref _), (1, .int _)]) (st' := [.int _]) rfl ?_
  refine ev_ifle DX1_draw 13 rfl (tgt := 38) (by decide) (fun h => absurd h hm) (fun _ => ?_)
  refine ev_ss DX1_draw 1 14 (pc' := 27) (lv' := [(0, .ref _), (1, .int _)]) (st' := [.ref _]) rfl ?_
  refine ev_get DX1_draw 15 GX1 rfl (k0 := 3) (Nat.le_of_ble_eq_true rfl) fX1_25 (wset_get h) rfl ?_
  refine ev_ldc DX1_draw 16 rfl kX1_56 ?_
  refine ev_idiv DX1_draw 17 rfl (by decide) ?_
  refine ev_ss DX1_draw 1 18 (pc' := 34) (lv' := [(0, .ref _), (1, .int _)]) (st' := [.int _, .int _]) rfl ?_
  refine ev_irem DX1_draw 19 rfl (fun e => hm (by rw [e]; decide)) ?_
  refine ev_goto DX1_draw 20 rfl (tgt := 39) (by decide) ?_
  exact ev_iret DX1_draw 22 rfl rfl ⟨rfl, rfl⟩
set_option maxRecDepth 100000 in
set_option maxHeartbeats 4000000 in
theorem m_X1_drawNoise {E : gE} {ws : va_W} {q a w0 w1 sg : Nat} {sd bt : Int32} {q2 a2 : Nat} {f : TF} (h : ws[q]? = some (a, stC w0 w1 sg sd bt)) (h2 : ws[q2]? = some (a2, toneC f)) (hm : ¬ 2 * f 3 + 1 ≤ 0) : CD E YX1_drawNoise 0 0 [.ref a, .ref a2] ws (some (.int (drwN sd f))) (ws.set q (a, stC w0 w1 sg (drwS sd) bt)) := by
  refine cdV vX1_drawNoise (Nat.le_of_ble_eq_true rfl) (lv0 := [(0, .ref a), (1, .ref a2)]) rfl ?_
  refine ev_ss DX1_drawNoise 3 0 (pc' := 3) (lv' := [(0, .ref _), (1, .ref _)]) (st' := [.ref _, .int 2, .ref _]) rfl ?_
  refine ev_get DX1_drawNoise 3 GX3 rfl (k0 := 3) (Nat.le_of_ble_eq_true rfl) fX1_57 h2 rfl ?_
  refine ev_ss DX1_drawNoise 3 4 (pc' := 9) (lv' := [(0, .ref _), (1, .ref _)]) (st' := [.int _, .ref _]) rfl ?_
  refine ev_cV DX1_drawNoise 7 (m_X1_draw h hm) vX1_draw rfl qX1_62 rfl h rfl (hd_of rfl rfl rfl rfl) ?_
  refine ev_ss DX1_drawNoise 1 8 (pc' := 13) (lv' := [(0, .ref _), (1, .ref _)]) (st' := [.ref _, .int _]) rfl ?_
  refine ev_get DX1_drawNoise 9 GX3 rfl (k0 := 3) (Nat.le_of_ble_eq_true rfl) fX1_57 (wset_o h2 h rfl) rfl ?_
  refine ev_ss DX1_drawNoise 1 10 (pc' := 17) (lv' := [(0, .ref _), (1, .ref _)]) (st' := [.int _]) rfl ?_
  exact ev_iret DX1_drawNoise 11 rfl rfl ⟨rfl, rfl⟩
set_option maxRecDepth 100000 in
set_option maxHeartbeats 4000000 in
theorem m_J6_bitCount {E : gE} {ws : va_W} {x : Int32} : CD E YJ6_bitCount_0f7a4 0 0 [.int x] ws (some (.int (bcP x))) ws := by
  refine cdS vJ6_bitCount_0f7a4 (Nat.le_of_ble_eq_true rfl) (lv0 := [(0, .int x)]) rfl ?_
  refine ev_ss DJ6_bitCount_0f7a4 4 0 (pc' := 4) (lv' := [(0, .int _)]) (st' := [.int _, .int _]) rfl ?_
  refine ev_ldcw DJ6_bitCount_0f7a4 4 rfl kJ6_265 ?_
  refine ev_ss DJ6_bitCount_0f7a4 4 5 (pc' := 11) (lv' := [(0, .int _)]) (st' := [.int _]) rfl ?_
  refine ev_ldcw DJ6_bitCount_0f7a4 9 rfl kJ6_266 ?_
  refine ev_ss DJ6_bitCount_0f7a4 4 10 (pc' := 18) (lv' := [(0, .int _)]) (st' := [.int _, .int _]) rfl ?_
  refine ev_ldcw DJ6_bitCount_0f7a4 14 rfl kJ6_266 ?_
  refine ev_ss DJ6_bitCount_0f7a4 8 15 (pc' := 29) (lv' := [(0, .int _)]) (st' := [.int _]) rfl ?_
  refine ev_ldcw DJ6_bitCount_0f7a4 23 rfl kJ6_267 ?_
  refine ev_ss DJ6_bitCount_0f7a4 17 24 (pc' := 52) (lv' := [(0, .int _)]) (st' := [.int _]) rfl ?_
  exact ev_iret DJ6_bitCount_0f7a4 41 rfl rfl ⟨rfl, rfl⟩
set_option maxRecDepth 100000 in
set_option maxHeartbeats 4000000 in
theorem m_X5_receive {E : gE} {ws : va_W} {q a ta wt : Nat} {lt : Int64} {cm wr : Int32} {hd b wb : Int32} (h : ws[q]? = some (a, wayC ta wt lt cm wr)) : CD E YX5_receive 0 0 [.ref a, .int hd, .int b, .int wb] ws none (ws.set q (a, wayC ta wt (recL lt b hd) (cm + b) (wr + wb))) := by
  refine cdV vX5_receive (Nat.le_of_ble_eq_true rfl) (lv0 := [(0, .ref a), (1, .int hd), (2, .int b), (3, .int wb)]) rfl ?_
  refine ev_ss DX5_receive 2 0 (pc' := 2) (lv' := [(0, .ref _), (1, .int _), (2, .int _), (3, .int _)]) (st' := [.ref _, .ref _]) rfl ?_
  refine ev_get DX5_receive 2 GX5 rfl (k0 := 2) (Nat.le_of_ble_eq_true rfl) fX5_32 h rfl ?_
  refine ev_ss DX5_receive 5 3 (pc' := 10) (lv' := [(0, .ref _), (1, .int _), (2, .int _), (3, .int _)]) (st' := [.long _, .ref _]) rfl ?_
  refine ev_ldc2 DX5_receive 8 rfl kX5_43 ?_
  refine ev_ss DX5_receive 1 9 (pc' := 14) (lv' := [(0, .ref _), (1, .int _), (2, .int _), (3, .int _)]) (st' := [.long _, .ref _]) rfl ?_
  refine ev_put (fs' := [_, _, _, _, _]) DX5_receive 10 GX5 rfl (k0 := 2) (Nat.le_of_ble_eq_true rfl) fX5_32 rfl ⟨rfl, rfl⟩ h (Nat.le_of_ble_eq_true rfl) rfl rfl ?_
  refine ev_ss DX5_receive 2 11 (pc' := 19) (lv' := [(0, .ref _), (1, .int _), (2, .int _), (3, .int _)]) (st' := [.ref _, .ref _]) rfl ?_
  refine ev_get DX5_receive 13 GX5 rfl (k0 := 3) (Nat.le_of_ble_eq_true rfl) fX5_36 (wset_get h) rfl ?_
  refine ev_ss DX5_receive 2 14 (pc' := 24) (lv' := [(0, .ref _), (1, .int _), (2, .int _), (3, .int _)]) (st' := [.int _, .ref _]) rfl ?_
  refine ev_put (fs' := [_, _, _, _, _]) DX5_receive 16 GX5 rfl (k0 := 3) (Nat.le_of_ble_eq_true rfl) fX5_36 rfl ⟨rfl, rfl⟩ (wset_get h) (Nat.le_of_ble_eq_true rfl) rfl wset_set ?_
  refine ev_ss DX5_receive 2 17 (pc' := 29) (lv' := [(0, .ref _), (1, .int _), (2, .int _), (3, .int _)]) (st' := [.ref _, .ref _]) rfl ?_
  refine ev_get DX5_receive 19 GX5 rfl (k0 := 4) (Nat.le_of_ble_eq_true rfl) fX5_40 (wset_get h) rfl ?_
  refine ev_ss DX5_receive 2 20 (pc' := 34) (lv' := [(0, .ref _), (1, .int _), (2, .int _), (3, .int _)]) (st' := [.int _, .ref _]) rfl ?_
  refine ev_put (fs' := [_, _, _, _, _]) DX5_receive 22 GX5 rfl (k0 := 4) (Nat.le_of_ble_eq_true rfl) fX5_40 rfl ⟨rfl, rfl⟩ (wset_get h) (Nat.le_of_ble_eq_true rfl) rfl wset_set ?_
  exact ev_vret DX5_receive 23 rfl rfl ⟨rfl, rfl⟩
set_option maxRecDepth 100000 in
set_option maxHeartbeats 4000000 in
theorem m_X5_bits {E : gE} {ws : va_W} {q a ta wt : Nat} {lt : Int64} {cm wr : Int32} {qa : Nat} {fa : Nat → Option Nat} {tn : Nat → Nat} {g : Nat → TF} (h2 : ws[qa]? = some (ta, toA E fa)) (hfa : ∀ t, t < 8 → fa t = some (tn t)) (ht : ∀ t, t < 8 → ∃ qt : Nat, ws[qt]? = some (tn t, toneC (g t))) (h : ws[q]? = some (a, wayC ta wt lt cm wr)) : CD E YX5_bits 0 0 [.ref a] ws (some (.int (sumN (fun t => g t 10) 8))) ws := by
  obtain ⟨qt0, hT0⟩ := ht 0 (by decide)
  obtain ⟨qt1, hT1⟩ := ht 1 (by decide)
  obtain ⟨qt2, hT2⟩ := ht 2 (by decide)
  obtain ⟨qt3, hT3⟩ := ht 3 (by decide)
  obtain ⟨qt4, hT4⟩ := ht 4 (by decide)
  obtain ⟨qt5, hT5⟩ := ht 5 (by decide)
  obtain ⟨qt6, hT6⟩ := ht 6 (by decide)
  obtain ⟨qt7, hT7⟩ := ht 7 (by decide)
  refine cdV vX5_bits (Nat.le_of_ble_eq_true rfl) (lv0 := [(0, .ref a)]) rfl ?_
  refine ev_ss DX5_bits 6 0 (pc' := 7) (lv' := [(2, .int 0), (1, .int 0), (0, .ref _)]) (st' := [.int 8, .int 0]) rfl ?_
  refine ev_icge DX5_bits 6 rfl (tgt := 28) (by decide) (fun h => absurd h (by decide)) (fun _ => ?_)
  refine ev_ss DX5_bits 2 7 (pc' := 12) (lv' := [(2, .int 0), (1, .int 0), (0, .ref _)]) (st' := [.ref _, .int 0]) rfl ?_
  refine ev_get DX5_bits 9 GX5 rfl (k0 := 0) (Nat.le_of_ble_eq_true rfl) fX5_11 h rfl ?_
  refine ev_ss DX5_bits 1 10 (pc' := 16) (lv' := [(2, .int 0), (1, .int 0), (0, .ref _)]) (st' := [.int 0, .ref _, .int 0]) rfl ?_
  refine ev_aald4 DX5_bits 11 rfl h2 (by unfold vp_in; decide) (b := tn 0) (hfa 0 (by decide)) ?_
  refine ev_get DX5_bits 12 GX3 rfl (k0 := 10) (Nat.le_of_ble_eq_true rfl) fX5_45 hT0 rfl ?_
  refine ev_ss DX5_bits 3 13 (pc' := 25) (lv' := [(2, .int 1), (1, .int _), (0, .ref _)]) (st' := []) rfl ?_
  refine ev_goto DX5_bits 16 rfl (tgt := 4) (by decide) ?_
  refine ev_ss DX5_bits 2 4 (pc' := 7) (lv' := [(2, .int 1), (1, .int _), (0, .ref _)]) (st' := [.int 8, .int 1]) rfl ?_
  refine ev_icge DX5_bits 6 rfl (tgt := 28) (by decide) (fun h => absurd h (by decide)) (fun _ => ?_)
  refine ev_ss DX5_bits 2 7 (pc' := 12) (lv' := [(2, .int 1), (1, .int _), (0, .ref _)]) (st' := [.ref _, .int _]) rfl ?_
  refine ev_get DX5_bits 9 GX5 rfl (k0 := 0) (Nat.le_of_ble_eq_true rfl) fX5_11 h rfl ?_
  refine ev_ss DX5_bits 1 10 (pc' := 16) (lv' := [(2, .int 1), (1, .int _), (0, .ref _)]) (st' := [.int 1, .ref _, .int _]) rfl ?_
  refine ev_aald4 DX5_bits 11 rfl h2 (by unfold vp_in; decide) (b := tn 1) (hfa 1 (by decide)) ?_
  refine ev_get DX5_bits 12 GX3 rfl (k0 := 10) (Nat.le_of_ble_eq_true rfl) fX5_45 hT1 rfl ?_
  refine ev_ss DX5_bits 3 13 (pc' := 25) (lv' := [(2, .int 2), (1, .int _), (0, .ref _)]) (st' := []) rfl ?_
  refine ev_goto DX5_bits 16 rfl (tgt := 4) (by decide) ?_
  refine ev_ss DX5_bits 2 4 (pc' := 7) (lv' := [(2, .int 2), (1, .int _), (0, .ref _)]) (st' := [.int 8, .int 2]) rfl ?_
  refine ev_icge DX5_bits 6 rfl (tgt := 28) (by decide) (fun h => absurd h (by decide)) (fun _ => ?_)
  refine ev_ss DX5_bits 2 7 (pc' := 12) (lv' := [(2, .int 2), (1, .int _), (0, .ref _)]) (st' := [.ref _, .int _]) rfl ?_
  refine ev_get DX5_bits 9 GX5 rfl (k0 := 0) (Nat.le_of_ble_eq_true rfl) fX5_11 h rfl ?_
  refine ev_ss DX5_bits 1 10 (pc' := 16) (lv' := [(2, .int 2), (1, .int _), (0, .ref _)]) (st' := [.int 2, .ref _, .int _]) rfl ?_
  refine ev_aald4 DX5_bits 11 rfl h2 (by unfold vp_in; decide) (b := tn 2) (hfa 2 (by decide)) ?_
  refine ev_get DX5_bits 12 GX3 rfl (k0 := 10) (Nat.le_of_ble_eq_true rfl) fX5_45 hT2 rfl ?_
  refine ev_ss DX5_bits 3 13 (pc' := 25) (lv' := [(2, .int 3), (1, .int _), (0, .ref _)]) (st' := []) rfl ?_
  refine ev_goto DX5_bits 16 rfl (tgt := 4) (by decide) ?_
  refine ev_ss DX5_bits 2 4 (pc' := 7) (lv' := [(2, .int 3), (1, .int _), (0, .ref _)]) (st' := [.int 8, .int 3]) rfl ?_
  refine ev_icge DX5_bits 6 rfl (tgt := 28) (by decide) (fun h => absurd h (by decide)) (fun _ => ?_)
  refine ev_ss DX5_bits 2 7 (pc' := 12) (lv' := [(2, .int 3), (1, .int _), (0, .ref _)]) (st' := [.ref _, .int _]) rfl ?_
  refine ev_get DX5_bits 9 GX5 rfl (k0 := 0) (Nat.le_of_ble_eq_true rfl) fX5_11 h rfl ?_
  refine ev_ss DX5_bits 1 10 (pc' := 16) (lv' := [(2, .int 3), (1, .int _), (0, .ref _)]) (st' := [.int 3, .ref _, .int _]) rfl ?_
  refine ev_aald4 DX5_bits 11 rfl h2 (by unfold vp_in; decide) (b := tn 3) (hfa 3 (by decide)) ?_
  refine ev_get DX5_bits 12 GX3 rfl (k0 := 10) (Nat.le_of_ble_eq_true rfl) fX5_45 hT3 rfl ?_
  refine ev_ss DX5_bits 3 13 (pc' := 25) (lv' := [(2, .int 4), (1, .int _), (0, .ref _)]) (st' := []) rfl ?_
  refine ev_goto DX5_bits 16 rfl (tgt := 4) (by decide) ?_
  refine ev_ss DX5_bits 2 4 (pc' := 7) (lv' := [(2, .int 4), (1, .int _), (0, .ref _)]) (st' := [.int 8, .int 4]) rfl ?_
  refine ev_icge DX5_bits 6 rfl (tgt := 28) (by decide) (fun h => absurd h (by decide)) (fun _ => ?_)
  refine ev_ss DX5_bits 2 7 (pc' := 12) (lv' := [(2, .int 4), (1, .int _), (0, .ref _)]) (st' := [.ref _, .int _]) rfl ?_
  refine ev_get DX5_bits 9 GX5 rfl (k0 := 0) (Nat.le_of_ble_eq_true rfl) fX5_11 h rfl ?_
  refine ev_ss DX5_bits 1 10 (pc' := 16) (lv' := [(2, .int 4), (1, .int _), (0, .ref _)]) (st' := [.int 4, .ref _, .int _]) rfl ?_
  refine ev_aald4 DX5_bits 11 rfl h2 (by unfold vp_in; decide) (b := tn 4) (hfa 4 (by decide)) ?_
  refine ev_get DX5_bits 12 GX3 rfl (k0 := 10) (Nat.le_of_ble_eq_true rfl) fX5_45 hT4 rfl ?_
  refine ev_ss DX5_bits 3 13 (pc' := 25) (lv' := [(2, .int 5), (1, .int _), (0, .ref _)]) (st' := []) rfl ?_
  refine ev_goto DX5_bits 16 rfl (tgt := 4) (by decide) ?_
  refine ev_ss DX5_bits 2 4 (pc' := 7) (lv' := [(2, .int 5), (1, .int _), (0, .ref _)]) (st' := [.int 8, .int 5]) rfl ?_
  refine ev_icge DX5_bits 6 rfl (tgt := 28) (by decide) (fun h => absurd h (by decide)) (fun _ => ?_)
  refine ev_ss DX5_bits 2 7 (pc' := 12) (lv' := [(2, .int 5), (1, .int _), (0, .ref _)]) (st' := [.ref _, .int _]) rfl ?_
  refine ev_get DX5_bits 9 GX5 rfl (k0 := 0) (Nat.le_of_ble_eq_true rfl) fX5_11 h rfl ?_
  refine ev_ss DX5_bits 1 10 (pc' := 16) (lv' := [(2, .int 5), (1, .int _), (0, .ref _)]) (st' := [.int 5, .ref _, .int _]) rfl ?_
  refine ev_aald4 DX5_bits 11 rfl h2 (by unfold vp_in; decide) (b := tn 5) (hfa 5 (by decide)) ?_
  refine ev_get DX5_bits 12 GX3 rfl (k0 := 10) (Nat.le_of_ble_eq_true rfl) fX5_45 hT5 rfl ?_
  refine ev_ss DX5_bits 3 13 (pc' := 25) (lv' := [(2, .int 6), (1, .int _), (0, .ref _)]) (st' := []) rfl ?_
  refine ev_goto DX5_bits 16 rfl (tgt := 4) (by decide) ?_
  refine ev_ss DX5_bits 2 4 (pc' := 7) (lv' := [(2, .int 6), (1, .int _), (0, .ref _)]) (st' := [.int 8, .int 6]) rfl ?_
  refine ev_icge DX5_bits 6 rfl (tgt := 28) (by decide) (fun h => absurd h (by decide)) (fun _ => ?_)
  refine ev_ss DX5_bits 2 7 (pc' := 12) (lv' := [(2, .int 6), (1, .int _), (0, .ref _)]) (st' := [.ref _, .int _]) rfl ?_
  refine ev_get DX5_bits 9 GX5 rfl (k0 := 0) (Nat.le_of_ble_eq_true rfl) fX5_11 h rfl ?_
  refine ev_ss DX5_bits 1 10 (pc' := 16) (lv' := [(2, .int 6), (1, .int _), (0, .ref _)]) (st' := [.int 6, .ref _, .int _]) rfl ?_
  refine ev_aald4 DX5_bits 11 rfl h2 (by unfold vp_in; decide) (b := tn 6) (hfa 6 (by decide)) ?_
  refine ev_get DX5_bits 12 GX3 rfl (k0 := 10) (Nat.le_of_ble_eq_true rfl) fX5_45 hT6 rfl ?_
  refine ev_ss DX5_bits 3 13 (pc' := 25) (lv' := [(2, .int 7), (1, .int _), (0, .ref _)]) (st' := []) rfl ?_
  refine ev_goto DX5_bits 16 rfl (tgt := 4) (by decide) ?_
  refine ev_ss DX5_bits 2 4 (pc' := 7) (lv' := [(2, .int 7), (1, .int _), (0, .ref _)]) (st' := [.int 8, .int 7]) rfl ?_
  refine ev_icge DX5_bits 6 rfl (tgt := 28) (by decide) (fun h => absurd h (by decide)) (fun _ => ?_)
  refine ev_ss DX5_bits 2 7 (pc' := 12) (lv' := [(2, .int 7), (1, .int _), (0, .ref _)]) (st' := [.ref _, .int _]) rfl ?_
  refine ev_get DX5_bits 9 GX5 rfl (k0 := 0) (Nat.le_of_ble_eq_true rfl) fX5_11 h rfl ?_
  refine ev_ss DX5_bits 1 10 (pc' := 16) (lv' := [(2, .int 7), (1, .int _), (0, .ref _)]) (st' := [.int 7, .ref _, .int _]) rfl ?_
  refine ev_aald4 DX5_bits 11 rfl h2 (by unfold vp_in; decide) (b := tn 7) (hfa 7 (by decide)) ?_
  refine ev_get DX5_bits 12 GX3 rfl (k0 := 10) (Nat.le_of_ble_eq_true rfl) fX5_45 hT7 rfl ?_
  refine ev_ss DX5_bits 3 13 (pc' := 25) (lv' := [(2, .int 8), (1, .int _), (0, .ref _)]) (st' := []) rfl ?_
  refine ev_goto DX5_bits 16 rfl (tgt := 4) (by decide) ?_
  refine ev_ss DX5_bits 2 4 (pc' := 7) (lv' := [(2, .int 8), (1, .int _), (0, .ref _)]) (st' := [.int 8, .int 8]) rfl ?_
  refine ev_icge DX5_bits 6 rfl (tgt := 28) (by decide) (fun _ => ?_) (fun h => h.elim (by decide))
  refine ev_ss DX5_bits 1 17 (pc' := 29) (lv' := [(2, .int 8), (1, .int _), (0, .ref _)]) (st' := [.int _]) rfl ?_
  exact ev_iret DX5_bits 18 rfl rfl ⟨rfl, rfl⟩
set_option maxRecDepth 100000 in
set_option maxHeartbeats 4000000 in
theorem m_X5_shies {E : gE} {ws : va_W} {q a ta wt : Nat} {lt : Int64} {cm wr : Int32} {qa : Nat} {fa : Nat → Option Nat} {tn : Nat → Nat} {g : Nat → TF} (h2 : ws[qa]? = some (ta, toA E fa)) (hfa : ∀ t, t < 8 → fa t = some (tn t)) (ht : ∀ t, t < 8 → ∃ qt : Nat, ws[qt]? = some (tn t, toneC (g t))) (h : ws[q]? = some (a, wayC ta wt lt cm wr)) : CD E YX5_shies 0 0 [.ref a] ws (some (.int (sumN (fun t => g t 13) 8))) ws := by
  obtain ⟨qt0, hT0⟩ := ht 0 (by decide)
  obtain ⟨qt1, hT1⟩ := ht 1 (by decide)
  obtain ⟨qt2, hT2⟩ := ht 2 (by decide)
  obtain ⟨qt3, hT3⟩ := ht 3 (by decide)
  obtain ⟨qt4, hT4⟩ := ht 4 (by decide)
  obtain ⟨qt5, hT5⟩ := ht 5 (by decide)
  obtain ⟨qt6, hT6⟩ := ht 6 (by decide)
  obtain ⟨qt7, hT7⟩ := ht 7 (by decide)
  refine cdV vX5_shies (Nat.le_of_ble_eq_true rfl) (lv0 := [(0, .ref a)]) rfl ?_
  refine ev_ss DX5_shies 6 0 (pc' := 7) (lv' := [(2, .int 0), (1, .int 0), (0, .ref _)]) (st' := [.int 8, .int 0]) rfl ?_
  refine ev_icge DX5_shies 6 rfl (tgt := 28) (by decide) (fun h => absurd h (by decide)) (fun _ => ?_)
  refine ev_ss DX5_shies 2 7 (pc' := 12) (lv' := [(2, .int 0), (1, .int 0), (0, .ref _)]) (st' := [.ref _, .int 0]) rfl ?_
  refine ev_get DX5_shies 9 GX5 rfl (k0 := 0) (Nat.le_of_ble_eq_true rfl) fX5_11 h rfl ?_
  refine ev_ss DX5_shies 1 10 (pc' := 16) (lv' := [(2, .int 0), (1, .int 0), (0, .ref _)]) (st' := [.int 0, .ref _, .int 0]) rfl ?_
  refine ev_aald4 DX5_shies 11 rfl h2 (by unfold vp_in; decide) (b := tn 0) (hfa 0 (by decide)) ?_
  refine ev_get DX5_shies 12 GX3 rfl (k0 := 13) (Nat.le_of_ble_eq_true rfl) fX5_48 hT0 rfl ?_
  refine ev_ss DX5_shies 3 13 (pc' := 25) (lv' := [(2, .int 1), (1, .int _), (0, .ref _)]) (st' := []) rfl ?_
  refine ev_goto DX5_shies 16 rfl (tgt := 4) (by decide) ?_
  refine ev_ss DX5_shies 2 4 (pc' := 7) (lv' := [(2, .int 1), (1, .int _), (0, .ref _)]) (st' := [.int 8, .int 1]) rfl ?_
  refine ev_icge DX5_shies 6 rfl (tgt := 28) (by decide) (fun h => absurd h (by decide)) (fun _ => ?_)
  refine ev_ss DX5_shies 2 7 (pc' := 12) (lv' := [(2, .int 1), (1, .int _), (0, .ref _)]) (st' := [.ref _, .int _]) rfl ?_
  refine ev_get DX5_shies 9 GX5 rfl (k0 := 0) (Nat.le_of_ble_eq_true rfl) fX5_11 h rfl ?_
  refine ev_ss DX5_shies 1 10 (pc' := 16) (lv' := [(2, .int 1), (1, .int _), (0, .ref _)]) (st' := [.int 1, .ref _, .int _]) rfl ?_
  refine ev_aald4 DX5_shies 11 rfl h2 (by unfold vp_in; decide) (b := tn 1) (hfa 1 (by decide)) ?_
  refine ev_get DX5_shies 12 GX3 rfl (k0 := 13) (Nat.le_of_ble_eq_true rfl) fX5_48 hT1 rfl ?_
  refine ev_ss DX5_shies 3 13 (pc' := 25) (lv' := [(2, .int 2), (1, .int _), (0, .ref _)]) (st' := []) rfl ?_
  refine ev_goto DX5_shies 16 rfl (tgt := 4) (by decide) ?_
  refine ev_ss DX5_shies 2 4 (pc' := 7) (lv' := [(2, .int 2), (1, .int _), (0, .ref _)]) (st' := [.int 8, .int 2]) rfl ?_
  refine ev_icge DX5_shies 6 rfl (tgt := 28) (by decide) (fun h => absurd h (by decide)) (fun _ => ?_)
  refine ev_ss DX5_shies 2 7 (pc' := 12) (lv' := [(2, .int 2), (1, .int _), (0, .ref _)]) (st' := [.ref _, .int _]) rfl ?_
  refine ev_get DX5_shies 9 GX5 rfl (k0 := 0) (Nat.le_of_ble_eq_true rfl) fX5_11 h rfl ?_
  refine ev_ss DX5_shies 1 10 (pc' := 16) (lv' := [(2, .int 2), (1, .int _), (0, .ref _)]) (st' := [.int 2, .ref _, .int _]) rfl ?_
  refine ev_aald4 DX5_shies 11 rfl h2 (by unfold vp_in; decide) (b := tn 2) (hfa 2 (by decide)) ?_
  refine ev_get DX5_shies 12 GX3 rfl (k0 := 13) (Nat.le_of_ble_eq_true rfl) fX5_48 hT2 rfl ?_
  refine ev_ss DX5_shies 3 13 (pc' := 25) (lv' := [(2, .int 3), (1, .int _), (0, .ref _)]) (st' := []) rfl ?_
  refine ev_goto DX5_shies 16 rfl (tgt := 4) (by decide) ?_
  refine ev_ss DX5_shies 2 4 (pc' := 7) (lv' := [(2, .int 3), (1, .int _), (0, .ref _)]) (st' := [.int 8, .int 3]) rfl ?_
  refine ev_icge DX5_shies 6 rfl (tgt := 28) (by decide) (fun h => absurd h (by decide)) (fun _ => ?_)
  refine ev_ss DX5_shies 2 7 (pc' := 12) (lv' := [(2, .int 3), (1, .int _), (0, .ref _)]) (st' := [.ref _, .int _]) rfl ?_
  refine ev_get DX5_shies 9 GX5 rfl (k0 := 0) (Nat.le_of_ble_eq_true rfl) fX5_11 h rfl ?_
  refine ev_ss DX5_shies 1 10 (pc' := 16) (lv' := [(2, .int 3), (1, .int _), (0, .ref _)]) (st' := [.int 3, .ref _, .int _]) rfl ?_
  refine ev_aald4 DX5_shies 11 rfl h2 (by unfold vp_in; decide) (b := tn 3) (hfa 3 (by decide)) ?_
  refine ev_get DX5_shies 12 GX3 rfl (k0 := 13) (Nat.le_of_ble_eq_true rfl) fX5_48 hT3 rfl ?_
  refine ev_ss DX5_shies 3 13 (pc' := 25) (lv' := [(2, .int 4), (1, .int _), (0, .ref _)]) (st' := []) rfl ?_
  refine ev_goto DX5_shies 16 rfl (tgt := 4) (by decide) ?_
  refine ev_ss DX5_shies 2 4 (pc' := 7) (lv' := [(2, .int 4), (1, .int _), (0, .ref _)]) (st' := [.int 8, .int 4]) rfl ?_
  refine ev_icge DX5_shies 6 rfl (tgt := 28) (by decide) (fun h => absurd h (by decide)) (fun _ => ?_)
  refine ev_ss DX5_shies 2 7 (pc' := 12) (lv' := [(2, .int 4), (1, .int _), (0, .ref _)]) (st' := [.ref _, .int _]) rfl ?_
  refine ev_get DX5_shies 9 GX5 rfl (k0 := 0) (Nat.le_of_ble_eq_true rfl) fX5_11 h rfl ?_
  refine ev_ss DX5_shies 1 10 (pc' := 16) (lv' := [(2, .int 4), (1, .int _), (0, .ref _)]) (st' := [.int 4, .ref _, .int _]) rfl ?_
  refine ev_aald4 DX5_shies 11 rfl h2 (by unfold vp_in; decide) (b := tn 4) (hfa 4 (by decide)) ?_
  refine ev_get DX5_shies 12 GX3 rfl (k0 := 13) (Nat.le_of_ble_eq_true rfl) fX5_48 hT4 rfl ?_
  refine ev_ss DX5_shies 3 13 (pc' := 25) (lv' := [(2, .int 5), (1, .int _), (0, .ref _)]) (st' := []) rfl ?_
  refine ev_goto DX5_shies 16 rfl (tgt := 4) (by decide) ?_
  refine ev_ss DX5_shies 2 4 (pc' := 7) (lv' := [(2, .int 5), (1, .int _), (0, .ref _)]) (st' := [.int 8, .int 5]) rfl ?_
  refine ev_icge DX5_shies 6 rfl (tgt := 28) (by decide) (fun h => absurd h (by decide)) (fun _ => ?_)
  refine ev_ss DX5_shies 2 7 (pc' := 12) (lv' := [(2, .int 5), (1, .int _), (0, .ref _)]) (st' := [.ref _, .int _]) rfl ?_
  refine ev_get DX5_shies 9 GX5 rfl (k0 := 0) (Nat.le_of_ble_eq_true rfl) fX5_11 h rfl ?_
  refine ev_ss DX5_shies 1 10 (pc' := 16) (lv' := [(2, .int 5), (1, .int _), (0, .ref _)]) (st' := [.int 5, .ref _, .int _]) rfl ?_
  refine ev_aald4 DX5_shies 11 rfl h2 (by unfold vp_in; decide) (b := tn 5) (hfa 5 (by decide)) ?_
  refine ev_get DX5_shies 12 GX3 rfl (k0 := 13) (Nat.le_of_ble_eq_true rfl) fX5_48 hT5 rfl ?_
  refine ev_ss DX5_shies 3 13 (pc' := 25) (lv' := [(2, .int 6), (1, .int _), (0, .ref _)]) (st' := []) rfl ?_
  refine ev_goto DX5_shies 16 rfl (tgt := 4) (by decide) ?_
  refine ev_ss DX5_shies 2 4 (pc' := 7) (lv' := [(2, .int 6), (1, .int _), (0, .ref _)]) (st' := [.int 8, .int 6]) rfl ?_
  refine ev_icge DX5_shies 6 rfl (tgt := 28) (by decide) (fun h => absurd h (by decide)) (fun _ => ?_)
  refine ev_ss DX5_shies 2 7 (pc' := 12) (lv' := [(2, .int 6), (1, .int _), (0, .ref _)]) (st' := [.ref _, .int _]) rfl ?_
  refine ev_get DX5_shies 9 GX5 rfl (k0 := 0) (Nat.le_of_ble_eq_true rfl) fX5_11 h rfl ?_
  refine ev_ss DX5_shies 1 10 (pc' := 16) (lv' := [(2, .int 6), (1, .int _), (0, .ref _)]) (st' := [.int 6, .ref _, .int _]) rfl ?_
  refine ev_aald4 DX5_shies 11 rfl h2 (by unfold vp_in; decide) (b := tn 6) (hfa 6 (by decide)) ?_
  refine ev_get DX5_shies 12 GX3 rfl (k0 := 13) (Nat.le_of_ble_eq_true rfl) fX5_48 hT6 rfl ?_
  refine ev_ss DX5_shies 3 13 (pc' := 25) (lv' := [(2, .int 7), (1, .int _), (0, .ref _)]) (st' := []) rfl ?_
  refine ev_goto DX5_shies 16 rfl (tgt := 4) (by decide) ?_
  refine ev_ss DX5_shies 2 4 (pc' := 7) (lv' := [(2, .int 7), (1, .int _), (0, .ref _)]) (st' := [.int 8, .int 7]) rfl ?_
  refine ev_icge DX5_shies 6 rfl (tgt := 28) (by decide) (fun h => absurd h (by decide)) (fun _ => ?_)
  refine ev_ss DX5_shies 2 7 (pc' := 12) (lv' := [(2, .int 7), (1, .int _), (0, .ref _)]) (st' := [.ref _, .int _]) rfl ?_
  refine ev_get DX5_shies 9 GX5 rfl (k0 := 0) (Nat.le_of_ble_eq_true rfl) fX5_11 h rfl ?_
  refine ev_ss DX5_shies 1 10 (pc' := 16) (lv' := [(2, .int 7), (1, .int _), (0, .ref _)]) (st' := [.int 7, .ref _, .int _]) rfl ?_
  refine ev_aald4 DX5_shies 11 rfl h2 (by unfold vp_in; decide) (b := tn 7) (hfa 7 (by decide)) ?_
  refine ev_get DX5_shies 12 GX3 rfl (k0 := 13) (Nat.le_of_ble_eq_true rfl) fX5_48 hT7 rfl ?_
  refine ev_ss DX5_shies 3 13 (pc' := 25) (lv' := [(2, .int 8), (1, .int _), (0, .ref _)]) (st' := []) rfl ?_
  refine ev_goto DX5_shies 16 rfl (tgt := 4) (by decide) ?_
  refine ev_ss DX5_shies 2 4 (pc' := 7) (lv' := [(2, .int 8), (1, .int _), (0, .ref _)]) (st' := [.int 8, .int 8]) rfl ?_
  refine ev_icge DX5_shies 6 rfl (tgt := 28) (by decide) (fun _ => ?_) (fun h => h.elim (by decide))
  refine ev_ss DX5_shies 1 17 (pc' := 29) (lv' := [(2, .int 8), (1, .int _), (0, .ref _)]) (st' := [.int _]) rfl ?_
  exact ev_iret DX5_shies 18 rfl rfl ⟨rfl, rfl⟩
def insP (g : Nat → TF) (t : Nat) : Int32 := if g t 4 = 0 then 0 else 1
set_option maxRecDepth 100000 in
set_option maxHeartbeats 4000000 in
theorem m_X5_insulted {E : gE} {ws : va_W} {q a ta wt : Nat} {lt : Int64} {cm wr : Int32} {qa : Nat} {fa : Nat → Option Nat} {tn : Nat → Nat} {g : Nat → TF} (h2 : ws[qa]? = some (ta, toA E fa)) (hfa : ∀ t, t < 8 → fa t = some (tn t)) (ht : ∀ t, t < 8 → ∃ qt : Nat, ws[qt]? = some (tn t, toneC (g t))) (h : ws[q]? = some (a, wayC ta wt lt cm wr)) : CD E YX5_insulted 0 0 [.ref a] ws (some (.int (sumN (insP g) 8))) ws := by
  refine cdV vX5_insulted (Nat.le_of_ble_eq_true rfl) (lv0 := [(0, .ref a)]) rfl ?_
  suffices K : ∀ (m i : Nat) (x : Int32), i + m = 8 → x = nI i → Ev E YX5_insulted (fun v2 w2 => v2 = some (.int (sumN (insP g) 8)) ∧ w2 = ws) nX 0 0 4 [(0, .ref a), (1, .int (sumN (insP g) i)), (2, .int x)] [] ws by
    refine ev_ss DX5_insulted 4 0 (pc' := 4) (lv' := [(2, .int 0), (1, .int 0), (0, .ref _)]) (st' := []) rfl ?_
    refine ev_lvp (lv2 := [(0, .ref _), (1, .int _), (2, .int _)]) [2, 1, 0] rfl ?_
    exact K 8 0 _ rfl nI_0.symm
  intro m
  induction m with
  | zero =>
    intro i x hi hx
    obtain rfl : i = 8 := by omega
    subst hx
    refine ev_ss DX5_insulted 2 4 (pc' := 7) (lv' := [(0, .ref _), (1, .int _), (2, .int _)]) (st' := [.int 8, .int _]) rfl ?_
    refine ev_icge DX5_insulted 6 rfl (tgt := 36) (by decide) (fun _ => ?_) (fun h => h.elim (by decide))
    refine ev_ss DX5_insulted 1 21 (pc' := 37) (lv' := [(0, .ref _), (1, .int _), (2, .int _)]) (st' := [.int _]) rfl ?_
    exact ev_iret DX5_insulted 22 rfl rfl ⟨rfl, rfl⟩
  | succ m ih =>
    intro i x hi hx
    subst hx
    obtain ⟨qt, hT⟩ := ht i (by omega)
    refine ev_ss DX5_insulted 2 4 (pc' := 7) (lv' := [(0, .ref _), (1, .int _), (2, .int _)]) (st' := [.int 8, .int _]) rfl ?_
    refine ev_icge DX5_insulted 6 rfl (tgt := 36) (by decide) (fun h => absurd h (nI_ge (b := 8) (by omega) (by decide))) (fun _ => ?_)
    refine ev_ss DX5_insulted 2 7 (pc' := 12) (lv' := [(0, .ref _), (1, .int _), (2, .int _)]) (st' := [.ref _, .int _]) rfl ?_
    refine ev_get DX5_insulted 9 GX5 rfl (k0 := 0) (Nat.le_of_ble_eq_true rfl) fX5_11 h rfl ?_
    refine ev_ss DX5_insulted 1 10 (pc' := 16) (lv' := [(0, .ref _), (1, .int _), (2, .int _)]) (st' := [.int _, .ref _, .int _]) rfl ?_
    refine ev_aald4 DX5_insulted 11 rfl h2 (vp_in_nI (by omega) (by decide)) (b := tn i) (by rw [nI_clamp (by omega)]; exact hfa i (by omega)) ?_
    refine ev_get DX5_insulted 12 GX3 rfl (k0 := 4) (Nat.le_of_ble_eq_true rfl) fX5_51 hT rfl ?_
    refine ev_ifeq DX5_insulted 13 rfl (tgt := 27) (by decide) (fun c_1 => ?_) (fun c_1 => ?_)
    · refine ev_ss DX5_insulted 4 16 (pc' := 33) (lv' := [(2, .int _), (1, .int _), (0, .ref _)]) (st' := []) rfl ?_
      refine ev_goto DX5_insulted 20 rfl (tgt := 4) (by decide) ?_
      refine ev_lvp (lv2 := [(0, .ref _), (1, .int _), (2, .int _)]) [2, 1, 0] rfl ?_
      have e : sumN (insP g) (i + 1) = sumN (insP g) i + insP g i := rfl
      have e2 : insP g i = 0 := if_pos c_1
      rw [e2] at e
      have e3 := ih (i + 1) (nI i + 1) (by omega) (nI_1 i)
      rw [e] at e3
      exact e3
    · refine ev_ss DX5_insulted 1 14 (pc' := 24) (lv' := [(0, .ref _), (1, .int _), (2, .int _)]) (st' := [.int 1, .int _]) rfl ?_
      refine ev_goto DX5_insulted 15 rfl (tgt := 28) (by decide) ?_
      refine ev_ss DX5_insulted 3 17 (pc' := 33) (lv' := [(2, .int _), (1, .int _), (0, .ref _)]) (st' := []) rfl ?_
      refine ev_goto DX5_insulted 20 rfl (tgt := 4) (by decide) ?_
      refine ev_lvp (lv2 := [(0, .ref _), (1, .int _), (2, .int _)]) [2, 1, 0] rfl ?_
      have e : sumN (insP g) (i + 1) = sumN (insP g) i + insP g i := rfl
      have e2 : insP g i = 1 := if_neg c_1
      rw [e2] at e
      have e3 := ih (i + 1) (nI i + 1) (by omega) (nI_1 i)
      rw [e] at e3
      exact e3
set_option maxRecDepth 100000 in
set_option maxHeartbeats 4000000 in
theorem m_X1_wayAt_0 {E : gE} {ws : va_W} {q a w0 w1 sg : Nat} {sd bt : Int32} (h : ws[q]? = some (a, stC w0 w1 sg sd bt)) : CD E YX1_wayAt 0 0 [.ref a, .int 0] ws (some (.ref w0)) ws := by
  refine cdV vX1_wayAt (Nat.le_of_ble_eq_true rfl) (lv0 := [(0, .ref a), (1, .int 0)]) rfl ?_
  refine ev_ss DX1_wayAt 1 0 (pc' := 1) (lv' := [(0, .ref _), (1, .int 0)]) (st' := [.int 0]) rfl ?_
  refine ev_ifne DX1_wayAt 1 rfl (tgt := 11) (by decide) (fun h => h.elim (by decide)) (fun _ => ?_)
  refine ev_ss DX1_wayAt 1 2 (pc' := 5) (lv' := [(0, .ref _), (1, .int 0)]) (st' := [.ref _]) rfl ?_
  refine ev_get DX1_wayAt 3 GX1 rfl (k0 := 0) (Nat.le_of_ble_eq_true rfl) fX1_12 h rfl ?_
  refine ev_goto DX1_wayAt 4 rfl (tgt := 15) (by decide) ?_
  exact ev_aret DX1_wayAt 7 rfl rfl ⟨rfl, rfl⟩
set_option maxRecDepth 100000 in
set_option maxHeartbeats 4000000 in
theorem m_X1_wayAt_1 {E : gE} {ws : va_W} {q a w0 w1 sg : Nat} {sd bt : Int32} (h : ws[q]? = some (a, stC w0 w1 sg sd bt)) : CD E YX1_wayAt 0 0 [.ref a, .int 1] ws (some (.ref w1)) ws := by
  refine cdV vX1_wayAt (Nat.le_of_ble_eq_true rfl) (lv0 := [(0, .ref a), (1, .int 1)]) rfl ?_
  refine ev_ss DX1_wayAt 1 0 (pc' := 1) (lv' := [(0, .ref _), (1, .int 1)]) (st' := [.int 1]) rfl ?_
  refine ev_ifne DX1_wayAt 1 rfl (tgt := 11) (by decide) (fun _ => ?_) (fun h => absurd h (by decide))
  refine ev_ss DX1_wayAt 1 5 (pc' := 12) (lv' := [(0, .ref _), (1, .int 1)]) (st' := [.ref _]) rfl ?_
  refine ev_get DX1_wayAt 6 GX1 rfl (k0 := 1) (Nat.le_of_ble_eq_true rfl) fX1_18 h rfl ?_
  exact ev_aret DX1_wayAt 7 rfl rfl ⟨rfl, rfl⟩
