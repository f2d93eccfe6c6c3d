/-! the law's own modems: ten arrays, cells 214 to 223 -/
section EVO
variable {E : gE} {Y : MI} {Pr : Option Value → va_W → Prop} {Px : String → va_W → Prop} {k n : Nat} {ws : va_W} {L : LI} {pc : Nat} {lv : List (Nat × Value)} {st : List Value}
theorem ev_ior (D : Lst Y L) (i : Nat) {x y : Int32} (hi : L[i]? = some (pc, .ior, 1)) (kt : Ev E Y Pr Px k n (pc + 1) lv (.int (x ||| y) :: st) ws) : Ev E Y Pr Px k n pc lv (.int y :: .int x :: st) ws := by
  intro p e R s m args below meth c H locs cells slots ls hC hl hS hP hc hn
  have hd := D _ (List.mem_of_getElem? hi)
  exact lv_ior hC.1 hC.2.1 hd (kt p e R s m args below meth c H locs cells slots ls hC hl hS hP hc hn)
end EVO
theorem nx_div {x y : Int32} {a d : Nat} (hx : x = nI a) (hy : y = nI d) (ha : a < 2 ^ 31) (h0 : 0 < d) (hd : d < 2 ^ 31) : x / y = nI (a / d) := by
  rw [hx, hy]
  exact pk_div ha h0 hd
def mQ (j : Nat) : Nat := j
def mU (j : Nat) : Nat := if j = 3 then 11 else 4 + j
def mA (j : Nat) : Nat := 7 + j
def mN (j : Nat) : Nat := 12 + j
def mD (j : Nat) : Nat := 16 + j
/-- a row of four numbers a tone -/
def A4 (m : Nat → Nat) (g : Nat → Int32) (p : PS) : Prop := ∀ y k j, y < 2 → k < 8 → j < 4 → g (4 * (8 * y + k) + j) = (pW p y).1 k (m j)
def A2 (m : Nat → Nat) (g : Nat → Int32) (p : PS) : Prop := ∀ y k j, y < 2 → k < 8 → j < 2 → g (2 * (8 * y + k) + j) = (pW p y).1 k (m j)
def LT (zq zu za zn zd : Nat → Int32) (p : PS) : Prop := A4 mQ zq p ∧ A4 mU zu p ∧ A4 mA za p ∧ A4 mN zn p ∧ A2 mD zd p
def LW (zw zc : Nat → Int32) (zh : Nat → Int64) (p : PS) : Prop := (∀ y i, y < 2 → i < (pW p y).2.1.length → zw (32 * y + i) = (pW p y).2.1.getD i 0) ∧ (∀ y, y < 2 → (pW p y).2.1.length ≤ 32 ∧ zc (2 + y) = nI (pW p y).2.1.length ∧ zc (4 + y) = (pW p y).2.2.2.1 ∧ zc (6 + y) = (pW p y).2.2.2.2 ∧ zh y = (pW p y).2.2.1) ∧ zc 0 = p.2.1 ∧ zc 1 = p.1
def LSe (zt : Nat → Int32) (p : PS) : Prop := ∀ j, j < 3 → zt j = p.2.2.1 j
theorem A4.set {m : Nat → Nat} {g g2 : Nat → Int32} {p : PS} {a t : Nat} {f F : TF} (h : A4 m g (pTone p a t f)) (ha : a < 2) (ht : t < 8) (hb : ∀ j, j < 4 → g2 (4 * (8 * a + t) + j) = F (m j)) (ho : ∀ i, (i < 4 * (8 * a + t) ∨ 4 * (8 * a + t) + 4 ≤ i) → g2 i = g i) : A4 m g2 (pTone p a t F) := by
  intro y k j hy hk hj
  by_cases e : y = a ∧ k = t
  · obtain ⟨rfl, rfl⟩ := e
    rw [hb j hj, pT_same]
  · rw [ho _ (by omega), h y k j hy hk hj]
    exact pT_diff ha hy (Or.inl e)
theorem A2.set {m : Nat → Nat} {g g2 : Nat → Int32} {p : PS} {a t : Nat} {f F : TF} (h : A2 m g (pTone p a t f)) (ha : a < 2) (ht : t < 8) (hb : ∀ j, j < 2 → g2 (2 * (8 * a + t) + j) = F (m j)) (ho : ∀ i, (i < 2 * (8 * a + t) ∨ 2 * (8 * a + t) + 2 ≤ i) → g2 i = g i) : A2 m g2 (pTone p a t F) := by
  intro y k j hy hk hj
  by_cases e : y = a ∧ k = t
  · obtain ⟨rfl, rfl⟩ := e
    rw [hb j hj, pT_same]
  · rw [ho _ (by omega), h y k j hy hk hj]
    exact pT_diff ha hy (Or.inl e)
theorem A4.keep {m : Nat → Nat} {g : Nat → Int32} {p : PS} {a t : Nat} {f F : TF} (h : A4 m g (pTone p a t f)) (ha : a < 2) (ht : t < 8) (hF : ∀ j, j < 4 → F (m j) = f (m j)) : A4 m g (pTone p a t F) :=
  h.set ha ht (fun j hj => by rw [hF j hj, h a t j ha ht hj, pT_same]) (fun _ _ => rfl)
theorem A2.keep {m : Nat → Nat} {g : Nat → Int32} {p : PS} {a t : Nat} {f F : TF} (h : A2 m g (pTone p a t f)) (ha : a < 2) (ht : t < 8) (hF : ∀ j, j < 2 → F (m j) = f (m j)) : A2 m g (pTone p a t F) :=
  h.set ha ht (fun j hj => by rw [hF j hj, h a t j ha ht hj, pT_same]) (fun _ _ => rfl)
theorem A4.at {m : Nat → Nat} {g : Nat → Int32} {p : PS} {a t : Nat} (h : A4 m g p) (ha : a < 2) (ht : t < 8) : ∀ j, j < 4 → g (4 * (8 * a + t) + j) = (pW p a).1 t (m j) := fun j hj => h a t j ha ht hj
theorem A2.at {m : Nat → Nat} {g : Nat → Int32} {p : PS} {a t : Nat} (h : A2 m g p) (ha : a < 2) (ht : t < 8) : ∀ j, j < 2 → g (2 * (8 * a + t) + j) = (pW p a).1 t (m j) := fun j hj => h a t j ha ht hj
theorem j4 {P : Nat → Prop} (h0 : P 0) (h1 : P 1) (h2 : P 2) (h3 : P 3) : ∀ j, j < 4 → P j := fun j hj => by
  rcases (show j = 0 ∨ j = 1 ∨ j = 2 ∨ j = 3 by omega) with rfl | rfl | rfl | rfl
  · exact h0
  · exact h1
  · exact h2
  · exact h3
theorem j2 {P : Nat → Prop} (h0 : P 0) (h1 : P 1) : ∀ j, j < 2 → P j := fun j hj => by
  rcases (show j = 0 ∨ j = 1 by omega) with rfl | rfl
  · exact h0
  · exact h1
theorem LT.id {zq zu za zn zd : Nat → Int32} {p : PS} {a t : Nat} (h : LT zq zu za zn zd p) : LT zq zu za zn zd (pTone p a t ((pW p a).1 t)) := by
  rw [pT_id]
  exact h
/-- the ways, but for the tones, are as they were; the seed may be another -/
theorem LW.to {zw zc zc2 : Nat → Int32} {zh : Nat → Int64} {p p2 : PS} (h : LW zw zc zh p) (e : ∀ y, y < 2 → (pW p2 y).2 = (pW p y).2) (ec : ∀ j, j ≠ 1 → zc2 j = zc j) (hb : p2.2.1 = p.2.1) (hs : zc2 1 = p2.1) : LW zw zc2 zh p2 := by
  obtain ⟨h1, h2, h3, h4⟩ := h
  refine ⟨fun y i hy hi => ?_, fun y hy => ?_, ?_, hs⟩
  · rw [e y hy] at hi ⊢
    exact h1 y i hy hi
  · rw [e y hy, ec _ (by omega), ec _ (by omega), ec _ (by omega)]
    exact h2 y hy
  · rw [ec 0 (by decide), hb]
    exact h3
def LC (E : gE) (ad : Nat → Nat) (ws : va_W) (zq zu za zn zd zw zc zt ze : Nat → Int32) (zh : Nat → Int64) : Prop := ws[214]? = some (ad 214, iaC E 64 zq) ∧ ws[215]? = some (ad 215, iaC E 64 zu) ∧ ws[216]? = some (ad 216, iaC E 64 za) ∧ ws[217]? = some (ad 217, iaC E 64 zn) ∧ ws[218]? = some (ad 218, iaC E 32 zd) ∧ ws[219]? = some (ad 219, iaC E 64 zw) ∧ ws[220]? = some (ad 220, iaC E 8 zc) ∧ ws[221]? = some (ad 221, iaC E 3 zt) ∧ ws[222]? = some (ad 222, iaC E 64 ze) ∧ ws[223]? = some (ad 223, laC E 2 zh)
/-- nothing has changed but the law's arrays -/
def MO (ws w : va_W) : Prop := ∀ j, j < 214 ∨ 224 ≤ j → w[j]? = ws[j]?
theorem MO.rf {ws : va_W} : MO ws ws := fun _ _ => rfl
theorem MO.tr {ws w w2 : va_W} (h : MO ws w) (h2 : MO w w2) : MO ws w2 := fun j a => (h2 j a).trans (h j a)
theorem MO.st {ws w : va_W} {j : Nat} {x : Nat × va_E} (h : MO ws w) (h1 : 214 ≤ j) (h2 : j < 224) : MO ws (w.set j x) := h.tr (fun k hk => List.getElem?_set_ne (by omega))
theorem LC.of {E : gE} {ad : Nat → Nat} {ws w : va_W} {zq zu za zn zd zw zc zt ze : Nat → Int32} {zh : Nat → Int64} (h : LC E ad ws zq zu za zn zd zw zc zt ze zh) (hf : ∀ j, 214 ≤ j → j < 224 → w[j]? = ws[j]?) : LC E ad w zq zu za zn zd zw zc zt ze zh := by
  obtain ⟨h1, h2, h3, h4, h5, h6, h7, h8, h9, h10⟩ := h
  exact ⟨(hf _ (by decide) (by decide)).trans h1, (hf _ (by decide) (by decide)).trans h2, (hf _ (by decide) (by decide)).trans h3, (hf _ (by decide) (by decide)).trans h4, (hf _ (by decide) (by decide)).trans h5, (hf _ (by decide) (by decide)).trans h6, (hf _ (by decide) (by decide)).trans h7, (hf _ (by decide) (by decide)).trans h8, (hf _ (by decide) (by decide)).trans h9, (hf _ (by decide) (by decide)).trans h10⟩
/-- a seed that is not negative -/
def SN (sd : Int32) : Prop := ∃ k, k < 2 ^ 31 ∧ sd = nI k
theorem SN_A {s : Int64} {k : Nat} (hk : k < 2 ^ 31) (h : s.toInt = (k : Int)) : ((1103515245 : Int64) * s + 12345).toInt = ((1103515245 * k + 12345 : Nat) : Int) := by
  have e0 : ((1103515245 : Int64) * s).toInt = 1103515245 * (k : Int) := by
    rw [Int64.toInt_mul, h, show ((1103515245 : Int64)).toInt = 1103515245 by decide, Int.bmod_eq_of_le (by omega) (by omega)]
  rw [Int64.toInt_add, e0, show ((12345 : Int64)).toInt = 12345 by decide, Int.bmod_eq_of_le (by omega) (by omega)]
  omega
theorem SN_B {A : Int64} {v : Nat} (hv : v < 2 ^ 62) (h : A.toInt = (v : Int)) : (A - A / 2147483648 * 2147483648).toInt32 = nI (v % 2147483648) := by
  have e2 : ((2147483648 : Int64)).toInt = 2147483648 := by decide
  have e3 : (A / 2147483648).toInt = (v : Int) / 2147483648 := by
    rw [Int64.toInt_div, h, e2, Int.tdiv_eq_ediv_of_nonneg (by omega), Int.bmod_eq_of_le (by omega) (by omega)]
  have e4 : (A / 2147483648 * 2147483648).toInt = (v : Int) / 2147483648 * 2147483648 := by
    rw [Int64.toInt_mul, e3, e2, Int.bmod_eq_of_le (by omega) (by omega)]
  have e5 : (A - A / 2147483648 * 2147483648).toInt = (v : Int) % 2147483648 := by
    rw [Int64.toInt_sub, h, e4, Int.bmod_eq_of_le (by omega) (by omega)]
    omega
  apply Int32.toInt_inj.mp
  rw [Int64.toInt_toInt32, e5, nI_toInt (by omega), Int.bmod_eq_of_le (by omega) (by omega)]
  omega
theorem SN_drw {sd : Int32} (h : SN sd) : SN (drwS sd) := by
  obtain ⟨k, hk, rfl⟩ := h
  refine ⟨(1103515245 * k + 12345) % 2147483648, by omega, ?_⟩
  unfold drwS
  exact SN_B (by omega) (SN_A hk (by rw [Int32.toInt_toInt64, nI_toInt hk]))
theorem drw_2 {sd : Int32} (h : SN sd) : drwV (drwS sd) 2 * 256 - 128 = lrA sd := by
  obtain ⟨k, hk, e⟩ := SN_drw h
  unfold lrA
  rw [e]
  have e2 : drwV (nI k) 2 = nI (k / 65536 % 2) := by
    unfold drwV
    rw [show (65536 : Int32) = nI 65536 from rfl, show (2 : Int32) = nI 2 from rfl, pk_div hk (by decide) (by decide), pk_rem (by omega) (by decide) (by decide)]
  rw [e2]
  rcases (show k / 65536 % 2 = 0 ∨ k / 65536 % 2 = 1 by omega) with q | q
  · rw [q]; decide
  · rw [q]; decide
/-- a number below n, out of x -/
def atP (x : Int32) (n : Nat) : Nat := x.toBitVec.toNat / 2 ^ 1 % n
theorem atP_lt {x : Int32} {n : Nat} (h : 0 < n) : atP x n < n := Nat.mod_lt _ h
theorem at_eq (x : Int32) (n : Nat) (h : 0 < n) (hn : n < 2 ^ 31) : (x.toUInt32 >>> ((1 : Int32).toUInt32 &&& Int32.toUInt32 31)).toInt32 - (x.toUInt32 >>> ((1 : Int32).toUInt32 &&& Int32.toUInt32 31)).toInt32 / nI n * nI n = nI (atP x n) := by
  have e1 := pk_ushr x 1 1 (by decide)
  have e2 : (x.toUInt32 >>> ((1 : Int32).toUInt32 &&& Int32.toUInt32 31)).toInt32 = nI (x.toBitVec.toNat / 2 ^ 1) := by
    apply Int32.toBitVec_inj.mp
    apply BitVec.eq_of_toNat_eq
    rw [e1]
    have h2 : x.toBitVec.toNat / 2 ^ 1 < 2 ^ 32 := Nat.lt_of_le_of_lt (Nat.div_le_self _ _) x.toBitVec.isLt
    show _ = (BitVec.ofNat 32 (x.toBitVec.toNat / 2 ^ 1)).toNat
    rw [BitVec.toNat_ofNat, Nat.mod_eq_of_lt h2]
  rw [e2]
  exact pk_rem (by have := x.toBitVec.isLt; omega) h hn
set_option maxRecDepth 100000 in
set_option maxHeartbeats 4000000 in
theorem m_L_at {E : gE} {ws : va_W} {x y : Int32} {n : Nat} (hy : y = nI n) (h0 : 0 < n) (hn : n < 2 ^ 31) : CD E YL_at 0 0 [.int x, .int y] ws (some (.int (nI (atP x n)))) ws := by
  have hy0 : ¬ y = 0 := by rw [hy]; exact nI_ne0 h0 hn
  refine cdS vL_at (Nat.le_of_ble_eq_true rfl) (lv0 := [(0, .int x), (1, .int y)]) rfl ?_
  refine ev_ss DL_at 4 0 (pc' := 4) (lv' := [(0, .int _), (1, .int _)]) (st' := [.int _, .int _]) rfl ?_
  refine ev_irem DL_at 4 rfl hy0 ?_
  exact ev_iret DL_at 5 rfl rfl ⟨by rw [hy]; exact congrArg (fun z => some (Value.int z)) (at_eq x n h0 hn), rfl⟩
set_option maxRecDepth 100000 in
set_option maxHeartbeats 4000000 in
theorem m_L_size {E : gE} {ws : va_W} {x : Int32} : CD E YL_size 0 0 [.int x] ws (some (.int (absP x))) ws := by
  refine cdS vL_size (Nat.le_of_ble_eq_true rfl) (lv0 := [(0, .int x)]) rfl ?_
  refine ev_ss DL_size 1 0 (pc' := 1) (lv' := [(0, .int _)]) (st' := [.int _]) rfl ?_
  refine ev_ifge DL_size 1 rfl (tgt := 9) (by decide) (fun c_1 => ?_) (fun c_1 => ?_)
  · refine ev_ss DL_size 1 5 (pc' := 10) (lv' := [(0, .int _)]) (st' := [.int _]) rfl ?_
    exact ev_iret DL_size 6 rfl rfl ⟨congrArg (fun z => some (Value.int z)) (if_pos c_1).symm, rfl⟩
  · refine ev_ss DL_size 2 2 (pc' := 6) (lv' := [(0, .int _)]) (st' := [.int _]) rfl ?_
    refine ev_goto DL_size 4 rfl (tgt := 10) (by decide) ?_
    exact ev_iret DL_size 6 rfl rfl ⟨congrArg (fun z => some (Value.int z)) ((show -x = 0 - x by rw [Int32.sub_eq_add_neg, Int32.zero_add]).trans (if_neg c_1).symm), rfl⟩
set_option maxRecDepth 100000 in
set_option maxHeartbeats 4000000 in
theorem m_L_held {E : gE} {ws : va_W} {x lo hi : Int32} : CD E YL_held 0 0 [.int x, .int lo, .int hi] ws (some (.int (heldP x lo hi))) ws := by
  refine cdS vL_held (Nat.le_of_ble_eq_true rfl) (lv0 := [(0, .int x), (1, .int lo), (2, .int hi)]) rfl ?_
  refine ev_ss DL_held 2 0 (pc' := 2) (lv' := [(0, .int _), (1, .int _), (2, .int _)]) (st' := [.int _, .int _]) rfl ?_
  refine ev_icge DL_held 2 rfl (tgt := 9) (by decide) (fun c_1 => ?_) (fun c_1 => ?_)
  · refine ev_ss DL_held 2 5 (pc' := 11) (lv' := [(0, .int _), (1, .int _), (2, .int _)]) (st' := [.int _, .int _]) rfl ?_
    refine ev_icle DL_held 7 rfl (tgt := 18) (by decide) (fun c_2 => ?_) (fun c_2 => ?_)
    · refine ev_ss DL_held 1 10 (pc' := 19) (lv' := [(0, .int _), (1, .int _), (2, .int _)]) (st' := [.int _]) rfl ?_
      exact ev_iret DL_held 11 rfl rfl ⟨congrArg (fun z => some (Value.int z)) (Eq.symm ((if_pos c_1).trans (if_pos c_2))), rfl⟩
    · refine ev_ss DL_held 1 8 (pc' := 15) (lv' := [(0, .int _), (1, .int _), (2, .int _)]) (st' := [.int _]) rfl ?_
      refine ev_goto DL_held 9 rfl (tgt := 19) (by decide) ?_
      exact ev_iret DL_held 11 rfl rfl ⟨congrArg (fun z => some (Value.int z)) (Eq.symm ((if_pos c_1).trans (if_neg c_2))), rfl⟩
  · refine ev_ss DL_held 1 3 (pc' := 6) (lv' := [(0, .int _), (1, .int _), (2, .int _)]) (st' := [.int _]) rfl ?_
    refine ev_goto DL_held 4 rfl (tgt := 19) (by decide) ?_
    exact ev_iret DL_held 11 rfl rfl ⟨congrArg (fun z => some (Value.int z)) (Eq.symm (if_neg c_1)), rfl⟩
set_option maxRecDepth 100000 in
set_option maxHeartbeats 4000000 in
theorem m_L_amp {E : gE} {ws : va_W} {x v : Int32} : CD E YL_amp 0 0 [.int x, .int v] ws (some (.int (amQ x v))) ws := by
  refine cdS vL_amp (Nat.le_of_ble_eq_true rfl) (lv0 := [(0, .int x), (1, .int v)]) rfl ?_
  refine ev_ss DL_amp 1 0 (pc' := 1) (lv' := [(0, .int _), (1, .int _)]) (st' := [.int _]) rfl ?_
  refine ev_ifne DL_amp 1 rfl (tgt := 8) (by decide) (fun c_1 => ?_) (fun c_1 => ?_)
  · refine ev_ss DL_amp 13 4 (pc' := 23) (lv' := [(0, .int _), (1, .int _)]) (st' := [.int _]) rfl ?_
    exact ev_iret DL_amp 17 rfl rfl ⟨congrArg (fun z => some (Value.int z)) (Eq.symm (if_neg c_1)), rfl⟩
  · refine ev_ss DL_amp 1 2 (pc' := 5) (lv' := [(0, .int _), (1, .int _)]) (st' := [.int 0]) rfl ?_
    refine ev_goto DL_amp 3 rfl (tgt := 23) (by decide) ?_
    exact ev_iret DL_amp 17 rfl rfl ⟨congrArg (fun z => some (Value.int z)) (Eq.symm (if_pos c_1)), rfl⟩
theorem sv_in {x : Int32} {k N : Nat} (h : x = nI k) (hk : k < N) (hN : N < 2 ^ 31) : vp_in x N := by
  rw [h]
  exact vp_in_nI hk hN
set_option maxRecDepth 100000 in
set_option maxHeartbeats 4000000 in
theorem m_L_cell {E : gE} {ws : va_W} {j : Nat} (hj : j < 2 ^ 31) (hN : (gSc E).2.1 < 2 ^ 31) : C0 E YL_cell 0 0 [.ref (gSc E).1, .int (nI j)] ws (fun v w => (∃ x : Int32, v = some (.int x)) ∧ w = ws) := by
  refine c0S vL_cell (Nat.le_of_ble_eq_true rfl) (lv0 := [(0, .ref (gSc E).1), (1, .int (nI j))]) rfl ?_
  by_cases hb : j < (gSc E).2.1
  · refine ev_ss DL_cell 2 0 (pc' := 2) (lv' := [(0, .ref _), (1, .int _)]) (st' := [.ref _, .int _]) rfl ?_
    refine ev_slen DL_cell 2 rfl ?_
    refine ev_icge DL_cell 3 rfl (tgt := 12) (by decide) (fun h => absurd h (show ¬ nI (gSc E).2.1 ≤ nI j from nI_ge hb hN)) (fun _ => ?_)
    refine ev_ss DL_cell 2 4 (pc' := 8) (lv' := [(0, .ref _), (1, .int _)]) (st' := [.int _, .ref _]) rfl ?_
    refine ev_sld DL_cell 6 rfl (sv_in (k := j) rfl (by omega) hN) ?_
    refine ev_goto DL_cell 7 rfl (tgt := 18) (by decide) ?_
    exact ev_iret DL_cell 13 rfl rfl ⟨⟨_, rfl⟩, rfl⟩
  · refine ev_ss DL_cell 2 0 (pc' := 2) (lv' := [(0, .ref _), (1, .int _)]) (st' := [.ref _, .int _]) rfl ?_
    refine ev_slen DL_cell 2 rfl ?_
    refine ev_icge DL_cell 3 rfl (tgt := 12) (by decide) (fun _ => ?_) (fun h => h.elim (show nI (gSc E).2.1 ≤ nI j from nI_le (by omega) hj))
    refine ev_ldc DL_cell 8 rfl kL_7 ?_
    refine ev_ss DL_cell 4 9 (pc' := 18) (lv' := [(0, .ref _), (1, .int _)]) (st' := [.int _]) rfl ?_
    exact ev_iret DL_cell 13 rfl rfl ⟨⟨_, rfl⟩, rfl⟩
set_option maxRecDepth 100000 in
set_option maxHeartbeats 4000000 in
theorem m_L_draw {E : gE} {ad : Nat → Nat} {ws : va_W} {zc : Nat → Int32} (hzc : ws[220]? = some (ad 220, iaC E 8 zc)) {m sd : Int32} (hsd : zc 1 = sd) (hm : ¬ m = 0) : CD E YL_draw 0 0 [.int m, .ref (ad 220)] ws (some (.int (drwV (drwS sd) m))) (ws.set 220 (ad 220, iaC E 8 (upd zc 1 (drwS sd)))) := by
  subst hsd
  refine cdS vL_draw (Nat.le_of_ble_eq_true rfl) (lv0 := [(0, .int m), (1, .ref (ad 220))]) rfl ?_
  refine ev_ss DL_draw 2 0 (pc' := 2) (lv' := [(0, .int _), (1, .ref _)]) (st' := [.int 1, .ref _]) rfl ?_
  refine ev_ldc2 DL_draw 2 rfl kL_8 ?_
  refine ev_ss DL_draw 2 3 (pc' := 7) (lv' := [(0, .int _), (1, .ref _)]) (st' := [.int 1, .ref _, .long _, .int 1, .ref _]) rfl ?_
  refine ev_ialdv DL_draw 5 (k0 := 1) rfl hzc rfl (by omega) (by decide) (rfl) ?_
  refine ev_ss DL_draw 2 6 (pc' := 10) (lv' := [(0, .int _), (1, .ref _)]) (st' := [.long _, .int 1, .ref _]) rfl ?_
  refine ev_ldc2 DL_draw 8 rfl kL_10 ?_
  refine ev_ss DL_draw 1 9 (pc' := 14) (lv' := [(0, .int _), (1, .ref _)]) (st' := [.long _, .int 1, .ref _]) rfl ?_
  refine ev_ldc2 DL_draw 10 rfl kL_12 ?_
  refine ev_lrem DL_draw 11 rfl (by decide) ?_
  refine ev_ss DL_draw 1 12 (pc' := 19) (lv' := [(0, .int _), (1, .ref _)]) (st' := [.int _, .int 1, .ref _]) rfl ?_
  refine ev_iastv DL_draw 13 (k0 := 1) rfl hzc rfl (by omega) (by decide) rfl ?_
  refine ev_ss DL_draw 2 14 (pc' := 22) (lv' := [(0, .int _), (1, .ref _)]) (st' := [.int 1, .ref _]) rfl ?_
  refine ev_ialdv DL_draw 16 (k0 := 1) rfl (wset_get hzc) rfl (by omega) (by decide) (upd_eq) ?_
  refine ev_ldc DL_draw 17 rfl kL_14 ?_
  refine ev_idiv DL_draw 18 rfl (by decide) ?_
  refine ev_ss DL_draw 1 19 (pc' := 27) (lv' := [(0, .int _), (1, .ref _)]) (st' := [.int _, .int _]) rfl ?_
  refine ev_irem DL_draw 20 rfl hm ?_
  exact ev_iret DL_draw 21 rfl rfl ⟨rfl, rfl⟩
set_option maxRecDepth 100000 in
set_option maxHeartbeats 4000000 in
theorem m_L_come {E : gE} {ad : Nat → Nat} {ws : va_W} {zq zu zc : Nat → Int32} (hzq : ws[214]? = some (ad 214, iaC E 64 zq)) (hzu : ws[215]? = some (ad 215, iaC E 64 zu)) (hzc : ws[220]? = some (ad 220, iaC E 8 zc)) {i : Nat} (hi : i < 16) {f : TF} {amp sd : Int32} (hQ : ∀ j, j < 4 → zq (4 * i + j) = f j) (hU : ∀ j, j < 3 → zu (4 * i + j) = f (4 + j)) (hsd : zc 1 = sd) (hm : TN f) : CD E YL_come 0 0 [.int (nI i), .int amp, .ref (ad 214), .ref (ad 215), .ref (ad 220)] ws (some (.int (arrP f amp (drwN sd f)))) ((ws.set 220 (ad 220, iaC E 8 (upd zc 1 (drwS sd)))).set 215 (ad 215, iaC E 64 (upd (upd (upd zu (4 * i) 0) (4 * i + 2) (f 5)) (4 * i + 1) amp))) := by
  have hm0 : ¬ 2 * f 3 + 1 = 0 := fun e => hm (by rw [e]; decide)
  refine cdS vL_come (Nat.le_of_ble_eq_true rfl) (lv0 := [(0, .int (nI i)), (1, .int amp), (2, .ref (ad 214)), (3, .ref (ad 215)), (4, .ref (ad 220))]) rfl ?_
  refine ev_ss DL_come 6 0 (pc' := 8) (lv' := [(5, .int _), (0, .int _), (1, .int _), (2, .ref _), (3, .ref _), (4, .ref _)]) (st' := [.int _, .ref _]) rfl ?_
  refine ev_ialdv DL_come 6 (k0 := (4 * i)) rfl hzq (nx_mul (a := 4) (b := i) rfl rfl) (by omega) (by decide) ((hQ 0 (by decide))) ?_
  refine ev_ss DL_come 6 7 (pc' := 16) (lv' := [(5, .int _), (0, .int _), (1, .int _), (2, .ref _), (3, .ref _), (4, .ref _)]) (st' := [.int _, .ref _, .int _]) rfl ?_
  refine ev_ialdv DL_come 13 (k0 := ((4 * i) + 1)) rfl hzq (nx_add (a := (4 * i)) (b := 1) (nx_mul (a := 4) (b := i) rfl rfl) rfl) (by omega) (by decide) ((hQ 1 (by decide))) ?_
  refine ev_ss DL_come 4 14 (pc' := 22) (lv' := [(5, .int _), (0, .int _), (1, .int _), (2, .ref _), (3, .ref _), (4, .ref _)]) (st' := [.int _, .ref _, .int _, .int _]) rfl ?_
  refine ev_ialdv DL_come 18 (k0 := ((4 * i) + 1)) rfl hzu (nx_add (a := (4 * i)) (b := 1) (nx_mul (a := 4) (b := i) rfl rfl) rfl) (by omega) (by decide) ((hU 1 (by decide))) ?_
  refine ev_ss DL_come 6 19 (pc' := 30) (lv' := [(5, .int _), (0, .int _), (1, .int _), (2, .ref _), (3, .ref _), (4, .ref _)]) (st' := [.int _, .ref _, .int _]) rfl ?_
  refine ev_ialdv DL_come 25 (k0 := ((4 * i) + 2)) rfl hzq (nx_add (a := (4 * i)) (b := 2) (nx_mul (a := 4) (b := i) rfl rfl) rfl) (by omega) (by decide) ((hQ 2 (by decide))) ?_
  refine ev_ss DL_come 4 26 (pc' := 36) (lv' := [(5, .int _), (0, .int _), (1, .int _), (2, .ref _), (3, .ref _), (4, .ref _)]) (st' := [.int _, .ref _, .int _, .int _]) rfl ?_
  refine ev_ialdv DL_come 30 (k0 := ((4 * i) + 2)) rfl hzu (nx_add (a := (4 * i)) (b := 2) (nx_mul (a := 4) (b := i) rfl rfl) rfl) (by omega) (by decide) ((hU 2 (by decide))) ?_
  refine ev_ss DL_come 3 31 (pc' := 41) (lv' := [(5, .int _), (0, .int _), (1, .int _), (2, .ref _), (3, .ref _), (4, .ref _)]) (st' := [.int 64, .int _]) rfl ?_
  refine ev_idiv DL_come 34 rfl (by decide) ?_
  refine ev_ss DL_come 6 35 (pc' := 50) (lv' := [(6, .int _), (5, .int _), (0, .int _), (1, .int _), (2, .ref _), (3, .ref _), (4, .ref _)]) (st' := [.int _, .ref _, .int 2]) rfl ?_
  refine ev_ialdv DL_come 41 (k0 := ((4 * i) + 3)) rfl hzq (nx_add (a := (4 * i)) (b := 3) (nx_mul (a := 4) (b := i) rfl rfl) rfl) (by omega) (by decide) ((hQ 3 (by decide))) ?_
  refine ev_ss DL_come 4 42 (pc' := 56) (lv' := [(6, .int _), (5, .int _), (0, .int _), (1, .int _), (2, .ref _), (3, .ref _), (4, .ref _)]) (st' := [.ref _, .int _]) rfl ?_
  refine ev_cS DL_come 46 (m_L_draw hzc hsd hm0) vL_draw rfl qL_15 rfl (hd_of rfl rfl rfl rfl) ?_
  refine ev_ss DL_come 4 47 (pc' := 64) (lv' := [(6, .int _), (5, .int _), (0, .int _), (1, .int _), (2, .ref _), (3, .ref _), (4, .ref _)]) (st' := [.int _, .ref _, .int _]) rfl ?_
  refine ev_ialdv DL_come 51 (k0 := ((4 * i) + 3)) rfl (wset_n hzq (by decide)) (nx_add (a := (4 * i)) (b := 3) (nx_mul (a := 4) (b := i) rfl rfl) rfl) (by omega) (by decide) ((hQ 3 (by decide))) ?_
  refine ev_ss DL_come 6 52 (pc' := 75) (lv' := [(7, .int _), (6, .int _), (5, .int _), (0, .int _), (1, .int _), (2, .ref _), (3, .ref _), (4, .ref _)]) (st' := [.int _, .ref _, .int _, .int _]) rfl ?_
  refine ev_ialdv DL_come 58 (k0 := (4 * i)) rfl (wset_n hzu (by decide)) (nx_mul (a := 4) (b := i) rfl rfl) (by omega) (by decide) ((hU 0 (by decide))) ?_
  refine ev_ss DL_come 6 59 (pc' := 84) (lv' := [(6, .int _), (7, .int _), (5, .int _), (0, .int _), (1, .int _), (2, .ref _), (3, .ref _), (4, .ref _)]) (st' := [.int 0, .int _, .ref _]) rfl ?_
  refine ev_iastv DL_come 65 (k0 := (4 * i)) rfl (wset_n hzu (by decide)) (nx_mul (a := 4) (b := i) rfl rfl) (by omega) (by decide) rfl ?_
  refine ev_ss DL_come 8 66 (pc' := 95) (lv' := [(6, .int _), (7, .int _), (5, .int _), (0, .int _), (1, .int _), (2, .ref _), (3, .ref _), (4, .ref _)]) (st' := [.int _, .ref _, .int _, .ref _]) rfl ?_
  refine ev_ialdv DL_come 74 (k0 := ((4 * i) + 1)) rfl (wset_get (wset_n hzu (by decide))) (nx_add (a := (4 * i)) (b := 1) (nx_mul (a := 4) (b := i) rfl rfl) rfl) (by omega) (by decide) ((upd_ne (by omega)).trans ((hU 1 (by decide)))) ?_
  refine ev_iastv DL_come 75 (k0 := ((4 * i) + 2)) rfl (wset_get (wset_n hzu (by decide))) (nx_add (a := (4 * i)) (b := 2) (nx_mul (a := 4) (b := i) rfl rfl) rfl) (by omega) (by decide) wset_set ?_
  refine ev_ss DL_come 5 76 (pc' := 103) (lv' := [(6, .int _), (7, .int _), (5, .int _), (0, .int _), (1, .int _), (2, .ref _), (3, .ref _), (4, .ref _)]) (st' := [.int _, .int _, .ref _]) rfl ?_
  refine ev_iastv DL_come 81 (k0 := ((4 * i) + 1)) rfl (wset_get (wset_n hzu (by decide))) (nx_add (a := (4 * i)) (b := 1) (nx_mul (a := 4) (b := i) rfl rfl) rfl) (by omega) (by decide) wset_set ?_
  refine ev_ss DL_come 1 82 (pc' := 106) (lv' := [(6, .int _), (7, .int _), (5, .int _), (0, .int _), (1, .int _), (2, .ref _), (3, .ref _), (4, .ref _)]) (st' := [.int _]) rfl ?_
  exact ev_iret DL_come 83 rfl rfl ⟨congrArg (fun z => some (Value.int z)) (Int32.add_assoc _ _ _).symm, rfl⟩
