/-! the calls of the law: program and reference side by side -/
abbrev daC (E : gE) (d : Nat → UInt64) : va_E := .inl (gK E 3, 1, .inr (.inr (.inr (.inl d))))
theorem TXT.fr {E : gE} {ad : Nat → Nat} {ws w : va_W} {it len : Nat} {ch : Nat → Int32} (h : TXT E ad ws it len ch) (h1 : w[it]? = ws[it]?) (h2 : w[it + 1]? = ws[it + 1]?) : TXT E ad w it len ch := h.of h1 h2
theorem MW.fr {E : gE} {ad : Nat → Nat} {ws w : va_W} {p : PS} {sv : Nat → PS} {sc r len : Nat} {ch : Nat → Int32} (h : MW E ad ws p sv sc r len ch) (hf : ∀ j, j < 214 → w[j]? = ws[j]?) : MW E ad w p sv sc r len ch := by
  obtain ⟨a, b, ⟨pt, c⟩, d, ⟨lb, sz, e⟩, f, g⟩ := h
  exact ⟨(hf 0 (by decide)).trans a, b.of (fun j x y => hf j (by omega)), ⟨pt, c.of (fun j x y => hf j (by omega))⟩, (hf 53 (by decide)).trans d, ⟨lb, sz, e.of (hf _ (by decide)) (hf _ (by decide))⟩, f.of (hf _ (by decide)) (hf _ (by decide)), fun k hk => (g k hk).of (fun j x y => hf j (by unfold plS at x y; omega))⟩
theorem ZM.fr {E : gE} {ad : Nat → Nat} {ws w : va_W} {p : PS} {sv : Nat → PS} {sc len : Nat} {ch : Nat → Int32} {tw : Int32} {hh : Int64} (h : ZM E ad ws p sv sc len ch tw hh) (hf : ∀ j, 214 ≤ j → j < 223 → w[j]? = ws[j]?) : ZM E ad w p sv sc len ch tw hh := by
  obtain ⟨ea, iw, z, rw, as, l, hs, ha, er, bf, ⟨a0, a1, a2, a3, a4⟩, ⟨a5, a6, a7, a8⟩, b⟩ := h
  exact ⟨ea, iw, z, rw, as, l, hs, ha, er, bf, ⟨(hf _ (by decide) (by decide)).trans a0, (hf _ (by decide) (by decide)).trans a1, (hf _ (by decide) (by decide)).trans a2, (hf _ (by decide) (by decide)).trans a3, (hf _ (by decide) (by decide)).trans a4⟩, ⟨(hf _ (by decide) (by decide)).trans a5, (hf _ (by decide) (by decide)).trans a6, (hf _ (by decide) (by decide)).trans a7, (hf _ (by decide) (by decide)).trans a8⟩, b⟩
theorem ZM.o7 {E : gE} {ad : Nat → Nat} {ws : va_W} {p : PS} {sv : Nat → PS} {sc len : Nat} {ch : Nat → Int32} {tw : Int32} {hh : Int64} (h : ZM E ad ws p sv sc len ch tw hh) : ∃ fs, ws[214]? = some (ad 214, .inr (7, fs)) := by
  obtain ⟨ea, iw, z, rw, as, l, hs, ha, er, bf, ⟨a0, a1, a2, a3, a4⟩, -⟩ := h
  exact ⟨_, a0⟩
theorem ZM.th {E : gE} {ad : Nat → Nat} {ws : va_W} {p : PS} {sv : Nat → PS} {sc len : Nat} {ch : Nat → Int32} {tw : Int32} {hh : Int64} (h : ZM E ad ws p sv sc len ch tw hh) : CD E YX7_thrown 0 0 [.ref (ad 214)] ws (some (.int tw)) ws := by
  obtain ⟨ea, iw, z, rw, as, l, hs, ha, er, bf, ⟨a0, a1, a2, a3, a4⟩, -⟩ := h
  exact m_X7_thrown a0 a1
/-- between two calls of the law -/
def WD (E : gE) (ad : Nat → Nat) (w : va_W) (k : Int32) (o : Nat → Int64) (d : Nat → UInt64) : Prop :=
  ∃ (p : PS) (sv : Nat → PS) (sc r len : Nat) (ch : Nat → Int32) (hh : Int64), MW E ad w p sv sc r len ch ∧ ZM E ad w p sv sc len ch k hh ∧ (sc ≤ 6 ∧ GI p ∧ ∀ j, j < sc → GI (sv j)) ∧ w[223]? = some (ad 223, laC E 1 o) ∧ w[224]? = some (ad 224, daC E d)
theorem WD.o7 {E : gE} {ad : Nat → Nat} {w : va_W} {k : Int32} {o : Nat → Int64} {d : Nat → UInt64} (h : WD E ad w k o d) : ∃ fs, w[214]? = some (ad 214, .inr (7, fs)) := by
  obtain ⟨p, sv, sc, r, len, ch, hh, -, hZ, -⟩ := h
  exact hZ.o7
theorem WD.th {E : gE} {ad : Nat → Nat} {w : va_W} {k : Int32} {o : Nat → Int64} {d : Nat → UInt64} (h : WD E ad w k o d) : CD E YX7_thrown 0 0 [.ref (ad 214)] w (some (.int k)) w := by
  obtain ⟨p, sv, sc, r, len, ch, hh, -, hZ, -⟩ := h
  exact hZ.th
theorem WD.o6 {E : gE} {ad : Nat → Nat} {w : va_W} {k : Int32} {o : Nat → Int64} {d : Nat → UInt64} (h : WD E ad w k o d) : ∃ fs, w[0]? = some (ad 0, .inr (6, fs)) := by
  obtain ⟨p, sv, sc, r, len, ch, hh, hM, -⟩ := h
  exact ⟨_, hM.1⟩
theorem c2_mono {E : gE} {Y : MI} {k n : Nat} {av : List Value} {ws : va_W} {Pr Pr' : Option Value → va_W → Prop} (h : C2 E Y k n av ws Pr) (hi : ∀ v w, Pr v w → Pr' v w) : C2 E Y k n av ws Pr' := by
  intro p e ha hc hk s m args below hf happ hP hK
  obtain ⟨j, o, h1, h2, h3, ⟨⟨v, w, e1, e2, e3⟩, e4⟩, e5⟩ := h p e ha hc hk s m args below hf happ hP hK
  exact ⟨j, o, h1, h2, h3, ⟨⟨v, w, e1, hi v w e2, e3⟩, e4⟩, e5⟩
def VI (k : Int32) (o : Nat → Int64) (_ : Nat → UInt64) (v : Option Value) : Prop := ∃ R : Int32, v = some (.int R) ∧ (k = 0 → o 0 = R.toInt64)
def VJ (k : Int32) (o : Nat → Int64) (_ : Nat → UInt64) (v : Option Value) : Prop := ∃ R : Int64, v = some (.long R) ∧ (k = 0 → o 0 = R)
def VD (k : Int32) (_ : Nat → Int64) (d : Nat → UInt64) (v : Option Value) : Prop := ∃ R : UInt64, v = some (.double R) ∧ (k = 0 → d 0 = R ∧ FP.dcmp R R = some .eq)
def JV (E : gE) (ad : Nat → Nat) (YL Y7 : MI) (as6 as7 : List Value) (ws : va_W) (V : Int32 → (Nat → Int64) → (Nat → UInt64) → Option Value → Prop) : Prop :=
  C2 E YL 1 6 as6 ws (fun v w => ∃ k : Int32, v = some (.int k) ∧ (∃ fs, w[214]? = some (ad 214, .inr (7, fs))) ∧ C0 E Y7 0 0 as7 w (fun v9 w9 => ∃ (o : Nat → Int64) (d : Nat → UInt64), V k o d v9 ∧ WD E ad w9 k o d))
section J
variable {E : gE} {ad : Nat → Nat} {ws : va_W} {p p2 : PS} {sv sv2 : Nat → PS} {sc sc2 r len len2 : Nat} {ch ch2 : Nat → Int32} {tw : Int32} {hh : Int64} {o o2 : Nat → Int64} {d d2 : Nat → UInt64} {YL Y7 : MI} {as6 as7 : List Value} {v0 : Option Value} {V : Int32 → (Nat → Int64) → (Nat → UInt64) → Option Value → Prop}
theorem J_ok (hZ : ZM E ad ws p sv sc len ch tw hh) (h4 : ws[224]? = some (ad 224, daC E d)) (h3 : ws[223]? = some (ad 223, laC E 1 o)) (g : sc2 ≤ 6 ∧ GI p2 ∧ ∀ j, j < sc2 → GI (sv2 j)) (hV : V 0 o2 d v0)
    (hA : C2 E YL 1 6 as6 ws (fun v w => v = some (.int 0) ∧ ∃ w1, (∃ r2, MW E ad w1 p2 sv2 sc2 r2 len2 ch2) ∧ FO ws w1 ∧ w = w1.set 223 (ad 223, laC E 1 o2)))
    (hB : ∀ w, ZM E ad w p sv sc len ch tw hh → C0 E Y7 0 0 as7 w (fun v9 w9 => v9 = v0 ∧ (∃ h2, ZM E ad w9 p2 sv2 sc2 len2 ch2 0 h2) ∧ MO w w9)) : JV E ad YL Y7 as6 as7 ws V := by
  refine c2_mono hA (fun v w hw => ?_)
  obtain ⟨rfl, w1, ⟨r2, hM1⟩, hF, rfl⟩ := hw
  have hk : ∀ j, j ≠ 223 → (w1.set 223 (ad 223, laC E 1 o2))[j]? = w1[j]? := fun j hj => List.getElem?_set_ne (Ne.symm hj)
  have hZ1 : ZM E ad (w1.set 223 (ad 223, laC E 1 o2)) p sv sc len ch tw hh := hZ.fr (fun j a b => (hk j (by omega)).trans (hF j a))
  have hM2 : MW E ad (w1.set 223 (ad 223, laC E 1 o2)) p2 sv2 sc2 r2 len2 ch2 := hM1.fr (fun j a => hk j (by omega))
  have q3 : (w1.set 223 (ad 223, laC E 1 o2))[223]? = some (ad 223, laC E 1 o2) := wset_get ((hF 223 (by decide)).trans h3)
  have q4 : (w1.set 223 (ad 223, laC E 1 o2))[224]? = some (ad 224, daC E d) := ((hk 224 (by decide)).trans (hF 224 (by decide))).trans h4
  refine ⟨0, rfl, hZ1.o7, c0_mono (hB _ hZ1) (fun v9 w9 h9 => ?_)⟩
  obtain ⟨rfl, ⟨h2, hZ9⟩, hO⟩ := h9
  exact ⟨o2, d, hV, p2, sv2, sc2, r2, len2, ch2, h2, hM2.fr (fun j a => hO j (Or.inl a)), hZ9, g, (hO 223 (by decide)).trans q3, (hO 224 (by decide)).trans q4⟩
theorem J_okd (hZ : ZM E ad ws p sv sc len ch tw hh) (h4 : ws[224]? = some (ad 224, daC E d)) (h3 : ws[223]? = some (ad 223, laC E 1 o)) (g : sc2 ≤ 6 ∧ GI p2 ∧ ∀ j, j < sc2 → GI (sv2 j)) (hV : V 0 o d2 v0)
    (hA : C2 E YL 1 6 as6 ws (fun v w => v = some (.int 0) ∧ ∃ w1, (∃ r2, MW E ad w1 p2 sv2 sc2 r2 len2 ch2) ∧ FO ws w1 ∧ w = w1.set 224 (ad 224, daC E d2)))
    (hB : ∀ w, ZM E ad w p sv sc len ch tw hh → C0 E Y7 0 0 as7 w (fun v9 w9 => v9 = v0 ∧ (∃ h2, ZM E ad w9 p2 sv2 sc2 len2 ch2 0 h2) ∧ MO w w9)) : JV E ad YL Y7 as6 as7 ws V := by
  refine c2_mono hA (fun v w hw => ?_)
  obtain ⟨rfl, w1, ⟨r2, hM1⟩, hF, rfl⟩ := hw
  have hk : ∀ j, j ≠ 224 → (w1.set 224 (ad 224, daC E d2))[j]? = w1[j]? := fun j hj => List.getElem?_set_ne (Ne.symm hj)
  have hZ1 : ZM E ad (w1.set 224 (ad 224, daC E d2)) p sv sc len ch tw hh := hZ.fr (fun j a b => (hk j (by omega)).trans (hF j a))
  have hM2 : MW E ad (w1.set 224 (ad 224, daC E d2)) p2 sv2 sc2 r2 len2 ch2 := hM1.fr (fun j a => hk j (by omega))
  have q3 : (w1.set 224 (ad 224, daC E d2))[223]? = some (ad 223, laC E 1 o) := ((hk 223 (by decide)).trans (hF 223 (by decide))).trans h3
  have q4 : (w1.set 224 (ad 224, daC E d2))[224]? = some (ad 224, daC E d2) := wset_get ((hF 224 (by decide)).trans h4)
  refine ⟨0, rfl, hZ1.o7, c0_mono (hB _ hZ1) (fun v9 w9 h9 => ?_)⟩
  obtain ⟨rfl, ⟨h2, hZ9⟩, hO⟩ := h9
  exact ⟨o, d2, hV, p2, sv2, sc2, r2, len2, ch2, h2, hM2.fr (fun j a => hO j (Or.inl a)), hZ9, g, (hO 223 (by decide)).trans q3, (hO 224 (by decide)).trans q4⟩
theorem J_xx (hM : MW E ad ws p sv sc r len ch) (hZ : ZM E ad ws p sv sc len ch tw hh) (h4 : ws[224]? = some (ad 224, daC E d)) (h3 : ws[223]? = some (ad 223, laC E 1 o)) (g : sc ≤ 6 ∧ GI p ∧ ∀ j, j < sc → GI (sv j)) {k : Int32} {Q : Option Value → Prop} (hV : ∀ v, Q v → V k o d v)
    (hA : C2 E YL 1 6 as6 ws (fun v w => v = some (.int k) ∧ w = ws))
    (hB : ∀ w, ZM E ad w p sv sc len ch tw hh → C0 E Y7 0 0 as7 w (fun v9 w9 => Q v9 ∧ ZM E ad w9 p sv sc len ch k hh ∧ MO w w9)) : JV E ad YL Y7 as6 as7 ws V := by
  refine c2_mono hA (fun v w hw => ?_)
  obtain ⟨rfl, rfl⟩ := hw
  refine ⟨k, rfl, hZ.o7, c0_mono (hB _ hZ) (fun v9 w9 h9 => ?_)⟩
  obtain ⟨hQ, hZ9, hO⟩ := h9
  exact ⟨o, d, hV v9 hQ, p, sv, sc, r, len, ch, hh, hM.fr (fun j a => hO j (Or.inl a)), hZ9, g, (hO 223 (by decide)).trans h3, (hO 224 (by decide)).trans h4⟩
end J
theorem VI_x {k : Int32} {o : Nat → Int64} {d : Nat → UInt64} (hk : k ≠ 0) (v : Option Value) (h : v = some (.int 0)) : VI k o d v := ⟨0, h, fun e => absurd e hk⟩
theorem VJ_x {k : Int32} {o : Nat → Int64} {d : Nat → UInt64} (hk : k ≠ 0) (v : Option Value) (h : ∃ x9, v = some (.long x9)) : VJ k o d v := ⟨h.choose, h.choose_spec, fun e => absurd e hk⟩
theorem VD_x {k : Int32} {o : Nat → Int64} {d : Nat → UInt64} (hk : k ≠ 0) (v : Option Value) (h : ∃ x9, v = some (.double x9)) : VD k o d v := ⟨h.choose, h.choose_spec, fun e => absurd e hk⟩
theorem VI_0 {o : Nat → Int64} {d : Nat → UInt64} {R : Int32} : VI 0 (vp_updL o 0 R.toInt64) d (some (.int R)) := ⟨R, rfl, fun _ => if_pos rfl⟩
theorem VJ_0 {o : Nat → Int64} {d : Nat → UInt64} {R : Int64} : VJ 0 (vp_updL o 0 R) d (some (.long R)) := ⟨R, rfl, fun _ => if_pos rfl⟩
theorem VD_0 {o : Nat → Int64} {d : Nat → UInt64} {R : UInt64} (h : FP.dcmp R R = some .eq) : VD 0 o (vf_upd d 0 R) (some (.double R)) := ⟨R, rfl, fun _ => ⟨if_pos rfl, h⟩⟩
/-- the forms of a contract of the program -/
theorem k6a {E : gE} {ad : Nat → Nat} {ws : va_W} {Y : MI} {as : List Value} {v0 : Option Value} {p : PS} {sv : Nat → PS} {sc r len : Nat} {ch : Nat → Int32} (h : C0 E Y 0 0 as ws (fun v w => v = v0 ∧ MW E ad w p sv sc r len ch ∧ FO ws w)) : C0 E Y 0 0 as ws (fun v w => v = v0 ∧ (∃ r2, MW E ad w p sv sc r2 len ch) ∧ FO ws w) :=
  c0_mono h (fun _ _ q => ⟨q.1, ⟨r, q.2.1⟩, q.2.2⟩)
theorem k6d {E : gE} {ad : Nat → Nat} {ws : va_W} {Y : MI} {as : List Value} {v0 : Option Value} {p : PS} {sv : Nat → PS} {sc r len : Nat} {ch : Nat → Int32} (h : CD E Y 0 0 as ws v0 ws) (hM : MW E ad ws p sv sc r len ch) : C0 E Y 0 0 as ws (fun v w => v = v0 ∧ (∃ r2, MW E ad w p sv sc r2 len ch) ∧ FO ws w) :=
  c0_mono h (fun _ w q => ⟨q.1, ⟨r, by rw [q.2]; exact hM⟩, fun j _ => by rw [q.2]⟩)
theorem k7 {E : gE} {ad : Nat → Nat} {ws : va_W} {Y : MI} {as : List Value} {v0 : Option Value} {p : PS} {sv : Nat → PS} {sc len : Nat} {ch : Nat → Int32} {hh : Int64} (h : C0 E Y 0 0 as ws (fun v w => v = v0 ∧ ZM E ad w p sv sc len ch 0 hh ∧ MO ws w)) : C0 E Y 0 0 as ws (fun v w => v = v0 ∧ (∃ h2, ZM E ad w p sv sc len ch 0 h2) ∧ MO ws w) :=
  c0_mono h (fun _ _ q => ⟨q.1, ⟨hh, q.2.1⟩, q.2.2⟩)
theorem nbH {w : Int32} (h : ¬ bWh w) : ∃ a, a < 4 ∧ w = nI a := rngN (by decide) (fun e => h (Or.inl e)) (Decidable.byContradiction (fun e => h (Or.inr e)))
theorem nbO {w hi : Int32} {n : Nat} (hn : n < 2 ^ 31) (h2 : ¬ w < nI (n + 1) → hi < w) (hn2 : n + 1 < 2 ^ 31) (h : ¬ (w < 0 ∨ hi < w)) : ∃ a, a < n + 1 ∧ w = nI a := rngN hn2 (fun e => h (Or.inl e)) (Decidable.byContradiction (fun e => h (Or.inr (h2 e))))
theorem nbR {w : Int32} (n : Nat) (hn2 : n + 1 < 2 ^ 31) (h : ¬ (w < 0 ∨ nI n < w)) : ∃ a, a < n + 1 ∧ w = nI a := rngN hn2 (fun e => h (Or.inl e)) (Decidable.byContradiction (fun e => h (Or.inr (nI_gt hn2 e))))
theorem nbC {w : Int32} (h : ¬ bC w) : ∃ n, 33 ≤ n ∧ n < 127 ∧ w = nI n := by
  obtain ⟨n, hn, rfl⟩ := nbR (w := w) 126 (by decide) (fun e => h (e.imp (fun q => Int32.lt_trans q (by decide)) id))
  refine ⟨n, Decidable.byContradiction (fun q => h (Or.inl ?_)), hn, rfl⟩
  exact nI_lt (b := 33) (by omega) (by decide)
theorem inL_b {y : Int32} {n : Nat} (h : y < 0 ∨ ¬ y < nI n) (hn : n ≤ 256) : inP y 0 (nI n - 1) = 0 := by
  refine in_b (h.imp id (fun e => ?_))
  cases n with
  | zero =>
    rw [show nI 0 - 1 = (-1 : Int32) by decide]
    have e2 : ¬ y < 0 := e
    have e3 := Int32.le_iff_toInt_le.mp (Int32.not_lt.mp e2)
    refine Int32.lt_iff_toInt_lt.mpr ?_
    rw [show (-1 : Int32).toInt = -1 by decide]
    rw [show (0 : Int32).toInt = 0 by decide] at e3
    omega
  | succ m =>
    rw [show nI (m + 1) - 1 = nI m by rw [← nI_1, Int32.add_sub_cancel]]
    exact nI_gt (by omega) e
set_option maxHeartbeats 4000000 in
theorem J_build {E : gE} {ad : Nat → Nat} {ws : va_W} {tw : Int32} {o : Nat → Int64} {d : Nat → UInt64} (hW : WD E ad ws tw o d) (x y z v : Int32) : JV E ad YL_build YX7_build [.ref (ad 0), .int x, .int y, .int z, .int v, .ref (ad 223)] [.ref (ad 214), .int x, .int y, .int z, .int v] ws VI := by
  obtain ⟨p, sv, sc, r, len, ch, hh, hM, hZ, hg, h3, h4⟩ := hW
  have hsc := hg.1
  have hG := hg.2.1
  have hGs := hg.2.2
  by_cases b1 : bW x
  · exact J_xx hM hZ h4 h3 hg (VI_x (by decide)) (LX_build_1 hM.1 (xc_X6_build_X6_toneOf hM (x_X6_toneOf_way hM b1))) (fun w hw => m_X7_build_1w hw (inW_b b1))
  obtain ⟨a, ha, rfl⟩ := nbW b1
  by_cases b2 : bT y
  · exact J_xx hM hZ h4 h3 hg (VI_x (by decide)) (LX_build_1 hM.1 (xc_X6_build_X6_toneOf hM (x_X6_toneOf_tone hM ha rfl b2))) (fun w hw => m_X7_build_1t hw (inW_g ha) (inT_b b2))
  obtain ⟨t, ht, rfl⟩ := nbT b2
  by_cases b3 : bWh z
  · exact J_xx hM hZ h4 h3 hg (VI_x (by decide)) (LX_build_2 hM.1 (xc_X6_build_X6_checkStreetNumber hM ha ht (x_X6_checkStreetNumber_w b3))) (fun w hw => m_X7_build_2w hw (inW_g ha) (inT_g ht) (inH_b b3))
  obtain ⟨j, hj, rfl⟩ := nbH b3
  by_cases b4 : bSt j v
  · exact J_xx hM hZ h4 h3 hg (VI_x (by decide)) (LX_build_2 hM.1 (xc_X6_build_X6_checkStreetNumber hM ha ht (x_X6_checkStreetNumber_v hj b4))) (fun w hw => m_X7_build_2v hw hj (inW_g ha) (inT_g ht) (in_b b4))
  exact J_ok hZ h4 h3 ⟨scN_6 hsc, hG.tone ha (((hG.1 a ha).1 t ht).street hj b4), GI_svN hG hGs hsc⟩ VI_0 (LO_build hM.1 h3 (m_X6_build hM ha ht hsc hj b4)) (fun w hw => k7 (m_X7_build_ok hw ha ht hj (in_g b4) hsc))
set_option maxHeartbeats 4000000 in
theorem J_carry {E : gE} {ad : Nat → Nat} {ws : va_W} {tw : Int32} {o : Nat → Int64} {d : Nat → UInt64} (hW : WD E ad ws tw o d) (x y v : Int32) : JV E ad YL_carry YX7_carry [.ref (ad 0), .int x, .int y, .int v, .ref (ad 223)] [.ref (ad 214), .int x, .int y, .int v] ws VI := by
  obtain ⟨p, sv, sc, r, len, ch, hh, hM, hZ, hg, h3, h4⟩ := hW
  have hsc := hg.1
  have hG := hg.2.1
  have hGs := hg.2.2
  by_cases b1 : bW x
  · exact J_xx hM hZ h4 h3 hg (VI_x (by decide)) (LX_carry_1 hM.1 (xc_X6_carry_X6_toneOf hM (x_X6_toneOf_way hM b1))) (fun w hw => m_X7_carry_1w hw (inW_b b1))
  obtain ⟨a, ha, rfl⟩ := nbW b1
  by_cases b2 : bT y
  · exact J_xx hM hZ h4 h3 hg (VI_x (by decide)) (LX_carry_1 hM.1 (xc_X6_carry_X6_toneOf hM (x_X6_toneOf_tone hM ha rfl b2))) (fun w hw => m_X7_carry_1t hw (inW_g ha) (inT_b b2))
  obtain ⟨t, ht, rfl⟩ := nbT b2
  by_cases b3 : bCa v
  · exact J_xx hM hZ h4 h3 hg (VI_x (by decide)) (LX_carry_2 hM.1 (x_X6_carry hM ha ht b3)) (fun w hw => m_X7_carry_2 hw (inW_g ha) (inT_g ht) (in_b b3))
  obtain ⟨n, hn, rfl⟩ := nbR (w := v) 4 (by decide) b3
  exact J_ok hZ h4 h3 ⟨scN_6 hsc, hG.tone ha (((hG.1 a ha).1 t ht).bits (by omega)), GI_svN hG hGs hsc⟩ VI_0 (LO_carry hM.1 h3 (m_X6_carry hM ha ht hsc b3)) (fun w hw => k7 (m_X7_carry_ok hw ha ht (in_g b3) hsc))
set_option maxHeartbeats 4000000 in
theorem J_insult {E : gE} {ad : Nat → Nat} {ws : va_W} {tw : Int32} {o : Nat → Int64} {d : Nat → UInt64} (hW : WD E ad ws tw o d) (x y v : Int32) : JV E ad YL_insult YX7_insult [.ref (ad 0), .int x, .int y, .int v, .ref (ad 223)] [.ref (ad 214), .int x, .int y, .int v] ws VI := by
  obtain ⟨p, sv, sc, r, len, ch, hh, hM, hZ, hg, h3, h4⟩ := hW
  have hsc := hg.1
  have hG := hg.2.1
  have hGs := hg.2.2
  by_cases b1 : bW x
  · exact J_xx hM hZ h4 h3 hg (VI_x (by decide)) (LX_insult_1 hM.1 (xc_X6_insult_X6_toneOf hM (x_X6_toneOf_way hM b1))) (fun w hw => m_X7_insult_1w hw (inW_b b1))
  obtain ⟨a, ha, rfl⟩ := nbW b1
  by_cases b2 : bT y
  · exact J_xx hM hZ h4 h3 hg (VI_x (by decide)) (LX_insult_1 hM.1 (xc_X6_insult_X6_toneOf hM (x_X6_toneOf_tone hM ha rfl b2))) (fun w hw => m_X7_insult_1t hw (inW_g ha) (inT_b b2))
  obtain ⟨t, ht, rfl⟩ := nbT b2
  by_cases b3 : bIn v
  · exact J_xx hM hZ h4 h3 hg (VI_x (by decide)) (LX_insult_2 hM.1 (x_X6_insult_v hM ha ht b3)) (fun w hw => m_X7_insult_2 hw (inW_g ha) (inT_g ht) (in_b b3))
  by_cases b4 : bSm ((pW p a).1 t 4 + v)
  · exact J_xx hM hZ h4 h3 hg (VI_x (by decide)) (LX_insult_3 hM.1 (x_X6_insult_s hM ha ht b3 b4)) (fun w hw => m_X7_insult_3 hw ha ht (in_g b3) (in_b b4))
  exact J_ok hZ h4 h3 ⟨scN_6 hsc, hG.tone ha (((hG.1 a ha).1 t ht).upd4 (rB_of b4 (by decide) (by decide))), GI_svN hG hGs hsc⟩ VI_0 (LO_insult hM.1 h3 (m_X6_insult hM ha ht hsc b3 b4)) (fun w hw => k7 (m_X7_insult_ok hw ha ht (in_g b3) (in_g b4) hsc))
set_option maxHeartbeats 4000000 in
theorem J_set {E : gE} {ad : Nat → Nat} {ws : va_W} {tw : Int32} {o : Nat → Int64} {d : Nat → UInt64} (hW : WD E ad ws tw o d) (x v : Int32) : JV E ad YL_set YX7_set [.ref (ad 0), .int x, .int v, .ref (ad 223)] [.ref (ad 214), .int x, .int v] ws VI := by
  obtain ⟨p, sv, sc, r, len, ch, hh, hM, hZ, hg, h3, h4⟩ := hW
  have hsc := hg.1
  have hG := hg.2.1
  have hGs := hg.2.2
  by_cases b1 : bS x
  · exact J_xx hM hZ h4 h3 hg (VI_x (by decide)) (LX_set_1 hM.1 (xc_X6_set_X6_checkSetting hM (x_X6_checkSetting b1))) (fun w hw => m_X7_set_1 hw (inS_b b1))
  obtain ⟨j, hj, rfl⟩ := nbS b1
  by_cases b2 : bSe j v
  · exact J_xx hM hZ h4 h3 hg (VI_x (by decide)) (LX_set_2 hM.1 (x_X6_set hM hj b2)) (fun w hw => m_X7_set_2 hw hj (in_b b2))
  exact J_ok hZ h4 h3 ⟨scN_6 hsc, hG.sett hj b2, GI_svN hG hGs hsc⟩ VI_0 (LO_set hM.1 h3 (m_X6_set hM hj hsc b2)) (fun w hw => k7 (m_X7_set_ok hw hj (in_g b2) hsc))
set_option maxHeartbeats 4000000 in
theorem J_learn {E : gE} {ad : Nat → Nat} {ws : va_W} {tw : Int32} {o : Nat → Int64} {d : Nat → UInt64} (hW : WD E ad ws tw o d) (x b : Int32) : JV E ad YL_learn YX7_learn [.ref (ad 0), .int x, .int b, .ref (ad 223)] [.ref (ad 214), .int x, .int b] ws VI := by
  obtain ⟨p, sv, sc, r, len, ch, hh, hM, hZ, hg, h3, h4⟩ := hW
  have hsc := hg.1
  have hG := hg.2.1
  have hGs := hg.2.2
  by_cases b1 : bW x
  · exact J_xx hM hZ h4 h3 hg (VI_x (by decide)) (LX_learn_1 hM.1 (xc_X6_learn_X6_wayOf hM (x_X6_wayOf b1))) (fun w hw => m_X7_learn_1 hw (inW_b b1))
  obtain ⟨a, ha, rfl⟩ := nbW b1
  by_cases b2 : bB b
  · exact J_xx hM hZ h4 h3 hg (VI_x (by decide)) (LX_learn_2 hM.1 (xc_X6_learn_X6_checkBeats hM ha (x_X6_checkBeats b2))) (fun w hw => m_X7_learn_2 hw (inW_g ha) (in_b b2))
  obtain ⟨n, hn1, hn2, rfl⟩ := nbB b2
  by_cases b3 : 5000 < p.2.1 + nI n
  · exact J_xx hM hZ h4 h3 hg (VI_x (by decide)) (LX_learn_3 hM.1 (xc_X6_learn_X6_checkBeatsLeft hM ha b2 (x_X6_checkBeatsLeft hM b3))) (fun w hw => m_X7_learn_3 hw (inW_g ha) (in_g b2) b3)
  exact J_ok hZ h4 h3 ⟨scN_6 hsc, hG.learn ha hn2 b3, GI_svN hG hGs hsc⟩ VI_0 (LO_learn hM.1 h3 (m_X6_learn hM ha hn1 hn2 hsc b3 (hG.L ha))) (fun w hw => k7 (m_X7_learn_ok hw ha (in_g b2) hn2 b3 hsc (hG.L ha)))
set_option maxHeartbeats 4000000 in
theorem J_send {E : gE} {ad : Nat → Nat} {ws : va_W} {tw : Int32} {o : Nat → Int64} {d : Nat → UInt64} (hW : WD E ad ws tw o d) (x b : Int32) : JV E ad YL_send YX7_send [.ref (ad 0), .int x, .int b, .ref (ad 223)] [.ref (ad 214), .int x, .int b] ws VI := by
  obtain ⟨p, sv, sc, r, len, ch, hh, hM, hZ, hg, h3, h4⟩ := hW
  have hsc := hg.1
  have hG := hg.2.1
  have hGs := hg.2.2
  by_cases b1 : bW x
  · exact J_xx hM hZ h4 h3 hg (VI_x (by decide)) (LX_send_1 hM.1 (xc_X6_send_X6_wayOf hM (x_X6_wayOf b1))) (fun w hw => m_X7_send_1 hw (inW_b b1))
  obtain ⟨a, ha, rfl⟩ := nbW b1
  by_cases b2 : bB b
  · exact J_xx hM hZ h4 h3 hg (VI_x (by decide)) (LX_send_2 hM.1 (xc_X6_send_X6_checkBeats hM ha (x_X6_checkBeats b2))) (fun w hw => m_X7_send_2 hw (inW_g ha) (in_b b2))
  obtain ⟨n, hn1, hn2, rfl⟩ := nbB b2
  by_cases b3 : 5000 < p.2.1 + nI n
  · exact J_xx hM hZ h4 h3 hg (VI_x (by decide)) (LX_send_3 hM.1 (xc_X6_send_X6_checkBeatsLeft hM ha b2 (x_X6_checkBeatsLeft hM b3))) (fun w hw => m_X7_send_3 hw (inW_g ha) (in_g b2) b3)
  exact J_ok hZ h4 h3 ⟨scN_6 hsc, hG.send ha hn2 b3, GI_svN hG hGs hsc⟩ VI_0 (LO_send hM.1 h3 (m_X6_send hM ha hn1 hn2 hsc b3 (WI_TA (hG.1 a ha)))) (fun w hw => k7 (m_X7_send_ok hw ha (in_g b2) hn2 b3 hsc (hG.1 a ha)))
set_option maxHeartbeats 4000000 in
theorem J_forget {E : gE} {ad : Nat → Nat} {ws : va_W} {tw : Int32} {o : Nat → Int64} {d : Nat → UInt64} (hW : WD E ad ws tw o d) (x : Int32) : JV E ad YL_forget YX7_forget [.ref (ad 0), .int x, .ref (ad 223)] [.ref (ad 214), .int x] ws VI := by
  obtain ⟨p, sv, sc, r, len, ch, hh, hM, hZ, hg, h3, h4⟩ := hW
  have hsc := hg.1
  have hG := hg.2.1
  have hGs := hg.2.2
  by_cases b1 : bW x
  · exact J_xx hM hZ h4 h3 hg (VI_x (by decide)) (LX_forget_1 hM.1 (xc_X6_forget_X6_wayOf hM (x_X6_wayOf b1))) (fun w hw => m_X7_forget_1 hw (inW_b b1))
  obtain ⟨a, ha, rfl⟩ := nbW b1
  exact J_ok hZ h4 h3 ⟨scN_6 hsc, hG.forg ha, GI_svN hG hGs hsc⟩ VI_0 (LO_forget hM.1 h3 (m_X6_forget hM ha hsc)) (fun w hw => k7 (m_X7_forget_ok hw ha hsc))
set_option maxHeartbeats 4000000 in
theorem J_append {E : gE} {ad : Nat → Nat} {ws : va_W} {tw : Int32} {o : Nat → Int64} {d : Nat → UInt64} (hW : WD E ad ws tw o d) (c : Int32) : JV E ad YL_append YX7_append [.ref (ad 0), .int c, .ref (ad 223)] [.ref (ad 214), .int c] ws VI := by
  obtain ⟨p, sv, sc, r, len, ch, hh, hM, hZ, hg, h3, h4⟩ := hW
  have hsc := hg.1
  have hG := hg.2.1
  have hGs := hg.2.2
  by_cases b1 : bC c
  · exact J_xx hM hZ h4 h3 hg (VI_x (by decide)) (LX_append_1 hM.1 (x_X6_append_c hM b1)) (fun w hw => m_X7_append_1 hw (in_b b1))
  by_cases b2 : ¬ len < 60
  · exact J_xx hM hZ h4 h3 hg (VI_x (by decide)) (LX_append_2 hM.1 (x_X6_append_l hM b1 b2)) (fun w hw => m_X7_append_2 hw (in_g b1) (Nat.le_antisymm hM.2.2.2.2.2.1.1 (Nat.not_lt.mp b2)))
  obtain ⟨n, hn1, hn2, rfl⟩ := nbC b1
  have b3 : len < 60 := Decidable.byContradiction b2
  exact J_ok hZ h4 h3 hg VI_0 (LO_append hM.1 h3 (k6a (m_X6_append hM hn2 hn1 b3))) (fun w hw => k7 (m_X7_append_ok hw (in_g b1) b3))
set_option maxHeartbeats 4000000 in
theorem J_say {E : gE} {ad : Nat → Nat} {ws : va_W} {tw : Int32} {o : Nat → Int64} {d : Nat → UInt64} (hW : WD E ad ws tw o d) : JV E ad YL_say YX7_say [.ref (ad 0), .ref (ad 223)] [.ref (ad 214)] ws VI := by
  obtain ⟨p, sv, sc, r, len, ch, hh, hM, hZ, hg, h3, h4⟩ := hW
  have hsc := hg.1
  have hG := hg.2.1
  have hGs := hg.2.2
  by_cases b1 : ¬ tzP ch len = 3
  · exact J_xx hM hZ h4 h3 hg (VI_x (by decide)) (LX_say_1 hM.1 (x_X6_say_c hM b1)) (fun w hw => m_X7_say_1 hw b1)
  have hc : tzP ch len = 3 := Decidable.byContradiction b1
  by_cases b2 : bSy p len ch
  · exact J_xx hM hZ h4 h3 hg (VI_x (by decide)) (LX_say_2 hM.1 (x_X6_say_b hM hc b2)) (fun w hw => m_X7_say_2 hw hc b2)
  exact J_ok hZ h4 h3 ⟨scN_6 hsc, hG.say, GI_svN hG hGs hsc⟩ VI_0 (LO_say hM.1 h3 (m_X6_say hM hsc hc b2)) (fun w hw => k7 (m_X7_say_ok hw hc b2 hsc))
set_option maxHeartbeats 4000000 in
theorem J_undo {E : gE} {ad : Nat → Nat} {ws : va_W} {tw : Int32} {o : Nat → Int64} {d : Nat → UInt64} (hW : WD E ad ws tw o d) : JV E ad YL_undo YX7_undo [.ref (ad 0), .ref (ad 223)] [.ref (ad 214)] ws VI := by
  obtain ⟨p, sv, sc, r, len, ch, hh, hM, hZ, hg, h3, h4⟩ := hW
  cases sc with
  | zero => exact J_xx hM hZ h4 h3 hg (VI_x (by decide)) (LX_undo_1 hM.1 (x_X6_undo hM)) (fun w hw => m_X7_undo_1 hw rfl)
  | succ n => exact J_ok hZ h4 h3 ⟨by omega, hg.2.2 n (by omega), fun j hj => hg.2.2 j (by omega)⟩ VI_0 (LO_undo hM.1 h3 (k6a (m_X6_undo hM (by omega)))) (fun w hw => k7 (m_X7_undo hw (by omega)))
set_option maxHeartbeats 4000000 in
theorem J_street {E : gE} {ad : Nat → Nat} {ws : va_W} {tw : Int32} {o : Nat → Int64} {d : Nat → UInt64} (hW : WD E ad ws tw o d) (x y z : Int32) : JV E ad YL_street YX7_street [.ref (ad 0), .int x, .int y, .int z, .ref (ad 223)] [.ref (ad 214), .int x, .int y, .int z] ws VI := by
  obtain ⟨p, sv, sc, r, len, ch, hh, hM, hZ, hg, h3, h4⟩ := hW
  have hsc := hg.1
  have hG := hg.2.1
  have hGs := hg.2.2
  by_cases b1 : bW x
  · exact J_xx hM hZ h4 h3 hg (VI_x (by decide)) (LX_street_1 hM.1 (xc_X6_street_X6_toneOf hM (x_X6_toneOf_way hM b1))) (fun w hw => m_X7_street_1w hw (inW_b b1))
  obtain ⟨a, ha, rfl⟩ := nbW b1
  by_cases b2 : bT y
  · exact J_xx hM hZ h4 h3 hg (VI_x (by decide)) (LX_street_1 hM.1 (xc_X6_street_X6_toneOf hM (x_X6_toneOf_tone hM ha rfl b2))) (fun w hw => m_X7_street_1t hw (inW_g ha) (inT_b b2))
  obtain ⟨t, ht, rfl⟩ := nbT b2
  by_cases b3 : z < 0 ∨ 6 < z
  · exact J_xx hM hZ h4 h3 hg (VI_x (by decide)) (LX_street_2 hM.1 (x_X6_street hM ha ht b3)) (fun w hw => m_X7_street_2 hw (inW_g ha) (inT_g ht) (in_b b3))
  obtain ⟨j, hj, rfl⟩ := nbR (w := z) 6 (by decide) b3
  exact J_ok hZ h4 h3 hg VI_0 (LO_street hM.1 h3 (k6d (m_X6_street hM ha ht hj) hM)) (fun w hw => k7 (m_X7_street_ok hw ha ht hj))
set_option maxHeartbeats 4000000 in
theorem J_accent {E : gE} {ad : Nat → Nat} {ws : va_W} {tw : Int32} {o : Nat → Int64} {d : Nat → UInt64} (hW : WD E ad ws tw o d) (x y z : Int32) : JV E ad YL_accent YX7_accent [.ref (ad 0), .int x, .int y, .int z, .ref (ad 223)] [.ref (ad 214), .int x, .int y, .int z] ws VI := by
  obtain ⟨p, sv, sc, r, len, ch, hh, hM, hZ, hg, h3, h4⟩ := hW
  have hsc := hg.1
  have hG := hg.2.1
  have hGs := hg.2.2
  by_cases b1 : bW x
  · exact J_xx hM hZ h4 h3 hg (VI_x (by decide)) (LX_accent_1 hM.1 (xc_X6_accent_X6_toneOf hM (x_X6_toneOf_way hM b1))) (fun w hw => m_X7_accent_1w hw (inW_b b1))
  obtain ⟨a, ha, rfl⟩ := nbW b1
  by_cases b2 : bT y
  · exact J_xx hM hZ h4 h3 hg (VI_x (by decide)) (LX_accent_1 hM.1 (xc_X6_accent_X6_toneOf hM (x_X6_toneOf_tone hM ha rfl b2))) (fun w hw => m_X7_accent_1t hw (inW_g ha) (inT_b b2))
  obtain ⟨t, ht, rfl⟩ := nbT b2
  by_cases b3 : z < 0 ∨ 10 < z
  · exact J_xx hM hZ h4 h3 hg (VI_x (by decide)) (LX_accent_2 hM.1 (x_X6_accent hM ha ht b3)) (fun w hw => m_X7_accent_2 hw (inW_g ha) (inT_g ht) (in_b b3))
  obtain ⟨j, hj, rfl⟩ := nbR (w := z) 10 (by decide) b3
  exact J_ok hZ h4 h3 hg VI_0 (LO_accent hM.1 h3 (k6d (m_X6_accent hM ha ht hj) hM)) (fun w hw => k7 (m_X7_accent_ok hw ha ht hj))
set_option maxHeartbeats 4000000 in
theorem J_waits {E : gE} {ad : Nat → Nat} {ws : va_W} {tw : Int32} {o : Nat → Int64} {d : Nat → UInt64} (hW : WD E ad ws tw o d) (x y : Int32) : JV E ad YL_waits YX7_waits [.ref (ad 0), .int x, .int y, .ref (ad 223)] [.ref (ad 214), .int x, .int y] ws VI := by
  obtain ⟨p, sv, sc, r, len, ch, hh, hM, hZ, hg, h3, h4⟩ := hW
  have hsc := hg.1
  have hG := hg.2.1
  have hGs := hg.2.2
  by_cases b1 : bW x
  · exact J_xx hM hZ h4 h3 hg (VI_x (by decide)) (LX_waits_1 hM.1 (xc_X6_waits_X6_wayOf hM (x_X6_wayOf b1))) (fun w hw => m_X7_waits_1w hw (inW_b b1))
  obtain ⟨a, ha, rfl⟩ := nbW b1
  obtain ⟨s9, z9, r9, e1, e2, e3, e4, ⟨-, -, -, -, hL, -⟩, e6⟩ := hM.2.1.way ha
  by_cases b2 : y < 0 ∨ ¬ y < nI (pW p a).2.1.length
  · exact J_xx hM hZ h4 h3 hg (VI_x (by decide)) (LX_waits_1 hM.1 (x_X6_waits hM ha b2)) (fun w hw => m_X7_waits_1p hw ha (inL_b b2 hL))
  obtain ⟨i, hi, rfl⟩ := rngN (x := y) (n := (pW p a).2.1.length) (by omega) (fun e => b2 (Or.inl e)) (Decidable.byContradiction (fun e => b2 (Or.inr e)))
  have hi2 : (pW p a).2.1[i]? = some ((pW p a).2.1.getD i 0) := by rw [List.getElem?_eq_getElem hi, List.getD_eq_getElem?_getD, List.getElem?_eq_getElem hi]; rfl
  exact J_ok hZ h4 h3 hg VI_0 (LO_waits hM.1 h3 (k6d (m_X6_waits hM ha hi2) hM)) (fun w hw => k7 (m_X7_waits_ok hw ha hi))
set_option maxHeartbeats 4000000 in
theorem J_had {E : gE} {ad : Nat → Nat} {ws : va_W} {tw : Int32} {o : Nat → Int64} {d : Nat → UInt64} (hW : WD E ad ws tw o d) (x : Int32) : JV E ad YL_had YX7_had [.ref (ad 0), .int x, .ref (ad 223)] [.ref (ad 214), .int x] ws VJ := by
  obtain ⟨p, sv, sc, r, len, ch, hh, hM, hZ, hg, h3, h4⟩ := hW
  have hsc := hg.1
  have hG := hg.2.1
  have hGs := hg.2.2
  by_cases b1 : bW x
  · exact J_xx hM hZ h4 h3 hg (VJ_x (by decide)) (LX_had_1 hM.1 (xc_X6_had_X6_wayOf hM (x_X6_wayOf b1))) (fun w hw => m_X7_had_1 hw (inW_b b1))
  obtain ⟨a, ha, rfl⟩ := nbW b1
  exact J_ok hZ h4 h3 hg VJ_0 (LO_had hM.1 h3 (k6d (m_X6_had hM ha) hM)) (fun w hw => k7 (m_X7_had_ok hw ha))
set_option maxHeartbeats 4000000 in
theorem J_count {E : gE} {ad : Nat → Nat} {ws : va_W} {tw : Int32} {o : Nat → Int64} {d : Nat → UInt64} (hW : WD E ad ws tw o d) (x : Int32) : JV E ad YL_count YX7_count [.ref (ad 0), .int x, .ref (ad 223)] [.ref (ad 214), .int x] ws VI := by
  obtain ⟨p, sv, sc, r, len, ch, hh, hM, hZ, hg, h3, h4⟩ := hW
  have hsc := hg.1
  have hG := hg.2.1
  have hGs := hg.2.2
  by_cases b1 : x < 0 ∨ 12 < x
  · exact J_xx hM hZ h4 h3 hg (VI_x (by decide)) (LX_count_1 hM.1 (x_X6_count b1)) (fun w hw => m_X7_count_1 hw (in_b b1))
  obtain ⟨j, hj, rfl⟩ := nbR (w := x) 12 (by decide) b1
  exact J_ok hZ h4 h3 hg VI_0 (LO_count hM.1 h3 (k6d (m_X6_count hM hj) hM)) (fun w hw => k7 (m_X7_count_ok hw hj))
set_option maxHeartbeats 4000000 in
theorem J_setting {E : gE} {ad : Nat → Nat} {ws : va_W} {tw : Int32} {o : Nat → Int64} {d : Nat → UInt64} (hW : WD E ad ws tw o d) (x : Int32) : JV E ad YL_setting YX7_setting [.ref (ad 0), .int x, .ref (ad 223)] [.ref (ad 214), .int x] ws VI := by
  obtain ⟨p, sv, sc, r, len, ch, hh, hM, hZ, hg, h3, h4⟩ := hW
  have hsc := hg.1
  have hG := hg.2.1
  have hGs := hg.2.2
  by_cases b1 : bS x
  · exact J_xx hM hZ h4 h3 hg (VI_x (by decide)) (LX_setting_1 hM.1 (xc_X6_setting_X6_checkSetting hM (x_X6_checkSetting b1))) (fun w hw => m_X7_setting_1 hw (inS_b b1))
  obtain ⟨j, hj, rfl⟩ := nbS b1
  exact J_ok hZ h4 h3 hg VI_0 (LO_setting hM.1 h3 (k6d (m_X6_setting hM hj) hM)) (fun w hw => k7 (m_X7_setting_ok hw hj))
set_option maxHeartbeats 4000000 in
theorem J_sure {E : gE} {ad : Nat → Nat} {ws : va_W} {tw : Int32} {o : Nat → Int64} {d : Nat → UInt64} (hW : WD E ad ws tw o d) (x y : Int32) : JV E ad YL_sure YX7_sure [.ref (ad 0), .int x, .int y, .ref (ad 223)] [.ref (ad 214), .int x, .int y] ws VI := by
  obtain ⟨p, sv, sc, r, len, ch, hh, hM, hZ, hg, h3, h4⟩ := hW
  have hsc := hg.1
  have hG := hg.2.1
  have hGs := hg.2.2
  by_cases b1 : bW x
  · exact J_xx hM hZ h4 h3 hg (VI_x (by decide)) (LX_sure_1 hM.1 (xc_X6_sure_X6_toneOf hM (x_X6_toneOf_way hM b1))) (fun w hw => m_X7_sure_1w hw (inW_b b1))
  obtain ⟨a, ha, rfl⟩ := nbW b1
  by_cases b2 : bT y
  · exact J_xx hM hZ h4 h3 hg (VI_x (by decide)) (LX_sure_1 hM.1 (xc_X6_sure_X6_toneOf hM (x_X6_toneOf_tone hM ha rfl b2))) (fun w hw => m_X7_sure_1t hw (inW_g ha) (inT_b b2))
  obtain ⟨t, ht, rfl⟩ := nbT b2
  exact J_ok hZ h4 h3 hg VI_0 (LO_sure hM.1 h3 (k6d (m_X6_sure hM ha ht) hM)) (fun w hw => k7 (m_X7_sure_ok hw ha ht))
set_option maxHeartbeats 4000000 in
theorem J_ifSent {E : gE} {ad : Nat → Nat} {ws : va_W} {tw : Int32} {o : Nat → Int64} {d : Nat → UInt64} (hW : WD E ad ws tw o d) (x b z : Int32) : JV E ad YL_ifSent YX7_ifSent [.ref (ad 0), .int x, .int b, .int z, .ref (ad 223)] [.ref (ad 214), .int x, .int b, .int z] ws VI := by
  obtain ⟨p, sv, sc, r, len, ch, hh, hM, hZ, hg, h3, h4⟩ := hW
  have hsc := hg.1
  have hG := hg.2.1
  have hGs := hg.2.2
  by_cases b1 : bW x
  · exact J_xx hM hZ h4 h3 hg (VI_x (by decide)) (LX_ifSent_1 hM.1 (xc_X6_ifSent_X6_wayOf hM (x_X6_wayOf b1))) (fun w hw => m_X7_ifSent_1 hw (inW_b b1))
  obtain ⟨a, ha, rfl⟩ := nbW b1
  by_cases b2 : bB b
  · exact J_xx hM hZ h4 h3 hg (VI_x (by decide)) (LX_ifSent_2 hM.1 (xc_X6_ifSent_X6_checkBeats hM ha (x_X6_checkBeats b2))) (fun w hw => m_X7_ifSent_2b hw (inW_g ha) (in_b b2))
  by_cases b3 : z < 0 ∨ 2 < z
  · exact J_xx hM hZ h4 h3 hg (VI_x (by decide)) (LX_ifSent_2 hM.1 (x_X6_ifSent hM ha b2 b3)) (fun w hw => m_X7_ifSent_2x hw (inW_g ha) (in_g b2) (in_b b3))
  obtain ⟨n, hn1, hn2, rfl⟩ := nbB b2
  obtain ⟨j, hj, rfl⟩ := nbR (w := z) 2 (by decide) b3
  exact J_ok hZ h4 h3 hg VI_0 (LO_ifSent hM.1 h3 (k6a (m_X6_ifSent hM ha hn1 hn2 (WI_TA (hG.1 a ha)) hj))) (fun w hw => k7 (m_X7_ifSent_ok hw ha (in_g b2) hn2 hj (hG.1 a ha)))
set_option maxHeartbeats 4000000 in
theorem J_ifLearned {E : gE} {ad : Nat → Nat} {ws : va_W} {tw : Int32} {o : Nat → Int64} {d : Nat → UInt64} (hW : WD E ad ws tw o d) (x b : Int32) : JV E ad YL_ifLearned YX7_ifLearned [.ref (ad 0), .int x, .int b, .ref (ad 223)] [.ref (ad 214), .int x, .int b] ws VI := by
  obtain ⟨p, sv, sc, r, len, ch, hh, hM, hZ, hg, h3, h4⟩ := hW
  have hsc := hg.1
  have hG := hg.2.1
  have hGs := hg.2.2
  by_cases b1 : bW x
  · exact J_xx hM hZ h4 h3 hg (VI_x (by decide)) (LX_ifLearned_1 hM.1 (xc_X6_ifLearned_X6_wayOf hM (x_X6_wayOf b1))) (fun w hw => m_X7_ifLearned_1 hw (inW_b b1))
  obtain ⟨a, ha, rfl⟩ := nbW b1
  by_cases b2 : bB b
  · exact J_xx hM hZ h4 h3 hg (VI_x (by decide)) (LX_ifLearned_2 hM.1 (xc_X6_ifLearned_X6_checkBeats hM ha (x_X6_checkBeats b2))) (fun w hw => m_X7_ifLearned_2 hw (inW_g ha) (in_b b2))
  obtain ⟨n, hn1, hn2, rfl⟩ := nbB b2
  exact J_ok hZ h4 h3 hg VI_0 (LO_ifLearned hM.1 h3 (k6a (m_X6_ifLearned hM ha hn1 hn2 (hG.L ha)))) (fun w hw => k7 (m_X7_ifLearned_ok hw ha (in_g b2) hn2 (hG.L ha)))
set_option maxHeartbeats 4000000 in
theorem J_beatsFor {E : gE} {ad : Nat → Nat} {ws : va_W} {tw : Int32} {o : Nat → Int64} {d : Nat → UInt64} (hW : WD E ad ws tw o d) (x : Int32) : JV E ad YL_beatsFor YX7_beatsFor [.ref (ad 0), .int x, .ref (ad 223)] [.ref (ad 214), .int x] ws VI := by
  obtain ⟨p, sv, sc, r, len, ch, hh, hM, hZ, hg, h3, h4⟩ := hW
  have hsc := hg.1
  have hG := hg.2.1
  have hGs := hg.2.2
  by_cases b1 : bW x
  · exact J_xx hM hZ h4 h3 hg (VI_x (by decide)) (LX_beatsFor_1 hM.1 (xc_X6_beatsFor_X6_wayOf hM (x_X6_wayOf b1))) (fun w hw => m_X7_beatsFor_1 hw (inW_b b1))
  obtain ⟨a, ha, rfl⟩ := nbW b1
  exact J_ok hZ h4 h3 hg VI_0 (LO_beatsFor hM.1 h3 (k6a (m_X6_beatsFor hM ha (WI_TA (hG.1 a ha))))) (fun w hw => k7 (m_X7_beatsFor_ok hw ha (hG.1 a ha)))
set_option maxHeartbeats 4000000 in
theorem J_bestLesson {E : gE} {ad : Nat → Nat} {ws : va_W} {tw : Int32} {o : Nat → Int64} {d : Nat → UInt64} (hW : WD E ad ws tw o d) (x : Int32) : JV E ad YL_bestLesson YX7_bestLesson [.ref (ad 0), .int x, .ref (ad 223)] [.ref (ad 214), .int x] ws VI := by
  obtain ⟨p, sv, sc, r, len, ch, hh, hM, hZ, hg, h3, h4⟩ := hW
  have hsc := hg.1
  have hG := hg.2.1
  have hGs := hg.2.2
  by_cases b1 : bW x
  · exact J_xx hM hZ h4 h3 hg (VI_x (by decide)) (LX_bestLesson_1 hM.1 (xc_X6_bestLesson_X6_wayOf hM (x_X6_wayOf b1))) (fun w hw => m_X7_bestLesson_1 hw (inW_b b1))
  obtain ⟨a, ha, rfl⟩ := nbW b1
  exact J_ok hZ h4 h3 hg VI_0 (LO_bestLesson hM.1 h3 (k6a (m_X6_bestLesson hM ha (hG.L ha)))) (fun w hw => k7 (m_X7_bestLesson_ok hw ha (hG.L ha)))
set_option maxHeartbeats 4000000 in
theorem J_hurts {E : gE} {ad : Nat → Nat} {ws : va_W} {tw : Int32} {o : Nat → Int64} {d : Nat → UInt64} (hW : WD E ad ws tw o d) (x y : Int32) : JV E ad YL_hurts YX7_hurts [.ref (ad 0), .int x, .int y, .ref (ad 223)] [.ref (ad 214), .int x, .int y] ws VI := by
  obtain ⟨p, sv, sc, r, len, ch, hh, hM, hZ, hg, h3, h4⟩ := hW
  have hsc := hg.1
  have hG := hg.2.1
  have hGs := hg.2.2
  by_cases b1 : bW x
  · exact J_xx hM hZ h4 h3 hg (VI_x (by decide)) (LX_hurts_1 hM.1 (xc_X6_hurts_X6_toneOf hM (x_X6_toneOf_way hM b1))) (fun w hw => m_X7_hurts_1w hw (inW_b b1))
  obtain ⟨a, ha, rfl⟩ := nbW b1
  by_cases b2 : bT y
  · exact J_xx hM hZ h4 h3 hg (VI_x (by decide)) (LX_hurts_1 hM.1 (xc_X6_hurts_X6_toneOf hM (x_X6_toneOf_tone hM ha rfl b2))) (fun w hw => m_X7_hurts_1t hw (inW_g ha) (inT_b b2))
  obtain ⟨t, ht, rfl⟩ := nbT b2
  exact J_ok hZ h4 h3 hg VI_0 (LO_hurts hM.1 h3 (k6a (m_X6_hurts hM ha ht (WI_TA (hG.1 a ha))))) (fun w hw => k7 (m_X7_hurts_ok hw ha ht (hG.1 a ha)))
set_option maxHeartbeats 4000000 in
theorem J_rightShare {E : gE} {ad : Nat → Nat} {ws : va_W} {tw : Int32} {o : Nat → Int64} {d : Nat → UInt64} (hW : WD E ad ws tw o d) (x : Int32) : JV E ad YL_rightShare YX7_rightShare [.ref (ad 0), .int x, .ref (ad 224)] [.ref (ad 214), .int x] ws VD := by
  obtain ⟨p, sv, sc, r, len, ch, hh, hM, hZ, hg, h3, h4⟩ := hW
  have hsc := hg.1
  have hG := hg.2.1
  have hGs := hg.2.2
  by_cases b1 : bW x
  · exact J_xx hM hZ h4 h3 hg (VD_x (by decide)) (LX_rightShare_1 hM.1 (xc_X6_rightShare_X6_wayOf hM (x_X6_wayOf b1))) (fun w hw => m_X7_rightShare_1 hw (inW_b b1))
  obtain ⟨a, ha, rfl⟩ := nbW b1
  exact J_okd hZ h4 h3 hg (VD_0 (FSh_x (hG.C ha).F)) (LO_rightShare hM.1 h4 (k6d (m_X6_rightShare hM ha (hG.C ha).R) hM)) (fun w hw => k7 (m_X7_rightShare_ok hw ha (hG.C ha)))
/-- the same of both, without a helper -/
def JS (E : gE) (ad : Nat → Nat) (Y6 Y7 : MI) (ws : va_W) (C : Option Value → Prop) : Prop :=
  C0 E Y6 0 0 [.ref (ad 0)] ws (fun v w => C v ∧ (∃ fs, w[214]? = some (ad 214, .inr (7, fs))) ∧ C0 E Y7 0 0 [.ref (ad 214)] w (fun v9 w9 => v9 = v ∧ ∃ (o : Nat → Int64) (d : Nat → UInt64) (k : Int32), WD E ad w9 k o d))
theorem J_s {E : gE} {ad : Nat → Nat} {ws : va_W} {p p2 : PS} {sv sv2 : Nat → PS} {sc sc2 len len2 : Nat} {ch ch2 : Nat → Int32} {tw : Int32} {hh : Int64} {o : Nat → Int64} {d : Nat → UInt64} {Y6 Y7 : MI} {v0 : Option Value} {C : Option Value → Prop}
    (hZ : ZM E ad ws p sv sc len ch tw hh) (h4 : ws[224]? = some (ad 224, daC E d)) (h3 : ws[223]? = some (ad 223, laC E 1 o)) (g : sc2 ≤ 6 ∧ GI p2 ∧ ∀ j, j < sc2 → GI (sv2 j)) (hC : C v0)
    (hA : C0 E Y6 0 0 [.ref (ad 0)] ws (fun v w => v = v0 ∧ (∃ r2, MW E ad w p2 sv2 sc2 r2 len2 ch2) ∧ FO ws w))
    (hB : ∀ w, ZM E ad w p sv sc len ch tw hh → C0 E Y7 0 0 [.ref (ad 214)] w (fun v9 w9 => v9 = v0 ∧ (∃ h2, ZM E ad w9 p2 sv2 sc2 len2 ch2 0 h2) ∧ MO w w9)) : JS E ad Y6 Y7 ws C := by
  refine c0_mono hA (fun v w hw => ?_)
  obtain ⟨rfl, ⟨r2, hM1⟩, hF⟩ := hw
  have hZ1 : ZM E ad w p sv sc len ch tw hh := hZ.fr (fun j a b => hF j a)
  refine ⟨hC, hZ1.o7, c0_mono (hB _ hZ1) (fun v9 w9 h9 => ?_)⟩
  obtain ⟨rfl, ⟨h2, hZ9⟩, hO⟩ := h9
  exact ⟨rfl, o, d, 0, p2, sv2, sc2, r2, len2, ch2, h2, hM1.fr (fun j a => hO j (Or.inl a)), hZ9, g, ((hO 223 (by decide)).trans (hF 223 (by decide))).trans h3, ((hO 224 (by decide)).trans (hF 224 (by decide))).trans h4⟩
theorem J_clearBuffer {E : gE} {ad : Nat → Nat} {ws : va_W} {tw : Int32} {o : Nat → Int64} {d : Nat → UInt64} (hW : WD E ad ws tw o d) : JS E ad YX6_clearBuffer YX7_clearBuffer ws (fun v => ∃ R : Int32, v = some (.int R)) := by
  obtain ⟨p, sv, sc, r, len, ch, hh, hM, hZ, hg, h3, h4⟩ := hW
  exact J_s hZ h4 h3 hg ⟨_, rfl⟩ (k6a (m_X6_clearBuffer hM)) (fun w hw => k7 (m_X7_clearBuffer_ok hw))
theorem J_firstError {E : gE} {ad : Nat → Nat} {ws : va_W} {tw : Int32} {o : Nat → Int64} {d : Nat → UInt64} (hW : WD E ad ws tw o d) : JS E ad YX6_firstError YX7_firstError ws (fun v => ∃ R : Int32, v = some (.int R)) := by
  obtain ⟨p, sv, sc, r, len, ch, hh, hM, hZ, hg, h3, h4⟩ := hW
  exact J_s hZ h4 h3 hg ⟨_, rfl⟩ (k6d (m_X6_firstError hM) hM) (fun w hw => k7 (m_X7_firstError_ok hw))
theorem J_digest {E : gE} {ad : Nat → Nat} {ws : va_W} {tw : Int32} {o : Nat → Int64} {d : Nat → UInt64} (hW : WD E ad ws tw o d) : JS E ad YX6_digest YX7_digest ws (fun v => ∃ R : Int64, v = some (.long R)) := by
  obtain ⟨p, sv, sc, r, len, ch, hh, hM, hZ, hg, h3, h4⟩ := hW
  have hG := hg.2.1
  exact J_s hZ h4 h3 hg ⟨_, rfl⟩ (k6a (m_X6_digest hM (fun a ha => hG.G ha) (fun a ha w => m_X6_bitsOfShare (hG.C ha).F))) (fun w hw => k7 (m_X7_digest hw hG.1 (fun a ha => hG.L ha) (fun a ha => hG.C ha)))
