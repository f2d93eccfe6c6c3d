theorem shyT_2 {m : Int32} {σ : WS} : ∀ i, (shyT m σ i).2 = σ.2
  | 0 => rfl
  | i + 1 => shyT_2 i
/-- what is counted of the bits that came -/
def CI (p : PS) (a : Nat) : Prop := ∃ c w : Nat, (pW p a).2.2.2.1 = nI c ∧ (pW p a).2.2.2.2 = nI w ∧ w ≤ c ∧ c < 1000000
theorem CI.F {p : PS} {a : Nat} (h : CI p a) : FSh (rsP (pW p a).2.2.2.1 (pW p a).2.2.2.2) := by
  obtain ⟨c, w, e1, e2, h1, h2⟩ := h
  rw [e1, e2]
  exact rsP_F h1 h2
theorem CI.R {p : PS} {a : Nat} (h : CI p a) : RSh p a := fun h0 => by
  have e := FSh_vf h.F
  unfold rsP at e
  rw [if_neg h0] at e
  exact e
theorem lrT_2 {p sd : Int32} {nb : Nat} {σ : WS} {sz : Nat → Int32} : ∀ i, (lrT p nb sd σ sz i).2.1.2 = σ.2
  | 0 => rfl
  | i + 1 => by
    rw [lrT_s]
    show (lrT p nb sd σ sz i).2.1.2 = σ.2
    exact lrT_2 i
theorem lrN_2 {p sd : Int32} {σ : WS} : ∀ n, (lrN p sd σ n).2.1.2 = σ.2
  | 0 => rfl
  | n + 1 => by rw [lrN_s, lrT_2]; exact lrN_2 n
theorem enT_2 {mg : Int32} {sz : Nat → Int32} {σ : WS} : ∀ i, (enT mg sz σ i).2 = σ.2
  | 0 => rfl
  | i + 1 => enT_2 i
theorem tlW_2 {p mg sd : Int32} {σ : WS} {n : Nat} : (tlW p mg sd σ n).2 = σ.2 := by
  unfold tlW
  rw [enT_2, lrN_2]
theorem fgT_2 {σ : WS} : ∀ i, (fgT σ i).2 = σ.2
  | 0 => rfl
  | i + 1 => fgT_2 i
theorem pW_0 {a : Nat} : pW ps0 a = w0S := by
  unfold pW
  split <;> rfl
/-! what holds of every state of a run -/
theorem TI.upd4 {f : TF} {v : Int32} (h : TI f) (hv : rB 1000 v) : TI (upd f 4 v) := by
  obtain ⟨⟨h0, h1, h2, h3⟩, ⟨h4, h5, h6⟩, ⟨h7, h7b, h8, h9⟩, h16, h17, hS⟩ := h
  exact ⟨⟨h0, h1, h2, h3⟩, ⟨hv, h5, h6⟩, ⟨h7, h7b, h8, h9⟩, h16, h17, hS⟩
theorem TI.bits {f : TF} {n : Nat} (h : TI f) (hn : n ≤ 4) : TI (upd f 10 (nI n)) := by
  obtain ⟨⟨h0, h1, h2, h3⟩, ⟨h4, h5, h6⟩, ⟨h7, h7b, h8, h9⟩, h16, h17, m, -, -, hg, hm⟩ := h
  exact ⟨⟨h0, h1, h2, h3⟩, ⟨h4, h5, h6⟩, ⟨h7, h7b, h8, h9⟩, h16, h17, n, hn, rfl, hg, hm⟩
theorem rB_of {v : Int32} {lo hi : Int32} {n : Nat} (h : ¬ (v < lo ∨ hi < v)) (h1 : -(n : Int) ≤ lo.toInt) (h2 : hi.toInt ≤ (n : Int)) : rB n v := by
  have a1 := Int32.le_iff_toInt_le.mp (Int32.not_lt.mp (fun e => h (Or.inl e)))
  have a2 := Int32.le_iff_toInt_le.mp (Int32.not_lt.mp (fun e => h (Or.inr e)))
  unfold rB
  omega
theorem ge_toInt {v lo : Int32} (h : ¬ v < lo) : lo.toInt ≤ v.toInt := Int32.le_iff_toInt_le.mp (Int32.not_lt.mp h)
theorem TI.street {f : TF} {v : Int32} {j : Nat} (h : TI f) (hj : j < 4) (hv : ¬ bSt j v) : TI (upd f j v) := by
  obtain ⟨⟨h0, h1, h2, h3⟩, ⟨h4, h5, h6⟩, ⟨h7, h7b, h8, h9⟩, h16, h17, m, m1, m2, hg, hm⟩ := h
  rcases (show j = 0 ∨ j = 1 ∨ j = 2 ∨ j = 3 by omega) with rfl | rfl | rfl | rfl
  · have e : ¬ (v < 16 ∨ 96 < v) := hv
    exact ⟨⟨rB_of e (by decide) (by decide), h1, h2, h3⟩, ⟨h4, h5, h6⟩, ⟨h7, h7b, h8, h9⟩, h16, h17, m, m1, m2, hg, hm⟩
  · have e : ¬ (v < -32 ∨ 32 < v) := hv
    exact ⟨⟨h0, rB_of e (by decide) (by decide), h2, h3⟩, ⟨h4, h5, h6⟩, ⟨h7, h7b, h8, h9⟩, h16, h17, m, m1, m2, hg, hm⟩
  · have e : ¬ (v < -32 ∨ 32 < v) := hv
    exact ⟨⟨h0, h1, rB_of e (by decide) (by decide), h3⟩, ⟨h4, h5, h6⟩, ⟨h7, h7b, h8, h9⟩, h16, h17, m, m1, m2, hg, hm⟩
  · have e : ¬ (v < 0 ∨ 60 < v) := hv
    have hB : rB 60 v := rB_of e (by decide) (by decide)
    refine ⟨⟨h0, h1, h2, hB⟩, ⟨h4, h5, h6⟩, ⟨h7, h7b, h8, h9⟩, h16, h17, m, m1, m2, hg, ?_⟩
    show ¬ 2 * v + 1 ≤ 0
    obtain ⟨k, hk, rfl⟩ := nI_of2 (M := 60) (n := 60) rfl (fun q => e (Or.inl q)) (Int32.not_lt.mp (fun q => e (Or.inr q)))
    rw [show (2 : Int32) * nI k = nI (2 * k) from pk_mul 2 k, nI_1]
    exact nI_nle (by omega) (by omega)
theorem held_B {v : Int32} {lo hi : Int32} {n : Nat} (h1 : -(n : Int) ≤ lo.toInt) (h2 : hi.toInt ≤ (n : Int)) (h3 : lo.toInt ≤ hi.toInt) : rB n (heldP v lo hi) ∧ lo.toInt ≤ (heldP v lo hi).toInt := by
  unfold heldP rB
  by_cases a1 : lo ≤ v
  · have b1 := Int32.le_iff_toInt_le.mp a1
    rw [if_pos a1]
    by_cases a2 : v ≤ hi
    · have b2 := Int32.le_iff_toInt_le.mp a2
      rw [if_pos a2]
      omega
    · rw [if_neg a2]
      omega
  · rw [if_neg a1]
    omega
theorem lrA_B (sd : Int32) : rB 256 (lrA sd) := by
  unfold lrA
  split
  · unfold rB; decide
  · unfold rB; decide
theorem TI_know {p er am : Int32} {f : TF} (h : TI f) (hA : rB 256 am) : TI (knowP (passP (impP f er am p) am am)) := by
  obtain ⟨⟨h0, h1, h2, h3⟩, ⟨h4, h5, h6⟩, ⟨h7, h7b, h8, h9⟩, h16, h17, m, m1, m2, hg, hm⟩ := h
  have a7 := held_B (v := f 7 + stepP (er * am) p) (lo := 8) (hi := 128) (n := 128) (by decide) (by decide) (by decide)
  have a8 := held_B (v := f 8 + stepP (er * f 5) p) (lo := -48) (hi := 48) (n := 48) (by decide) (by decide) (by decide)
  have a9 := held_B (v := f 9 + stepP (er * f 6) p) (lo := -48) (hi := 48) (n := 48) (by decide) (by decide) (by decide)
  have e7 : 8 ≤ (heldP (f 7 + stepP (er * am) p) 8 128).toInt := a7.2
  refine ⟨⟨h0, h1, h2, h3⟩, ⟨(by unfold rB; decide : rB 1000 0), hA, h5⟩, ⟨e7, a7.1, a8.1, a9.1⟩, hA, h5, m, m1, m2, ?_, hm⟩
  show ¬ heldP (f 7 + stepP (er * am) p) 8 128 ≤ 0
  intro q
  have q2 := Int32.le_iff_toInt_le.mp q
  have q3 : (0 : Int32).toInt = 0 := by decide
  omega
theorem TI_lrF {p sd : Int32} {f : TF} (h : TI f) : TI (lrF p sd f) := by
  unfold lrF
  exact TI_know h (lrA_B sd)
theorem bfP_n (g d : Int32) : ∃ n, n ≤ 4 ∧ bfP g d = nI n := by
  unfold bfP
  split
  · split
    · split
      · split
        · exact ⟨0, by decide, rfl⟩
        · exact ⟨1, by decide, rfl⟩
      · exact ⟨2, by decide, rfl⟩
    · exact ⟨3, by decide, rfl⟩
  · exact ⟨4, by decide, rfl⟩
theorem TI_endP {f : TF} {wo mg : Int32} (h : TI f) : TI (endP f wo mg) := by
  obtain ⟨⟨h0, h1, h2, h3⟩, ⟨h4, h5, h6⟩, ⟨h7, h7b, h8, h9⟩, h16, h17, m, m1, m2, hg, hm⟩ := h
  obtain ⟨n, hn, e⟩ := bfP_n (f 7) (wo * mg / 4)
  exact ⟨⟨h0, h1, h2, h3⟩, ⟨h4, h5, h6⟩, ⟨h7, h7b, h8, h9⟩, h16, h17, n, hn, e, hg, hm⟩
theorem TI_loseP {f : TF} (h : TI f) : TI (loseP f) := by
  obtain ⟨⟨h0, h1, h2, h3⟩, ⟨h4, h5, h6⟩, -, h16, h17, m, m1, m2, hg, hm⟩ := h
  exact ⟨⟨h0, h1, h2, h3⟩, ⟨h4, h5, h6⟩, ⟨(by decide : (8 : Int) ≤ (64 : Int32).toInt), (by unfold rB; decide : rB 128 64), (by unfold rB; decide : rB 48 0), (by unfold rB; decide : rB 48 0)⟩, h16, h17, 0, by decide, rfl, (by decide : ¬ (64 : Int32) ≤ 0), hm⟩
theorem WI_lrT {p sd : Int32} {nb : Nat} {σ : WS} {sz : Nat → Int32} (h : WI σ) : ∀ i, i ≤ 8 → WI (lrT p nb sd σ sz i).2.1
  | 0, _ => h
  | i + 1, hi => by
    have ih := WI_lrT (p := p) (sd := sd) (nb := nb) (sz := sz) h i (by omega)
    rw [lrT_s]
    exact ⟨up_all ih.1 (TI_lrF (ih.1 i (by omega))), ih.2⟩
theorem WI_lrN {p sd : Int32} {σ : WS} (h : WI σ) : ∀ n, WI (lrN p sd σ n).2.1
  | 0 => h
  | n + 1 => by
    rw [lrN_s]
    exact WI_lrT (WI_lrN h n) k8 (Nat.le_of_eq k8e)
theorem WI_enT {mg : Int32} {sz : Nat → Int32} {σ : WS} (h : WI σ) : ∀ i, i ≤ 8 → WI (enT mg sz σ i)
  | 0, _ => h
  | i + 1, hi => ⟨up_all (WI_enT h i (by omega)).1 (TI_endP ((WI_enT h i (by omega)).1 i (by omega))), (WI_enT h i (by omega)).2⟩
theorem WI_tlW {p mg sd : Int32} {σ : WS} {n : Nat} (h : WI σ) : WI (tlW p mg sd σ n) := WI_enT (WI_lrN h n) k8 (Nat.le_of_eq k8e)
theorem WI_fgT {σ : WS} (h : WI σ) : ∀ i, i ≤ 8 → WI (fgT σ i)
  | 0, _ => h
  | i + 1, hi => ⟨up_all (WI_fgT h i (by omega)).1 (TI_loseP ((WI_fgT h i (by omega)).1 i (by omega))), (WI_fgT h i (by omega)).2⟩
/-- what came of m signs -/
def CS (σ : WS) (m : Nat) : Prop := ∃ c w : Nat, σ.2.2.2.1 = nI c ∧ σ.2.2.2.2 = nI w ∧ w ≤ c ∧ c ≤ 4 * m
theorem bc_n : ∀ n, n < 5 → ∀ a, a < 2 ^ n → ∀ b, b < 2 ^ n → ∃ k, k ≤ n ∧ bcP (nI a ^^^ nI b) = nI k := by decide +kernel
theorem CS_ssW {sd : Int32} {σ : WS} {t m : Nat} (h : WI σ) (ht : t < 8) (hC : CS σ m) : CS (ssW sd σ t) (m + 1) := by
  obtain ⟨n, c, d, q1, q2, q3, q4, q5, q6, q7, q8, q9, q10, q11, -⟩ := sg_all (sd := sd) (h.1 t ht) h.2
  obtain ⟨c0, w0, e1, e2, e3, e4⟩ := hC
  obtain ⟨k, hk, ek⟩ := bc_n n (by omega) c q6 d q9
  refine ⟨c0 + n, w0 + k, ?_, ?_, by omega, by omega⟩
  · show σ.2.2.2.1 + σ.1 t 10 = _
    rw [e1, q2, nI_add]
  · show σ.2.2.2.2 + sgW sd (σ.1 t) σ.2.1 = _
    unfold sgW
    rw [e2, q8, q11, ek, nI_add]
theorem CS_sndT {sd : Int32} {σ : WS} {m : Nat} (h : WI σ) (hC : CS σ m) : ∀ i, i ≤ 8 → CS (sndT sd σ i).2.2 (m + i)
  | 0, _ => hC
  | i + 1, hi => CS_ssW (WI_sndT h i (by omega)) (by omega) (CS_sndT h hC i (by omega))
theorem CS_btP {mm sd : Int32} {σ : WS} {m : Nat} (h : WI σ) (hC : CS σ m) : CS (btP mm sd σ).2.2 (m + 8) := by
  have e := CS_sndT (sd := sd) h hC 8 (Nat.le_refl 8)
  have e2 : (btP mm sd σ).2.2.2 = (sndT sd σ 8).2.2.2 := by
    show (shyT mm (sndT sd σ k8).2.2 k8).2 = _
    rw [shyT_2, k8e]
  unfold CS at e ⊢
  rw [e2]
  exact e
theorem CS_btN {mm sd : Int32} {σ : WS} {m : Nat} (h : WI σ) (hC : CS σ m) : ∀ n, CS (btN mm sd σ n).2.2 (m + 8 * n)
  | 0 => hC
  | n + 1 => CS_btP (WI_btN h n) (CS_btN h hC n)
theorem CS_le {σ : WS} {m n : Nat} (h : CS σ m) (hn : m ≤ n) : CS σ n := by
  obtain ⟨c, w, e1, e2, e3, e4⟩ := h
  exact ⟨c, w, e1, e2, e3, by omega⟩
theorem CS_eq {σ τ : WS} {m : Nat} (h : CS σ m) (e : τ.2 = σ.2) : CS τ m := by
  unfold CS
  rw [e]
  exact h
theorem CS_eq2 {σ τ : WS} {m : Nat} (h : CS σ m) (e : τ.2.2.2 = σ.2.2.2) : CS τ m := by
  unfold CS
  rw [e]
  exact h
/-- the patience -/
def SI (se : Nat → Int32) : Prop := ∃ k, 1 ≤ k ∧ k ≤ 64 ∧ se 0 = nI k
def GI (p : PS) : Prop := (∀ a, a < 2 → WI (pW p a)) ∧ SI p.2.2.1 ∧ ∃ n, n ≤ 5000 ∧ p.2.1 = nI n ∧ ∀ a, a < 2 → CS (pW p a) (8 * n)
theorem GI.L {p : PS} (h : GI p) {a : Nat} (ha : a < 2) : LN p a := by
  obtain ⟨k, k1, k2, e⟩ := h.2.1
  refine ⟨fun t ht => TI_TN ((h.1 a ha).1 t ht), ?_, ?_⟩
  · rw [e]
    exact nI_nle (by omega) (by omega)
  · rw [e, show (128 : Int32) * nI k = nI (128 * k) from pk_mul 128 k]
    exact nI_ne0 (by omega) (by omega)
theorem GI.C {p : PS} (h : GI p) {a : Nat} (ha : a < 2) : CI p a := by
  obtain ⟨n, n1, -, n2⟩ := h.2.2
  obtain ⟨c, w, e1, e2, e3, e4⟩ := n2 a ha
  exact ⟨c, w, e1, e2, e3, by omega⟩
theorem GI.G {p : PS} (h : GI p) {a : Nat} (ha : a < 2) : GD p a := ⟨WI_TA (h.1 a ha), h.L ha, (h.C ha).R⟩
theorem GI.way {p : PS} {sd bt : Int32} {a n : Nat} {σ : WS} (h : GI p) (ha : a < 2) (hW : WI σ) (hn : n ≤ 5000) (hb : bt = nI n) (hC : CS σ (8 * n)) (ho : ∀ b, b < 2 → CS (pW p b) (8 * n)) : GI (sd, bt, (pSet p a σ).2.2) := by
  have e1 : ∀ b, b < 2 → b = a → pW (sd, bt, (pSet p a σ).2.2) b = σ := fun b hb e => by subst e; exact pW_set (p := p)
  have e2 : ∀ b, b < 2 → b ≠ a → pW (sd, bt, (pSet p a σ).2.2) b = pW p b := fun b hb e => pW_other (p := p) ha hb e
  refine ⟨fun b hb => ?_, h.2.1, n, hn, hb, fun b hb => ?_⟩
  · by_cases e : b = a
    · rw [e1 b hb e]; exact hW
    · rw [e2 b hb e]; exact h.1 b hb
  · by_cases e : b = a
    · rw [e1 b hb e]; exact hC
    · rw [e2 b hb e]; exact ho b hb
theorem GI.tone {p : PS} {a t : Nat} {f : TF} (h : GI p) (ha : a < 2) (hf : TI f) : GI (pTone p a t f) := by
  obtain ⟨n, n1, n2, n3⟩ := h.2.2
  exact h.way (sd := p.1) (bt := p.2.1) ha ⟨up_all (h.1 a ha).1 hf, (h.1 a ha).2⟩ n1 n2 (CS_eq (n3 a ha) rfl) n3
theorem GI.sett {p : PS} {j : Nat} {v : Int32} (h : GI p) (hj : j < 3) (hv : ¬ bSe j v) : GI (pSett p j v) := by
  refine ⟨h.1, ?_, h.2.2⟩
  show SI (upd p.2.2.1 j v)
  unfold SI
  by_cases e : j = 0
  · subst e
    rw [upd_eq]
    have e2 : ¬ (v < 1 ∨ 64 < v) := hv
    obtain ⟨k, hk, rfl⟩ := nI_of2 (M := 64) (n := 64) rfl (fun q => e2 (Or.inl (Int32.lt_trans q (by decide)))) (Int32.not_lt.mp (fun q => e2 (Or.inr q)))
    refine ⟨k, Nat.pos_of_ne_zero (fun q => e2 (Or.inl (by rw [q]; decide))), hk, rfl⟩
  · rw [upd_ne (Ne.symm e)]
    exact h.2.1
theorem GI.beats {p : PS} {n : Nat} (h : GI p) (hn : n ≤ 100) (hl : ¬ 5000 < p.2.1 + nI n) : ∃ m, m + n ≤ 5000 ∧ p.2.1 = nI m ∧ p.2.1 + nI n = nI (m + n) ∧ ∀ a, a < 2 → CS (pW p a) (8 * m) := by
  obtain ⟨m, m1, m2, m3⟩ := h.2.2
  have e : p.2.1 + nI n = nI (m + n) := by rw [m2, nI_add]
  refine ⟨m, ?_, m2, e, m3⟩
  refine Decidable.byContradiction (fun q => hl ?_)
  rw [e]
  exact nI_lt (a := 5000) (b := m + n) (by omega) (by omega)
theorem GI.learn {p : PS} {a n : Nat} (h : GI p) (ha : a < 2) (hn : n ≤ 100) (hl : ¬ 5000 < p.2.1 + nI n) : GI (pLearn p a n) := by
  obtain ⟨m, m1, m2, m3, m4⟩ := h.beats hn hl
  exact h.way ha (WI_tlW (h.1 a ha)) m1 m3 (CS_eq (CS_le (m4 a ha) (by omega)) tlW_2) (fun b hb => CS_le (m4 b hb) (by omega))
theorem GI.send {p : PS} {a n : Nat} (h : GI p) (ha : a < 2) (hn : n ≤ 100) (hl : ¬ 5000 < p.2.1 + nI n) : GI (pSend p a n) := by
  obtain ⟨m, m1, m2, m3, m4⟩ := h.beats hn hl
  refine h.way ha (WI_btN (h.1 a ha) n) m1 m3 ?_ (fun b hb => CS_le (m4 b hb) (by omega))
  have e := CS_btN (mm := p.2.2.1 2) (sd := p.1) (h.1 a ha) (m4 a ha) n
  rw [show 8 * (m + n) = 8 * m + 8 * n by omega]
  exact e
theorem GI.forg {p : PS} {a : Nat} (h : GI p) (ha : a < 2) : GI (pForg p a) := by
  obtain ⟨n, n1, n2, n3⟩ := h.2.2
  exact h.way (sd := p.1) (bt := p.2.1) ha (WI_fgT (h.1 a ha) k8 (Nat.le_of_eq k8e)) n1 n2 (CS_eq (n3 a ha) (fgT_2 k8)) n3
theorem and_1 (x : Int32) : x &&& 1 = 0 ∨ x &&& 1 = 1 := by
  have e := pk_and x (m := 1) 1 (by decide)
  rw [e]
  rcases (show x.toBitVec.toNat % 2 ^ 1 = 0 ∨ x.toBitVec.toNat % 2 ^ 1 = 1 by omega) with q | q
  · rw [q]; exact Or.inl nI_0
  · rw [q]; exact Or.inr rfl
theorem BI_dg4 (d : Int32) : BI (dg4 d) := by
  intro b hb
  unfold dg4 at hb
  simp only [List.mem_cons, List.not_mem_nil, or_false] at hb
  rcases hb with rfl | rfl | rfl | rfl <;> exact and_1 _
theorem BI_app {as bs : List Int32} (h1 : BI as) (h2 : BI bs) : BI (as ++ bs) := fun b hb => (List.mem_append.mp hb).elim (h1 b) (h2 b)
theorem BI_pb {ch : Nat → Int32} {b0 b1 : List Int32} (h0 : BI b0) (h1 : BI b1) : ∀ n, BI (pbP ch b0 b1 n).1 ∧ BI (pbP ch b0 b1 n).2
  | 0 => ⟨h0, h1⟩
  | n + 1 => by
    have ih := BI_pb (ch := ch) h0 h1 n
    rw [pbP_s]
    split
    · split
      · exact ⟨BI_app ih.1 (BI_dg4 _), ih.2⟩
      · exact ⟨ih.1, BI_app ih.2 (BI_dg4 _)⟩
    · exact ih
theorem GI.say {p : PS} {len : Nat} {ch : Nat → Int32} (h : GI p) : GI (pSay p len ch) := by
  have hb := BI_pb (ch := ch) (h.1 0 (by decide)).2 (h.1 1 (by decide)).2 len
  obtain ⟨n, n1, n2, n3⟩ := h.2.2
  refine ⟨fun b hb2 => ?_, h.2.1, n, n1, n2, fun b hb2 => ?_⟩
  · rcases (show b = 0 ∨ b = 1 by omega) with rfl | rfl
    · exact ⟨(h.1 0 (by decide)).1, hb.1⟩
    · exact ⟨(h.1 1 (by decide)).1, hb.2⟩
  · rcases (show b = 0 ∨ b = 1 by omega) with rfl | rfl
    · exact CS_eq2 (n3 0 (by decide)) rfl
    · exact CS_eq2 (n3 1 (by decide)) rfl
theorem TI_0 : TI nt0 := ⟨⟨by unfold rB; decide, by unfold rB; decide, by unfold rB; decide, by unfold rB; decide⟩, ⟨by unfold rB; decide, by unfold rB; decide, by unfold rB; decide⟩, ⟨by decide, by unfold rB; decide, by unfold rB; decide, by unfold rB; decide⟩, by unfold rB; decide, by unfold rB; decide, 0, by decide, by decide, by decide, by decide⟩
theorem GI_0 : GI ps0 := by
  refine ⟨fun a ha => ?_, ⟨8, by decide, by decide, by decide⟩, 0, by decide, by decide, fun a ha => ?_⟩
  · rw [pW_0]
    exact ⟨fun t ht => TI_0, fun b hb => absurd hb (List.not_mem_nil)⟩
  · rw [pW_0]
    exact ⟨0, 0, rfl, rfl, Nat.le_refl 0, Nat.zero_le _⟩
theorem GI_svN {p : PS} {sv : Nat → PS} {sc : Nat} (h : GI p) (hs : ∀ k, k < sc → GI (sv k)) (hsc : sc ≤ 6) : ∀ k, k < scN sc → GI (svN p sv sc k) := fun k hk => by
  unfold svN
  unfold scN at hk
  by_cases e : sc < 6
  · rw [if_pos e] at hk ⊢
    unfold svS
    by_cases e2 : k = sc
    · rw [if_pos e2]; exact h
    · rw [if_neg e2]; exact hs k (by omega)
  · rw [if_neg e] at hk ⊢
    unfold svS
    by_cases e2 : k = 5
    · rw [if_pos e2]; exact h
    · rw [if_neg e2]
      unfold svD
      rw [if_neg e2]
      exact hs (k + 1) (by omega)
theorem scN_6 {sc : Nat} (h : sc ≤ 6) : scN sc ≤ 6 := by
  unfold scN
  split <;> omega

