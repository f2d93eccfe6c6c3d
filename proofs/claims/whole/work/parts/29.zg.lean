/-- the reference's numbers show this state -/
def ZG (z : Nat → Int32) (p : PS) : Prop := (∀ a t j, a < 2 → t < 8 → j < 7 → z (stA a t + j) = (pW p a).1 t j) ∧ (∀ a t j, a < 2 → t < 8 → j < 11 → z (acA a t + j) = (pW p a).1 t (7 + j)) ∧ (∀ a i, a < 2 → i < (pW p a).2.1.length → z (288 + 256 * a + i) = (pW p a).2.1.getD i 0) ∧ (∀ a, a < 2 → (pW p a).2.1.length ≤ 256 ∧ z (800 + a) = nI (pW p a).2.1.length ∧ z (802 + a) = (pW p a).2.2.2.1 ∧ z (804 + a) = (pW p a).2.2.2.2) ∧ z 806 = p.2.1 ∧ z 807 = p.1 ∧ ∀ j, j < 3 → z (808 + j) = p.2.2.1 j
theorem pW_other {p : PS} {a b : Nat} {σ : WS} (ha : a < 2) (hb : b < 2) (h : b ≠ a) : pW (pSet p a σ) b = pW p b := by
  rcases (show a = 0 ∨ a = 1 by omega) with rfl | rfl
  · obtain rfl : b = 1 := by omega
    rfl
  · obtain rfl : b = 0 := by omega
    rfl
theorem pT_same {p : PS} {a t : Nat} {f : TF} : (pW (pTone p a t f) a).1 t = f := by
  unfold pTone
  rw [pW_set]
  exact if_pos rfl
theorem pT_diff {p : PS} {a t b u i : Nat} {f g : TF} (ha : a < 2) (hb : b < 2) (h : ¬ (b = a ∧ u = t) ∨ f i = g i) : (pW (pTone p a t f) b).1 u i = (pW (pTone p a t g) b).1 u i := by
  unfold pTone
  by_cases e : b = a
  · subst e
    rw [pW_set, pW_set]
    show va_up (pW p b).1 t f u i = va_up (pW p b).1 t g u i
    unfold va_up
    by_cases e2 : u = t
    · rw [if_pos e2, if_pos e2]
      rcases h with h | h
      · exact absurd ⟨rfl, e2⟩ h
      · exact h
    · rw [if_neg e2, if_neg e2]
  · rw [pW_other ha hb e, pW_other ha hb e]
theorem pT_rest {p : PS} {a t b : Nat} {f : TF} (ha : a < 2) (hb : b < 2) : (pW (pTone p a t f) b).2 = (pW p b).2 := by
  unfold pTone
  by_cases e : b = a
  · subst e
    rw [pW_set]
  · rw [pW_other ha hb e]
theorem pT_id {p : PS} {a t : Nat} : pTone p a t ((pW p a).1 t) = p := by
  have e : (va_up (pW p a).1 t ((pW p a).1 t), (pW p a).2) = pW p a := by
    refine Prod.ext (funext fun j => ?_) rfl
    show va_up (pW p a).1 t ((pW p a).1 t) j = (pW p a).1 j
    unfold va_up
    split
    · rename_i h; rw [h]
    · rfl
  unfold pTone
  rw [e, pSet_id]
theorem pT_pT {p : PS} {a t : Nat} {f g : TF} : pTone (pTone p a t f) a t g = pTone p a t g := by
  have e : (va_up (va_up (pW p a).1 t f) t g, (pW p a).2) = (va_up (pW p a).1 t g, (pW p a).2) := by
    refine Prod.ext (funext fun j => ?_) rfl
    show va_up (va_up (pW p a).1 t f) t g j = va_up (pW p a).1 t g j
    unfold va_up
    split <;> rfl
  unfold pTone
  rw [pW_set, pSet_set, e]
theorem ZG.st {z : Nat → Int32} {p : PS} {a t j : Nat} {f : TF} {v : Int32} (h : ZG z (pTone p a t f)) (ha : a < 2) (ht : t < 8) (hj : j < 7) : ZG (upd z (stA a t + j) v) (pTone p a t (upd f j v)) := by
  obtain ⟨h1, h2, h3, h4, h5, h6, h7⟩ := h
  have hs : stA a t + j < 112 := by unfold stA; omega
  refine ⟨fun b u i hb hu hi => ?_, fun b u i hb hu hi => ?_, fun b i hb hi => ?_, fun b hb => ?_, ?_, ?_, fun i hi => ?_⟩
  · by_cases hk : stA b u + i = stA a t + j
    · obtain ⟨rfl, rfl, rfl⟩ : b = a ∧ u = t ∧ i = j := by unfold stA at hk; omega
      rw [upd_eq, pT_same, upd_eq]
    · rw [upd_ne hk, h1 b u i hb hu hi]
      refine pT_diff ha hb ?_
      by_cases e : i = j
      · exact Or.inl (fun q => hk (by rw [q.1, q.2, e]))
      · exact Or.inr (upd_ne e).symm
  · rw [upd_ne (by unfold acA; omega), h2 b u i hb hu hi]
    exact pT_diff ha hb (Or.inr (upd_ne (by omega)).symm)
  · rw [pT_rest ha hb] at hi ⊢
    rw [upd_ne (by omega)]
    have e := h3 b i hb (by rw [pT_rest ha hb]; exact hi)
    rw [pT_rest ha hb] at e
    exact e
  · have e := h4 b hb
    rw [pT_rest ha hb] at e ⊢
    rw [upd_ne (by omega), upd_ne (by omega), upd_ne (by omega)]
    exact e
  · rw [upd_ne (by omega)]; exact h5
  · rw [upd_ne (by omega)]; exact h6
  · rw [upd_ne (by omega)]; exact h7 i hi
theorem ZG.ac {z : Nat → Int32} {p : PS} {a t j : Nat} {f : TF} {v : Int32} (h : ZG z (pTone p a t f)) (ha : a < 2) (ht : t < 8) (hj : j < 11) : ZG (upd z (acA a t + j) v) (pTone p a t (upd f (7 + j) v)) := by
  obtain ⟨h1, h2, h3, h4, h5, h6, h7⟩ := h
  have hs : acA a t + j < 288 := by unfold acA; omega
  have hs2 : 112 ≤ acA a t + j := by unfold acA; omega
  refine ⟨fun b u i hb hu hi => ?_, fun b u i hb hu hi => ?_, fun b i hb hi => ?_, fun b hb => ?_, ?_, ?_, fun i hi => ?_⟩
  · rw [upd_ne (by unfold stA; omega), h1 b u i hb hu hi]
    exact pT_diff ha hb (Or.inr (upd_ne (by omega)).symm)
  · by_cases hk : acA b u + i = acA a t + j
    · obtain ⟨rfl, rfl, rfl⟩ : b = a ∧ u = t ∧ i = j := by unfold acA at hk; omega
      rw [upd_eq, pT_same, upd_eq]
    · rw [upd_ne hk, h2 b u i hb hu hi]
      refine pT_diff ha hb ?_
      by_cases e : i = j
      · exact Or.inl (fun q => hk (by rw [q.1, q.2, e]))
      · exact Or.inr (upd_ne (by omega)).symm
  · rw [pT_rest ha hb] at hi ⊢
    rw [upd_ne (by omega)]
    have e := h3 b i hb (by rw [pT_rest ha hb]; exact hi)
    rw [pT_rest ha hb] at e
    exact e
  · have e := h4 b hb
    rw [pT_rest ha hb] at e ⊢
    rw [upd_ne (by omega), upd_ne (by omega), upd_ne (by omega)]
    exact e
  · rw [upd_ne (by omega)]; exact h5
  · rw [upd_ne (by omega)]; exact h6
  · rw [upd_ne (by omega)]; exact h7 i hi
theorem pW_seed {p : PS} {sd bt : Int32} {b : Nat} : pW (sd, bt, p.2.2) b = pW p b := rfl
theorem ZG.seed {z : Nat → Int32} {p : PS} {v : Int32} (h : ZG z p) : ZG (upd z 807 v) (v, p.2) := by
  obtain ⟨h1, h2, h3, h4, h5, h6, h7⟩ := h
  refine ⟨fun b u i hb hu hi => ?_, fun b u i hb hu hi => ?_, fun b i hb hi => ?_, fun b hb => ?_, ?_, ?_, fun i hi => ?_⟩
  · rw [upd_ne (by unfold stA; omega)]; exact h1 b u i hb hu hi
  · rw [upd_ne (by unfold acA; omega)]; exact h2 b u i hb hu hi
  · rw [upd_ne (by have := (h4 b hb).1; have hi2 : i < (pW p b).2.1.length := hi; omega)]; exact h3 b i hb hi
  · rw [upd_ne (by omega), upd_ne (by omega), upd_ne (by omega)]; exact h4 b hb
  · rw [upd_ne (by omega)]; exact h5
  · exact upd_eq
  · rw [upd_ne (by omega)]; exact h7 i hi
theorem ZG.beats {z : Nat → Int32} {p : PS} {v : Int32} (h : ZG z p) : ZG (upd z 806 v) (p.1, v, p.2.2) := by
  obtain ⟨h1, h2, h3, h4, h5, h6, h7⟩ := h
  refine ⟨fun b u i hb hu hi => ?_, fun b u i hb hu hi => ?_, fun b i hb hi => ?_, fun b hb => ?_, ?_, ?_, fun i hi => ?_⟩
  · rw [upd_ne (by unfold stA; omega)]; exact h1 b u i hb hu hi
  · rw [upd_ne (by unfold acA; omega)]; exact h2 b u i hb hu hi
  · rw [upd_ne (by have := (h4 b hb).1; have hi2 : i < (pW p b).2.1.length := hi; omega)]; exact h3 b i hb hi
  · rw [upd_ne (by omega), upd_ne (by omega), upd_ne (by omega)]; exact h4 b hb
  · exact upd_eq
  · rw [upd_ne (by omega)]; exact h6
  · rw [upd_ne (by omega)]; exact h7 i hi
theorem ZG.sett {z : Nat → Int32} {p : PS} {j : Nat} {v : Int32} (h : ZG z p) (hj : j < 3) : ZG (upd z (808 + j) v) (pSett p j v) := by
  obtain ⟨h1, h2, h3, h4, h5, h6, h7⟩ := h
  refine ⟨fun b u i hb hu hi => ?_, fun b u i hb hu hi => ?_, fun b i hb hi => ?_, fun b hb => ?_, ?_, ?_, fun i hi => ?_⟩
  · rw [upd_ne (by unfold stA; omega)]; exact h1 b u i hb hu hi
  · rw [upd_ne (by unfold acA; omega)]; exact h2 b u i hb hu hi
  · rw [upd_ne (by have := (h4 b hb).1; have hi2 : i < (pW p b).2.1.length := hi; omega)]; exact h3 b i hb hi
  · rw [upd_ne (by omega), upd_ne (by omega), upd_ne (by omega)]; exact h4 b hb
  · rw [upd_ne (by omega)]; exact h5
  · rw [upd_ne (by omega)]; exact h6
  · by_cases e : i = j
    · subst e
      rw [upd_eq]
      exact upd_eq.symm
    · rw [upd_ne (by omega), h7 i hi]
      exact (upd_ne e).symm
theorem pT_seed {p : PS} {a t : Nat} {f : TF} {v : Int32} : (v, (pTone p a t f).2) = pTone (v, p.2) a t f := rfl
theorem ZG.seedT {z : Nat → Int32} {p : PS} {a t : Nat} {f : TF} {v : Int32} (h : ZG z (pTone p a t f)) : ZG (upd z 807 v) (pTone (v, p.2) a t f) := by
  rw [← pT_seed]
  exact h.seed
/-- a way's numbers besides the tones -/
def pCnt (p : PS) (a : Nat) (cm wr : Int32) : PS := pSet p a ((pW p a).1, (pW p a).2.1, (pW p a).2.2.1, cm, wr)
theorem ZG.cnt {z : Nat → Int32} {p : PS} {a : Nat} {cm wr : Int32} (h : ZG z p) (ha : a < 2) : ZG (upd (upd z (802 + a) cm) (804 + a) wr) (pCnt p a cm wr) := by
  obtain ⟨h1, h2, h3, h4, h5, h6, h7⟩ := h
  have e1 : ∀ b, b < 2 → (pW (pCnt p a cm wr) b).1 = (pW p b).1 := fun b hb => by
    unfold pCnt
    by_cases e : b = a
    · subst e; rw [pW_set]
    · rw [pW_other ha hb e]
  have e2 : ∀ b, b < 2 → (pW (pCnt p a cm wr) b).2.1 = (pW p b).2.1 := fun b hb => by
    unfold pCnt
    by_cases e : b = a
    · subst e; rw [pW_set]
    · rw [pW_other ha hb e]
  refine ⟨fun b u i hb hu hi => ?_, fun b u i hb hu hi => ?_, fun b i hb hi => ?_, fun b hb => ?_, ?_, ?_, fun i hi => ?_⟩
  · rw [upd_ne (by unfold stA; omega), upd_ne (by unfold stA; omega), e1 b hb]; exact h1 b u i hb hu hi
  · rw [upd_ne (by unfold acA; omega), upd_ne (by unfold acA; omega), e1 b hb]; exact h2 b u i hb hu hi
  · rw [e2 b hb] at hi ⊢
    have := (h4 b hb).1
    rw [upd_ne (by omega), upd_ne (by omega)]; exact h3 b i hb hi
  · rw [e2 b hb]
    obtain ⟨q1, q2, q3, q4⟩ := h4 b hb
    refine ⟨q1, by rw [upd_ne (by omega), upd_ne (by omega)]; exact q2, ?_, ?_⟩
    · rw [upd_ne (by omega)]
      unfold pCnt
      by_cases e : b = a
      · subst e; rw [pW_set, upd_eq]
      · rw [pW_other ha hb e, upd_ne (by omega)]; exact q3
    · unfold pCnt
      by_cases e : b = a
      · subst e; rw [pW_set, upd_eq]
      · rw [pW_other ha hb e, upd_ne (by omega), upd_ne (by omega)]; exact q4
  · rw [upd_ne (by omega), upd_ne (by omega)]; exact h5
  · rw [upd_ne (by omega), upd_ne (by omega)]; exact h6
  · rw [upd_ne (by omega), upd_ne (by omega)]; exact h7 i hi
theorem m_X7_hearG {E : gE} {ad : Nat → Nat} {ws : va_W} {sm bm tw ea iw : Int32} {hh : Int64} {z : Nat → Int32} (h : ws[214]? = some (ad 214, moC ad sm bm tw ea iw hh)) (hz : ws[215]? = some (ad 215, iaC E 811 z)) {p : PS} {a t : Nat} {f : TF} {amp : Int32} (ha : a < 2) (ht : t < 8) (hG : ZG z (pTone p a t f)) (hm : ¬ 2 * f 3 + 1 ≤ 0) : C0 E YX7_hear 0 0 [.ref (ad 214), .int (nI a), .int (nI t), .int amp] ws (fun v w => v = some (.int (arrP f amp (drwN p.1 f))) ∧ ∃ z2, w = ws.set 215 (ad 215, iaC E 811 z2) ∧ ZG z2 (pTone (drwS p.1, p.2) a t (upd (upd (upd f 4 0) 6 (f 5)) 5 amp))) := by
  have q : ∀ j, j < 7 → z (stA a t + j) = f j := fun j hj => by rw [hG.1 a t j ha ht hj, pT_same]
  have q7 : z 807 = p.1 := hG.2.2.2.2.2.1
  refine c0_mono (m_X7_hear h hz ha ht (by rw [q 3 (by decide)]; exact fun e => hm (by rw [e]; decide))) (fun v w hvw => ?_)
  obtain ⟨rfl, rfl⟩ := hvw
  refine ⟨?_, _, rfl, ?_⟩
  · unfold heV
    rw [q7, show z (stA a t) = f 0 from q 0 (by decide), q 1 (by decide), q 2 (by decide), q 3 (by decide), q 4 (by decide), q 5 (by decide), q 6 (by decide)]
    rfl
  · unfold heZ
    rw [q7, q 5 (by decide)]
    have g0 : ZG (upd z 807 (drwS p.1)) (pTone (drwS p.1, p.2) a t f) := hG.seedT
    exact ((g0.st ha ht (j := 4) (by decide)).st ha ht (j := 6) (by decide)).st ha ht (j := 5) (by decide)
