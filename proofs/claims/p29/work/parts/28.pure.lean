section MK
variable {E : gE} {Y : MI} {Pr : Option Value → va_W → Prop} {Px : String → va_W → Prop} {k n pc : Nat} {lv : List (Nat × Value)} {st : List Value} {ws : va_W} {L : LI}
theorem nx_add {x y : Int32} {a b : Nat} (hx : x = nI a) (hy : y = nI b) : x + y = nI (a + b) := by rw [hx, hy, nI_add]
theorem nx_mul {x y : Int32} {a b : Nat} (hx : x = nI a) (hy : y = nI b) : x * y = nI (a * b) := by rw [hx, hy, pk_mul]
theorem upd_eq {f : Nat → Int32} {k : Nat} {x : Int32} : upd f k x k = x := if_pos rfl
theorem upd_ne {f : Nat → Int32} {k j : Nat} {x : Int32} (h : j ≠ k) : upd f k x j = f j := if_neg h
/-- loads and stores at a place that is a natural number -/
theorem ev_ialdv (D : Lst Y L) (i : Nat) {a q N k0 : Nat} {f : Nat → Int32} {i0 v : Int32} (hi : L[i]? = some (pc, .iaload, 1)) (he : ws[q]? = some (a, .inl (gK E 0, N, .inl f))) (h0 : i0 = nI k0) (hk : k0 < N) (hN : N < 2 ^ 31) (hv : f k0 = v) (kt : Ev E Y Pr Px k n (pc + 1) lv (.int v :: st) ws) : Ev E Y Pr Px k n pc lv (.int i0 :: .ref a :: st) ws := by
  subst h0
  exact ev_iald D i hi he (vp_in_nI hk hN) (by rw [nI_clamp (by omega), hv]; exact kt)
theorem ev_iastv (D : Lst Y L) (i : Nat) {a q N k0 : Nat} {f : Nat → Int32} {i0 x : Int32} {ws' : va_W} (hi : L[i]? = some (pc, .iastore, 1)) (he : ws[q]? = some (a, .inl (gK E 0, N, .inl f))) (h0 : i0 = nI k0) (hk : k0 < N) (hN : N < 2 ^ 31) (hws : ws.set q (a, .inl (gK E 0, N, .inl (upd f k0 x))) = ws') (kt : Ev E Y Pr Px k n (pc + 1) lv st ws') : Ev E Y Pr Px k n pc lv (.int x :: .int i0 :: .ref a :: st) ws := by
  subst h0
  exact ev_iast D i hi he (vp_in_nI hk hN) (by rw [nI_clamp (by omega)]; exact hws) kt
theorem ev_laldv (D : Lst Y L) (i : Nat) {a q N k0 : Nat} {f : Nat → Int64} {i0 : Int32} {v : Int64} (hi : L[i]? = some (pc, .laload, 1)) (he : ws[q]? = some (a, .inl (gK E 1, N, .inr (.inl f)))) (h0 : i0 = nI k0) (hk : k0 < N) (hN : N < 2 ^ 31) (hv : f k0 = v) (kt : Ev E Y Pr Px k n (pc + 1) lv (.long v :: st) ws) : Ev E Y Pr Px k n pc lv (.int i0 :: .ref a :: st) ws := by
  subst h0
  exact ev_lald D i hi he (vp_in_nI hk hN) (by rw [nI_clamp (by omega), hv]; exact kt)
theorem ev_lastv (D : Lst Y L) (i : Nat) {a q N k0 : Nat} {f : Nat → Int64} {i0 : Int32} {x : Int64} {ws' : va_W} (hi : L[i]? = some (pc, .lastore, 1)) (he : ws[q]? = some (a, .inl (gK E 1, N, .inr (.inl f)))) (h0 : i0 = nI k0) (hk : k0 < N) (hN : N < 2 ^ 31) (hws : ws.set q (a, .inl (gK E 1, N, .inr (.inl (vp_updL f k0 x)))) = ws') (kt : Ev E Y Pr Px k n (pc + 1) lv st ws') : Ev E Y Pr Px k n pc lv (.long x :: .int i0 :: .ref a :: st) ws := by
  subst h0
  exact ev_last D i hi he (vp_in_nI hk hN) (by rw [nI_clamp (by omega)]; exact hws) kt
end MK
abbrev laC (E : gE) (n : Nat) (f : Nat → Int64) : va_E := .inl (gK E 1, n, .inr (.inl f))
def inP (x lo hi : Int32) : Int32 := if x < lo then 0 else if hi < x then 0 else 1
theorem inP_b {x lo hi : Int32} : narrow .boolean (.int (inP x lo hi)) = .int (inP x lo hi) := by unfold inP; split; rfl; split <;> rfl
def amQ (b v : Int32) : Int32 := if b = 0 then 0 else ampP b v
theorem pW_other {p : PS} {a b : Nat} {σ : WS} (ha : a < 2) (hb : b < 2) (h : b ≠ a) : pW (pSet p a σ) b = pW p b := by
  rcases (show a = 0 ∨ a = 1 by omega) with rfl | rfl
  · obtain rfl : b = 1 := by omega
    rfl
  · obtain rfl : b = 0 := by omega
    rfl
theorem pT_same {p : PS} {a t : Nat} {f : TF} : (pW (pTone p a t f) a).1 t = f := by
  unfold pTone
  rw [pW_set]
  exact if_pos rfl
theorem pT_diff {p : PS} {a t b u i : Nat} {f g : TF} (ha : a < 2) (hb : b < 2) (h : ¬ (b = a ∧ u = t) ∨ f i = g i) : (pW (pTone p a t f) b).1 u i = (pW (pTone p a t g) b).1 u i := by
  unfold pTone
  by_cases e : b = a
  · subst e
    rw [pW_set, pW_set]
    show va_up (pW p b).1 t f u i = va_up (pW p b).1 t g u i
    unfold va_up
    by_cases e2 : u = t
    · rw [if_pos e2, if_pos e2]
      rcases h with h | h
      · exact absurd ⟨rfl, e2⟩ h
      · exact h
    · rw [if_neg e2, if_neg e2]
  · rw [pW_other ha hb e, pW_other ha hb e]
theorem pT_rest {p : PS} {a t b : Nat} {f : TF} (ha : a < 2) (hb : b < 2) : (pW (pTone p a t f) b).2 = (pW p b).2 := by
  unfold pTone
  by_cases e : b = a
  · subst e
    rw [pW_set]
  · rw [pW_other ha hb e]
theorem pT_id {p : PS} {a t : Nat} : pTone p a t ((pW p a).1 t) = p := by
  have e : (va_up (pW p a).1 t ((pW p a).1 t), (pW p a).2) = pW p a := by
    refine Prod.ext (funext fun j => ?_) rfl
    show va_up (pW p a).1 t ((pW p a).1 t) j = (pW p a).1 j
    unfold va_up
    split
    · rename_i h; rw [h]
    · rfl
  unfold pTone
  rw [e, pSet_id]
theorem pT_pT {p : PS} {a t : Nat} {f g : TF} : pTone (pTone p a t f) a t g = pTone p a t g := by
  have e : (va_up (va_up (pW p a).1 t f) t g, (pW p a).2) = (va_up (pW p a).1 t g, (pW p a).2) := by
    refine Prod.ext (funext fun j => ?_) rfl
    show va_up (va_up (pW p a).1 t f) t g j = va_up (pW p a).1 t g j
    unfold va_up
    split <;> rfl
  unfold pTone
  rw [pW_set, pSet_set, e]
theorem pW_seed {p : PS} {sd bt : Int32} {b : Nat} : pW (sd, bt, p.2.2) b = pW p b := rfl
theorem pT_seed {p : PS} {a t : Nat} {f : TF} {v : Int32} : (v, (pTone p a t f).2) = pTone (v, p.2) a t f := rfl
/-- a way's numbers besides the tones -/
def pCnt (p : PS) (a : Nat) (cm wr : Int32) : PS := pSet p a ((pW p a).1, (pW p a).2.1, (pW p a).2.2.1, cm, wr)
theorem nx_rem {x y : Int32} {a d : Nat} (hx : x = nI a) (hy : y = nI d) (ha : a < 2 ^ 31) (h0 : 0 < d) (hd : d < 2 ^ 31) : x - x / y * y = nI (a % d) := by
  rw [hx, hy]
  exact pk_rem ha h0 hd
theorem lr_chain {f : TF} {err amp p0 : Int32} : upd (upd (upd (upd (upd (upd (upd (upd f 4 0) 6 (f 5)) 5 amp) (7 + 0) (heldP (f 7 + stepP (err * amp) p0) 8 128)) (7 + 1) (heldP (f 8 + stepP (err * f 5) p0) (-48) 48)) (7 + 2) (heldP (f 9 + stepP (err * f 6) p0) (-48) 48)) (7 + 9) amp) (7 + 10) (f 5) = knowP (passP (impP f err amp p0) amp amp) := by
  funext j
  by_cases h4 : j = 4
  · subst h4; rfl
  by_cases h5 : j = 5
  · subst h5; rfl
  by_cases h6 : j = 6
  · subst h6; rfl
  by_cases h7 : j = 7
  · subst h7; rfl
  by_cases h8 : j = 8
  · subst h8; rfl
  by_cases h9 : j = 9
  · subst h9; rfl
  by_cases h16 : j = 16
  · subst h16; rfl
  by_cases h17 : j = 17
  · subst h17; rfl
  unfold knowP passP impP
  simp only [upd, if_neg h4, if_neg h5, if_neg h6, if_neg h7, if_neg h8, if_neg h9, if_neg h16, if_neg h17, Nat.reduceAdd]
/-- a state with another seed and another way -/
def pSW (p : PS) (sd : Int32) (a : Nat) (σ : WS) : PS := (sd, p.2.1, (pSet p a σ).2.2)
theorem pSW_id {p : PS} {a : Nat} : pSW p p.1 a (pW p a) = p := by
  unfold pSW
  rw [pSet_id]
theorem pW_SW {p : PS} {sd : Int32} {a : Nat} {σ : WS} : pW (pSW p sd a σ) a = σ := pW_set (p := p)
theorem pSW_se {p : PS} {sd : Int32} {a : Nat} {σ : WS} : (pSW p sd a σ).2.2.1 = p.2.2.1 := rfl
theorem pSW_T {p : PS} {sd sd2 : Int32} {a i : Nat} {σ : WS} {F : TF} : pTone (sd2, (pSW p sd a σ).2) a i F = pSW p sd2 a (va_up σ.1 i F, σ.2) := by
  unfold pTone
  have e : pW (sd2, (pSW p sd a σ).2) a = σ := pW_SW (p := p) (sd := sd)
  rw [e]
  unfold pSW pSet
  by_cases h : a = 0
  · simp [h]
  · simp [h]
def bfQ (g d : Int32) : Int32 := if d < roomP g 4 then 4 else if d < roomP g 3 then 3 else if d < roomP g 2 then 2 else if d < roomP g 1 then 1 else 0
theorem bfQ_P {g d : Int32} : bfQ g d = bfP g d := by
  have nl : ∀ {x y : Int32}, ¬ x < y → y ≤ x := fun h => Int32.not_lt.mp h
  have nn : ∀ {x y : Int32}, x < y → ¬ y ≤ x := fun h => Int32.not_le.mpr h
  unfold bfQ bfP
  by_cases h4 : d < roomP g 4
  · rw [if_pos h4, if_neg (nn h4)]
  · rw [if_neg h4, if_pos (nl h4)]
    by_cases h3 : d < roomP g 3
    · rw [if_pos h3, if_neg (nn h3)]
    · rw [if_neg h3, if_pos (nl h3)]
      by_cases h2 : d < roomP g 2
      · rw [if_pos h2, if_neg (nn h2)]
      · rw [if_neg h2, if_pos (nl h2)]
        by_cases h1 : d < roomP g 1
        · rw [if_pos h1, if_neg (nn h1)]
        · rw [if_neg h1, if_pos (nl h1)]
def wrM (er : Nat → Int32) (t : Nat) : Nat → Int32
  | 0 => 0
  | i + 1 => mxP (wrM er t i) (er (8 * t + i))
theorem wrM_s {er : Nat → Int32} {t i : Nat} : wrM er t (i + 1) = mxP (wrM er t i) (er (8 * t + i)) := rfl
theorem mxP_n {a b : Int32} (h : ¬ b ≤ a) : b = mxP a b := (if_pos (Int32.not_le.mp h)).symm
theorem mxP_p {a b : Int32} (h : b ≤ a) : a = mxP a b := (if_neg (Int32.not_lt.mpr h)).symm
noncomputable def lrM (p sd : Int32) (σ : WS) (er : Nat → Int32) : Nat → Int32 × WS × (Nat → Int32)
  | 0 => (sd, σ, er)
  | n + 1 => lrT p n (lrM p sd σ er n).1 (lrM p sd σ er n).2.1 (lrM p sd σ er n).2.2 k8
theorem lrM_0 {p sd : Int32} {σ : WS} {er : Nat → Int32} : lrM p sd σ er 0 = (sd, σ, er) := rfl
theorem lrM_s {p sd : Int32} {σ : WS} {er : Nat → Int32} {n : Nat} : lrM p sd σ er (n + 1) = lrT p n (lrM p sd σ er n).1 (lrM p sd σ er n).2.1 (lrM p sd σ er n).2.2 k8 := rfl
theorem lrT_s {p sd : Int32} {nb : Nat} {σ : WS} {sz : Nat → Int32} {i : Nat} : lrT p nb sd σ sz (i + 1) = (drwS (drwS (lrT p nb sd σ sz i).1), (va_up (lrT p nb sd σ sz i).2.1.1 i (lrF p (lrT p nb sd σ sz i).1 ((lrT p nb sd σ sz i).2.1.1 i)), (lrT p nb sd σ sz i).2.1.2), upd (lrT p nb sd σ sz i).2.2 (8 * i + nb % 8) (absP (lrE (lrT p nb sd σ sz i).1 ((lrT p nb sd σ sz i).2.1.1 i)))) := rfl
theorem lrT_ind {p sd : Int32} {nb : Nat} {σ : WS} {sz sz2 : Nat → Int32} : ∀ i, (lrT p nb sd σ sz i).1 = (lrT p nb sd σ sz2 i).1 ∧ (lrT p nb sd σ sz i).2.1 = (lrT p nb sd σ sz2 i).2.1
  | 0 => ⟨rfl, rfl⟩
  | i + 1 => by
    obtain ⟨h1, h2⟩ := lrT_ind (p := p) (sd := sd) (nb := nb) (σ := σ) (sz := sz) (sz2 := sz2) i
    rw [lrT_s, lrT_s, h1, h2]
    exact ⟨rfl, rfl⟩
theorem lrT_rel {p sd : Int32} {nb : Nat} {σ : WS} {sz sz2 : Nat → Int32} : ∀ i, i ≤ 8 → ∀ t j, t < 8 → j < 8 → (t < i ∧ j = nb % 8 → (lrT p nb sd σ sz i).2.2 (8 * t + j) = (lrT p nb sd σ sz2 i).2.2 (8 * t + j)) ∧ (¬ (t < i ∧ j = nb % 8) → (lrT p nb sd σ sz i).2.2 (8 * t + j) = sz (8 * t + j) ∧ (lrT p nb sd σ sz2 i).2.2 (8 * t + j) = sz2 (8 * t + j))
  | 0, _, t, j, ht, hj => ⟨fun h => absurd h.1 (Nat.not_lt_zero t), fun _ => ⟨rfl, rfl⟩⟩
  | i + 1, hi, t, j, ht, hj => by
    have ih := lrT_rel (p := p) (sd := sd) (nb := nb) (σ := σ) (sz := sz) (sz2 := sz2) i (by omega) t j ht hj
    obtain ⟨h1, h2⟩ := lrT_ind (p := p) (sd := sd) (nb := nb) (σ := σ) (sz := sz) (sz2 := sz2) i
    have hb : nb % 8 < 8 := Nat.mod_lt _ (by decide)
    rw [lrT_s, lrT_s, h1, h2]
    show (t < i + 1 ∧ j = nb % 8 → upd _ _ _ (8 * t + j) = upd _ _ _ (8 * t + j)) ∧ (¬ (t < i + 1 ∧ j = nb % 8) → upd _ _ _ (8 * t + j) = _ ∧ upd _ _ _ (8 * t + j) = _)
    by_cases e : 8 * t + j = 8 * i + nb % 8
    · obtain ⟨rfl, rfl⟩ : t = i ∧ j = nb % 8 := by omega
      refine ⟨fun _ => ?_, fun h => absurd ⟨Nat.lt_succ_self _, rfl⟩ h⟩
      rw [upd_eq, upd_eq]
    · rw [upd_ne e, upd_ne e]
      refine ⟨fun h => ih.1 ⟨by omega, h.2⟩, fun h => ih.2 (fun q => h ⟨by omega, q.2⟩)⟩
theorem lrM_rel {p sd : Int32} {σ : WS} {er : Nat → Int32} : ∀ n, (lrM p sd σ er n).1 = (lrN p sd σ n).1 ∧ (lrM p sd σ er n).2.1 = (lrN p sd σ n).2.1 ∧ ∀ t j, t < 8 → j < 8 → (j < n → (lrM p sd σ er n).2.2 (8 * t + j) = (lrN p sd σ n).2.2 (8 * t + j)) ∧ (n ≤ j → (lrN p sd σ n).2.2 (8 * t + j) = 0)
  | 0 => ⟨rfl, rfl, fun t j ht hj => ⟨fun h => absurd h (Nat.not_lt_zero j), fun _ => rfl⟩⟩
  | n + 1 => by
    have e8 := k8e
    obtain ⟨h1, h2, h3⟩ := lrM_rel (p := p) (sd := sd) (σ := σ) (er := er) n
    rw [lrM_s, lrN_s, h1, h2]
    obtain ⟨g1, g2⟩ := lrT_ind (p := p) (sd := (lrN p sd σ n).1) (nb := n) (σ := (lrN p sd σ n).2.1) (sz := (lrM p sd σ er n).2.2) (sz2 := (lrN p sd σ n).2.2) k8
    refine ⟨g1, g2, fun t j ht hj => ?_⟩
    have g3 := lrT_rel (p := p) (sd := (lrN p sd σ n).1) (nb := n) (σ := (lrN p sd σ n).2.1) (sz := (lrM p sd σ er n).2.2) (sz2 := (lrN p sd σ n).2.2) k8 (by omega) t j ht hj
    have g4 := h3 t j ht hj
    by_cases e : j = n % 8
    · refine ⟨fun _ => g3.1 ⟨by omega, e⟩, fun h => ?_⟩
      omega
    · obtain ⟨q1, q2⟩ := g3.2 (fun q => e q.2)
      rw [q1, q2]
      exact ⟨fun h => g4.1 (by omega), fun h => g4.2 (by omega)⟩
theorem mxP_ge {a b : Int32} (h : 0 ≤ a) : 0 ≤ mxP a b := by
  unfold mxP
  split
  · rename_i e
    exact Int32.le_trans h (Int32.le_of_lt e)
  · exact h
theorem wrM_nn {er : Nat → Int32} {t : Nat} : ∀ i, 0 ≤ wrM er t i
  | 0 => (by decide : (0 : Int32) ≤ 0)
  | i + 1 => mxP_ge (wrM_nn i)
theorem wor_rel {er sz : Nat → Int32} {t n : Nat} (h : ∀ j, j < 8 → (j < n → er (8 * t + j) = sz (8 * t + j)) ∧ (n ≤ j → sz (8 * t + j) = 0)) : ∀ i, i ≤ 8 → worN sz t i = wrM er t (min i n)
  | 0, _ => by rw [Nat.zero_min]; rfl
  | i + 1, hi => by
    have ih := wor_rel h i (by omega)
    show mxP (worN sz t i) (sz (8 * t + i)) = _
    rw [ih]
    by_cases e : i < n
    · rw [show min i n = i by omega, show min (i + 1) n = i + 1 by omega, wrM_s, (h i (by omega)).1 e]
    · rw [(h i (by omega)).2 (by omega), show min i n = n by omega, show min (i + 1) n = n by omega]
      exact (mxP_p (wrM_nn n)).symm
theorem wor_k {er sz : Nat → Int32} {t n : Nat} (h : ∀ j, j < 8 → (j < n → er (8 * t + j) = sz (8 * t + j)) ∧ (n ≤ j → sz (8 * t + j) = 0)) : wrM er t (min 8 n) = worN sz t k8 := by
  rw [k8e]
  exact (wor_rel h 8 (Nat.le_refl 8)).symm
theorem pL_eq {p : PS} {a n : Nat} : ((pSW p (lrN (p.2.2.1 0) p.1 (pW p a) n).1 a (tlW (p.2.2.1 0) (p.2.2.1 1) p.1 (pW p a) n)).1, (pSW p (lrN (p.2.2.1 0) p.1 (pW p a) n).1 a (tlW (p.2.2.1 0) (p.2.2.1 1) p.1 (pW p a) n)).2.1 + nI n, (pSW p (lrN (p.2.2.1 0) p.1 (pW p a) n).1 a (tlW (p.2.2.1 0) (p.2.2.1 1) p.1 (pW p a) n)).2.2) = pLearn p a n := rfl
theorem pSW_pSW {p : PS} {sd sd2 : Int32} {a : Nat} {σ τ : WS} : pSW (pSW p sd a σ) sd2 a τ = pSW p sd2 a τ := by
  unfold pSW pSet
  by_cases h : a = 0
  · simp [h]
  · simp [h]
theorem nx_sub {x y : Int32} {a b : Nat} (hx : x = nI a) (hy : y = nI b) (h : b ≤ a) : x - y = nI (a - b) := by
  rw [hx, hy]
  exact pk_sub h
/-- the numbers from b on, moved one place down, the first i - 1 of them -/
def shZ (z : Nat → Int32) (b i k : Nat) : Int32 := if b ≤ k ∧ k + 1 < b + i then z (k + 1) else z k
theorem shZ_1 {z : Nat → Int32} {b : Nat} : shZ z b 1 = z := by
  funext k
  exact if_neg (by omega)
theorem shZ_at {z : Nat → Int32} {b i k : Nat} (h : b + i ≤ k + 1) : shZ z b i k = z k := if_neg (by omega)
theorem shZ_lo {z : Nat → Int32} {b i k : Nat} (h : k < b) : shZ z b i k = z k := if_neg (by omega)
theorem shZ_s {z : Nat → Int32} {b i : Nat} (hi : 1 ≤ i) : upd (shZ z b i) (b + i - 1) (z (b + i)) = shZ z b (i + 1) := by
  funext k
  by_cases e : k = b + i - 1
  · subst e
    rw [upd_eq]
    unfold shZ
    rw [if_pos (by omega), show b + i - 1 + 1 = b + i by omega]
  · rw [upd_ne e]
    unfold shZ
    by_cases e2 : b ≤ k ∧ k + 1 < b + i
    · rw [if_pos e2, if_pos (by omega)]
    · rw [if_neg e2, if_neg (by omega)]
def pBits (p : PS) (a : Nat) (bs : List Int32) : PS := pSet p a ((pW p a).1, bs, (pW p a).2.2)
/-- one bit taken -/
def tk1 (bs : List Int32) : Int32 × List Int32 := match bs with
  | [] => (0, [])
  | b :: bs => (b, bs)
theorem pBits_id {p : PS} {a : Nat} : pBits p a (pW p a).2.1 = p := pSet_id
