/-! what holds of every state: bounds of size -/
def rB (n : Nat) (x : Int32) : Prop := x.toInt.natAbs ≤ n
theorem rB_le {m n : Nat} {x : Int32} (h : rB m x) (hmn : m ≤ n) : rB n x := Nat.le_trans h hmn
theorem bm_id {v : Int} (h : v.natAbs < 2147483648) : v.bmod (2 ^ 32) = v := Int.bmod_eq_of_le (by omega) (by omega)
theorem rB_add {a b : Nat} {x y : Int32} (hx : rB a x) (hy : rB b y) (h : a + b < 2147483648) : rB (a + b) (x + y) := by
  unfold rB at *
  rw [Int32.toInt_add, bm_id (by omega)]
  omega
theorem rB_sub {a b : Nat} {x y : Int32} (hx : rB a x) (hy : rB b y) (h : a + b < 2147483648) : rB (a + b) (x - y) := by
  unfold rB at *
  rw [Int32.toInt_sub, bm_id (by omega)]
  omega
theorem rB_mul {a b : Nat} {x y : Int32} (hx : rB a x) (hy : rB b y) (h : a * b < 2147483648) : rB (a * b) (x * y) := by
  unfold rB at *
  have e : (x.toInt * y.toInt).natAbs ≤ a * b := by rw [Int.natAbs_mul]; exact Nat.mul_le_mul hx hy
  rw [Int32.toInt_mul, bm_id (Nat.lt_of_le_of_lt e h)]
  exact e
theorem rB_divk {a k : Nat} {x y : Int32} (hx : rB a x) (h : a < 2147483648) (hy : k ≤ y.toInt.natAbs) (hk : k ≠ 0) : rB (a / k) (x / y) := by
  unfold rB at *
  have e : (x.toInt.tdiv y.toInt).natAbs ≤ a / k := by rw [Int.natAbs_tdiv]; exact Nat.div_le_div hx hy hk
  rw [Int32.toInt_div, bm_id (Nat.lt_of_le_of_lt (Nat.le_trans e (Nat.div_le_self _ _)) h)]
  exact e
theorem rB_dm {a : Nat} {x y : Int32} (hx : rB a x) (h : a < 2147483648) : rB a (x / y * y) := by
  unfold rB at *
  have e1 : (x.toInt.tdiv y.toInt).natAbs ≤ a := by rw [Int.natAbs_tdiv]; exact Nat.le_trans (Nat.div_le_self _ _) hx
  have e2 : (x.toInt.tdiv y.toInt * y.toInt).natAbs ≤ a := by
    rw [Int.natAbs_mul, Int.natAbs_tdiv]
    exact Nat.le_trans (Nat.div_mul_le_self _ _) hx
  rw [Int32.toInt_mul, Int32.toInt_div, bm_id (Nat.lt_of_le_of_lt e1 h), bm_id (Nat.lt_of_le_of_lt e2 h)]
  exact e2
theorem rB_any (x : Int32) : rB 2147483648 x := by
  have h1 := Int32.toInt_lt x
  have h2 := Int32.le_toInt x
  unfold rB
  omega
theorem rB_nI {n k : Nat} (h : k ≤ n) (hk : k < 2 ^ 31) : rB n (nI k) := by
  unfold rB
  rw [nI_toInt hk]
  omega
theorem drwN_B {sd : Int32} {f : TF} (h3 : rB 60 (f 3)) : rB 65596 (drwN sd f) := by
  have e0 : rB 32768 (drwS sd / 65536) := by
    unfold rB
    have h1 := Int32.toInt_lt (drwS sd)
    have h2 := Int32.le_toInt (drwS sd)
    have e : ((drwS sd).toInt.tdiv (65536 : Int32).toInt).natAbs ≤ 32768 := by
      rw [Int.natAbs_tdiv, show (65536 : Int32).toInt = 65536 by decide]
      exact Nat.div_le_div (a := (drwS sd).toInt.natAbs) (b := 2147483648) (c := 65536) (d := 65536) (by omega) (Nat.le_refl _) (by decide)
    rw [Int32.toInt_div, bm_id (by omega)]
    exact e
  unfold drwN drwV
  exact rB_sub (a := 65536) (b := 60) (rB_sub (a := 32768) (b := 32768) e0 (rB_dm e0 (by decide)) (by decide)) h3 (by decide)
theorem k64 : (64 : Nat) ≤ (64 : Int32).toInt.natAbs := by decide
/-- a tone's numbers within their bounds -/
def TI (f : TF) : Prop := (rB 96 (f 0) ∧ rB 32 (f 1) ∧ rB 32 (f 2) ∧ rB 60 (f 3)) ∧ (rB 1000 (f 4) ∧ rB 256 (f 5) ∧ rB 256 (f 6)) ∧ (8 ≤ (f 7).toInt ∧ rB 128 (f 7) ∧ rB 48 (f 8) ∧ rB 48 (f 9)) ∧ rB 256 (f 16) ∧ rB 256 (f 17) ∧ TS f
theorem arrP_B {f : TF} {amp ns : Int32} (h : TI f) (ha : rB 256 amp) (hn : rB 65596 ns) : rB 67236 (arrP f amp ns) := by
  obtain ⟨⟨h0, h1, h2, h3⟩, ⟨h4, h5, h6⟩, -⟩ := h
  unfold arrP
  have e1 : rB 24576 (f 0 * amp) := rB_mul h0 ha (by decide)
  have e2 : rB 8192 (f 1 * f 5) := rB_mul h1 h5 (by decide)
  have e3 : rB 8192 (f 2 * f 6) := rB_mul h2 h6 (by decide)
  have e4 : rB 40960 (f 0 * amp + f 1 * f 5 + f 2 * f 6) := rB_add (a := 32768) (b := 8192) (rB_add (a := 24576) (b := 8192) e1 e2 (by decide)) e3 (by decide)
  have e5 : rB 640 ((f 0 * amp + f 1 * f 5 + f 2 * f 6) / 64) := rB_divk (a := 40960) (k := 64) e4 (by decide) k64 (by decide)
  exact rB_add (a := 66236) (b := 1000) (rB_add (a := 640) (b := 65596) e5 hn (by decide)) h4 (by decide)
theorem DR_of {f : TF} {r : Int32} (h : TI f) (hr : rB 68000 r) : DR f r := by
  obtain ⟨-, -, ⟨h7, h7b, h8, h9⟩, h16, h17, -⟩ := h
  have e1 : rB 12288 (f 8 * f 16) := rB_mul h8 h16 (by decide)
  have e2 : rB 12288 (f 9 * f 17) := rB_mul h9 h17 (by decide)
  have e3 : rB 24576 (f 8 * f 16 + f 9 * f 17) := rB_add e1 e2 (by decide)
  have e4 : rB 384 ((f 8 * f 16 + f 9 * f 17) / 64) := rB_divk (a := 24576) (k := 64) e3 (by decide) k64 (by decide)
  have e5 : rB 68384 (r - (f 8 * f 16 + f 9 * f 17) / 64) := rB_sub hr e4 (by decide)
  have e6 : rB 4376576 ((r - (f 8 * f 16 + f 9 * f 17) / 64) * 64) := rB_mul (b := 64) e5 (by unfold rB; decide) (by decide)
  have e7 : rB 547072 ((r - (f 8 * f 16 + f 9 * f 17) / 64) * 64 / f 7) := rB_divk (k := 8) e6 (by decide) (by omega) (by decide)
  unfold DR lvP
  unfold rB at e7
  omega
/-! the signs -/
theorem xor_16 : ∀ a, a < 16 → ∀ b, b < 16 → nI a ^^^ nI b = nI (a ^^^ b) ∧ a ^^^ b < 16 := by decide +kernel
theorem amp_B : ∀ n, n < 5 → ∀ v, v < 16 → v < 2 ^ n → (ampP (nI n) (nI v)).toInt.natAbs ≤ 256 := by decide +kernel
theorem dcS_c {b L : Int32} : ∀ k, ∃ c, c ≤ k ∧ dcS b L k = nI c
  | 0 => ⟨0, Nat.le_refl 0, nI_0.symm⟩
  | k + 1 => by
    obtain ⟨c, hc, e⟩ := dcS_c (b := b) (L := L) k
    rw [dcS_s]
    split
    · exact ⟨c, by omega, e⟩
    · exact ⟨k + 1, Nat.le_refl _, rfl⟩
theorem p2_5 : ∀ n, n < 5 → 1 ≤ 2 ^ n ∧ 2 ^ n ≤ 16 := by decide
theorem decP_c {f : TF} {r : Int32} {n : Nat} (hn : n ≤ 4) (hb : f 10 = nI n) (hD : DR f r) : ∃ c, c < 2 ^ n ∧ decP f r = nI c := by
  have h5 := p2_5 n (by omega)
  rw [decP_L, hb, ← dec_all hn hD.1 hD.2]
  obtain ⟨c, hc, e⟩ := dcS_c (b := nI n) (L := lvP f r) (2 ^ n - 1)
  exact ⟨c, by omega, e⟩
/-- bits that wait -/
def BI (bs : List Int32) : Prop := ∀ b ∈ bs, b = 0 ∨ b = 1
theorem takeQ_c : ∀ (n s : Nat) (bs : List Int32), BI bs → ∃ c, c < (s + 1) * 2 ^ n ∧ (takeQ n (nI s) bs).1 = nI c ∧ BI (takeQ n (nI s) bs).2
  | 0, s, bs, h => ⟨s, by omega, rfl, h⟩
  | n + 1, s, [], h => by
    obtain ⟨c, hc, e1, e2⟩ := takeQ_c n (2 * s) [] h
    refine ⟨c, ?_, ?_, ?_⟩
    · have : (2 * s + 1) * 2 ^ n ≤ (s + 1) * 2 ^ (n + 1) := by rw [Nat.pow_succ, Nat.mul_comm (2 ^ n) 2, ← Nat.mul_assoc]; exact Nat.mul_le_mul_right _ (by omega)
      omega
    · show (takeQ n (2 * nI s) []).1 = nI c
      rw [show (2 : Int32) * nI s = nI (2 * s) from pk_mul 2 s]
      exact e1
    · show BI (takeQ n (2 * nI s) []).2
      rw [show (2 : Int32) * nI s = nI (2 * s) from pk_mul 2 s]
      exact e2
  | n + 1, s, b :: bs, h => by
    have hb := h b List.mem_cons_self
    obtain ⟨d, hd, rfl⟩ : ∃ d, d ≤ 1 ∧ b = nI d := by
      rcases hb with rfl | rfl
      · exact ⟨0, by omega, rfl⟩
      · exact ⟨1, by omega, rfl⟩
    obtain ⟨c, hc, e1, e2⟩ := takeQ_c n (2 * s + d) bs (fun x hx => h x (List.mem_cons_of_mem _ hx))
    have e : (2 : Int32) * nI s + nI d = nI (2 * s + d) := by rw [show (2 : Int32) * nI s = nI (2 * s) from pk_mul 2 s, nI_add]
    refine ⟨c, ?_, ?_, ?_⟩
    · have : (2 * s + d + 1) * 2 ^ n ≤ (s + 1) * 2 ^ (n + 1) := by rw [Nat.pow_succ, Nat.mul_comm (2 ^ n) 2, ← Nat.mul_assoc]; exact Nat.mul_le_mul_right _ (by omega)
      omega
    · show (takeQ n (2 * nI s + nI d) bs).1 = nI c
      rw [e]
      exact e1
    · show BI (takeQ n (2 * nI s + nI d) bs).2
      rw [e]
      exact e2
theorem takeQ_len : ∀ (n : Nat) (s : Int32) (bs : List Int32), (takeQ n s bs).2.length ≤ bs.length
  | 0, _, _ => Nat.le_refl _
  | n + 1, s, [] => takeQ_len n (2 * s) []
  | n + 1, s, b :: bs => Nat.le_trans (takeQ_len n (2 * s + b) bs) (Nat.le_succ _)
/-- all that a sign of a tone needs -/
theorem sg_all {sd : Int32} {f : TF} {bs : List Int32} (h : TI f) (hB : BI bs) : ∃ n c d, n ≤ 4 ∧ f 10 = nI n ∧ (f 10).toNatClampNeg = n ∧ ¬ f 7 ≤ 0 ∧ TN f ∧ c < 2 ^ n ∧ c < 16 ∧ sgV f bs = nI c ∧ d < 2 ^ n ∧ d < 16 ∧ sgH sd f bs = nI d ∧ rB 256 (sgA f bs) ∧ rB 256 (ampP (f 10) (sgH sd f bs)) ∧ DR f (arrP f (sgA f bs) (drwN sd f)) ∧ BI (sgB f bs) := by
  obtain ⟨n, hn, hb, hg, hm⟩ := h.2.2.2.2.2
  have h5 := p2_5 n (by omega)
  have hcl : (f 10).toNatClampNeg = n := by rw [hb]; exact nI_clamp (by omega)
  obtain ⟨c, hc, e1, e2⟩ := takeQ_c n 0 bs hB
  rw [nI_0] at e1 e2
  have ev : sgV f bs = nI c := by unfold sgV; rw [hcl]; exact e1
  have hc2 : c < 2 ^ n := by omega
  have hA : rB 256 (sgA f bs) := by unfold sgA; rw [ev, hb]; exact amp_B n (by omega) c (by omega) hc2
  have hD : DR f (arrP f (sgA f bs) (drwN sd f)) := DR_of h (rB_le (arrP_B h hA (drwN_B h.1.2.2.2)) (by decide))
  obtain ⟨d, hd, ed⟩ := decP_c hn hb hD
  have ed2 : sgH sd f bs = nI d := ed
  refine ⟨n, c, d, hn, hb, hcl, hg, hm, hc2, by omega, ev, hd, by omega, ed2, hA, ?_, hD, ?_⟩
  · rw [ed2, hb]; exact amp_B n (by omega) d (by omega) hd
  · unfold sgB; rw [hcl]; exact e2
theorem TI_sgF {sd : Int32} {f : TF} {bs : List Int32} (h : TI f) (hB : BI bs) : TI (sgF sd f bs) := by
  obtain ⟨n, c, d, q1, q2, q3, q4, q5, q6, q7, q8, q9, q10, q11, q12, q13, -⟩ := sg_all (sd := sd) h hB
  have hS := TS_sgF (sd := sd) (bs := bs) h.2.2.2.2.2
  have k := fun j hj => sgF_keep sd f bs j hj
  have kc : ∀ j, j ≠ 12 ∧ j ≠ 14 ∧ j ≠ 15 → sgF sd f bs j = passP f (sgA f bs) (ampP (f 10) (sgH sd f bs)) j := fun j hj => by
    unfold sgF cntB
    split
    · exact cnt_keep _ _ _ hj
    · exact cnt_keep _ _ _ hj
  obtain ⟨⟨h0, h1, h2, h3⟩, ⟨h4, h5, h6⟩, ⟨h7, h7b, h8, h9⟩, h16, h17, -⟩ := h
  refine ⟨⟨?_, ?_, ?_, ?_⟩, ⟨?_, ?_, ?_⟩, ⟨?_, ?_, ?_, ?_⟩, ?_, ?_, hS⟩
  · rw [k 0 (by decide)]; exact h0
  · rw [k 1 (by decide)]; exact h1
  · rw [k 2 (by decide)]; exact h2
  · rw [k 3 (by decide)]; exact h3
  · rw [kc 4 (by decide)]; exact (by unfold rB; decide : rB 1000 0)
  · rw [kc 5 (by decide)]; exact q12
  · rw [kc 6 (by decide)]; exact h5
  · rw [k 7 (by decide)]; exact h7
  · rw [k 7 (by decide)]; exact h7b
  · rw [k 8 (by decide)]; exact h8
  · rw [k 9 (by decide)]; exact h9
  · rw [kc 16 (by decide)]; exact q13
  · rw [kc 17 (by decide)]; exact h16
theorem shyP_k {f : TF} {m : Int32} {j : Nat} (hj : j ≠ 10 ∧ j ≠ 12 ∧ j ≠ 13) : shyP f m j = f j := by
  unfold shyP
  split
  · rfl
  · split
    · rfl
    · rw [upd_ne hj.2.1, upd_ne hj.2.2, upd_ne hj.1]
theorem TI_shyP {m : Int32} {f : TF} (h : TI f) : TI (shyP f m) := by
  have hS := TS_shyP (m := m) h.2.2.2.2.2
  obtain ⟨⟨h0, h1, h2, h3⟩, ⟨h4, h5, h6⟩, ⟨h7, h7b, h8, h9⟩, h16, h17, -⟩ := h
  unfold TI
  rw [shyP_k (j := 0) (by decide), shyP_k (j := 1) (by decide), shyP_k (j := 2) (by decide), shyP_k (j := 3) (by decide), shyP_k (j := 4) (by decide), shyP_k (j := 5) (by decide), shyP_k (j := 6) (by decide), shyP_k (j := 7) (by decide), shyP_k (j := 8) (by decide), shyP_k (j := 9) (by decide), shyP_k (j := 16) (by decide), shyP_k (j := 17) (by decide)]
  exact ⟨⟨h0, h1, h2, h3⟩, ⟨h4, h5, h6⟩, ⟨h7, h7b, h8, h9⟩, h16, h17, hS⟩
/-- a way within its bounds -/
def WI (σ : WS) : Prop := (∀ t, t < 8 → TI (σ.1 t)) ∧ BI σ.2.1
theorem WI_TA {σ : WS} (h : WI σ) : TA σ := fun t ht => (h.1 t ht).2.2.2.2.2
theorem TI_TN {f : TF} (h : TI f) : TN f := by
  obtain ⟨n, -, -, -, hm⟩ := h.2.2.2.2.2
  exact hm
theorem up_all {P : TF → Prop} {g : Nat → TF} {t : Nat} {F : TF} (h : ∀ u, u < 8 → P (g u)) (hF : P F) : ∀ u, u < 8 → P (va_up g t F u) := fun u hu => by
  unfold va_up
  split
  · exact hF
  · exact h u hu
theorem WI_ssW {sd : Int32} {σ : WS} {t : Nat} (h : WI σ) (ht : t < 8) : WI (ssW sd σ t) := by
  obtain ⟨n, c, d, q1, q2, q3, q4, q5, q6, q7, q8, q9, q10, q11, q12, q13, q14, q15⟩ := sg_all (sd := sd) (h.1 t ht) h.2
  exact ⟨up_all h.1 (TI_sgF (h.1 t ht) h.2), q15⟩
theorem WI_sndT {sd : Int32} {σ : WS} (h : WI σ) : ∀ i, i ≤ 8 → WI (sndT sd σ i).2.2
  | 0, _ => h
  | i + 1, hi => WI_ssW (WI_sndT h i (by omega)) (by omega)
theorem WI_shyT {m : Int32} {σ : WS} (h : WI σ) : ∀ i, i ≤ 8 → WI (shyT m σ i)
  | 0, _ => h
  | i + 1, hi => ⟨up_all (WI_shyT h i (by omega)).1 (TI_shyP ((WI_shyT h i (by omega)).1 i (by omega))), (WI_shyT h i (by omega)).2⟩
theorem WI_btP {m sd : Int32} {σ : WS} (h : WI σ) : WI (btP m sd σ).2.2 := WI_shyT (WI_sndT h k8 (Nat.le_of_eq k8e)) k8 (Nat.le_of_eq k8e)
theorem WI_btN {m sd : Int32} {σ : WS} (h : WI σ) : ∀ n, WI (btN m sd σ n).2.2
  | 0 => h
  | n + 1 => WI_btP (WI_btN h n)

