theorem wset_get {ws : va_W} {q a : Nat} {e e2 : va_E} (h : ws[q]? = some (a, e)) : (ws.set q (a, e2))[q]? = some (a, e2) := List.getElem?_set_self (List.getElem?_eq_some_iff.mp h).1
theorem wset_set {ws : va_W} {q : Nat} {x y : Nat × va_E} : (ws.set q x).set q y = ws.set q y := List.set_set ..
/-- kinds of cells: which object, how long a row -/
def ek : va_E → Nat
  | .inr o => o.1
  | .inl (_, n, .inl _) => 1000 + n
  | .inl (_, n, .inr (.inl _)) => 10000 + n
  | .inl (_, n, .inr (.inr (.inl _))) => 20000 + n
  | .inl (_, n, .inr (.inr (.inr (.inl _)))) => 30000 + n
  | .inl (_, n, .inr (.inr (.inr (.inr _)))) => 40000 + n
theorem ek_ne {ws : va_W} {q q' a a' : Nat} {e e' : va_E} (h' : ws[q']? = some (a', e')) (h : ws[q]? = some (a, e)) (hk : Nat.beq (ek e) (ek e') = false) : q ≠ q' := by
  intro hq
  subst hq
  rw [h] at h'
  cases h'
  rw [Nat.beq_refl] at hk
  cases hk
theorem wset_o {ws : va_W} {q q' a a' : Nat} {x : Nat × va_E} {e e' : va_E} (h' : ws[q']? = some (a', e')) (h : ws[q]? = some (a, e)) (hk : Nat.beq (ek e) (ek e') = false) : (ws.set q x)[q']? = some (a', e') := by
  rw [List.getElem?_set_ne (ek_ne h' h hk)]
  exact h'
theorem wset_n {ws : va_W} {q q' : Nat} {x : Nat × va_E} {r : Nat × va_E} (h' : ws[q']? = some r) (hq : q ≠ q') : (ws.set q x)[q']? = some r := by
  rw [List.getElem?_set_ne hq]
  exact h'
theorem wset_sw {ws : va_W} {q q' a a' : Nat} {x y : Nat × va_E} {e e' : va_E} (h' : ws[q']? = some (a', e')) (h : ws[q]? = some (a, e)) (hk : Nat.beq (ek e) (ek e') = false) : ((ws.set q x).set q' y) = ((ws.set q' y).set q x) := List.set_comm _ _ (ek_ne h' h hk)
theorem wset_id {ws : va_W} {q : Nat} {x : Nat × va_E} (h : ws[q]? = some x) : ws.set q x = ws := by
  apply List.ext_getElem?
  intro i
  by_cases hi : q = i
  · subst hi
    rw [List.getElem?_set_self (List.getElem?_eq_some_iff.mp h).1, h]
  · rw [List.getElem?_set_ne hi]
/-- a method that returns this, and leaves that -/
def CD (E : gE) (Y : MI) (k n : Nat) (av : List Value) (ws : va_W) (v : Option Value) (ws' : va_W) : Prop := C0 E Y k n av ws (fun v2 w2 => v2 = v ∧ w2 = ws')
abbrev vcons (v : Option Value) (st : List Value) : List Value := match v with
  | some x => x :: st
  | none => st
theorem vcons_eq (v : Option Value) (st : List Value) : v.toList ++ st = vcons v st := by cases v <;> rfl
abbrev nX : String → va_W → Prop := fun _ _ => False
theorem mVv_p {Y : MI} {n : Nat} (h : mVv Y n) : plainFor (mnm Y) = true := h.1.2.2.2.2.2.1
theorem mVv_h {Y : MI} {n : Nat} (h : mVv Y n) : mhh Y = [] := h.1.2.2.2.2.2.2
theorem mVs_p {Y : MI} {n : Nat} (h : mVs Y n) : plainFor (mnm Y) = true := h.2.2.2.2.2.1
theorem mVs_h {Y : MI} {n : Nat} (h : mVs Y n) : mhh Y = [] := h.2.2.2.2.2.2
theorem mVi_p {Y : MI} {n : Nat} (h : mVi Y n) : plainFor (mnm Y) = true := h.2.2.2.2.2.1
theorem mVi_h {Y : MI} {n : Nat} (h : mVi Y n) : mhh Y = [] := h.2.2.2.2.2.2
theorem mVx_p {Y : MI} {n : Nat} (h : mVx Y n) : plainFor (mnm Y) = true := h.2.2.2.2.2
section KIT
variable {E : gE} {Y Y2 : MI} {Pr Pr2 : Option Value → va_W → Prop} {Px Px2 : String → va_W → Prop} {k n k1 n1 k2 n2 np : Nat} {ws ws' : va_W} {L : LI} {pc : Nat} {lv lv0 : List (Nat × Value)} {st stk As av : List Value} {v' : Option Value}
theorem cdV (h : mVv Y np) (hl : (lg_sl av).length ≤ mml Y) (hv : lv_args 0 av = lv0) (kk : Ev E Y (fun v2 w2 => v2 = v' ∧ w2 = ws') nX k n 0 lv0 [] ws) : CD E Y k n av ws v' ws' := by
  subst hv
  exact c0_of (mVv_p h) (mVv_h h) hl kk
theorem cdS (h : mVs Y np) (hl : (lg_sl av).length ≤ mml Y) (hv : lv_args 0 av = lv0) (kk : Ev E Y (fun v2 w2 => v2 = v' ∧ w2 = ws') nX k n 0 lv0 [] ws) : CD E Y k n av ws v' ws' := by
  subst hv
  exact c0_of (mVs_p h) (mVs_h h) hl kk
theorem cdI (h : mVi Y np) (hl : (lg_sl av).length ≤ mml Y) (hv : lv_args 0 av = lv0) (kk : Ev E Y (fun v2 w2 => v2 = v' ∧ w2 = ws') nX k n 0 lv0 [] ws) : CD E Y k n av ws v' ws' := by
  subst hv
  exact c0_of (mVi_p h) (mVi_h h) hl kk
theorem c0V (h : mVv Y np) (hl : (lg_sl av).length ≤ mml Y) (hv : lv_args 0 av = lv0) (kk : Ev E Y Pr nX k n 0 lv0 [] ws) : C0 E Y k n av ws Pr := by
  subst hv
  exact c0_of (mVv_p h) (mVv_h h) hl kk
theorem c0S (h : mVs Y np) (hl : (lg_sl av).length ≤ mml Y) (hv : lv_args 0 av = lv0) (kk : Ev E Y Pr nX k n 0 lv0 [] ws) : C0 E Y k n av ws Pr := by
  subst hv
  exact c0_of (mVs_p h) (mVs_h h) hl kk
theorem c0I (h : mVi Y np) (hl : (lg_sl av).length ≤ mml Y) (hv : lv_args 0 av = lv0) (kk : Ev E Y Pr nX k n 0 lv0 [] ws) : C0 E Y k n av ws Pr := by
  subst hv
  exact c0_of (mVi_p h) (mVi_h h) hl kk
theorem c1V (h : mVv Y np) (hl : (lg_sl av).length ≤ mml Y) (hv : lv_args 0 av = lv0) (kk : Ev E Y Pr Px k n 0 lv0 [] ws) : C1 E Y k n av ws Pr Px := by
  subst hv
  exact c1_of (mVv_p h) (mVv_h h) hl kk
theorem c1S (h : mVs Y np) (hl : (lg_sl av).length ≤ mml Y) (hv : lv_args 0 av = lv0) (kk : Ev E Y Pr Px k n 0 lv0 [] ws) : C1 E Y k n av ws Pr Px := by
  subst hv
  exact c1_of (mVs_p h) (mVs_h h) hl kk
theorem c2X (h : mVx Y np) (hl : (lg_sl av).length ≤ mml Y) (hv : lv_args 0 av = lv0) (kk : Ev E Y Pr nX k n 0 lv0 [] ws) : C2 E Y k n av ws Pr := by
  subst hv
  exact c2_of (mVx_p h) hl kk
/-- calls, the contract first -/
theorem ev_cV (D : Lst Y L) (i : Nat) {idx b q ci N : Nat} {T : u_T} {fs : List Value} (hM : CD E Y2 0 0 (.ref b :: As) ws v' ws') (hv : mVv Y2 np) (hi : L[i]? = some (pc, .invokevirtual idx, 3)) (hl : gw (.methodLink (mnm Y).cls idx (mnm Y2))) (hst : stk = As.reverse ++ .ref b :: st) (he : ws[q]? = some (b, .inr (ci, fs))) (hcl : gCl[ci]? = some ((mnm Y2).cls, T, N)) (hd : mdp Y2 + 1 ≤ mdp Y ∧ mml Y2 ≤ 18 ∧ As.length = np ∧ (st.map fun v => v.category).sum ≤ 8)
    (kt : Ev E Y Pr Px k n (pc + 3) lv (vcons v' st) ws') : Ev E Y Pr Px k n pc lv stk ws :=
  ev_callV D i hv hi hl hd.1 hd.2.1 he hcl hd.2.2.1 hd.2.2.2 hst (k1 := 0) (k2 := k) (n1 := 0) (n2 := n) (Nat.le_of_eq (Nat.zero_add k)) (Nat.le_of_eq (Nat.zero_add n)) hM (fun v w h => by rw [h.1, h.2, vcons_eq]; exact kt)
theorem ev_cS (D : Lst Y L) (i : Nat) {idx : Nat} (hM : CD E Y2 0 0 As ws v' ws') (hv : mVs Y2 np) (hi : L[i]? = some (pc, .invokestatic idx, 3)) (hl : gw (.methodLink (mnm Y).cls idx (mnm Y2))) (hst : stk = As.reverse ++ st) (hd : mdp Y2 + 1 ≤ mdp Y ∧ mml Y2 ≤ 18 ∧ As.length = np ∧ (st.map fun v => v.category).sum ≤ 8)
    (kt : Ev E Y Pr Px k n (pc + 3) lv (vcons v' st) ws') : Ev E Y Pr Px k n pc lv stk ws :=
  ev_callS D i hv hi hl hd.1 hd.2.1 hd.2.2.1 hd.2.2.2 hst (k1 := 0) (k2 := k) (n1 := 0) (n2 := n) (Nat.le_of_eq (Nat.zero_add k)) (Nat.le_of_eq (Nat.zero_add n)) hM (fun v w h => by rw [h.1, h.2, vcons_eq]; exact kt)
theorem ev_rV (D : Lst Y L) (i : Nat) {idx b q ci N : Nat} {T : u_T} {fs : List Value} (hM : C0 E Y2 0 0 (.ref b :: As) ws Pr2) (hv : mVv Y2 np) (hi : L[i]? = some (pc, .invokevirtual idx, 3)) (hl : gw (.methodLink (mnm Y).cls idx (mnm Y2))) (hst : stk = As.reverse ++ .ref b :: st) (he : ws[q]? = some (b, .inr (ci, fs))) (hcl : gCl[ci]? = some ((mnm Y2).cls, T, N)) (hd : mdp Y2 + 1 ≤ mdp Y ∧ mml Y2 ≤ 18 ∧ As.length = np ∧ (st.map fun v => v.category).sum ≤ 8)
    (kt : ∀ (v : Option Value) (w : va_W), Pr2 v w → Ev E Y Pr Px k n (pc + 3) lv (vcons v st) w) : Ev E Y Pr Px k n pc lv stk ws :=
  ev_callV D i hv hi hl hd.1 hd.2.1 he hcl hd.2.2.1 hd.2.2.2 hst (k1 := 0) (k2 := k) (n1 := 0) (n2 := n) (Nat.le_of_eq (Nat.zero_add k)) (Nat.le_of_eq (Nat.zero_add n)) hM (fun v w h => by rw [vcons_eq]; exact kt v w h)
theorem ev_rS (D : Lst Y L) (i : Nat) {idx : Nat} (hM : C0 E Y2 0 0 As ws Pr2) (hv : mVs Y2 np) (hi : L[i]? = some (pc, .invokestatic idx, 3)) (hl : gw (.methodLink (mnm Y).cls idx (mnm Y2))) (hst : stk = As.reverse ++ st) (hd : mdp Y2 + 1 ≤ mdp Y ∧ mml Y2 ≤ 18 ∧ As.length = np ∧ (st.map fun v => v.category).sum ≤ 8)
    (kt : ∀ (v : Option Value) (w : va_W), Pr2 v w → Ev E Y Pr Px k n (pc + 3) lv (vcons v st) w) : Ev E Y Pr Px k n pc lv stk ws :=
  ev_callS D i hv hi hl hd.1 hd.2.1 hd.2.2.1 hd.2.2.2 hst (k1 := 0) (k2 := k) (n1 := 0) (n2 := n) (Nat.le_of_eq (Nat.zero_add k)) (Nat.le_of_eq (Nat.zero_add n)) hM (fun v w h => by rw [vcons_eq]; exact kt v w h)
end KIT
theorem hd_of {a b c e f g : Nat} (h : Nat.ble (a + 1) b = true) (h2 : Nat.ble c 18 = true) (h3 : e = f) (h4 : Nat.ble g 8 = true) : a + 1 ≤ b ∧ c ≤ 18 ∧ e = f ∧ g ≤ 8 := ⟨Nat.le_of_ble_eq_true h, Nat.le_of_ble_eq_true h2, h3, Nat.le_of_ble_eq_true h4⟩
/-- a tone, by its eighteen numbers -/
abbrev TF : Type := Nat → Int32
abbrev toneL (f : TF) : List Value := [.int (f 0), .int (f 1), .int (f 2), .int (f 3), .int (f 4), .int (f 5), .int (f 6), .int (f 7), .int (f 8), .int (f 9), .int (f 10), .int (f 11), .int (f 12), .int (f 13), .int (f 14), .int (f 15), .int (f 16), .int (f 17)]
abbrev toneC (f : TF) : va_E := .inr (3, toneL f)
