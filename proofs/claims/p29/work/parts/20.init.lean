theorem app_o {ws l : va_W} {q : Nat} {x : Nat × va_E} (h : ws[q]? = some x) : (ws ++ l)[q]? = some x := by
  have h1 := (List.getElem?_eq_some_iff.mp h).1
  rw [List.getElem?_append_left h1]
  exact h
theorem app_k {ws l : va_W} {q : Nat} (h : q < ws.length) : (ws ++ l)[q]? = ws[q]? := List.getElem?_append_left h
theorem app_last {ws : va_W} {x : Nat × va_E} : (ws ++ [x])[ws.length]? = some x := by
  rw [List.getElem?_append_right (Nat.le_refl _), Nat.sub_self]
  rfl
theorem app_at {ws : va_W} {x : Nat × va_E} {q : Nat} (h : ws.length = q) : (ws ++ [x])[q]? = some x := by
  subst h
  exact app_last
/-- the addresses of a list of cells -/
def adW (ws : va_W) (j : Nat) : Nat := match ws[j]? with
  | some x => x.1
  | none => 0
theorem adW_of {ws : va_W} {j a : Nat} {v : va_E} (h : ws[j]? = some (a, v)) : adW ws j = a := by
  unfold adW
  rw [h]
theorem adW_eq {ws w : va_W} {j : Nat} (h : w[j]? = ws[j]?) : adW w j = adW ws j := by
  unfold adW
  rw [h]
theorem adW_set {ws : va_W} {q a : Nat} {v v2 : va_E} (h : ws[q]? = some (a, v)) : adW (ws.set q (a, v2)) = adW ws := by
  funext j
  by_cases e : q = j
  · subst e
    rw [adW_of h, adW_of (wset_get h)]
  · exact adW_eq (List.getElem?_set_ne e)
theorem ev_cellq {E : gE} {Y : MI} {Pr : Option Value → va_W → Prop} {Px : String → va_W → Prop} {k n pc : Nat} {lv : List (Nat × Value)} {st : List Value} {ws : va_W} {q a N : Nat} {cA : ClassId} {f g : Nat → Option Nat} (he : ws[q]? = some (a, .inl (cA, N, .inr (.inr (.inr (.inr f)))))) (hfg : ∀ j, j < N → f j = g j) (kt : Ev E Y Pr Px k n pc lv st (ws.set q (a, .inl (cA, N, .inr (.inr (.inr (.inr g))))))) : Ev E Y Pr Px k n pc lv st ws := by
  intro p e R s m args below meth c H locs cells slots ls hC hl hS hP hc hn
  refine kt p e R s m args below meth c H locs cells slots ls hC hl hS ⟨?_, ?_⟩ hc hn
  · intro k2 q2 h2
    by_cases e : q = k2
    · subst e
      rw [wset_get he] at h2
      cases h2
      have h3 := hP.1 q _ he
      have e3 : vp_cell cA (N, .inr (.inr (.inr (.inr f)))) = vp_cell cA (N, .inr (.inr (.inr (.inr g)))) := by
        show arrV cA N (fun j => va_rf (f j)) = arrV cA N (fun j => va_rf (g j))
        unfold arrV
        congr 1
        exact congrArg Array.ofFn (funext fun j => congrArg va_rf (hfg j.1 j.2))
      show H[a]? = some (vp_cell cA (N, .inr (.inr (.inr (.inr g)))))
      rw [← e3]
      exact h3
    · rw [List.getElem?_set_ne e] at h2
      exact hP.1 k2 q2 h2
  · have key : ∀ (i : Nat) (x : Nat × va_E), (ws.set q (a, Sum.inl (cA, N, .inr (.inr (.inr (.inr g))))))[i]? = some x → ∃ y : Nat × va_E, ws[i]? = some y ∧ y.1 = x.1 := by
      intro i x hx
      by_cases e : q = i
      · subst e
        rw [wset_get he] at hx
        cases hx
        exact ⟨_, he, rfl⟩
      · rw [List.getElem?_set_ne e] at hx
        exact ⟨x, hx, rfl⟩
    refine ⟨fun i j x y hx hy hxy => ?_, fun i x hx => ?_⟩
    · obtain ⟨x2, h1, h2⟩ := key i x hx
      obtain ⟨y2, h3, h4⟩ := key j y hy
      exact hP.2.1 i j x2 y2 h1 h3 (by rw [h2, h4, hxy])
    · obtain ⟨x2, h1, h2⟩ := key i x hx
      rw [← h2]
      exact hP.2.2 i x2 h1
theorem WY.mv {E : gE} {ws w : va_W} {iw : Nat} {σ : WS} (h : WY E (adW ws) ws iw σ) (hq : ∀ j, iw ≤ j → j < iw + 12 → w[j]? = ws[j]?) : WY E (adW w) w iw σ := by
  obtain ⟨st, sz, r, h1, h2, h3, h4, h5, h6⟩ := h
  have ha : ∀ j, iw ≤ j → j < iw + 12 → adW w j = adW ws j := fun j a b => adW_eq (hq j a b)
  refine ⟨st, sz, r, ?_, ?_, ?_, ?_, h5, fun t ht => ?_⟩
  · rw [hq _ (by omega) (by omega), ha _ (by omega) (by omega), ha _ (by omega) (by omega), ha _ (by omega) (by omega)]; exact h1
  · rw [hq _ (by omega) (by omega), ha _ (by omega) (by omega), show arT (adW w) iw = arT (adW ws) iw from funext fun t => by unfold arT; split; exact congrArg some (ha _ (by omega) (by omega)); rfl]; exact h2
  · rw [hq _ (by omega) (by omega), ha _ (by omega) (by omega), ha _ (by omega) (by omega)]; exact h3
  · rw [hq _ (by omega) (by omega), ha _ (by omega) (by omega)]; exact h4
  · rw [hq _ (by omega) (by omega), ha _ (by omega) (by omega)]; exact h6 t ht
theorem ev_rIN {E : gE} {Y Y2 : MI} {Pr : Option Value → va_W → Prop} {Px : String → va_W → Prop} {P : va_W → Prop} {k n k1 k2 n1 n2 pc np : Nat} {lv : List (Nat × Value)} {st stk As : List Value} {ws : va_W} {L : LI} (D : Lst Y L) (i : Nat) {idx b : Nat} (hM : C0 E Y2 k1 n1 (.ref b :: As) ws (fun v w => v = none ∧ P w)) (hv : mVi Y2 np) (hi : L[i]? = some (pc, .invokespecial idx, 3)) (hl : ((mnm Y).cls, idx, mnm Y2) ∈ gNest) (hst : stk = As.reverse ++ .ref b :: st) (hin : (mnm Y2).name = "<init>") (hrt : mrt Y2 = none) (hd : mdp Y2 + 1 ≤ mdp Y ∧ mml Y2 ≤ 18 ∧ As.length = np ∧ (st.map fun v => v.category).sum ≤ 8) (hk : k1 + k2 ≤ k) (hn2 : n1 + n2 ≤ n) (kt : ∀ w : va_W, P w → Ev E Y Pr Px k2 n2 (pc + 3) lv st w) : Ev E Y Pr Px k n pc lv stk ws :=
  ev_callIN D i hv hin hrt hi hl hd.1 hd.2.1 hd.2.2.1 hd.2.2.2 hst hk hn2 hM (fun v w h => by obtain ⟨rfl, h2⟩ := h; exact kt w h2)
theorem ev_rI {E : gE} {Y Y2 : MI} {Pr : Option Value → va_W → Prop} {Px : String → va_W → Prop} {P : va_W → Prop} {k n k1 k2 n1 n2 pc np : Nat} {lv : List (Nat × Value)} {st stk As : List Value} {ws : va_W} {L : LI} (D : Lst Y L) (i : Nat) {idx b : Nat} (hM : C0 E Y2 k1 n1 (.ref b :: As) ws (fun v w => v = none ∧ P w)) (hv : mVi Y2 np) (hi : L[i]? = some (pc, .invokespecial idx, 3)) (hl : gw (.methodLink (mnm Y).cls idx (mnm Y2))) (hst : stk = As.reverse ++ .ref b :: st) (hin : (mnm Y2).name = "<init>") (hrt : mrt Y2 = none) (hd : mdp Y2 + 1 ≤ mdp Y ∧ mml Y2 ≤ 18 ∧ As.length = np ∧ (st.map fun v => v.category).sum ≤ 8) (hk : k1 + k2 ≤ k) (hn2 : n1 + n2 ≤ n) (kt : ∀ w : va_W, P w → Ev E Y Pr Px k2 n2 (pc + 3) lv st w) : Ev E Y Pr Px k n pc lv stk ws :=
  ev_callI D i hv hin hrt hi hl hd.1 hd.2.1 hd.2.2.1 hd.2.2.2 hst hk hn2 hM (fun v w h => by obtain ⟨rfl, h2⟩ := h; exact kt w h2)
set_option maxRecDepth 100000 in
set_option maxHeartbeats 4000000 in
theorem m_X4_init {E : gE} {ws : va_W} {q a : Nat} (h : ws[q]? = some (a, .inr (4, [.null, .int 0, .int 0]))) : C0 E YX4_init 1 256 [.ref a] ws (fun v w => v = none ∧ ∃ ar, w = (ws ++ [(ar, iaC E 256 (fun _ => 0))]).set q (a, waitC ar 0 0)) := by
  refine c0I vX4_init (Nat.le_of_ble_eq_true rfl) (lv0 := [(0, .ref a)]) rfl ?_
  refine ev_ss DX4_init 1 0 (pc' := 1) (lv' := [(0, .ref _)]) (st' := [.ref _]) rfl ?_
  refine ev_objI DX4_init 1 rfl qX4_3 (Nat.le_of_ble_eq_true rfl) (Nat.le_of_ble_eq_true rfl) ?_
  refine ev_ss DX4_init 2 2 (pc' := 8) (lv' := [(0, .ref _)]) (st' := [.int 256, .ref _]) rfl ?_
  refine ev_newa DX4_init 4 (k := 0) (n := 0) (t0 := 0) (a0 := (256, .inl (fun _ => 0))) rfl rfl arc_int rfl (fun _ _ h => h) (fun _ => rfl) (by decide) (N := 256) (by decide) (Nat.le_of_ble_eq_true rfl) (fun x_1 => ?_)
  refine ev_putF (fs' := [_, _, _]) DX4_init 5 GX4 rfl (k0 := 0) (Nat.le_of_ble_eq_true rfl) fX4_9 rfl rfl rfl ⟨rfl, rfl⟩ (app_o h) (Nat.le_of_ble_eq_true rfl) rfl rfl ?_
  exact ev_vret DX4_init 6 rfl rfl ⟨rfl, x_1, rfl⟩
set_option maxRecDepth 100000 in
set_option maxHeartbeats 4000000 in
theorem m_X0_init {E : gE} {ws : va_W} {q a : Nat} (h : ws[q]? = some (a, .inr (0, [.null, .int 0]))) : C0 E YX0_init 1 64 [.ref a] ws (fun v w => v = none ∧ ∃ ar, w = (ws ++ [(ar, iaC E 64 (fun _ => 0))]).set q (a, lesC ar 0)) := by
  refine c0I vX0_init (Nat.le_of_ble_eq_true rfl) (lv0 := [(0, .ref a)]) rfl ?_
  refine ev_ss DX0_init 1 0 (pc' := 1) (lv' := [(0, .ref _)]) (st' := [.ref _]) rfl ?_
  refine ev_objI DX0_init 1 rfl qX0_3 (Nat.le_of_ble_eq_true rfl) (Nat.le_of_ble_eq_true rfl) ?_
  refine ev_ss DX0_init 2 2 (pc' := 7) (lv' := [(0, .ref _)]) (st' := [.int 64, .ref _]) rfl ?_
  refine ev_newa DX0_init 4 (k := 0) (n := 0) (t0 := 0) (a0 := (64, .inl (fun _ => 0))) rfl rfl arc_int rfl (fun _ _ h => h) (fun _ => rfl) (by decide) (N := 64) (by decide) (Nat.le_of_ble_eq_true rfl) (fun x_1 => ?_)
  refine ev_putF (fs' := [_, _]) DX0_init 5 GX0 rfl (k0 := 0) (Nat.le_of_ble_eq_true rfl) fX0_9 rfl rfl rfl ⟨rfl, rfl⟩ (app_o h) (Nat.le_of_ble_eq_true rfl) rfl rfl ?_
  exact ev_vret DX0_init 6 rfl rfl ⟨rfl, x_1, rfl⟩
set_option maxRecDepth 100000 in
set_option maxHeartbeats 4000000 in
theorem m_X2_init {E : gE} {ws : va_W} {q a : Nat} (h : ws[q]? = some (a, .inr (2, [.null, .int 0]))) : C0 E YX2_init 1 60 [.ref a] ws (fun v w => v = none ∧ ∃ ar, w = (ws ++ [(ar, chA E (fun _ => 0))]).set q (a, txC ar 0)) := by
  refine c0I vX2_init (Nat.le_of_ble_eq_true rfl) (lv0 := [(0, .ref a)]) rfl ?_
  refine ev_ss DX2_init 1 0 (pc' := 1) (lv' := [(0, .ref _)]) (st' := [.ref _]) rfl ?_
  refine ev_objI DX2_init 1 rfl qX2_3 (Nat.le_of_ble_eq_true rfl) (Nat.le_of_ble_eq_true rfl) ?_
  refine ev_ss DX2_init 2 2 (pc' := 7) (lv' := [(0, .ref _)]) (st' := [.int 60, .ref _]) rfl ?_
  refine ev_newa DX2_init 4 (k := 0) (n := 0) (t0 := 2) (a0 := (60, .inl (fun _ => 0))) rfl rfl arc_char rfl (fun _ _ h => h) (fun _ => rfl) (by decide) (N := 60) (by decide) (Nat.le_of_ble_eq_true rfl) (fun x_1 => ?_)
  refine ev_putF (fs' := [_, _]) DX2_init 5 GX2 rfl (k0 := 0) (Nat.le_of_ble_eq_true rfl) fX2_9 rfl rfl rfl ⟨rfl, rfl⟩ (app_o h) (Nat.le_of_ble_eq_true rfl) rfl rfl ?_
  exact ev_vret DX2_init 6 rfl rfl ⟨rfl, x_1, rfl⟩
def nt0 : TF := fun j => if j = 0 then 64 else if j = 7 then 64 else if j = 11 then -1 else 0
def w0S : WS := (fun _ => nt0, [], 0, 0, 0)
def se0 : Nat → Int32 := fun j => if j = 2 then 3 else 8
set_option maxRecDepth 100000 in
set_option maxHeartbeats 4000000 in
theorem m_X3_init {E : gE} {ws : va_W} {q a : Nat} (h : ws[q]? = some (a, .inr (3, [.int 0, .int 0, .int 0, .int 0, .int 0, .int 0, .int 0, .int 0, .int 0, .int 0, .int 0, .int 0, .int 0, .int 0, .int 0, .int 0, .int 0, .int 0]))) : C0 E YX3_init 0 0 [.ref a] ws (fun v w => v = none ∧ w = ws.set q (a, toneC nt0)) := by
  refine c0I vX3_init (Nat.le_of_ble_eq_true rfl) (lv0 := [(0, .ref a)]) rfl ?_
  refine ev_ss DX3_init 1 0 (pc' := 1) (lv' := [(0, .ref _)]) (st' := [.ref _]) rfl ?_
  refine ev_objI DX3_init 1 rfl qX3_3 (Nat.le_of_ble_eq_true rfl) (Nat.le_of_ble_eq_true rfl) ?_
  refine ev_ss DX3_init 2 2 (pc' := 7) (lv' := [(0, .ref _)]) (st' := [.int 64, .ref _]) rfl ?_
  refine ev_put (fs' := [_, _, _, _, _, _, _, _, _, _, _, _, _, _, _, _, _, _]) DX3_init 4 GX3 rfl (k0 := 0) (Nat.le_of_ble_eq_true rfl) fX3_9 rfl ⟨rfl, rfl⟩ h (Nat.le_of_ble_eq_true rfl) rfl rfl ?_
  refine ev_ss DX3_init 2 5 (pc' := 13) (lv' := [(0, .ref _)]) (st' := [.int 64, .ref _]) rfl ?_
  refine ev_put (fs' := [_, _, _, _, _, _, _, _, _, _, _, _, _, _, _, _, _, _]) DX3_init 7 GX3 rfl (k0 := 7) (Nat.le_of_ble_eq_true rfl) fX3_15 rfl ⟨rfl, rfl⟩ (wset_get h) (Nat.le_of_ble_eq_true rfl) rfl wset_set ?_
  refine ev_ss DX3_init 2 8 (pc' := 18) (lv' := [(0, .ref _)]) (st' := [.int (-1), .ref _]) rfl ?_
  refine ev_put (fs' := [_, _, _, _, _, _, _, _, _, _, _, _, _, _, _, _, _, _]) DX3_init 10 GX3 rfl (k0 := 11) (Nat.le_of_ble_eq_true rfl) fX3_18 rfl ⟨rfl, rfl⟩ (wset_get h) (Nat.le_of_ble_eq_true rfl) rfl wset_set ?_
  exact ev_vret DX3_init 11 rfl rfl ⟨rfl, rfl⟩
set_option maxRecDepth 100000 in
set_option maxHeartbeats 4000000 in
theorem m_X5_init {E : gE} {ws : va_W} {q a : Nat} (hq : ws.length = q + 1) (h : ws[q]? = some (a, .inr (5, [.null, .null, .long 0, .int 0, .int 0]))) : C0 E YX5_init 11 411 [.ref a] ws (fun v w => v = none ∧ w.length = q + 12 ∧ (∀ j, j < q → w[j]? = ws[j]?) ∧ adW w q = a ∧ WY E (adW w) w q w0S) := by
  have e8 := k8e
  refine c0I vX5_init (Nat.le_of_ble_eq_true rfl) (lv0 := [(0, .ref a)]) rfl ?_
  have K : ∀ (m i : Nat) (x : Int32) (w : va_W) (f : Nat → Option Nat) (ta wt ar : Nat) (lv9 : List (Nat × Value)), i + m = k8 → x = nI i → w.length = q + 4 + i → w[q]? = some (a, wayC ta wt 0 0 0) → w[q + 1]? = some (ta, toA E f) → w[q + 2]? = some (wt, waitC ar 0 0) → w[q + 3]? = some (ar, iaC E 256 (fun _ => 0)) → (∀ t, t < i → ∃ b, f t = some b ∧ w[q + 4 + t]? = some (b, toneC nt0)) → (∀ j, j < q → w[j]? = ws[j]?) → lv9 = [(0, .ref a), (1, .int x)] →
      Ev E YX5_init (fun v w => v = none ∧ w.length = q + 12 ∧ (∀ j, j < q → w[j]? = ws[j]?) ∧ adW w q = a ∧ WY E (adW w) w q w0S) nX m (18 * m) 26 lv9 [] w := by
    intro m
    induction m with
    | zero =>
      intro i x w f ta wt ar lv9 hm hx hl k1 k2 k3 k4 k5 k6 hv
      obtain rfl : i = k8 := by omega
      subst hx; subst hv
      refine ev_ss DX5_init 2 13 (pc' := 29) (lv' := [(0, .ref _), (1, .int _)]) (st' := [.int 8, .int _]) rfl ?_
      refine ev_icge DX5_init 15 rfl (tgt := 51) (by decide) (fun _ => ?_) (fun h => h.elim (by rw [k8e]; decide))
      have hf : ∀ j, j < 8 → f j = arT (adW w) q j := fun j hj => by
        obtain ⟨b, b1, b2⟩ := k5 j (by omega)
        rw [b1, show arT (adW w) q j = some (adW w (q + 4 + j)) from if_pos hj, adW_of b2]
      refine ev_cellq k2 hf ?_
      have ea := adW_set (v2 := toA E (arT (adW w) q)) k2
      refine ev_vret DX5_init 25 rfl rfl ⟨rfl, by rw [List.length_set, hl]; omega, fun j hj => by rw [List.getElem?_set_ne (by omega)]; exact k6 j hj, by rw [ea]; exact adW_of k1, ?_⟩
      rw [ea]
      have a0 := adW_of k1
      have a1 := adW_of k2
      have a2 := adW_of k3
      have a3 := adW_of k4
      refine ⟨0, 0, _, wset_n (by rw [a0, a1, a2]; exact k1) (by omega), by rw [a1]; exact wset_get k2, wset_n (by rw [a2, a3]; exact k3) (by omega), wset_n (by rw [a3]; exact k4) (by omega), ⟨0, by decide, rfl, rfl, by decide, fun p hp => absurd hp (Nat.not_lt_zero p)⟩, fun t ht => wset_n ?_ (by omega)⟩
      obtain ⟨b, b1, b2⟩ := k5 t (by omega)
      rw [adW_of b2]
      exact b2
    | succ m ih =>
      intro i x w f ta wt ar lv9 hm hx hl k1 k2 k3 k4 k5 k6 hv
      subst hx; subst hv
      have ei : (nI i).toNatClampNeg = i := nI_clamp (by omega)
      refine ev_ss DX5_init 2 13 (pc' := 29) (lv' := [(0, .ref _), (1, .int _)]) (st' := [.int 8, .int _]) rfl ?_
      refine ev_icge DX5_init 15 rfl (tgt := 51) (by decide) (fun h => absurd h (nI_ge (b := 8) (by omega) (by decide))) (fun _ => ?_)
      refine ev_ss DX5_init 1 16 (pc' := 33) (lv' := [(0, .ref _), (1, .int _)]) (st' := [.ref _]) rfl ?_
      refine ev_get DX5_init 17 GX5 rfl (k0 := 0) (Nat.le_of_ble_eq_true rfl) fX5_11 k1 rfl ?_
      refine ev_ss DX5_init 1 18 (pc' := 37) (lv' := [(0, .ref _), (1, .int _)]) (st' := [.int _, .ref _]) rfl ?_
      refine ev_new DX5_init 19 (k := m) (n := 18 * m) (fs := [.int 0, .int 0, .int 0, .int 0, .int 0, .int 0, .int 0, .int 0, .int 0, .int 0, .int 0, .int 0, .int 0, .int 0, .int 0, .int 0, .int 0, .int 0]) GX3 rfl nX5_9 insX3 iniX3 (by decide) (fun x_1 => ?_)
      refine ev_ss DX5_init 1 20 (pc' := 41) (lv' := [(0, .ref _), (1, .int _)]) (st' := [.ref _, .ref _, .int _, .ref _]) rfl ?_
      refine ev_rIN DX5_init 21 (k1 := 0) (n1 := 0) (k2 := m) (n2 := 18 * m) (m_X3_init app_last) vX3_init rfl (by decide) rfl rfl rfl (hd_of rfl rfl rfl rfl) (Nat.le_of_eq (Nat.zero_add _)) (Nat.le_of_eq (Nat.zero_add _)) (fun w9 hw9 => ?_)
      subst hw9
      refine ev_aast4 DX5_init 22 rfl (wset_n (app_o k2) (by omega)) (wset_get app_last) (vp_in_nI (by omega) (by decide)) rfl ?_
      refine ev_ss DX5_init 1 23 (pc' := 48) (lv' := [(1, .int _), (0, .ref _)]) (st' := []) rfl ?_
      refine ev_goto DX5_init 24 rfl (tgt := 26) (by decide) ?_
      rw [ei]
      refine ev_lvp (lv2 := [(0, .ref _), (1, .int _)]) [1, 0] rfl ?_
      refine ih (i + 1) _ _ (va_up f i (some x_1)) ta wt ar _ (by omega) (nI_1 i) (by rw [List.length_set, List.length_set, List.length_append, hl]; rfl) (wset_n (wset_n (app_o k1) (by omega)) (by omega)) (wset_get (wset_n (app_o k2) (by omega))) (wset_n (wset_n (app_o k3) (by omega)) (by omega)) (wset_n (wset_n (app_o k4) (by omega)) (by omega)) (fun t ht => ?_) (fun j hj => by rw [List.getElem?_set_ne (by omega), List.getElem?_set_ne (by omega), app_k (by omega)]; exact k6 j hj) rfl
      by_cases e : t = i
      · subst e
        refine ⟨x_1, if_pos rfl, wset_n ?_ (by omega)⟩
        rw [← hl]
        exact wset_get app_last
      · obtain ⟨b, b1, b2⟩ := k5 t (by omega)
        exact ⟨b, (if_neg e).trans b1, wset_n (wset_n (app_o b2) (by omega)) (by omega)⟩
  refine ev_ss DX5_init 1 0 (pc' := 1) (lv' := [(0, .ref _)]) (st' := [.ref _]) rfl ?_
  refine ev_objI DX5_init 1 rfl qX5_3 (Nat.le_of_ble_eq_true rfl) (Nat.le_of_ble_eq_true rfl) ?_
  refine ev_ss DX5_init 2 2 (pc' := 7) (lv' := [(0, .ref _)]) (st' := [.int 8, .ref _]) rfl ?_
  refine ev_anew DX5_init 4 (k := 10) (n := 403) (t0 := 4) rfl nX5_9 (Or.inl rfl) rfl (by decide) (N := 8) (by decide) (Nat.le_of_ble_eq_true rfl) (fun x_1 => ?_)
  refine ev_putF (fs' := [_, _, _, _, _]) DX5_init 5 GX5 rfl (k0 := 0) (Nat.le_of_ble_eq_true rfl) fX5_11 rfl rfl rfl ⟨rfl, rfl⟩ (app_o h) (Nat.le_of_ble_eq_true rfl) rfl rfl ?_
  refine ev_ss DX5_init 1 6 (pc' := 14) (lv' := [(0, .ref _)]) (st' := [.ref _]) rfl ?_
  refine ev_new DX5_init 7 (k := 9) (n := 400) (fs := [.null, .int 0, .int 0]) GX4 rfl nX5_17 insX4 iniX4 (by decide) (fun x_2 => ?_)
  refine ev_ss DX5_init 1 8 (pc' := 18) (lv' := [(0, .ref _)]) (st' := [.ref _, .ref _, .ref _]) rfl ?_
  refine ev_rIN DX5_init 9 (k1 := 1) (n1 := 256) (k2 := 8) (n2 := 144) (m_X4_init app_last) vX4_init rfl (by decide) rfl rfl rfl (hd_of rfl rfl rfl rfl) (by decide) (by decide) (fun w9 hw9 => ?_)
  obtain ⟨ar, hw9⟩ := hw9
  have hl9 : w9.length = q + 4 := by rw [hw9]; simp [hq]
  have g0 : w9[q]? = some (a, .inr (5, [.ref x_1, .null, .long 0, .int 0, .int 0])) := by rw [hw9]; exact wset_n (app_o (app_o (wset_get (app_o h)))) (by simp [hq]; omega)
  have g1 : w9[q + 1]? = some (x_1, toA E (fun _ => none)) := by rw [hw9]; exact wset_n (app_o (app_o (wset_n (app_at hq) (by omega)))) (by simp [hq])
  have g2 : w9[q + 2]? = some (x_2, waitC ar 0 0) := by rw [hw9]; have e : ((ws ++ [(x_1, toA E (fun _ => none))]).set q (a, Sum.inr (5, [Value.ref x_1, .null, .long 0, .int 0, .int 0]))).length = q + 2 := (by simp [hq]); rw [← e]; exact wset_get (app_o app_last)
  have g3 : w9[q + 3]? = some (ar, iaC E 256 (fun _ => 0)) := by rw [hw9]; exact wset_n (app_at (by simp [hq])) (by simp [hq])
  have g4 : ∀ j, j < q → w9[j]? = ws[j]? := fun j hj => by rw [hw9, List.getElem?_set_ne (by simp [hq]; omega), app_k (by simp [hq]; omega), app_k (by simp [hq]; omega), List.getElem?_set_ne (by omega), app_k (by omega)]
  clear hw9
  refine ev_putF (fs' := [_, _, _, _, _]) DX5_init 10 GX5 rfl (k0 := 1) (Nat.le_of_ble_eq_true rfl) fX5_20 rfl rfl rfl ⟨rfl, rfl⟩ g0 (Nat.le_of_ble_eq_true rfl) rfl rfl ?_
  refine ev_ss DX5_init 2 11 (pc' := 26) (lv' := [(1, .int 0), (0, .ref _)]) (st' := []) rfl ?_
  refine ev_room (k2 := k8) (n2 := 18 * k8) (by omega) (by omega) ?_
  refine ev_lvp (lv2 := [(0, .ref _), (1, .int _)]) [1, 0] rfl ?_
  exact K k8 0 _ _ (fun _ => none) x_1 x_2 ar _ (Nat.zero_add k8) nI_0.symm (by rw [List.length_set, hl9]) (wset_get g0) (wset_n g1 (by omega)) (wset_n g2 (by omega)) (wset_n g3 (by omega)) (fun t ht => absurd ht (Nat.not_lt_zero t)) (fun j hj => by rw [List.getElem?_set_ne (by omega)]; exact g4 j hj) rfl
/-- all that undo brings back -/
abbrev PS : Type := Int32 × Int32 × (Nat → Int32) × WS × WS
def STA (E : gE) (ad : Nat → Nat) (ws : va_W) (is : Nat) (p : PS) : Prop := SD E ad ws is p.1 p.2.1 p.2.2.1 ∧ WY E ad ws (is + 1) p.2.2.2.1 ∧ WY E ad ws (is + 13) p.2.2.2.2
def ps0 : PS := (1, 0, se0, w0S, w0S)
theorem SD.mv {E : gE} {ws w : va_W} {is : Nat} {sd bt : Int32} {se : Nat → Int32} (h : SD E (adW ws) ws is sd bt se) (hq : ∀ j, is ≤ j → j < is + 26 → w[j]? = ws[j]?) : SD E (adW w) w is sd bt se := by
  obtain ⟨h1, g, h2, h3⟩ := h
  have ha : ∀ j, is ≤ j → j < is + 26 → adW w j = adW ws j := fun j a b => adW_eq (hq j a b)
  refine ⟨?_, g, ?_, h3⟩
  · rw [hq _ (by omega) (by omega), ha _ (by omega) (by omega), ha _ (by omega) (by omega), ha _ (by omega) (by omega), ha _ (by omega) (by omega)]; exact h1
  · rw [hq _ (by omega) (by omega), ha _ (by omega) (by omega)]; exact h2
theorem STA.mv {E : gE} {ws w : va_W} {is : Nat} {p : PS} (h : STA E (adW ws) ws is p) (hq : ∀ j, is ≤ j → j < is + 26 → w[j]? = ws[j]?) : STA E (adW w) w is p :=
  ⟨h.1.mv hq, h.2.1.mv (fun j a b => hq j (by omega) (by omega)), h.2.2.mv (fun j a b => hq j (by omega) (by omega))⟩
theorem STA.of {E : gE} {ad : Nat → Nat} {ws w : va_W} {is : Nat} {p : PS} (h : STA E ad ws is p) (hq : ∀ j, is ≤ j → j < is + 26 → w[j]? = ws[j]?) : STA E ad w is p :=
  ⟨h.1.of (hq _ (by omega) (by omega)) (hq _ (by omega) (by omega)), h.2.1.of (fun j a b => hq j (by omega) (by omega)), h.2.2.of (fun j a b => hq j (by omega) (by omega))⟩
theorem x1_end {E : gE} {ws w2 : va_W} {q a x1 x2 x3 : Nat} {e0 e1 : va_E} {g0 g : Nat → Int32} (l2 : w2.length = q + 25) (g2 : w2[q]? = some (a, e0)) (hg : ∀ j, j < 3 → g j = se0 j) (b1 : adW w2 (q + 1) = x1) (b2 : adW w2 (q + 13) = x2) (y1 : WY E (adW w2) w2 (q + 1) w0S) (y2 : WY E (adW w2) w2 (q + 13) w0S) (hk : ∀ j, j < q → w2[j]? = ws[j]?) :
    (none : Option Value) = none ∧ ((((w2.set q (a, e1)) ++ [(x3, iaC E 3 g0)]).set (w2.set q (a, e1)).length (x3, iaC E 3 g)).set q (a, stC x1 x2 x3 1 0)).length = q + 26 ∧ (∀ j, j < q → ((((w2.set q (a, e1)) ++ [(x3, iaC E 3 g0)]).set (w2.set q (a, e1)).length (x3, iaC E 3 g)).set q (a, stC x1 x2 x3 1 0))[j]? = ws[j]?) ∧ adW ((((w2.set q (a, e1)) ++ [(x3, iaC E 3 g0)]).set (w2.set q (a, e1)).length (x3, iaC E 3 g)).set q (a, stC x1 x2 x3 1 0)) q = a ∧ STA E (adW ((((w2.set q (a, e1)) ++ [(x3, iaC E 3 g0)]).set (w2.set q (a, e1)).length (x3, iaC E 3 g)).set q (a, stC x1 x2 x3 1 0))) ((((w2.set q (a, e1)) ++ [(x3, iaC E 3 g0)]).set (w2.set q (a, e1)).length (x3, iaC E 3 g)).set q (a, stC x1 x2 x3 1 0)) q ps0 := by
  have hl : (w2.set q (a, e1)).length = q + 25 := by rw [List.length_set, l2]
  rw [hl]
  have c0 : ((((w2.set q (a, e1)) ++ [(x3, iaC E 3 g0)]).set (q + 25) (x3, iaC E 3 g)).set q (a, stC x1 x2 x3 1 0))[q]? = some (a, stC x1 x2 x3 1 0) := wset_get (wset_n (app_o (wset_get g2)) (by omega))
  have c1 : ((((w2.set q (a, e1)) ++ [(x3, iaC E 3 g0)]).set (q + 25) (x3, iaC E 3 g)).set q (a, stC x1 x2 x3 1 0))[q + 25]? = some (x3, iaC E 3 g) := wset_n (wset_get (app_at hl)) (by omega)
  have ck : ∀ j, j ≠ q → j < q + 25 → ((((w2.set q (a, e1)) ++ [(x3, iaC E 3 g0)]).set (q + 25) (x3, iaC E 3 g)).set q (a, stC x1 x2 x3 1 0))[j]? = w2[j]? := fun j h1 h2 => by
    rw [List.getElem?_set_ne (Ne.symm h1), List.getElem?_set_ne (by omega), app_k (by rw [hl]; exact h2), List.getElem?_set_ne (Ne.symm h1)]
  have cl : ((((w2.set q (a, e1)) ++ [(x3, iaC E 3 g0)]).set (q + 25) (x3, iaC E 3 g)).set q (a, stC x1 x2 x3 1 0)).length = q + 26 := by simp [l2]
  generalize ((((w2.set q (a, e1)) ++ [(x3, iaC E 3 g0)]).set (q + 25) (x3, iaC E 3 g)).set q (a, stC x1 x2 x3 1 0)) = W at *
  refine ⟨rfl, cl, fun j hj => (ck j (by omega) (by omega)).trans (hk j hj), adW_of c0, ⟨?_, g, ?_, hg⟩, y1.mv (fun j h1 h2 => ck j (by omega) (by omega)), y2.mv (fun j h1 h2 => ck j (by omega) (by omega))⟩
  · rw [adW_of c0, adW_of c1, adW_eq (ck (q + 1) (by omega) (by omega)), adW_eq (ck (q + 13) (by omega) (by omega)), b1, b2]
    exact c0
  · rw [adW_of c1]
    exact c1
set_option maxRecDepth 100000 in
set_option maxHeartbeats 4000000 in
theorem m_X1_init {E : gE} {ws : va_W} {q a : Nat} (hq : ws.length = q + 1) (h : ws[q]? = some (a, .inr (1, [.null, .null, .null, .int 0, .int 0]))) : C0 E YX1_init 25 835 [.ref a] ws (fun v w => v = none ∧ w.length = q + 26 ∧ (∀ j, j < q → w[j]? = ws[j]?) ∧ adW w q = a ∧ STA E (adW w) w q ps0) := by
  refine c0I vX1_init (Nat.le_of_ble_eq_true rfl) (lv0 := [(0, .ref a)]) rfl ?_
  refine ev_ss DX1_init 1 0 (pc' := 1) (lv' := [(0, .ref _)]) (st' := [.ref _]) rfl ?_
  refine ev_objI DX1_init 1 rfl qX1_3 (Nat.le_of_ble_eq_true rfl) (Nat.le_of_ble_eq_true rfl) ?_
  refine ev_ss DX1_init 1 2 (pc' := 5) (lv' := [(0, .ref _)]) (st' := [.ref _]) rfl ?_
  refine ev_new DX1_init 3 (k := 24) (n := 830) (fs := [.null, .null, .long 0, .int 0, .int 0]) GX5 rfl nX1_9 insX5 iniX5 (by decide) (fun x_1 => ?_)
  refine ev_ss DX1_init 1 4 (pc' := 9) (lv' := [(0, .ref _)]) (st' := [.ref _, .ref _, .ref _]) rfl ?_
  refine ev_rI DX1_init 5 (k1 := 11) (n1 := 411) (k2 := 13) (n2 := 419) (m_X5_init (q := q + 1) (by simp [hq]) (app_at hq)) vX5_init rfl qX1_11 rfl rfl rfl (hd_of rfl rfl rfl rfl) (by decide) (by decide) (fun w1 hw1 => ?_)
  obtain ⟨l1, f1, a1, y1⟩ := hw1
  have g1 : w1[q]? = some (a, .inr (1, [.null, .null, .null, .int 0, .int 0])) := by rw [f1 q (by omega)]; exact app_o h
  have e1 : ∀ j, j < q → w1[j]? = ws[j]? := fun j hj => by rw [f1 j (by omega)]; exact app_k (by omega)
  refine ev_putF (fs' := [_, _, _, _, _]) DX1_init 6 GX1 rfl (k0 := 0) (Nat.le_of_ble_eq_true rfl) fX1_12 rfl rfl rfl ⟨rfl, rfl⟩ g1 (Nat.le_of_ble_eq_true rfl) rfl rfl ?_
  refine ev_ss DX1_init 1 7 (pc' := 16) (lv' := [(0, .ref _)]) (st' := [.ref _]) rfl ?_
  refine ev_new DX1_init 8 (k := 12) (n := 414) (fs := [.null, .null, .long 0, .int 0, .int 0]) GX5 rfl nX1_9 insX5 iniX5 (by decide) (fun x_2 => ?_)
  refine ev_ss DX1_init 1 9 (pc' := 20) (lv' := [(0, .ref _)]) (st' := [.ref _, .ref _, .ref _]) rfl ?_
  refine ev_rI DX1_init 10 (k1 := 11) (n1 := 411) (k2 := 1) (n2 := 3) (m_X5_init (q := q + 13) (by simp [l1]) (app_at (by simp [l1]))) vX5_init rfl qX1_11 rfl rfl rfl (hd_of rfl rfl rfl rfl) (by decide) (by decide) (fun w2 hw2 => ?_)
  obtain ⟨l2, f2, a2, y2⟩ := hw2
  have g2 : w2[q]? = some (a, .inr (1, [.ref x_1, .null, .null, .int 0, .int 0])) := by rw [f2 q (by omega)]; exact app_o (wset_get g1)
  have f3 : ∀ j, q < j → j < q + 13 → w2[j]? = w1[j]? := fun j b c => by rw [f2 j (by omega), app_k (by simp [l1]; omega), List.getElem?_set_ne (by omega)]
  have e2 : ∀ j, j < q → w2[j]? = ws[j]? := fun j hj => by rw [f2 j (by omega), app_k (by simp [l1]; omega), List.getElem?_set_ne (by omega)]; exact e1 j hj
  have y3 : WY E (adW w2) w2 (q + 1) w0S := y1.mv (fun j b c => f3 j (by omega) (by omega))
  have a3 : adW w2 (q + 1) = x_1 := by rw [adW_eq (f3 (q + 1) (by omega) (by omega))]; exact a1
  refine ev_putF (fs' := [_, _, _, _, _]) DX1_init 11 GX1 rfl (k0 := 1) (Nat.le_of_ble_eq_true rfl) fX1_18 rfl rfl rfl ⟨rfl, rfl⟩ g2 (Nat.le_of_ble_eq_true rfl) rfl rfl ?_
  refine ev_ss DX1_init 2 12 (pc' := 28) (lv' := [(0, .ref _)]) (st' := [.int 3, .ref _]) rfl ?_
  refine ev_newa DX1_init 14 (k := 0) (n := 0) (t0 := 0) (a0 := (3, .inl (fun _ => 0))) rfl rfl arc_int rfl (fun _ _ h => h) (fun _ => rfl) (by decide) (N := 3) (by decide) (Nat.le_of_ble_eq_true rfl) (fun x_3 => ?_)
  refine ev_ss DX1_init 3 15 (pc' := 34) (lv' := [(0, .ref _)]) (st' := [.int 8, .int 0, .ref _, .ref _, .ref _]) rfl ?_
  refine ev_iast DX1_init 18 rfl app_last (by unfold vp_in; decide) rfl ?_
  refine ev_ss DX1_init 3 19 (pc' := 39) (lv' := [(0, .ref _)]) (st' := [.int 8, .int 1, .ref _, .ref _, .ref _]) rfl ?_
  refine ev_iast DX1_init 22 rfl (wset_get app_last) (by unfold vp_in; decide) wset_set ?_
  refine ev_ss DX1_init 3 23 (pc' := 43) (lv' := [(0, .ref _)]) (st' := [.int 3, .int 2, .ref _, .ref _, .ref _]) rfl ?_
  refine ev_iast DX1_init 26 rfl (wset_get app_last) (by unfold vp_in; decide) wset_set ?_
  refine ev_putF (fs' := [_, _, _, _, _]) DX1_init 27 GX1 rfl (k0 := 2) (Nat.le_of_ble_eq_true rfl) fX1_21 rfl rfl rfl ⟨rfl, rfl⟩ (wset_o (app_o (wset_get g2)) app_last rfl) (Nat.le_of_ble_eq_true rfl) rfl rfl ?_
  refine ev_ss DX1_init 2 28 (pc' := 49) (lv' := [(0, .ref _)]) (st' := [.int 1, .ref _]) rfl ?_
  refine ev_put (fs' := [_, _, _, _, _]) DX1_init 30 GX1 rfl (k0 := 3) (Nat.le_of_ble_eq_true rfl) fX1_25 rfl ⟨rfl, rfl⟩ (wset_get (wset_o (app_o (wset_get g2)) app_last rfl)) (Nat.le_of_ble_eq_true rfl) rfl wset_set ?_
  exact ev_vret DX1_init 31 rfl rfl (x1_end l2 g2 (fun j hj => by rcases j with _ | _ | _ | j <;> first | rfl | omega) a3 a2 y3 y2 e2)
