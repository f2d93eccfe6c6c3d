theorem WG_base {E : gE} {U : State} {H : Heap} (h : WG E U H) : gB E ≤ H.size := h.2.2.2.2.2.2.2.2.2.2.2.2.2
theorem WG_K {E : gE} {U : State} {H : Heap} (h : WG E U H) : va_K (gD E) gCl (gTy E) U := h.2.1
theorem gPc_blind {E : gE} {av : List Value} {ws : va_W} : FrameBlind (gPc E av ws) := by
  intro a U g mk h
  obtain ⟨h1, h2, h3⟩ := h
  exact ⟨h1, WG_moved (s := U) (U := U.calling g mk a) (locs := []) (State.WarmedH.refl U) va_S.rf h2, h3⟩
section EVN
variable {E : gE} {Y : MI} {Pr : Option Value → va_W → Prop} {Px : String → va_W → Prop} {k n : Nat} {ws : va_W} {L : LI} {pc : Nat} {lv : List (Nat × Value)} {st : List Value}
theorem ev_new (D : Lst Y L) (i : Nat) {ci idx N : Nat} {C : String} {T : u_T} {ty : Nat → FieldType} {fs : List Value} (G : gcl ci C T N ty) (hi : L[i]? = some (pc, .new idx, 3)) (hcl : gw (.classLink (mnm Y).cls idx C)) (hins : gw (.instantiable C N)) (hini : gw (.initialized C)) (hfs : ∀ j, j < N → defaultValue (ty j) = vp_V fs j)
    (kt : ∀ a : Nat, Ev E Y Pr Px k n (pc + 3) lv (.ref a :: st) (ws ++ [(a, .inr (ci, fs))])) : Ev E Y Pr Px (k + 1) (n + N) pc lv st ws := by
  intro p e R s m args below meth c H locs cells slots ls hC hl hS hP hc hn
  have hd := D _ (List.mem_of_getElem? hi)
  have hWG := hC.2.2.2.2.2.2.2.2.2.1
  exact va_new (D := gD E) (A := gA E) hC.1 hC.2.1 (fun w hw => hC.2.2.2.2.2.1 w (G.2.1 w hw)) (fun w h => h) ty G.2.2.1 hC.2.2.2.2.2.2.1 (hC.2.2.2.2.2.1 _ hcl) (hC.2.2.2.2.2.1 _ hins) (hC.2.2.2.2.2.1 _ hini) (WG_K hWG) hP.1 hP.2 hS (fun q hq => Nat.le_trans (WG_base hWG) hq) G.1 hfs (by omega) (by omega) hd
    (fun q H1 hP1 hD1 hS1 => kt q p e R s m args below meth c H1 locs (cells + 1) (slots + N) ls hC hl hS1 ⟨hP1, hD1⟩ (by omega) (by omega))
theorem ev_newa (D : Lst Y L) (i : Nat) {t0 N : Nat} {aty : ArrayType} {ty : FieldType} {z : Int32} {a0 : vp_A} (hi : L[i]? = some (pc, .newarray aty, 2)) (hty : newarray.typeOf aty = ty) (harr : gw (.arrayClass ty)) (ht : (gTy E)[t0]? = some (gK E t0, ty)) (hob : ∀ (U : State) (cA : ClassId), va_RA U cA ty → U.vm.findClass ("[" ++ ty.toString) = some cA)
    (ha : ∀ cA : ClassId, vp_cell cA a0 = arrV cA N (fun _ => defaultValue ty)) (hz : ¬ z < 0) (hN : z.toNatClampNeg = N) (hbytes : N * componentBytes ty ≤ 536870912)
    (kt : ∀ a : Nat, Ev E Y Pr Px k n (pc + 2) lv (.ref a :: st) (ws ++ [(a, .inl (gK E t0, a0))])) : Ev E Y Pr Px (k + 1) (n + N) pc lv (.int z :: st) ws := by
  intro p e R s m args below meth c H locs cells slots ls hC hl hS hP hc hn
  have hd := D _ (List.mem_of_getElem? hi)
  have hWG := hC.2.2.2.2.2.2.2.2.2.1
  have hK := WG_K hWG
  subst hty
  refine va_newa (D := gD E) (A := gA E) hC.1 hC.2.1 (hC.2.2.2.2.2.1 _ harr) rfl hK hP.1 hP.2 hS (fun q hq => Nat.le_trans (WG_base hWG) hq) ha hz hN hbytes (by omega) (by omega) hd (fun q cA H1 hK1 hP1 hD1 hS1 => ?_)
  have e1 := hob s cA (hK1.2 6 (cA, _) rfl).2
  have e2 := hob s (gK E t0) (hK.2 t0 _ ht).2
  have e3 : cA = gK E t0 := Option.some.inj (e1.symm.trans e2)
  subst e3
  exact kt q p e R s m args below meth c H1 locs (cells + 1) (slots + N) ls hC hl hS1 ⟨hP1, hD1⟩ (by omega) (by omega)
theorem ev_anew (D : Lst Y L) (i : Nat) {t0 N idx : Nat} {C : String} {z : Int32} (hi : L[i]? = some (pc, .anewarray idx, 3)) (hcl : gw (.classLink (mnm Y).cls idx C)) (hC0 : C = RX3 ∨ C = RX1) (ht : (gTy E)[t0]? = some (gK E t0, .object C)) (hz : ¬ z < 0) (hN : z.toNatClampNeg = N) (hbytes : N * 4 ≤ 536870912)
    (kt : ∀ a : Nat, Ev E Y Pr Px k n (pc + 3) lv (.ref a :: st) (ws ++ [(a, .inl (gK E t0, N, .inr (.inr (.inr (.inr (fun _ => none))))))])) : Ev E Y Pr Px (k + 1) (n + N) pc lv (.int z :: st) ws := by
  intro p e R s m args below meth c H locs cells slots ls hC hl hS hP hc hn
  have hd := D _ (List.mem_of_getElem? hi)
  have hWG := hC.2.2.2.2.2.2.2.2.2.1
  have hK := WG_K hWG
  have hO : va_AO C s := by
    rcases hC0 with rfl | rfl
    · exact hWG.2.2.2.2.2.2.2.2.1
    · exact hWG.2.2.2.2.2.2.2.2.2.1
  refine va_newq (D := gD E) (A := gA E) hC.1 hC.2.1 hC.2.2.2.2.2.2.1 (hC.2.2.2.2.2.1 _ hcl) hO hK hP.1 hP.2 hS (fun q hq => Nat.le_trans (WG_base hWG) hq) hz hN hbytes (by omega) (by omega) hd (fun q cA H1 hK1 hP1 hD1 hS1 => ?_)
  obtain ⟨k1, c1, -, -, -, e1⟩ := (hK1.2 6 (cA, .object C) rfl).2
  obtain ⟨k2, c2, -, -, -, e2⟩ := (hK.2 t0 _ ht).2
  have e3 : cA = gK E t0 := Option.some.inj (e1.symm.trans e2)
  subst e3
  exact kt q p e R s m args below meth c H1 locs (cells + 1) (slots + N) ls hC hl hS1 ⟨hP1, hD1⟩ (by omega) (by omega)
theorem ev_objI (D : Lst Y L) (i : Nat) {a idx : Nat} (hi : L[i]? = some (pc, .invokespecial idx, 3)) (hq : gw (.methodLink (mnm Y).cls idx objectInit)) (hdp : 1 ≤ mdp Y) (hcat : (st.map fun v => v.category).sum ≤ 8) (kt : Ev E Y Pr Px k n (pc + 3) lv st ws) : Ev E Y Pr Px k n pc lv (.ref a :: st) ws := by
  intro p e R s m args below meth c H locs cells slots ls hC hl hS hP hc hn
  have hd := D _ (List.mem_of_getElem? hi)
  obtain ⟨hf1, hf2⟩ := hC.2.2.2.2.2.2.2.2.2.2
  exact W.objInit hC.1 hC.2.1 hC.2.2.2.2.2.2.1 (hC.2.2.2.2.2.1 _ hq) (hC.2.2.2.2.2.1 _ vOi) (hC.2.2.2.2.2.1 _ vOc) rfl (hl.1.trans hC.2.2.2.2.1.symm) rfl hd (by omega) (by show 2 * 0 + _ + 12 ≤ _; omega) (kt p e R s m args below meth c H locs cells slots ls hC hl hS hP hc hn)
theorem ev_abs (D : Lst Y L) (i : Nat) {idx : Nat} {x : Int32} (hi : L[i]? = some (pc, .invokestatic idx, 3)) (hq : gw (.methodLink (mnm Y).cls idx Lib.Math.abs.name)) (hdp : 1 ≤ mdp Y) (hcat : (st.map fun v => v.category).sum ≤ 8) (kt : Ev E Y Pr Px k n (pc + 3) lv (.int (if 0 ≤ x then x else 0 - x) :: st) ws) : Ev E Y Pr Px k n pc lv (.int x :: st) ws := by
  intro p e R s m args below meth c H locs cells slots ls hC hl hS hP hc hn
  have hd := D _ (List.mem_of_getElem? hi)
  obtain ⟨hf1, hf2⟩ := hC.2.2.2.2.2.2.2.2.2.2
  exact va_mabs hC.1 hC.2.1 (hC.2.2.2.2.1.trans hl.1.symm) hC.2.2.2.2.2.2.1 (hC.2.2.2.2.2.1 _ hq) (hC.2.2.2.2.2.1 _ vMabs.1) (hC.2.2.2.2.2.1 _ ini_Math) (hC.2.2.2.2.2.1 _ vMabs.2) (by omega) (by omega) (by omega) (by omega) hd (kt p e R s m args below meth c H locs cells slots ls hC hl hS hP hc hn)
theorem ev_max (D : Lst Y L) (i : Nat) {idx : Nat} {x y : Int32} (hi : L[i]? = some (pc, .invokestatic idx, 3)) (hq : gw (.methodLink (mnm Y).cls idx Lib.Math.max.name)) (hdp : 1 ≤ mdp Y) (hcat : (st.map fun v => v.category).sum ≤ 8) (kt : Ev E Y Pr Px k n (pc + 3) lv (.int (if x < y then y else x) :: st) ws) : Ev E Y Pr Px k n pc lv (.int y :: .int x :: st) ws := by
  intro p e R s m args below meth c H locs cells slots ls hC hl hS hP hc hn
  have hd := D _ (List.mem_of_getElem? hi)
  obtain ⟨hf1, hf2⟩ := hC.2.2.2.2.2.2.2.2.2.2
  exact va_mmax hC.1 hC.2.1 (hC.2.2.2.2.1.trans hl.1.symm) hC.2.2.2.2.2.2.1 (hC.2.2.2.2.2.1 _ hq) (hC.2.2.2.2.2.1 _ vMmax.1) (hC.2.2.2.2.2.1 _ ini_Math) (hC.2.2.2.2.2.1 _ vMmax.2) (by omega) (by omega) (by omega) (by omega) hd (kt p e R s m args below meth c H locs cells slots ls hC hl hS hP hc hn)
theorem ev_min (D : Lst Y L) (i : Nat) {idx : Nat} {x y : Int32} (hi : L[i]? = some (pc, .invokestatic idx, 3)) (hq : gw (.methodLink (mnm Y).cls idx Lib.Math.min.name)) (hdp : 1 ≤ mdp Y) (hcat : (st.map fun v => v.category).sum ≤ 8) (kt : Ev E Y Pr Px k n (pc + 3) lv (.int (if y < x then y else x) :: st) ws) : Ev E Y Pr Px k n pc lv (.int y :: .int x :: st) ws := by
  intro p e R s m args below meth c H locs cells slots ls hC hl hS hP hc hn
  have hd := D _ (List.mem_of_getElem? hi)
  obtain ⟨hf1, hf2⟩ := hC.2.2.2.2.2.2.2.2.2.2
  exact va_mmin hC.1 hC.2.1 (hC.2.2.2.2.1.trans hl.1.symm) hC.2.2.2.2.2.2.1 (hC.2.2.2.2.2.1 _ hq) (hC.2.2.2.2.2.1 _ vMmin.1) (hC.2.2.2.2.2.1 _ ini_Math) (hC.2.2.2.2.2.1 _ vMmin.2) (by omega) (by omega) (by omega) (by omega) hd (kt p e R s m args below meth c H locs cells slots ls hC hl hS hP hc hn)
theorem ev_copy (D : Lst Y L) (i : Nat) {idx a a0 q0 q1 n0 n1 : Nat} {f g : Nat → Int32} {sp dp z : Int32} {ws' : va_W} (hi : L[i]? = some (pc, .invokestatic idx, 3)) (hq : gw (.methodLink (mnm Y).cls idx arraycopyName)) (hdp : 1 ≤ mdp Y) (hcat : (st.map fun v => v.category).sum ≤ 8)
    (ha0 : ws[q0]? = some (a0, .inl (gK E 0, n0, .inl f))) (ha1 : ws[q1]? = some (a, .inl (gK E 0, n1, .inl g))) (h1 : ¬ sp < 0) (h2 : ¬ dp < 0) (h3 : ¬ z < 0) (h4 : sp.toNatClampNeg + z.toNatClampNeg ≤ n0) (h5 : dp.toNatClampNeg + z.toNatClampNeg ≤ n1)
    (hws : ws.set q1 (a, .inl (gK E 0, n1, .inl (va_cpy f g sp.toNatClampNeg dp.toNatClampNeg z.toNatClampNeg))) = ws')
    (kt : Ev E Y Pr Px k n (pc + 3) lv st ws') : Ev E Y Pr Px k n pc lv (.int z :: .int dp :: .ref a :: .int sp :: .ref a0 :: st) ws := by
  intro p e R s m args below meth c H locs cells slots ls hC hl hS hP hc hn
  have hd := D _ (List.mem_of_getElem? hi)
  subst hws
  obtain ⟨hf1, hf2⟩ := hC.2.2.2.2.2.2.2.2.2.2
  have hnf : nativeFrameWords "java/lang/System" "arraycopy" 5 ≤ 18 := by decide
  exact va_copyi (D := gD E) (A := gA E) hC.1 hC.2.1 (hC.2.2.2.2.1.trans hl.1.symm) hC.2.2.2.2.2.2.1 (hC.2.2.2.2.2.1 _ hq) (hC.2.2.2.2.2.1 _ vAc.1) (hC.2.2.2.2.2.1 _ vAc.2) (hC.2.2.2.2.2.1 _ ini_System) (WG_K hC.2.2.2.2.2.2.2.2.2.1) hP.1 hP.2 hS q0 q1 0 0 ha0 ha1 rfl rfl rfl h1 h2 h3 h4 h5 (fun _ _ => rfl) (by omega) (by omega) hd
    (fun H1 locs1 hP1 hD1 hS1 => kt p e R s m args below meth c H1 locs1 cells slots ls hC hl hS1 ⟨hP1, hD1⟩ hc hn)
end EVN
section EVC
variable {p : Program} {e : Env} {R : Room} {s : State} {m : MethodId} {args : Array Value} {below : List Frame} {meth : Method} {c : Code} {H : Heap} {locs : List Loc} {cells slots : Nat} {Q : State → Prop} {E : gE} {pc k1 n1 : Nat} {ls : Array Slot} {stk rest : List Value} {a : Array Value} {Pr2 : Option Value → va_W → Prop} {Px2 : String → va_W → Prop}
theorem run_W (hr : va_Run p (gL E) e R s m args below meth c H locs cells slots k1 n1 (F0 m pc ls stk) rest (gQ E Pr2 a) (gA E)) (hS : va_S (gA E) s.heap H locs)
    (kk : ∀ (v : Option Value) (ws' : va_W) (H1 : Heap) (locs1 : List Loc), Pr2 v ws' → gP E ws' H1 → va_S (gA E) s.heap H1 locs1 → W p (gL E) e R s m args below meth c H1 locs1 (cells + k1) (slots + n1) Q (F0 m (pc + 3) ls (v.toList ++ rest))) :
    W p (gL E) e R s m args below meth c H locs cells slots Q (F0 m pc ls stk) := by
  intro T hT X
  obtain ⟨v, st₀, t, T', L, h0, X', hL, e1, e2, ⟨⟨v2, ws', hv, hp, hb⟩, hz, hk⟩, st⟩ := hr T hT X
  cases hv
  rw [h0] at hz hk
  have S' : va_S (gA E) s.heap T'.heap (locs ++ L) := ⟨Nat.le_trans hS.1 (by rw [e1]; exact hz), fun q h1 h2 => by rw [e1, hk q (Nat.lt_of_lt_of_le h1 hS.1) h2]; exact hS.2.1 q h1 h2, fun q hq => by
    rcases List.mem_append.mp hq with h | h
    · exact hS.2.2 q h
    · exact hL q h⟩
  obtain ⟨t2, a1, b1⟩ := kk v ws' T'.heap (locs ++ L) hp (by rw [e1]; exact hb) S' T' rfl X'
  exact ⟨t2, st t2 a1, b1⟩
theorem run_X (hr : vx_Run p (gL E) e R s m args below meth c H locs cells slots k1 n1 (F0 m pc ls stk) rest (gQ E Pr2 a) (gXC E Px2) (gA E)) (hS : va_S (gA E) s.heap H locs)
    (kx : ∀ (Ec : String) (ws' : va_W) (q : Nat) (ce : Cell) (H1 : Heap) (locs1 : List Loc), Px2 Ec ws' → gP E ws' H1 → va_S (gA E) s.heap H1 locs1 → H1[q]? = some ce → ce.vm = .none → s.vm.findClass Ec = some ce.cls → vx_W p (gL E) e R s m args below meth c H1 locs1 (cells + k1) (slots + n1) Q (F0 m pc ls rest) q)
    (kk : ∀ (v : Option Value) (ws' : va_W) (H1 : Heap) (locs1 : List Loc), Pr2 v ws' → gP E ws' H1 → va_S (gA E) s.heap H1 locs1 → W p (gL E) e R s m args below meth c H1 locs1 (cells + k1) (slots + n1) Q (F0 m (pc + 3) ls (v.toList ++ rest))) :
    W p (gL E) e R s m args below meth c H locs cells slots Q (F0 m pc ls stk) := by
  intro T hT X
  rcases hr T hT X with ⟨v, st₀, t, T', L, h0, X', hL, e1, e2, ⟨⟨v2, ws', hv, hp, hb⟩, hz, hk⟩, st⟩ | ⟨q, st₀, t, T', L, Ec, ce, h0, X', hL, e1, e2, ⟨⟨ws', hp, hb⟩, hz, hk⟩, hce, hcv, hcl, st⟩
  · cases hv
    rw [h0] at hz hk
    have S' : va_S (gA E) s.heap T'.heap (locs ++ L) := ⟨Nat.le_trans hS.1 (by rw [e1]; exact hz), fun q h1 h2 => by rw [e1, hk q (Nat.lt_of_lt_of_le h1 hS.1) h2]; exact hS.2.1 q h1 h2, fun q hq => by
      rcases List.mem_append.mp hq with h | h
      · exact hS.2.2 q h
      · exact hL q h⟩
    obtain ⟨t2, a1, b1⟩ := kk v ws' T'.heap (locs ++ L) hp (by rw [e1]; exact hb) S' T' rfl X'
    exact ⟨t2, st t2 a1, b1⟩
  · rw [h0] at hz hk
    have S' : va_S (gA E) s.heap T'.heap (locs ++ L) := ⟨Nat.le_trans hS.1 (by rw [e1]; exact hz), fun q h1 h2 => by rw [e1, hk q (Nat.lt_of_lt_of_le h1 hS.1) h2]; exact hS.2.1 q h1 h2, fun q hq => by
      rcases List.mem_append.mp hq with h | h
      · exact hS.2.2 q h
      · exact hL q h⟩
    obtain ⟨t2, a1, b1⟩ := kx Ec ws' q ce T'.heap (locs ++ L) hp (by rw [e1]; exact hb) S' (by rw [e1]; exact hce) hcv hcl T' rfl X'
    exact ⟨t2, st.trans a1, b1⟩
end EVC
theorem par_len {d : String} {np : Nat} (h : (parseMethodDescriptor d).map (fun d => d.parameters.length) = some np) : ∀ sig, parseMethodDescriptor d = some sig → np = sig.parameters.length := by
  intro sig hs
  rw [hs] at h
  exact (Option.some.inj h).symm
theorem wsU_warm {Y : MI} {args : Array Value} {s : State} (hc : gw (.code (mnm Y) (mcd Y) (mml Y) (mrt Y))) (hts : ∀ w, gw w → w.before args s = true) : ∀ w ∈ wsU Y, ∀ (a' : Array Value) (U : State), s.WarmedH U.vm → w.before a' U = true := by
  intro w hw a' U hW
  have hg : gw w := by
    rcases List.mem_cons.mp hw with h | h
    · rw [h]; exact hc
    · exact ⟨(List.mem_filter.mp h).1, (List.mem_filter.mp h).2⟩
  exact word_at hW (good_of_word hg.2) (hts w hg)
theorem wsW_warm {Y : MI} {args : Array Value} {s : State} (hc : gw (.codeWith (mnm Y) (mcd Y) (mml Y) (mrt Y) (mhh Y))) (hts : ∀ w, gw w → w.before args s = true) : ∀ w ∈ wsW Y, ∀ (a' : Array Value) (U : State), s.WarmedH U.vm → w.before a' U = true := by
  intro w hw a' U hW
  have hg : gw w := by
    rcases List.mem_cons.mp hw with h | h
    · rw [h]; exact hc
    · exact ⟨(List.mem_filter.mp h).1, (List.mem_filter.mp h).2⟩
  exact word_at hW (good_of_word hg.2) (hts w hg)
section EVM
variable {E : gE} {Y Y2 : MI} {Pr Pr2 : Option Value → va_W → Prop} {Px Px2 : String → va_W → Prop} {k n k1 n1 k2 n2 np : Nat} {ws : va_W} {L : LI} {pc : Nat} {lv : List (Nat × Value)} {st stk As : List Value}
/-- a call of a virtual method that returns -/
theorem ev_callV (D : Lst Y L) (i : Nat) {idx b q ci N : Nat} {T : u_T} {fs : List Value} (hv : mVv Y2 np) (hi : L[i]? = some (pc, .invokevirtual idx, 3)) (hl : gw (.methodLink (mnm Y).cls idx (mnm Y2))) (hdp : mdp Y2 + 1 ≤ mdp Y) (hml : mml Y2 ≤ 18) (he : ws[q]? = some (b, .inr (ci, fs))) (hcl : gCl[ci]? = some ((mnm Y2).cls, T, N)) (hAs : As.length = np) (hcat : (st.map fun v => v.category).sum ≤ 8) (hst : stk = As.reverse ++ .ref b :: st)
    (hk : k1 + k2 ≤ k) (hn2 : n1 + n2 ≤ n) (hM : C0 E Y2 k1 n1 (.ref b :: As) ws Pr2) (kt : ∀ (v : Option Value) (ws' : va_W), Pr2 v ws' → Ev E Y Pr Px k2 n2 (pc + 3) lv (v.toList ++ st) ws') : Ev E Y Pr Px k n pc lv stk ws := by
  intro p e R s m args below meth c H locs cells slots ls hC hlv hS hP hc hn
  have hd := D _ (List.mem_of_getElem? hi)
  obtain ⟨hx, hb, hr, hlk, hmx, hts, hown, hnm, htb, hWG, hf1, hf2⟩ := id hC
  obtain ⟨⟨v1, v2, v3, v4, v5, v6⟩, v7⟩ := hv
  refine run_W (va_runV (C := (mnm Y2).cls) (As := As) (rest := st) ⟨hx, hb, hmx, hown, fun w h => absurd h (List.not_mem_nil (a := w))⟩ hM ⟨⟨rfl, rfl, by show mdp Y2 + 1 ≤ _; omega, by show 8 + (mml Y2 + 11) + 37 * mdp Y2 ≤ _; omega, wsU_warm v3 hts, List.mem_cons_self, hts _ v3, hts _ v2, v4, par_len v5, hts _ hl⟩, hts _ v1, hts _ v7⟩ ⟨gPc_blind, va_recv (WG_K hWG) hP.1 hcl he, fun U hU hW => ⟨rfl, by rw [hU]; exact WG_moved hW hS hWG, by rw [hU]; exact hP⟩⟩ rfl hAs hlv.1 hst (by show 2 * 0 + _ ≤ 8; omega) hd ⟨by omega, by omega⟩) hS (fun v ws' H1 locs1 hp hP1 hS1 => ?_)
  exact kt v ws' hp p e R s m args below meth c H1 locs1 (cells + k1) (slots + n1) ls hC hlv hS1 hP1 (by omega) (by omega)
theorem ev_callVx (D : Lst Y L) (i : Nat) {idx b q ci N : Nat} {T : u_T} {fs : List Value} (hv : mVv Y2 np) (hi : L[i]? = some (pc, .invokevirtual idx, 3)) (hl : gw (.methodLink (mnm Y).cls idx (mnm Y2))) (hdp : mdp Y2 + 1 ≤ mdp Y) (hml : mml Y2 ≤ 18) (he : ws[q]? = some (b, .inr (ci, fs))) (hcl : gCl[ci]? = some ((mnm Y2).cls, T, N)) (hAs : As.length = np) (hcat : (st.map fun v => v.category).sum ≤ 8) (hst : stk = As.reverse ++ .ref b :: st)
    (hk : k1 + k2 ≤ k) (hn2 : n1 + n2 ≤ n) (hM : C1 E Y2 k1 n1 (.ref b :: As) ws Pr2 Px2) (kx : ∀ (Ec : String) (ws' : va_W), Px2 Ec ws' → EvX E Y Pr Px k2 n2 pc lv Ec ws') (kt : ∀ (v : Option Value) (ws' : va_W), Pr2 v ws' → Ev E Y Pr Px k2 n2 (pc + 3) lv (v.toList ++ st) ws') : Ev E Y Pr Px k n pc lv stk ws := by
  intro p e R s m args below meth c H locs cells slots ls hC hlv hS hP hc hn
  have hd := D _ (List.mem_of_getElem? hi)
  obtain ⟨hx, hb, hr, hlk, hmx, hts, hown, hnm, htb, hWG, hf1, hf2⟩ := id hC
  obtain ⟨⟨v1, v2, v3, v4, v5, v6⟩, v7⟩ := hv
  refine run_X (vx_runV (C := (mnm Y2).cls) (As := As) (rest := st) ⟨hx, hb, hmx, hown, fun w h => absurd h (List.not_mem_nil (a := w))⟩ hM ⟨⟨rfl, rfl, by show mdp Y2 + 1 ≤ _; omega, by show 8 + (mml Y2 + 11) + 37 * mdp Y2 ≤ _; omega, wsU_warm v3 hts, List.mem_cons_self, hts _ v3, hts _ v2, v4, par_len v5, hts _ hl⟩, hts _ v1, hts _ v7⟩ ⟨gPc_blind, va_recv (WG_K hWG) hP.1 hcl he, fun U hU hW => ⟨rfl, by rw [hU]; exact WG_moved hW hS hWG, by rw [hU]; exact hP⟩⟩ rfl hAs hlv.1 hst (by show 2 * 0 + _ ≤ 8; omega) hd ⟨by omega, by omega⟩) hS (fun Ec ws' q9 ce H1 locs1 hp hP1 hS1 hce hcv hcc => ?_) (fun v ws' H1 locs1 hp hP1 hS1 => ?_)
  · exact kx Ec ws' hp p e R s m args below meth c H1 locs1 (cells + k1) (slots + n1) ls st q9 ce hC hlv hS1 hP1 (by omega) (by omega) hce hcv hcc
  · exact kt v ws' hp p e R s m args below meth c H1 locs1 (cells + k1) (slots + n1) ls hC hlv hS1 hP1 (by omega) (by omega)
/-- a call of a static method that returns -/
theorem ev_callS (D : Lst Y L) (i : Nat) {idx : Nat} (hv : mVs Y2 np) (hi : L[i]? = some (pc, .invokestatic idx, 3)) (hl : gw (.methodLink (mnm Y).cls idx (mnm Y2))) (hdp : mdp Y2 + 1 ≤ mdp Y) (hml : mml Y2 ≤ 18) (hAs : As.length = np) (hcat : (st.map fun v => v.category).sum ≤ 8) (hst : stk = As.reverse ++ st)
    (hk : k1 + k2 ≤ k) (hn2 : n1 + n2 ≤ n) (hM : C0 E Y2 k1 n1 As ws Pr2) (kt : ∀ (v : Option Value) (ws' : va_W), Pr2 v ws' → Ev E Y Pr Px k2 n2 (pc + 3) lv (v.toList ++ st) ws') : Ev E Y Pr Px k n pc lv stk ws := by
  intro p e R s m args below meth c H locs cells slots ls hC hlv hS hP hc hn
  have hd := D _ (List.mem_of_getElem? hi)
  obtain ⟨hx, hb, hr, hlk, hmx, hts, hown, hnm, htb, hWG, hf1, hf2⟩ := id hC
  obtain ⟨v1, v2, v3, v4, v5, v6⟩ := hv
  refine run_W (va_runS (As := As) (rest := st) ⟨hx, hb, hmx, hown, fun w h => absurd h (List.not_mem_nil (a := w))⟩ hM ⟨⟨rfl, rfl, by show mdp Y2 + 1 ≤ _; omega, by show 8 + (mml Y2 + 11) + 37 * mdp Y2 ≤ _; omega, wsU_warm v3 hts, List.mem_cons_self, hts _ v3, hts _ v2, v4, par_len v5, hts _ hl⟩, hts _ v1⟩ ⟨gPc_blind, fun U hU hW => ⟨rfl, by rw [hU]; exact WG_moved hW hS hWG, by rw [hU]; exact hP⟩⟩ rfl hAs hlv.1 hst (by show 2 * 0 + _ ≤ 8; omega) hd ⟨by omega, by omega⟩) hS (fun v ws' H1 locs1 hp hP1 hS1 => ?_)
  exact kt v ws' hp p e R s m args below meth c H1 locs1 (cells + k1) (slots + n1) ls hC hlv hS1 hP1 (by omega) (by omega)
theorem ev_callSx (D : Lst Y L) (i : Nat) {idx : Nat} (hv : mVs Y2 np) (hi : L[i]? = some (pc, .invokestatic idx, 3)) (hl : gw (.methodLink (mnm Y).cls idx (mnm Y2))) (hdp : mdp Y2 + 1 ≤ mdp Y) (hml : mml Y2 ≤ 18) (hAs : As.length = np) (hcat : (st.map fun v => v.category).sum ≤ 8) (hst : stk = As.reverse ++ st)
    (hk : k1 + k2 ≤ k) (hn2 : n1 + n2 ≤ n) (hM : C1 E Y2 k1 n1 As ws Pr2 Px2) (kx : ∀ (Ec : String) (ws' : va_W), Px2 Ec ws' → EvX E Y Pr Px k2 n2 pc lv Ec ws') (kt : ∀ (v : Option Value) (ws' : va_W), Pr2 v ws' → Ev E Y Pr Px k2 n2 (pc + 3) lv (v.toList ++ st) ws') : Ev E Y Pr Px k n pc lv stk ws := by
  intro p e R s m args below meth c H locs cells slots ls hC hlv hS hP hc hn
  have hd := D _ (List.mem_of_getElem? hi)
  obtain ⟨hx, hb, hr, hlk, hmx, hts, hown, hnm, htb, hWG, hf1, hf2⟩ := id hC
  obtain ⟨v1, v2, v3, v4, v5, v6⟩ := hv
  refine run_X (vx_runS (As := As) (rest := st) ⟨hx, hb, hmx, hown, fun w h => absurd h (List.not_mem_nil (a := w))⟩ hM ⟨⟨rfl, rfl, by show mdp Y2 + 1 ≤ _; omega, by show 8 + (mml Y2 + 11) + 37 * mdp Y2 ≤ _; omega, wsU_warm v3 hts, List.mem_cons_self, hts _ v3, hts _ v2, v4, par_len v5, hts _ hl⟩, hts _ v1⟩ ⟨gPc_blind, fun U hU hW => ⟨rfl, by rw [hU]; exact WG_moved hW hS hWG, by rw [hU]; exact hP⟩⟩ rfl hAs hlv.1 hst (by show 2 * 0 + _ ≤ 8; omega) hd ⟨by omega, by omega⟩) hS (fun Ec ws' q9 ce H1 locs1 hp hP1 hS1 hce hcv hcc => ?_) (fun v ws' H1 locs1 hp hP1 hS1 => ?_)
  · exact kx Ec ws' hp p e R s m args below meth c H1 locs1 (cells + k1) (slots + n1) ls st q9 ce hC hlv hS1 hP1 (by omega) (by omega) hce hcv hcc
  · exact kt v ws' hp p e R s m args below meth c H1 locs1 (cells + k1) (slots + n1) ls hC hlv hS1 hP1 (by omega) (by omega)
/-- a constructor of the package -/
theorem ev_callI (D : Lst Y L) (i : Nat) {idx b : Nat} (hv : mVi Y2 np) (hin : (mnm Y2).name = "<init>") (hrt : mrt Y2 = none) (hi : L[i]? = some (pc, .invokespecial idx, 3)) (hl : gw (.methodLink (mnm Y).cls idx (mnm Y2))) (hdp : mdp Y2 + 1 ≤ mdp Y) (hml : mml Y2 ≤ 18) (hAs : As.length = np) (hcat : (st.map fun v => v.category).sum ≤ 8) (hst : stk = As.reverse ++ .ref b :: st)
    (hk : k1 + k2 ≤ k) (hn2 : n1 + n2 ≤ n) (hM : C0 E Y2 k1 n1 (.ref b :: As) ws Pr2) (kt : ∀ (v : Option Value) (ws' : va_W), Pr2 v ws' → Ev E Y Pr Px k2 n2 (pc + 3) lv (v.toList ++ st) ws') : Ev E Y Pr Px k n pc lv stk ws := by
  intro p e R s m args below meth c H locs cells slots ls hC hlv hS hP hc hn
  have hd := D _ (List.mem_of_getElem? hi)
  obtain ⟨hx, hb, hr, hlk, hmx, hts, hown, hnm, htb, hWG, hf1, hf2⟩ := id hC
  obtain ⟨v1, v2, v3, v4, v5, v6⟩ := hv
  have v3' : gw (.code (mnm Y2) (mcd Y2) (mml Y2) none) := by rw [hrt] at v3; exact v3
  have hcm : Cond.code (mnm Y2) (mcd Y2) (mml Y2) none ∈ wsU Y2 := by unfold wsU; rw [hrt]; exact List.mem_cons_self
  refine run_W (va_runI (As := As) (rest := st) ⟨hx, hb, hmx, hown, fun w h => absurd h (List.not_mem_nil (a := w))⟩ hM ⟨⟨rfl, rfl, by show mdp Y2 + 1 ≤ _; omega, by show 8 + (mml Y2 + 11) + 37 * mdp Y2 ≤ _; omega, wsU_warm v3 hts, hcm, hts _ v3', hts _ v2, v4, par_len v5, hts _ hl⟩, hin, hts _ v1⟩ ⟨gPc_blind, fun U hU hW => ⟨rfl, by rw [hU]; exact WG_moved hW hS hWG, by rw [hU]; exact hP⟩⟩ rfl hAs hlv.1 hst (by show 2 * 0 + _ ≤ 8; omega) hd ⟨by omega, by omega⟩) hS (fun v ws' H1 locs1 hp hP1 hS1 => ?_)
  exact kt v ws' hp p e R s m args below meth c H1 locs1 (cells + k1) (slots + n1) ls hC hlv hS1 hP1 (by omega) (by omega)
/-- a constructor of a nest mate -/
theorem ev_callIN (D : Lst Y L) (i : Nat) {idx b : Nat} (hv : mVi Y2 np) (hin : (mnm Y2).name = "<init>") (hrt : mrt Y2 = none) (hi : L[i]? = some (pc, .invokespecial idx, 3)) (hl : ((mnm Y).cls, idx, mnm Y2) ∈ gNest) (hdp : mdp Y2 + 1 ≤ mdp Y) (hml : mml Y2 ≤ 18) (hAs : As.length = np) (hcat : (st.map fun v => v.category).sum ≤ 8) (hst : stk = As.reverse ++ .ref b :: st)
    (hk : k1 + k2 ≤ k) (hn2 : n1 + n2 ≤ n) (hM : C0 E Y2 k1 n1 (.ref b :: As) ws Pr2) (kt : ∀ (v : Option Value) (ws' : va_W), Pr2 v ws' → Ev E Y Pr Px k2 n2 (pc + 3) lv (v.toList ++ st) ws') : Ev E Y Pr Px k n pc lv stk ws := by
  intro p e R s m args below meth c H locs cells slots ls hC hlv hS hP hc hn
  have hd := D _ (List.mem_of_getElem? hi)
  obtain ⟨hx, hb, hr, hlk, hmx, hts, hown, hnm, htb, hWG, hf1, hf2⟩ := id hC
  obtain ⟨v1, v2, v3, v4, v5, v6⟩ := hv
  have v3' : gw (.code (mnm Y2) (mcd Y2) (mml Y2) none) := by rw [hrt] at v3; exact v3
  have hcm : Cond.code (mnm Y2) (mcd Y2) (mml Y2) none ∈ wsU Y2 := by unfold wsU; rw [hrt]; exact List.mem_cons_self
  have hnw := hWG.2.2.2.2.2.2.2.1 _ hl
  refine run_W (va_runIN (host := RX6) (As := As) (rest := st) ⟨hx, hb, hmx, hown, fun w h => absurd h (List.not_mem_nil (a := w))⟩ hM ⟨⟨⟨rfl, rfl, by show mdp Y2 + 1 ≤ _; omega, by show 8 + (mml Y2 + 11) + 37 * mdp Y2 ≤ _; omega, wsU_warm v3 hts, hcm⟩, hts _ v3', hts _ v2, v4, par_len v5, va_Nw.use rfl hnw⟩, hin, hts _ v1⟩ ⟨gPc_blind, fun U hU hW => ⟨rfl, by rw [hU]; exact WG_moved hW hS hWG, by rw [hU]; exact hP⟩⟩ rfl hAs hlv.1 hst (by show 2 * 0 + _ ≤ 8; omega) hd ⟨by omega, by omega⟩) hS (fun v ws' H1 locs1 hp hP1 hS1 => ?_)
  exact kt v ws' hp p e R s m args below meth c H1 locs1 (cells + k1) (slots + n1) ls hC hlv hS1 hP1 (by omega) (by omega)
/-- a static method with handlers, that returns -/
theorem ev_callSW (D : Lst Y L) (i : Nat) {idx : Nat} (hv : mVx Y2 np) (hi : L[i]? = some (pc, .invokestatic idx, 3)) (hl : gw (.methodLink (mnm Y).cls idx (mnm Y2))) (hdp : mdp Y2 + 1 ≤ mdp Y) (hml : mml Y2 ≤ 18) (hAs : As.length = np) (hcat : (st.map fun v => v.category).sum ≤ 8) (hst : stk = As.reverse ++ st)
    (hk : k1 + k2 ≤ k) (hn2 : n1 + n2 ≤ n) (hM : C2 E Y2 k1 n1 As ws Pr2) (kt : ∀ (v : Option Value) (ws' : va_W), Pr2 v ws' → Ev E Y Pr Px k2 n2 (pc + 3) lv (v.toList ++ st) ws') : Ev E Y Pr Px k n pc lv stk ws := by
  intro p e R s m args below meth c H locs cells slots ls hC hlv hS hP hc hn
  have hd := D _ (List.mem_of_getElem? hi)
  obtain ⟨hx, hb, hr, hlk, hmx, hts, hown, hnm, htb, hWG, hf1, hf2⟩ := id hC
  obtain ⟨v1, v2, v3, v4, v5, v6⟩ := hv
  refine run_W (vx_runSW (As := As) (rest := st) ⟨hx, hb, hmx, hown, fun w h => absurd h (List.not_mem_nil (a := w))⟩ hM ⟨⟨rfl, rfl, by show mdp Y2 + 1 ≤ _; omega, by show 8 + (mml Y2 + 11) + 37 * mdp Y2 ≤ _; omega, wsW_warm v3 hts, List.mem_cons_self⟩, hts _ v3, hts _ v2, v4, par_len v5, hts _ hl, hts _ v1⟩ ⟨gPc_blind, fun U hU hW => ⟨rfl, by rw [hU]; exact WG_moved hW hS hWG, by rw [hU]; exact hP⟩⟩ rfl hAs hlv.1 hst (by show 2 * 0 + _ ≤ 8; omega) hd ⟨by omega, by omega⟩) hS (fun v ws' H1 locs1 hp hP1 hS1 => ?_)
  exact kt v ws' hp p e R s m args below meth c H1 locs1 (cells + k1) (slots + n1) ls hC hlv hS1 hP1 (by omega) (by omega)
/-- thrown over the frame of a method without handlers: on to the caller -/
theorem evx_out {Ec : String} (hh : mhh Y = []) (hx : Px Ec ws) : EvX E Y Pr Px k n pc lv Ec ws := by
  intro p e R s m args below meth c H locs cells slots ls rest q ce hC hlv hS hP hc hn hce hcv hcl
  obtain ⟨hxx, hb, hr, hlk, hmx, hts, hown, hnm, htb, hWG, hf1, hf2⟩ := id hC
  refine vx_out (fun x hxm => ?_) hlk hce hcv hcl (fun t ht _ => ⟨⟨ws, hx, by rw [ht]; exact hP⟩, hS.F ht⟩) hS.2.2 (by omega) (by omega)
  rw [htb, hh] at hxm
  cases hxm
/-- .. of a method whose table takes it -/
theorem evx_catch {Ec : String} (pre : List ExceptionTableEntry) (x : ExceptionTableEntry) (suf : List ExceptionTableEntry) (hsplit : tableOf (mhh Y) = pre ++ x :: suf) (hpass : ∀ z ∈ pre, z.catchType ≠ 0 ∧ ∃ nm : String, gw (.classLink (mnm Y).cls z.catchType nm) ∧ (Ec, nm) ∈ gNc) (hcov : covers x pc = true) (h0 : x.catchType ≠ 0) (hlink : gw (.classLink (mnm Y).cls x.catchType Ec)) (hX : Ec ∈ gXn)
    (kt : ∀ q : Nat, Ev E Y Pr Px k n x.handlerPc lv [.ref q] ws) : EvX E Y Pr Px k n pc lv Ec ws := by
  intro p e R s m args below meth c H locs cells slots ls rest q ce hC hlv hS hP hc hn hce hcv hcl
  obtain ⟨hxx, hb, hr, hlk, hmx, hts, hown, hnm, htb, hWG, hf1, hf2⟩ := id hC
  refine vx_catch hown pre x suf (htb.trans hsplit) (fun z hz => ?_) hcov h0 (hts _ hlink) (va_Nw.use rfl (hWG.2.2.2.2.2.2.2.2.2.2.2.1 Ec hX)) hce hcv hcl (kt q p e R s m args below meth c H locs cells slots ls hC hlv hS hP hc hn)
  obtain ⟨z1, nm, z2, z3⟩ := hpass z hz
  exact Or.inr ⟨z1, nm, hts _ z2, hWG.2.2.2.2.2.2.2.2.2.2.1 _ z3⟩
end EVM
