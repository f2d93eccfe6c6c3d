/-- an exception that the program throws: its name, its constructor's place in the pool -/
def gXb (X : String) (ic : Nat) : Prop := Bundle.fit X = true ∧ gw (.initialized X) ∧ (∀ w ∈ vx_atS RX6 ic X ["java/lang/RuntimeException", "java/lang/Exception"], goodWord w = true → gw w) ∧ (vx_atS RX6 ic X ["java/lang/RuntimeException", "java/lang/Exception"]).filter (fun w => !goodWord w) = [.declares (Bundle.initS "java/lang/RuntimeException"), .declares (Bundle.initS "java/lang/Exception"), .declares (Bundle.initS "java/lang/Throwable"), .castable X X] ∧ (∀ w ∈ vx_atS RX6 ic X ["java/lang/RuntimeException", "java/lang/Exception"], vx_ot w = true) ∧ X ∈ gXn
theorem gX_names : ∀ n ∈ ["java/lang/RuntimeException", "java/lang/Exception"], Bundle.fit n = true := by decide +kernel
theorem XbI : gXb xI 188 := ⟨by decide +kernel, ini_IndexOutOfBoundsException, xx_IndexOutOfBoundsException, xy_IndexOutOfBoundsException, by decide +kernel, by decide +kernel⟩
theorem XbA : gXb xA 61 := ⟨by decide +kernel, ini_IllegalArgumentException, xx_IllegalArgumentException, xy_IllegalArgumentException, by decide +kernel, by decide +kernel⟩
theorem XbS : gXb xS 77 := ⟨by decide +kernel, ini_IllegalStateException, xx_IllegalStateException, xy_IllegalStateException, by decide +kernel, by decide +kernel⟩
theorem gX_hat {E : gE} {s : State} {args : Array Value} {H : Heap} {X : String} {ic : Nat} (hb : gXb X ic) (hts : ∀ w, gw w → w.before args s = true) (hWG : WG E s H) : ∀ w ∈ vx_atS RX6 ic X ["java/lang/RuntimeException", "java/lang/Exception"], w.before args s = true := by
  intro w hw
  by_cases hg : goodWord w = true
  · exact hts w (hb.2.2.1 w hw hg)
  · have hm : w ∈ (vx_atS RX6 ic X ["java/lang/RuntimeException", "java/lang/Exception"]).filter (fun w => !goodWord w) := List.mem_filter.mpr ⟨hw, by simp [hg]⟩
    rw [hb.2.2.2.1] at hm
    have hd := hWG.2.2.2.2.2.2.2.2.2.2.2.2.1
    have hcs := hWG.2.2.2.2.2.2.2.2.2.2.2.1 X hb.2.2.2.2.2
    rcases List.mem_cons.mp hm with rfl | hm
    · exact va_Nw.use rfl (hd _ (by decide +kernel))
    rcases List.mem_cons.mp hm with rfl | hm
    · exact va_Nw.use rfl (hd _ (by decide +kernel))
    rcases List.mem_cons.mp hm with rfl | hm
    · exact va_Nw.use rfl (hd _ (by decide +kernel))
    rcases List.mem_cons.mp hm with rfl | hm
    · exact va_Nw.use rfl hcs
    · exact absurd hm List.not_mem_nil
theorem gX_good {X : String} {ic ik : Nat} (hb : gXb X ic) : ∀ w ∈ Cond.classLink RX6 ik X :: Cond.initialized X :: vx_atS RX6 ic X ["java/lang/RuntimeException", "java/lang/Exception"], vx_ot w = true := by
  intro w hw
  cases hw with
  | head => rfl
  | tail _ hw =>
    cases hw with
    | head => rfl
    | tail _ hw => exact hb.2.2.2.2.1 w hw
section EVT
variable {E : gE} {Y : MI} {Pr : Option Value → va_W → Prop} {Px : String → va_W → Prop} {k n : Nat} {ws : va_W} {L : LI} {pc : Nat} {lv : List (Nat × Value)} {st : List Value}
/-- new; dup; ldc; invokespecial; athrow -/
theorem ev_throw (D : Lst Y L) (i : Nat) {X tx : String} {ik ks ic : Nat} (hb : gXb X ic) (hown : (mnm Y).cls = RX6) (hh : mhh Y = []) (hk : gw (.classLink RX6 ik X)) (hs : (ks, tx) ∈ gStr)
    (i0 : L[i]? = some (pc, .new ik, 3)) (i1 : L[i + 1]? = some (pc + 3, .dup, 1)) (i2 : L[i + 2]? = some (pc + 4, .ldc ks, 2)) (i3 : L[i + 3]? = some (pc + 6, .invokespecial ic, 3)) (i4 : L[i + 4]? = some (pc + 9, .athrow, 1))
    (hdp : 6 ≤ mdp Y) (hcat : (st.map fun v => v.category).sum ≤ 8) (h1 : 1 ≤ k) (h2 : 6 ≤ n) (hx : Px X ws) : Ev E Y Pr Px k n pc lv st ws := by
  intro p e R s m args below meth c H locs cells slots ls hC hl hS hP hc hn
  obtain ⟨hxx, hbb, hr, hlk, hmx, hts, hfc, hnm, htb, hWG, hf1, hf2⟩ := id hC
  obtain ⟨sa, hsa⟩ := hWG.2.2.2.2.1 _ hs
  have d0 := D _ (List.mem_of_getElem? i0)
  have d1 := D _ (List.mem_of_getElem? i1)
  have d2 := D _ (List.mem_of_getElem? i2)
  have d3 := D _ (List.mem_of_getElem? i3)
  have d4 := D _ (List.mem_of_getElem? i4)
  have hfc' : s.vm.findClass RX6 = some m.cls := by rw [← hown]; exact hfc
  have hat := gX_hat hb hts hWG
  have hgd := gX_good (ik := ik) hb
  have hout : ∀ x ∈ c.exceptionTable.toList, covers x (pc + 9) = false := by
    intro x hxm
    rw [htb, hh] at hxm
    cases hxm
  have hend : ∀ t : State, s.vm.Alike t.vm → H.size ≤ t.heap.size → (∀ q : Nat, q < H.size → t.heap[q]? = H[q]?) → gXC E Px X s t := by
    intro t hal hz ho
    refine ⟨⟨ws, hx, ⟨hP.1.kept (fun k q hk => ho q.1 (hP.1 k q hk).lt), hP.2⟩⟩, Nat.le_trans hS.1 hz, fun q h1 h2 => ?_⟩
    rw [ho q (Nat.lt_of_lt_of_le h1 hS.1)]
    exact hS.2.1 q h1 h2
  have e1 : (["java/lang/RuntimeException", "java/lang/Exception"] : List String).length + 3 < R.frames := by show 2 + 3 < _; omega
  have e2 : (st.map fun v => v.category).sum + (13 * ((["java/lang/RuntimeException", "java/lang/Exception"] : List String).length + 1) + 43) ≤ R.locals := by show _ + (13 * (2 + 1) + 43) ≤ _; omega
  exact vx_throwS (A := gA E) (own := RX6) (names := ["java/lang/RuntimeException", "java/lang/Exception"]) hxx hbb hWG.1 hfc' hb.1 gX_names (hts _ hk) (hts _ hb.2.1) hsa hat hgd hWG.2.2.2.2.2.1 hWG.2.2.2.2.2.2.1 hS (hl.1.trans hmx.symm) d0 d1 d2 d3 d4 hout e1 e2 (by omega) (by omega) hlk hend hS.2.2 (by omega) (by omega)
theorem ev_throwW (D : Lst Y L) (i : Nat) {X tx : String} {ik ks ic : Nat} (hb : gXb X ic) (hown : (mnm Y).cls = RX6) (hh : mhh Y = []) (hk : gw (.classLink RX6 ik X)) (hs : (ks, tx) ∈ gStr)
    (i0 : L[i]? = some (pc, .new ik, 3)) (i1 : L[i + 1]? = some (pc + 3, .dup, 1)) (i2 : L[i + 2]? = some (pc + 4, .ldc_w ks, 3)) (i3 : L[i + 3]? = some (pc + 7, .invokespecial ic, 3)) (i4 : L[i + 4]? = some (pc + 10, .athrow, 1))
    (hdp : 6 ≤ mdp Y) (hcat : (st.map fun v => v.category).sum ≤ 8) (h1 : 1 ≤ k) (h2 : 6 ≤ n) (hx : Px X ws) : Ev E Y Pr Px k n pc lv st ws := by
  intro p e R s m args below meth c H locs cells slots ls hC hl hS hP hc hn
  obtain ⟨hxx, hbb, hr, hlk, hmx, hts, hfc, hnm, htb, hWG, hf1, hf2⟩ := id hC
  obtain ⟨sa, hsa⟩ := hWG.2.2.2.2.1 _ hs
  have d0 := D _ (List.mem_of_getElem? i0)
  have d1 := D _ (List.mem_of_getElem? i1)
  have d2 := D _ (List.mem_of_getElem? i2)
  have d3 := D _ (List.mem_of_getElem? i3)
  have d4 := D _ (List.mem_of_getElem? i4)
  have hfc' : s.vm.findClass RX6 = some m.cls := by rw [← hown]; exact hfc
  have hat := gX_hat hb hts hWG
  have hgd := gX_good (ik := ik) hb
  have hout : ∀ x ∈ c.exceptionTable.toList, covers x (pc + 10) = false := by
    intro x hxm
    rw [htb, hh] at hxm
    cases hxm
  have hend : ∀ t : State, s.vm.Alike t.vm → H.size ≤ t.heap.size → (∀ q : Nat, q < H.size → t.heap[q]? = H[q]?) → gXC E Px X s t := by
    intro t hal hz ho
    refine ⟨⟨ws, hx, ⟨hP.1.kept (fun k q hk => ho q.1 (hP.1 k q hk).lt), hP.2⟩⟩, Nat.le_trans hS.1 hz, fun q h1 h2 => ?_⟩
    rw [ho q (Nat.lt_of_lt_of_le h1 hS.1)]
    exact hS.2.1 q h1 h2
  have e1 : (["java/lang/RuntimeException", "java/lang/Exception"] : List String).length + 3 < R.frames := by show 2 + 3 < _; omega
  have e2 : (st.map fun v => v.category).sum + (13 * ((["java/lang/RuntimeException", "java/lang/Exception"] : List String).length + 1) + 43) ≤ R.locals := by show _ + (13 * (2 + 1) + 43) ≤ _; omega
  exact vx_throwSW (A := gA E) (own := RX6) (names := ["java/lang/RuntimeException", "java/lang/Exception"]) hxx hbb hWG.1 hfc' hb.1 gX_names (hts _ hk) (hts _ hb.2.1) hsa hat hgd hWG.2.2.2.2.2.1 hWG.2.2.2.2.2.2.1 hS (hl.1.trans hmx.symm) d0 d1 d2 d3 d4 hout e1 e2 (by omega) (by omega) hlk hend hS.2.2 (by omega) (by omega)
end EVT
section EVO
variable {E : gE} {Y : MI} {Pr : Option Value → va_W → Prop} {Px : String → va_W → Prop} {k n : Nat} {ws : va_W} {av : List Value}
theorem ctx_of {p : Program} {e : Env} {s s₁ : State} {m : MethodId} {args : Array Value} {below : List Frame} {meth : Method} {c : Code} {W0 : List Cond} {rm : Room}
    (B : BodyLoose p (gL E) (mnm Y) (headSpec W0 rm) (mcd Y) (mml Y) (mrt Y) e s m args below meth c s₁) (hml : c.maxLocals = mml Y) (hts : ∀ w, gw w → w.before args s = true) (htb : c.exceptionTable.toList = tableOf (mhh Y)) (hWG : WG E s s.heap) : Cx E Y p (gR Y k n) s m args meth c :=
  ⟨B.exec, B.bytes, B.returns, B.notSynchronized, hml, hts, findClass_of_methodNamed B.named, (name_of_methodNamed B.named B.method).1, htb, hWG, Nat.le_refl _, Nat.le_refl _⟩
theorem c1_of (hp : plainFor (mnm Y) = true) (hh : mhh Y = []) (hl : (lg_sl av).length ≤ mml Y) (kk : Ev E Y Pr Px k n 0 (lv_args 0 av) [] ws) : C1 E Y k n av ws Pr Px := by
  refine MetFree.of_bodySF (code := mcd Y) (maxLocals := mml Y) (ret := mrt Y) hp ?_ ?_
  · intro args s m h hn
    obtain ⟨meth, c, h1, h2, h3, h4, h5, h6, -, -⟩ := Cond.code_spec hn (atoms_spec (ws := wsU Y) h _ List.mem_cons_self)
    exact ⟨meth, c, h1, h2, h3, h4, h5, h6⟩
  · intro p e s m args below meth c s₁ B hml hP _
    have hh0 : s₁.heap = s.heap := by rw [B.state]; rfl
    have ht : c.exceptionTable.toList = tableOf (mhh Y) := by
      obtain ⟨meth9, c9, h1, h2, -, -, -, -, h7, -⟩ := Cond.code_spec B.named (atoms_spec (ws := wsU Y) B.pre _ List.mem_cons_self)
      cases Option.some.inj (h1.symm.trans B.method)
      cases Option.some.inj (h2.symm.trans (Stand.of_body B).code)
      rw [hh, Array.isEmpty_iff.mp h7]
      rfl
    obtain ⟨rfl, hWG, hg⟩ := hP
    have hts0 := atoms_spec (ws := wsU Y) B.pre
    have hts : ∀ w, gw w → w.before av.toArray s = true := fun w hw => hts0 w (List.mem_cons_of_mem _ (List.mem_filter.mpr ⟨hw.1, hw.2⟩))
    have W1 := kk p e (gR Y k n) s m av.toArray below meth c s.heap [] 0 0 _ (ctx_of B hml hts ht hWG) (lv_entry av hl) va_S.rf hg (by show 0 + k ≤ k; omega) (by show 0 + n ≤ n; omega)
    rw [← lg_entry_eq] at W1
    obtain ⟨t, a1, o, b1, b2, b3⟩ := W1 s₁ hh0 (Stand.of_body B)
    exact ⟨t, o, a1, b1, b2, b3⟩
theorem c0_of (hp : plainFor (mnm Y) = true) (hh : mhh Y = []) (hl : (lg_sl av).length ≤ mml Y) (kk : Ev E Y Pr (fun _ _ => False) k n 0 (lv_args 0 av) [] ws) : C0 E Y k n av ws Pr := by
  unfold C0 Met
  refine MetFree.of_bodySF (code := mcd Y) (maxLocals := mml Y) (ret := mrt Y) hp ?_ ?_
  · intro args s m h hn
    obtain ⟨meth, c, h1, h2, h3, h4, h5, h6, -, -⟩ := Cond.code_spec hn (atoms_spec (ws := wsU Y) h _ List.mem_cons_self)
    exact ⟨meth, c, h1, h2, h3, h4, h5, h6⟩
  · intro p e s m args below meth c s₁ B hml hP _
    have hh0 : s₁.heap = s.heap := by rw [B.state]; rfl
    have ht : c.exceptionTable.toList = tableOf (mhh Y) := by
      obtain ⟨meth9, c9, h1, h2, -, -, -, -, h7, -⟩ := Cond.code_spec B.named (atoms_spec (ws := wsU Y) B.pre _ List.mem_cons_self)
      cases Option.some.inj (h1.symm.trans B.method)
      cases Option.some.inj (h2.symm.trans (Stand.of_body B).code)
      rw [hh, Array.isEmpty_iff.mp h7]
      rfl
    obtain ⟨rfl, hWG, hg⟩ := hP
    have hts0 := atoms_spec (ws := wsU Y) B.pre
    have hts : ∀ w, gw w → w.before av.toArray s = true := fun w hw => hts0 w (List.mem_cons_of_mem _ (List.mem_filter.mpr ⟨hw.1, hw.2⟩))
    have W1 := kk p e (gR Y k n) s m av.toArray below meth c s.heap [] 0 0 _ (ctx_of B hml hts ht hWG) (lv_entry av hl) va_S.rf hg (by show 0 + k ≤ k; omega) (by show 0 + n ≤ n; omega)
    rw [← lg_entry_eq] at W1
    obtain ⟨t, a1, o, b1, b2, b3⟩ := W1 s₁ hh0 (Stand.of_body B)
    rcases b3 with b3 | ⟨q, -, Ec, ce, L9, ⟨⟨ws9, h9, -⟩, -⟩, -⟩
    · exact ⟨t, o, a1, b1, b2, b3⟩
    · exact h9.elim
theorem c2_of (hp : plainFor (mnm Y) = true) (hl : (lg_sl av).length ≤ mml Y) (kk : Ev E Y Pr (fun _ _ => False) k n 0 (lv_args 0 av) [] ws) : C2 E Y k n av ws Pr := by
  unfold C2 Met
  refine MetFree.of_bodySF (code := mcd Y) (maxLocals := mml Y) (ret := mrt Y) hp ?_ ?_
  · intro args s m h hn
    obtain ⟨m9, meth, c, hn9, h1, h2, h3, h4, -, h5, h6, -⟩ := Cond.codeWith_spec (atoms_spec (ws := wsW Y) h _ List.mem_cons_self)
    cases hn.symm.trans hn9
    exact ⟨meth, c, h1, h2, h3, h4, h5, h6⟩
  · intro p e s m args below meth c s₁ B hml hP _
    have hh0 : s₁.heap = s.heap := by rw [B.state]; rfl
    have ht : c.exceptionTable.toList = tableOf (mhh Y) := vx_table (x := mnm Y) B (atoms_spec (ws := wsW Y) B.pre _ List.mem_cons_self)
    obtain ⟨rfl, hWG, hg⟩ := hP
    have hts0 := atoms_spec (ws := wsW Y) B.pre
    have hts : ∀ w, gw w → w.before av.toArray s = true := fun w hw => hts0 w (List.mem_cons_of_mem _ (List.mem_filter.mpr ⟨hw.1, hw.2⟩))
    have W1 := kk p e (gR Y k n) s m av.toArray below meth c s.heap [] 0 0 _ (ctx_of B hml hts ht hWG) (lv_entry av hl) va_S.rf hg (by show 0 + k ≤ k; omega) (by show 0 + n ≤ n; omega)
    rw [← lg_entry_eq] at W1
    obtain ⟨t, a1, o, b1, b2, b3⟩ := W1 s₁ hh0 (Stand.of_body B)
    rcases b3 with b3 | ⟨q, -, Ec, ce, L9, ⟨⟨ws9, h9, -⟩, -⟩, -⟩
    · exact ⟨t, o, a1, b1, b2, b3⟩
    · exact h9.elim
end EVO
