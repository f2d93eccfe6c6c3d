section EVR
variable {E : gE} {Y : MI} {Pr : Option Value → va_W → Prop} {Px : String → va_W → Prop} {k n : Nat} {ws : va_W} {L : LI} {pc : Nat} {lv : List (Nat × Value)} {st : List Value}
theorem ev_ifeq (D : Lst Y L) (i : Nat) {x : Int32} {off : Int} {tgt : Nat} (hi : L[i]? = some (pc, .ifCond .eq off, 3)) (ht : (pc : Int) + off = (tgt : Int))
    (kt : x = 0 → Ev E Y Pr Px k n tgt lv st ws) (kf : ¬ x = 0 → Ev E Y Pr Px k n (pc + 3) lv st ws) : Ev E Y Pr Px k n pc lv (.int x :: st) ws := by
  intro p e R s m args below meth c H locs cells slots ls hC hl hS hP hc hn
  have hd := D _ (List.mem_of_getElem? hi)
  exact lv_if_eq hC.1 hC.2.1 hd ht (fun h => kt h p e R s m args below meth c H locs cells slots ls hC hl hS hP hc hn) (fun h => kf h p e R s m args below meth c H locs cells slots ls hC hl hS hP hc hn)
theorem ev_iceq (D : Lst Y L) (i : Nat) {x y : Int32} {off : Int} {tgt : Nat} (hi : L[i]? = some (pc, .if_icmp .eq off, 3)) (ht : (pc : Int) + off = (tgt : Int))
    (kt : x = y → Ev E Y Pr Px k n tgt lv st ws) (kf : ¬ x = y → Ev E Y Pr Px k n (pc + 3) lv st ws) : Ev E Y Pr Px k n pc lv (.int y :: .int x :: st) ws := by
  intro p e R s m args below meth c H locs cells slots ls hC hl hS hP hc hn
  have hd := D _ (List.mem_of_getElem? hi)
  exact lv_icmp_eq hC.1 hC.2.1 hd ht (fun h => kt h p e R s m args below meth c H locs cells slots ls hC hl hS hP hc hn) (fun h => kf h p e R s m args below meth c H locs cells slots ls hC hl hS hP hc hn)
theorem ev_ifne (D : Lst Y L) (i : Nat) {x : Int32} {off : Int} {tgt : Nat} (hi : L[i]? = some (pc, .ifCond .ne off, 3)) (ht : (pc : Int) + off = (tgt : Int))
    (kt : ¬ x = 0 → Ev E Y Pr Px k n tgt lv st ws) (kf : x = 0 → Ev E Y Pr Px k n (pc + 3) lv st ws) : Ev E Y Pr Px k n pc lv (.int x :: st) ws := by
  intro p e R s m args below meth c H locs cells slots ls hC hl hS hP hc hn
  have hd := D _ (List.mem_of_getElem? hi)
  exact lv_if_ne hC.1 hC.2.1 hd ht (fun h => kt h p e R s m args below meth c H locs cells slots ls hC hl hS hP hc hn) (fun h => kf h p e R s m args below meth c H locs cells slots ls hC hl hS hP hc hn)
theorem ev_icne (D : Lst Y L) (i : Nat) {x y : Int32} {off : Int} {tgt : Nat} (hi : L[i]? = some (pc, .if_icmp .ne off, 3)) (ht : (pc : Int) + off = (tgt : Int))
    (kt : ¬ x = y → Ev E Y Pr Px k n tgt lv st ws) (kf : x = y → Ev E Y Pr Px k n (pc + 3) lv st ws) : Ev E Y Pr Px k n pc lv (.int y :: .int x :: st) ws := by
  intro p e R s m args below meth c H locs cells slots ls hC hl hS hP hc hn
  have hd := D _ (List.mem_of_getElem? hi)
  exact lv_icmp_ne hC.1 hC.2.1 hd ht (fun h => kt h p e R s m args below meth c H locs cells slots ls hC hl hS hP hc hn) (fun h => kf h p e R s m args below meth c H locs cells slots ls hC hl hS hP hc hn)
theorem ev_iflt (D : Lst Y L) (i : Nat) {x : Int32} {off : Int} {tgt : Nat} (hi : L[i]? = some (pc, .ifCond .lt off, 3)) (ht : (pc : Int) + off = (tgt : Int))
    (kt : x < 0 → Ev E Y Pr Px k n tgt lv st ws) (kf : ¬ x < 0 → Ev E Y Pr Px k n (pc + 3) lv st ws) : Ev E Y Pr Px k n pc lv (.int x :: st) ws := by
  intro p e R s m args below meth c H locs cells slots ls hC hl hS hP hc hn
  have hd := D _ (List.mem_of_getElem? hi)
  exact lv_if_lt hC.1 hC.2.1 hd ht (fun h => kt h p e R s m args below meth c H locs cells slots ls hC hl hS hP hc hn) (fun h => kf h p e R s m args below meth c H locs cells slots ls hC hl hS hP hc hn)
theorem ev_iclt (D : Lst Y L) (i : Nat) {x y : Int32} {off : Int} {tgt : Nat} (hi : L[i]? = some (pc, .if_icmp .lt off, 3)) (ht : (pc : Int) + off = (tgt : Int))
    (kt : x < y → Ev E Y Pr Px k n tgt lv st ws) (kf : ¬ x < y → Ev E Y Pr Px k n (pc + 3) lv st ws) : Ev E Y Pr Px k n pc lv (.int y :: .int x :: st) ws := by
  intro p e R s m args below meth c H locs cells slots ls hC hl hS hP hc hn
  have hd := D _ (List.mem_of_getElem? hi)
  exact lv_icmp_lt hC.1 hC.2.1 hd ht (fun h => kt h p e R s m args below meth c H locs cells slots ls hC hl hS hP hc hn) (fun h => kf h p e R s m args below meth c H locs cells slots ls hC hl hS hP hc hn)
theorem ev_ifge (D : Lst Y L) (i : Nat) {x : Int32} {off : Int} {tgt : Nat} (hi : L[i]? = some (pc, .ifCond .ge off, 3)) (ht : (pc : Int) + off = (tgt : Int))
    (kt : 0 ≤ x → Ev E Y Pr Px k n tgt lv st ws) (kf : ¬ 0 ≤ x → Ev E Y Pr Px k n (pc + 3) lv st ws) : Ev E Y Pr Px k n pc lv (.int x :: st) ws := by
  intro p e R s m args below meth c H locs cells slots ls hC hl hS hP hc hn
  have hd := D _ (List.mem_of_getElem? hi)
  exact lv_if_ge hC.1 hC.2.1 hd ht (fun h => kt h p e R s m args below meth c H locs cells slots ls hC hl hS hP hc hn) (fun h => kf h p e R s m args below meth c H locs cells slots ls hC hl hS hP hc hn)
theorem ev_icge (D : Lst Y L) (i : Nat) {x y : Int32} {off : Int} {tgt : Nat} (hi : L[i]? = some (pc, .if_icmp .ge off, 3)) (ht : (pc : Int) + off = (tgt : Int))
    (kt : y ≤ x → Ev E Y Pr Px k n tgt lv st ws) (kf : ¬ y ≤ x → Ev E Y Pr Px k n (pc + 3) lv st ws) : Ev E Y Pr Px k n pc lv (.int y :: .int x :: st) ws := by
  intro p e R s m args below meth c H locs cells slots ls hC hl hS hP hc hn
  have hd := D _ (List.mem_of_getElem? hi)
  exact lv_icmp_ge hC.1 hC.2.1 hd ht (fun h => kt h p e R s m args below meth c H locs cells slots ls hC hl hS hP hc hn) (fun h => kf h p e R s m args below meth c H locs cells slots ls hC hl hS hP hc hn)
theorem ev_ifgt (D : Lst Y L) (i : Nat) {x : Int32} {off : Int} {tgt : Nat} (hi : L[i]? = some (pc, .ifCond .gt off, 3)) (ht : (pc : Int) + off = (tgt : Int))
    (kt : 0 < x → Ev E Y Pr Px k n tgt lv st ws) (kf : ¬ 0 < x → Ev E Y Pr Px k n (pc + 3) lv st ws) : Ev E Y Pr Px k n pc lv (.int x :: st) ws := by
  intro p e R s m args below meth c H locs cells slots ls hC hl hS hP hc hn
  have hd := D _ (List.mem_of_getElem? hi)
  exact lv_if_gt hC.1 hC.2.1 hd ht (fun h => kt h p e R s m args below meth c H locs cells slots ls hC hl hS hP hc hn) (fun h => kf h p e R s m args below meth c H locs cells slots ls hC hl hS hP hc hn)
theorem ev_icgt (D : Lst Y L) (i : Nat) {x y : Int32} {off : Int} {tgt : Nat} (hi : L[i]? = some (pc, .if_icmp .gt off, 3)) (ht : (pc : Int) + off = (tgt : Int))
    (kt : y < x → Ev E Y Pr Px k n tgt lv st ws) (kf : ¬ y < x → Ev E Y Pr Px k n (pc + 3) lv st ws) : Ev E Y Pr Px k n pc lv (.int y :: .int x :: st) ws := by
  intro p e R s m args below meth c H locs cells slots ls hC hl hS hP hc hn
  have hd := D _ (List.mem_of_getElem? hi)
  exact lv_icmp_gt hC.1 hC.2.1 hd ht (fun h => kt h p e R s m args below meth c H locs cells slots ls hC hl hS hP hc hn) (fun h => kf h p e R s m args below meth c H locs cells slots ls hC hl hS hP hc hn)
theorem ev_ifle (D : Lst Y L) (i : Nat) {x : Int32} {off : Int} {tgt : Nat} (hi : L[i]? = some (pc, .ifCond .le off, 3)) (ht : (pc : Int) + off = (tgt : Int))
    (kt : x ≤ 0 → Ev E Y Pr Px k n tgt lv st ws) (kf : ¬ x ≤ 0 → Ev E Y Pr Px k n (pc + 3) lv st ws) : Ev E Y Pr Px k n pc lv (.int x :: st) ws := by
  intro p e R s m args below meth c H locs cells slots ls hC hl hS hP hc hn
  have hd := D _ (List.mem_of_getElem? hi)
  exact lv_if_le hC.1 hC.2.1 hd ht (fun h => kt h p e R s m args below meth c H locs cells slots ls hC hl hS hP hc hn) (fun h => kf h p e R s m args below meth c H locs cells slots ls hC hl hS hP hc hn)
theorem ev_icle (D : Lst Y L) (i : Nat) {x y : Int32} {off : Int} {tgt : Nat} (hi : L[i]? = some (pc, .if_icmp .le off, 3)) (ht : (pc : Int) + off = (tgt : Int))
    (kt : x ≤ y → Ev E Y Pr Px k n tgt lv st ws) (kf : ¬ x ≤ y → Ev E Y Pr Px k n (pc + 3) lv st ws) : Ev E Y Pr Px k n pc lv (.int y :: .int x :: st) ws := by
  intro p e R s m args below meth c H locs cells slots ls hC hl hS hP hc hn
  have hd := D _ (List.mem_of_getElem? hi)
  exact lv_icmp_le hC.1 hC.2.1 hd ht (fun h => kt h p e R s m args below meth c H locs cells slots ls hC hl hS hP hc hn) (fun h => kf h p e R s m args below meth c H locs cells slots ls hC hl hS hP hc hn)
theorem ev_goto (D : Lst Y L) (i : Nat) {off : Int} {tgt : Nat} (hi : L[i]? = some (pc, .goto off, 3)) (ht : (pc : Int) + off = (tgt : Int)) (kt : Ev E Y Pr Px k n tgt lv st ws) : Ev E Y Pr Px k n pc lv st ws := by
  intro p e R s m args below meth c H locs cells slots ls hC hl hS hP hc hn
  have hd := D _ (List.mem_of_getElem? hi)
  exact lv_goto hC.1 hC.2.1 hd ht (kt p e R s m args below meth c H locs cells slots ls hC hl hS hP hc hn)
theorem ev_swin (D : Lst Y L) (i : Nat) {x : Int32} {df lo hh : Int} {offs : Array Int} {len : Nat} {off : Int} {tgt : Nat} (hi : L[i]? = some (pc, .tableswitch df lo hh offs, len)) (h1 : ¬ x.toInt < lo) (h2 : ¬ hh < x.toInt) (ho : offs[(x.toInt - lo).toNat]? = some off) (ht : (pc : Int) + off = (tgt : Int)) (kt : Ev E Y Pr Px k n tgt lv st ws) : Ev E Y Pr Px k n pc lv (.int x :: st) ws := by
  intro p e R s m args below meth c H locs cells slots ls hC hl hS hP hc hn
  have hd := D _ (List.mem_of_getElem? hi)
  exact lv_tableIn hC.1 hC.2.1 hd h1 h2 ho ht (kt p e R s m args below meth c H locs cells slots ls hC hl hS hP hc hn)
theorem ev_swout (D : Lst Y L) (i : Nat) {x : Int32} {df lo hh : Int} {offs : Array Int} {len : Nat} {tgt : Nat} (hi : L[i]? = some (pc, .tableswitch df lo hh offs, len)) (h1 : x.toInt < lo ∨ hh < x.toInt) (ht : (pc : Int) + df = (tgt : Int)) (kt : Ev E Y Pr Px k n tgt lv st ws) : Ev E Y Pr Px k n pc lv (.int x :: st) ws := by
  intro p e R s m args below meth c H locs cells slots ls hC hl hS hP hc hn
  have hd := D _ (List.mem_of_getElem? hi)
  exact lv_tableOut hC.1 hC.2.1 hd h1 ht (kt p e R s m args below meth c H locs cells slots ls hC hl hS hP hc hn)
theorem ev_idiv (D : Lst Y L) (i : Nat) {x y : Int32} (hi : L[i]? = some (pc, .idiv, 1)) (hy : ¬ y = 0) (kt : Ev E Y Pr Px k n (pc + 1) lv (.int (x / y) :: st) ws) : Ev E Y Pr Px k n pc lv (.int y :: .int x :: st) ws := by
  intro p e R s m args below meth c H locs cells slots ls hC hl hS hP hc hn
  have hd := D _ (List.mem_of_getElem? hi)
  exact lv_idiv hC.1 hC.2.1 hd hy (kt p e R s m args below meth c H locs cells slots ls hC hl hS hP hc hn)
theorem ev_irem (D : Lst Y L) (i : Nat) {x y : Int32} (hi : L[i]? = some (pc, .irem, 1)) (hy : ¬ y = 0) (kt : Ev E Y Pr Px k n (pc + 1) lv (.int (x - x / y * y) :: st) ws) : Ev E Y Pr Px k n pc lv (.int y :: .int x :: st) ws := by
  intro p e R s m args below meth c H locs cells slots ls hC hl hS hP hc hn
  have hd := D _ (List.mem_of_getElem? hi)
  exact lv_irem hC.1 hC.2.1 hd hy (kt p e R s m args below meth c H locs cells slots ls hC hl hS hP hc hn)
theorem ev_lrem (D : Lst Y L) (i : Nat) {x y : Int64} (hi : L[i]? = some (pc, .lrem, 1)) (hy : ¬ y = 0) (kt : Ev E Y Pr Px k n (pc + 1) lv (.long (x - x / y * y) :: st) ws) : Ev E Y Pr Px k n pc lv (.long y :: .long x :: st) ws := by
  intro p e R s m args below meth c H locs cells slots ls hC hl hS hP hc hn
  have hd := D _ (List.mem_of_getElem? hi)
  exact lv_lrem hC.1 hC.2.1 hd hy (kt p e R s m args below meth c H locs cells slots ls hC hl hS hP hc hn)
theorem ev_dmul (D : Lst Y L) (i : Nat) {x y : UInt64} (hi : L[i]? = some (pc, .dmul, 1)) (hy : vf_n64 (FP.dmul x y)) (kt : Ev E Y Pr Px k n (pc + 1) lv (.double (FP.dmul x y) :: st) ws) : Ev E Y Pr Px k n pc lv (.double y :: .double x :: st) ws := by
  intro p e R s m args below meth c H locs cells slots ls hC hl hS hP hc hn
  have hd := D _ (List.mem_of_getElem? hi)
  exact lv_dmul hC.1 hC.2.1 hd hy (kt p e R s m args below meth c H locs cells slots ls hC hl hS hP hc hn)
theorem ev_ddiv (D : Lst Y L) (i : Nat) {x y : UInt64} (hi : L[i]? = some (pc, .ddiv, 1)) (hy : vf_n64 (FP.ddiv x y)) (kt : Ev E Y Pr Px k n (pc + 1) lv (.double (FP.ddiv x y) :: st) ws) : Ev E Y Pr Px k n pc lv (.double y :: .double x :: st) ws := by
  intro p e R s m args below meth c H locs cells slots ls hC hl hS hP hc hn
  have hd := D _ (List.mem_of_getElem? hi)
  exact lv_ddiv hC.1 hC.2.1 hd hy (kt p e R s m args below meth c H locs cells slots ls hC hl hS hP hc hn)
theorem ev_dsub (D : Lst Y L) (i : Nat) {x y : UInt64} (hi : L[i]? = some (pc, .dsub, 1)) (hy : vf_n64 (FP.dsub x y)) (kt : Ev E Y Pr Px k n (pc + 1) lv (.double (FP.dsub x y) :: st) ws) : Ev E Y Pr Px k n pc lv (.double y :: .double x :: st) ws := by
  intro p e R s m args below meth c H locs cells slots ls hC hl hS hP hc hn
  have hd := D _ (List.mem_of_getElem? hi)
  exact lv_dsub hC.1 hC.2.1 hd hy (kt p e R s m args below meth c H locs cells slots ls hC hl hS hP hc hn)
theorem ev_dconst0 (D : Lst Y L) (i : Nat) (hi : L[i]? = some (pc, .dconst 0, 1)) (kt : Ev E Y Pr Px k n (pc + 1) lv (.double FP.dconst0 :: st) ws) : Ev E Y Pr Px k n pc lv st ws := by
  intro p e R s m args below meth c H locs cells slots ls hC hl hS hP hc hn
  have hd := D _ (List.mem_of_getElem? hi)
  exact lv_dconst0 hC.1 hC.2.1 hd (kt p e R s m args below meth c H locs cells slots ls hC hl hS hP hc hn)
theorem ev_dconst1 (D : Lst Y L) (i : Nat) (hi : L[i]? = some (pc, .dconst 1, 1)) (kt : Ev E Y Pr Px k n (pc + 1) lv (.double FP.dconst1 :: st) ws) : Ev E Y Pr Px k n pc lv st ws := by
  intro p e R s m args below meth c H locs cells slots ls hC hl hS hP hc hn
  have hd := D _ (List.mem_of_getElem? hi)
  exact lv_dconst1 hC.1 hC.2.1 hd (kt p e R s m args below meth c H locs cells slots ls hC hl hS hP hc hn)
theorem ev_ldc (D : Lst Y L) (i : Nat) {idx : Nat} {v : Int32} (hi : L[i]? = some (pc, .ldc idx, 2)) (hw : gw (.constant (mnm Y).cls idx v)) (kt : Ev E Y Pr Px k n (pc + 2) lv (.int v :: st) ws) : Ev E Y Pr Px k n pc lv st ws := by
  intro p e R s m args below meth c H locs cells slots ls hC hl hS hP hc hn
  have hd := D _ (List.mem_of_getElem? hi)
  exact lv_ldc hC.1 hC.2.1 hC.2.2.2.2.2.2.1 (hC.2.2.2.2.2.1 _ hw) hd (kt p e R s m args below meth c H locs cells slots ls hC hl hS hP hc hn)
theorem ev_ldc2 (D : Lst Y L) (i : Nat) {idx : Nat} {v : Int64} (hi : L[i]? = some (pc, .ldc2_w idx, 3)) (hw : gw (.constantLong (mnm Y).cls idx v)) (kt : Ev E Y Pr Px k n (pc + 3) lv (.long v :: st) ws) : Ev E Y Pr Px k n pc lv st ws := by
  intro p e R s m args below meth c H locs cells slots ls hC hl hS hP hc hn
  have hd := D _ (List.mem_of_getElem? hi)
  exact lv_ldc2 hC.1 hC.2.1 hC.2.2.2.2.2.2.1 (hC.2.2.2.2.2.1 _ hw) hd (kt p e R s m args below meth c H locs cells slots ls hC hl hS hP hc hn)
theorem ev_ldc2d (D : Lst Y L) (i : Nat) {idx : Nat} {v : UInt64} (hi : L[i]? = some (pc, .ldc2_w idx, 3)) (hw : gw (.constantDouble (mnm Y).cls idx v)) (kt : Ev E Y Pr Px k n (pc + 3) lv (.double v :: st) ws) : Ev E Y Pr Px k n pc lv st ws := by
  intro p e R s m args below meth c H locs cells slots ls hC hl hS hP hc hn
  have hd := D _ (List.mem_of_getElem? hi)
  exact lv_ldc2d hC.1 hC.2.1 hC.2.2.2.2.2.2.1 (hC.2.2.2.2.2.1 _ hw) hd (kt p e R s m args below meth c H locs cells slots ls hC hl hS hP hc hn)
/-- a kind of objects, by its number -/
def gcl (ci : Nat) (C : String) (T : u_T) (N : Nat) (ty : Nat → FieldType) : Prop := gCl[ci]? = some (C, T, N) ∧ (∀ w ∈ u_ws C T N, gw w) ∧ (∀ k, k < N → parseFieldDescriptor (T k).2.2.1 = some (ty k)) ∧ (∀ a, a < N → ∀ b, b < N → a ≠ b → (T a).2.1 ≠ (T b).2.1)
theorem GX0 : gcl 0 RX0 TX0 2 tyX0 := ⟨rfl, inX0, tyX0_ok, nmX0⟩
theorem GX1 : gcl 1 RX1 TX1 5 tyX1 := ⟨rfl, inX1, tyX1_ok, nmX1⟩
theorem GX2 : gcl 2 RX2 TX2 2 tyX2 := ⟨rfl, inX2, tyX2_ok, nmX2⟩
theorem GX3 : gcl 3 RX3 TX3 18 tyX3 := ⟨rfl, inX3, tyX3_ok, nmX3⟩
theorem GX4 : gcl 4 RX4 TX4 3 tyX4 := ⟨rfl, inX4, tyX4_ok, nmX4⟩
theorem GX5 : gcl 5 RX5 TX5 5 tyX5 := ⟨rfl, inX5, tyX5_ok, nmX5⟩
theorem GX6 : gcl 6 RX6 TX6 6 tyX6 := ⟨rfl, inX6, tyX6_ok, nmX6⟩
theorem ev_get (D : Lst Y L) (i : Nat) {ci idx a q k0 N : Nat} {C : String} {T : u_T} {ty : Nat → FieldType} {fs : List Value} {v : Value} (G : gcl ci C T N ty) (hi : L[i]? = some (pc, .getfield idx, 3)) (hk : k0 < N) (hf : gw (.fieldLink (mnm Y).cls idx (T k0).1 (T k0).2.1 (T k0).2.2.1)) (he : ws[q]? = some (a, .inr (ci, fs))) (hv : fs[k0]? = some v)
    (kt : Ev E Y Pr Px k n (pc + 3) lv (v :: st) ws) : Ev E Y Pr Px k n pc lv (.ref a :: st) ws := by
  intro p e R s m args below meth c H locs cells slots ls hC hl hS hP hc hn
  have hd := D _ (List.mem_of_getElem? hi)
  exact va_get (D := gD E) hC.1 hC.2.1 (fun w hw => hC.2.2.2.2.2.1 w (G.2.1 w hw)) (fun w h => h) hC.2.2.2.2.2.2.1 hC.2.2.2.2.2.2.2.2.2.1.2.1 hP.1 q he G.1 k0 hk (hC.2.2.2.2.2.1 _ hf) (fun x h => h) hv hd (kt p e R s m args below meth c H locs cells slots ls hC hl hS hP hc hn)
theorem ev_put (D : Lst Y L) (i : Nat) {ci idx a q k0 N : Nat} {C : String} {T : u_T} {ty : Nat → FieldType} {fs fs' : List Value} {v : Value} {ws' : va_W} (G : gcl ci C T N ty) (hi : L[i]? = some (pc, .putfield idx, 3)) (hk : k0 < N) (hf : gw (.fieldLink (mnm Y).cls idx (T k0).1 (T k0).2.1 (T k0).2.2.1)) (hfin : (T k0).2.2.2 = false) (hv : narrow (ty k0) v = v ∧ fits (ty k0) v = true) (he : ws[q]? = some (a, .inr (ci, fs))) (hlen : k0 < fs.length) (hfs : fs.set k0 v = fs') (hws : ws.set q (a, .inr (ci, fs')) = ws')
    (kt : Ev E Y Pr Px k n (pc + 3) lv st ws') : Ev E Y Pr Px k n pc lv (v :: .ref a :: st) ws := by
  intro p e R s m args below meth c H locs cells slots ls hC hl hS hP hc hn
  have hd := D _ (List.mem_of_getElem? hi)
  subst hfs; subst hws
  exact va_put (D := gD E) (A := gA E) hC.1 hC.2.1 (fun w hw => hC.2.2.2.2.2.1 w (G.2.1 w hw)) (fun w h => h) ty G.2.2.1 G.2.2.2 hC.2.2.2.2.2.2.1 hC.2.2.2.2.2.2.2.2.2.1.2.1 hP.1 hP.2 hS q he G.1 k0 hk (hC.2.2.2.2.2.1 _ hf) (fun x h => h) hfin (G.2.2.1 k0 hk) hv.1 hv.2 hlen hd (fun H1 locs1 hP1 hD1 hS1 => kt p e R s m args below meth c H1 locs1 cells slots ls hC hl hS1 ⟨hP1, hD1⟩ hc hn)
theorem ev_putF (D : Lst Y L) (i : Nat) {ci idx a q k0 N : Nat} {C : String} {T : u_T} {ty : Nat → FieldType} {fs fs' : List Value} {v : Value} {ws' : va_W} (G : gcl ci C T N ty) (hi : L[i]? = some (pc, .putfield idx, 3)) (hk : k0 < N) (hf : gw (.fieldLink (mnm Y).cls idx (T k0).1 (T k0).2.1 (T k0).2.2.1)) (hfin : (T k0).2.2.2 = true) (hin : (mnm Y).name = "<init>") (hdc : (T k0).1 = (mnm Y).cls) (hv : narrow (ty k0) v = v ∧ fits (ty k0) v = true) (he : ws[q]? = some (a, .inr (ci, fs))) (hlen : k0 < fs.length) (hfs : fs.set k0 v = fs') (hws : ws.set q (a, .inr (ci, fs')) = ws')
    (kt : Ev E Y Pr Px k n (pc + 3) lv st ws') : Ev E Y Pr Px k n pc lv (v :: .ref a :: st) ws := by
  intro p e R s m args below meth c H locs cells slots ls hC hl hS hP hc hn
  have hd := D _ (List.mem_of_getElem? hi)
  subst hfs; subst hws
  exact va_putF (D := gD E) (A := gA E) hC.1 hC.2.1 (fun w hw => hC.2.2.2.2.2.1 w (G.2.1 w hw)) (fun w h => h) ty G.2.2.1 G.2.2.2 hC.2.2.2.2.2.2.1 hC.2.2.2.2.2.2.2.2.2.1.2.1 hP.1 hP.2 hS q he G.1 k0 hk (hC.2.2.2.2.2.1 _ hf) (fun x h => h) hfin (hC.2.2.2.2.2.2.2.1.trans hin) hdc (G.2.2.1 k0 hk) hv.1 hv.2 hlen hd (fun H1 locs1 hP1 hD1 hS1 => kt p e R s m args below meth c H1 locs1 cells slots ls hC hl hS1 ⟨hP1, hD1⟩ hc hn)
theorem ev_iald (D : Lst Y L) (i : Nat) {a q N : Nat} {f : Nat → Int32} {i0 : Int32} (hi : L[i]? = some (pc, .iaload, 1)) (he : ws[q]? = some (a, .inl (gK E 0, N, .inl f))) (hin : vp_in i0 N) (kt : Ev E Y Pr Px k n (pc + 1) lv (.int (f i0.toNatClampNeg) :: st) ws) : Ev E Y Pr Px k n pc lv (.int i0 :: .ref a :: st) ws := by
  intro p e R s m args below meth c H locs cells slots ls hC hl hS hP hc hn
  have hd := D _ (List.mem_of_getElem? hi)
  exact va_iald (D := gD E) hC.1 hC.2.1 hC.2.2.2.2.2.2.2.2.2.1.2.1 hP.1 q 0 he rfl hin hd (kt p e R s m args below meth c H locs cells slots ls hC hl hS hP hc hn)
theorem ev_iast (D : Lst Y L) (i : Nat) {a q N : Nat} {f : Nat → Int32} {i0 : Int32} {x : Int32} {ws' : va_W} (hi : L[i]? = some (pc, .iastore, 1)) (he : ws[q]? = some (a, .inl (gK E 0, N, .inl f))) (hin : vp_in i0 N) (hws : ws.set q (a, .inl (gK E 0, N, .inl (upd f i0.toNatClampNeg x))) = ws') (kt : Ev E Y Pr Px k n (pc + 1) lv st ws') : Ev E Y Pr Px k n pc lv (.int x :: .int i0 :: .ref a :: st) ws := by
  intro p e R s m args below meth c H locs cells slots ls hC hl hS hP hc hn
  have hd := D _ (List.mem_of_getElem? hi)
  subst hws
  exact va_iast (D := gD E) (A := gA E) hC.1 hC.2.1 hC.2.2.2.2.2.2.2.2.2.1.2.1 hP.1 hP.2 hS q 0 he rfl hin hd (fun H1 locs1 hP1 hD1 hS1 => kt p e R s m args below meth c H1 locs1 cells slots ls hC hl hS1 ⟨hP1, hD1⟩ hc hn)
theorem ev_cald (D : Lst Y L) (i : Nat) {a q N : Nat} {f : Nat → Int32} {i0 : Int32} (hi : L[i]? = some (pc, .caload, 1)) (he : ws[q]? = some (a, .inl (gK E 2, N, .inl f))) (hin : vp_in i0 N) (kt : Ev E Y Pr Px k n (pc + 1) lv (.int (f i0.toNatClampNeg) :: st) ws) : Ev E Y Pr Px k n pc lv (.int i0 :: .ref a :: st) ws := by
  intro p e R s m args below meth c H locs cells slots ls hC hl hS hP hc hn
  have hd := D _ (List.mem_of_getElem? hi)
  exact va_cald (D := gD E) hC.1 hC.2.1 hC.2.2.2.2.2.2.2.2.2.1.2.1 hP.1 q 2 he rfl hin hd (kt p e R s m args below meth c H locs cells slots ls hC hl hS hP hc hn)
theorem ev_cast (D : Lst Y L) (i : Nat) {a q N : Nat} {f : Nat → Int32} {i0 : Int32} {x : Int32} {ws' : va_W} (hi : L[i]? = some (pc, .castore, 1)) (he : ws[q]? = some (a, .inl (gK E 2, N, .inl f))) (hin : vp_in i0 N) (hws : ws.set q (a, .inl (gK E 2, N, .inl (upd f i0.toNatClampNeg (vp_nar .char x)))) = ws') (kt : Ev E Y Pr Px k n (pc + 1) lv st ws') : Ev E Y Pr Px k n pc lv (.int x :: .int i0 :: .ref a :: st) ws := by
  intro p e R s m args below meth c H locs cells slots ls hC hl hS hP hc hn
  have hd := D _ (List.mem_of_getElem? hi)
  subst hws
  exact va_cast (D := gD E) (A := gA E) hC.1 hC.2.1 hC.2.2.2.2.2.2.2.2.2.1.2.1 hP.1 hP.2 hS q 2 he rfl hin hd (fun H1 locs1 hP1 hD1 hS1 => kt p e R s m args below meth c H1 locs1 cells slots ls hC hl hS1 ⟨hP1, hD1⟩ hc hn)
theorem ev_lald (D : Lst Y L) (i : Nat) {a q N : Nat} {f : Nat → Int64} {i0 : Int32} (hi : L[i]? = some (pc, .laload, 1)) (he : ws[q]? = some (a, .inl (gK E 1, N, .inr (.inl f)))) (hin : vp_in i0 N) (kt : Ev E Y Pr Px k n (pc + 1) lv (.long (f i0.toNatClampNeg) :: st) ws) : Ev E Y Pr Px k n pc lv (.int i0 :: .ref a :: st) ws := by
  intro p e R s m args below meth c H locs cells slots ls hC hl hS hP hc hn
  have hd := D _ (List.mem_of_getElem? hi)
  exact va_lald (D := gD E) hC.1 hC.2.1 hC.2.2.2.2.2.2.2.2.2.1.2.1 hP.1 q 1 he rfl hin hd (kt p e R s m args below meth c H locs cells slots ls hC hl hS hP hc hn)
theorem ev_last (D : Lst Y L) (i : Nat) {a q N : Nat} {f : Nat → Int64} {i0 : Int32} {x : Int64} {ws' : va_W} (hi : L[i]? = some (pc, .lastore, 1)) (he : ws[q]? = some (a, .inl (gK E 1, N, .inr (.inl f)))) (hin : vp_in i0 N) (hws : ws.set q (a, .inl (gK E 1, N, .inr (.inl (vp_updL f i0.toNatClampNeg x)))) = ws') (kt : Ev E Y Pr Px k n (pc + 1) lv st ws') : Ev E Y Pr Px k n pc lv (.long x :: .int i0 :: .ref a :: st) ws := by
  intro p e R s m args below meth c H locs cells slots ls hC hl hS hP hc hn
  have hd := D _ (List.mem_of_getElem? hi)
  subst hws
  exact va_last (D := gD E) (A := gA E) hC.1 hC.2.1 hC.2.2.2.2.2.2.2.2.2.1.2.1 hP.1 hP.2 hS q 1 he rfl hin hd (fun H1 locs1 hP1 hD1 hS1 => kt p e R s m args below meth c H1 locs1 cells slots ls hC hl hS1 ⟨hP1, hD1⟩ hc hn)
theorem ev_aald4 (D : Lst Y L) (i : Nat) {a q N b : Nat} {f : Nat → Option Nat} {i0 : Int32} (hi : L[i]? = some (pc, .aaload, 1)) (he : ws[q]? = some (a, .inl (gK E 4, N, .inr (.inr (.inr (.inr f)))))) (hin : vp_in i0 N) (hb : f i0.toNatClampNeg = some b) (kt : Ev E Y Pr Px k n (pc + 1) lv (.ref b :: st) ws) : Ev E Y Pr Px k n pc lv (.int i0 :: .ref a :: st) ws := by
  intro p e R s m args below meth c H locs cells slots ls hC hl hS hP hc hn
  have hd := D _ (List.mem_of_getElem? hi)
  refine va_aldq (D := gD E) (C := RX3) hC.1 hC.2.1 hC.2.2.2.2.2.2.2.2.2.1.2.1 hP.1 q 4 he rfl hin hd ?_
  rw [hb]
  exact kt p e R s m args below meth c H locs cells slots ls hC hl hS hP hc hn
theorem ev_aast4 (D : Lst Y L) (i : Nat) {a q qk N v : Nat} {f : Nat → Option Nat} {vs : List Value} {i0 : Int32} {ws' : va_W} (hi : L[i]? = some (pc, .aastore, 1)) (he : ws[q]? = some (a, .inl (gK E 4, N, .inr (.inr (.inr (.inr f)))))) (hv : ws[qk]? = some (v, .inr (3, vs))) (hin : vp_in i0 N) (hws : ws.set q (a, .inl (gK E 4, N, .inr (.inr (.inr (.inr (va_up f i0.toNatClampNeg (some v))))))) = ws') (kt : Ev E Y Pr Px k n (pc + 1) lv st ws') : Ev E Y Pr Px k n pc lv (.ref v :: .int i0 :: .ref a :: st) ws := by
  intro p e R s m args below meth c H locs cells slots ls hC hl hS hP hc hn
  have hd := D _ (List.mem_of_getElem? hi)
  subst hws
  exact va_astq (D := gD E) (A := gA E) hC.1 hC.2.1 hC.2.2.2.2.2.2.2.2.2.1.2.1 hP.1 hP.2 hS q 4 qk 3 he rfl hv rfl hin hd (fun H1 locs1 hP1 hD1 hS1 => kt p e R s m args below meth c H1 locs1 cells slots ls hC hl hS1 ⟨hP1, hD1⟩ hc hn)
theorem ev_aald5 (D : Lst Y L) (i : Nat) {a q N b : Nat} {f : Nat → Option Nat} {i0 : Int32} (hi : L[i]? = some (pc, .aaload, 1)) (he : ws[q]? = some (a, .inl (gK E 5, N, .inr (.inr (.inr (.inr f)))))) (hin : vp_in i0 N) (hb : f i0.toNatClampNeg = some b) (kt : Ev E Y Pr Px k n (pc + 1) lv (.ref b :: st) ws) : Ev E Y Pr Px k n pc lv (.int i0 :: .ref a :: st) ws := by
  intro p e R s m args below meth c H locs cells slots ls hC hl hS hP hc hn
  have hd := D _ (List.mem_of_getElem? hi)
  refine va_aldq (D := gD E) (C := RX1) hC.1 hC.2.1 hC.2.2.2.2.2.2.2.2.2.1.2.1 hP.1 q 5 he rfl hin hd ?_
  rw [hb]
  exact kt p e R s m args below meth c H locs cells slots ls hC hl hS hP hc hn
theorem ev_aast5 (D : Lst Y L) (i : Nat) {a q qk N v : Nat} {f : Nat → Option Nat} {vs : List Value} {i0 : Int32} {ws' : va_W} (hi : L[i]? = some (pc, .aastore, 1)) (he : ws[q]? = some (a, .inl (gK E 5, N, .inr (.inr (.inr (.inr f)))))) (hv : ws[qk]? = some (v, .inr (1, vs))) (hin : vp_in i0 N) (hws : ws.set q (a, .inl (gK E 5, N, .inr (.inr (.inr (.inr (va_up f i0.toNatClampNeg (some v))))))) = ws') (kt : Ev E Y Pr Px k n (pc + 1) lv st ws') : Ev E Y Pr Px k n pc lv (.ref v :: .int i0 :: .ref a :: st) ws := by
  intro p e R s m args below meth c H locs cells slots ls hC hl hS hP hc hn
  have hd := D _ (List.mem_of_getElem? hi)
  subst hws
  exact va_astq (D := gD E) (A := gA E) hC.1 hC.2.1 hC.2.2.2.2.2.2.2.2.2.1.2.1 hP.1 hP.2 hS q 5 qk 1 he rfl hv rfl hin hd (fun H1 locs1 hP1 hD1 hS1 => kt p e R s m args below meth c H1 locs1 cells slots ls hC hl hS1 ⟨hP1, hD1⟩ hc hn)
/-- the script, read alone -/
theorem ev_sld (D : Lst Y L) (i : Nat) {i0 : Int32} (hi : L[i]? = some (pc, .iaload, 1)) (hin : vp_in i0 (gSc E).2.1) (kt : Ev E Y Pr Px k n (pc + 1) lv (.int ((gSc E).2.2 i0.toNatClampNeg) :: st) ws) : Ev E Y Pr Px k n pc lv (.int i0 :: .ref (gSc E).1 :: st) ws := by
  intro p e R s m args below meth c H locs cells slots ls hC hl hS hP hc hn
  have hd := D _ (List.mem_of_getElem? hi)
  have h4 := hC.2.2.2.2.2.2.2.2.2.1.2.2.2.1
  exact va_sld hC.1 hC.2.1 h4.1 (va_X_lt h4.1) h4.2 hS hin hd (kt p e R s m args below meth c H locs cells slots ls hC hl hS hP hc hn)
theorem ev_slen (D : Lst Y L) (i : Nat) (hi : L[i]? = some (pc, .arraylength, 1)) (kt : Ev E Y Pr Px k n (pc + 1) lv (.int (Int32.ofNat (gSc E).2.1) :: st) ws) : Ev E Y Pr Px k n pc lv (.ref (gSc E).1 :: st) ws := by
  intro p e R s m args below meth c H locs cells slots ls hC hl hS hP hc hn
  have hd := D _ (List.mem_of_getElem? hi)
  have h4 := hC.2.2.2.2.2.2.2.2.2.1.2.2.2.1
  exact va_slen hC.1 hC.2.1 h4.1 (va_X_lt h4.1) h4.2 hS hd (kt p e R s m args below meth c H locs cells slots ls hC hl hS hP hc hn)
theorem ev_gets (D : Lst Y L) (i : Nat) {j : Nat} {idx : Nat} {q : Nat × String × Nat × (Nat → Int32)} (hi : L[i]? = some (pc, .getstatic idx, 3)) (hq : gSt[j]? = some q) (hf : gw (.fieldLink (mnm Y).cls idx RX6 q.2.1 "[I")) (kt : Ev E Y Pr Px k n (pc + 3) lv (.ref (gT E q.1) :: st) ws) : Ev E Y Pr Px k n pc lv st ws := by
  intro p e R s m args below meth c H locs cells slots ls hC hl hS hP hc hn
  have hd := D _ (List.mem_of_getElem? hi)
  have h3 := hC.2.2.2.2.2.2.2.2.2.1.2.2.1 q (List.mem_of_getElem? hq)
  exact va_gets hC.1 hC.2.1 h3.1 hS hC.2.2.2.2.2.2.1 (hC.2.2.2.2.2.1 _ hf) (fun x h => h) hd (kt p e R s m args below meth c H locs cells slots ls hC hl hS hP hc hn)
theorem ev_gsld (D : Lst Y L) (i : Nat) {j : Nat} {i0 : Int32} {q : Nat × String × Nat × (Nat → Int32)} (hi : L[i]? = some (pc, .iaload, 1)) (hq : gSt[j]? = some q) (hin : vp_in i0 q.2.2.1) (kt : Ev E Y Pr Px k n (pc + 1) lv (.int (q.2.2.2 i0.toNatClampNeg) :: st) ws) : Ev E Y Pr Px k n pc lv (.int i0 :: .ref (gT E q.1) :: st) ws := by
  intro p e R s m args below meth c H locs cells slots ls hC hl hS hP hc hn
  have hd := D _ (List.mem_of_getElem? hi)
  have h3 := (hC.2.2.2.2.2.2.2.2.2.1.2.2.1 q (List.mem_of_getElem? hq)).2
  exact va_ti hC.1 hC.2.1 h3.1 hS hin rfl hd (kt p e R s m args below meth c H locs cells slots ls hC hl hS hP hc hn)
theorem ev_iret (D : Lst Y L) (i : Nat) {v : Int32} (hi : L[i]? = some (pc, .ireturn, 1)) (ht : mrt Y = some .int) (hr : Pr (some (.int v)) ws) : Ev E Y Pr Px k n pc lv [.int v] ws := by
  intro p e R s m args below meth c H locs cells slots ls hC hl hS hP hc hn
  have hd := D _ (List.mem_of_getElem? hi)
  have hQ : ∀ t : State, t.heap = H → s.WarmedH t.vm → gQ E Pr args s (.returned (some (.int v))) t := fun t ht _ => ⟨⟨_, ws, rfl, hr, by rw [ht]; exact hP⟩, hS.F ht⟩
  refine vx_ret (W.widen (k := R.cells) (n := R.slots) (by omega) (by omega) ?_)
  exact W.iret hC.1 hC.2.1 (hC.2.2.1.trans ht) hQ hS.2.2 hd hC.2.2.2.1
theorem ev_zret (D : Lst Y L) (i : Nat) {v : Int32} {ty : FieldType} (hi : L[i]? = some (pc, .ireturn, 1)) (ht : mrt Y = some ty) (hnw : narrow ty (.int v) = .int v) (hr : Pr (some (.int v)) ws) : Ev E Y Pr Px k n pc lv [.int v] ws := by
  intro p e R s m args below meth c H locs cells slots ls hC hl hS hP hc hn
  have hd := D _ (List.mem_of_getElem? hi)
  have hQ : ∀ t : State, t.heap = H → s.WarmedH t.vm → gQ E Pr args s (.returned (some (.int v))) t := fun t ht _ => ⟨⟨_, ws, rfl, hr, by rw [ht]; exact hP⟩, hS.F ht⟩
  refine vx_ret (W.widen (k := R.cells) (n := R.slots) (by omega) (by omega) ?_)
  exact W.zret hC.1 hC.2.1 (hC.2.2.1.trans ht) hnw hQ hS.2.2 hd hC.2.2.2.1
theorem ev_lret (D : Lst Y L) (i : Nat) {v : Int64} (hi : L[i]? = some (pc, .lreturn, 1)) (ht : mrt Y = some .long) (hr : Pr (some (.long v)) ws) : Ev E Y Pr Px k n pc lv [.long v] ws := by
  intro p e R s m args below meth c H locs cells slots ls hC hl hS hP hc hn
  have hd := D _ (List.mem_of_getElem? hi)
  have hQ : ∀ t : State, t.heap = H → s.WarmedH t.vm → gQ E Pr args s (.returned (some (.long v))) t := fun t ht _ => ⟨⟨_, ws, rfl, hr, by rw [ht]; exact hP⟩, hS.F ht⟩
  refine vx_ret (W.widen (k := R.cells) (n := R.slots) (by omega) (by omega) ?_)
  exact W.lret hC.1 hC.2.1 (hC.2.2.1.trans ht) hQ hS.2.2 hd hC.2.2.2.1
theorem ev_dret (D : Lst Y L) (i : Nat) {v : UInt64} (hi : L[i]? = some (pc, .dreturn, 1)) (ht : mrt Y = some .double) (hr : Pr (some (.double v)) ws) : Ev E Y Pr Px k n pc lv [.double v] ws := by
  intro p e R s m args below meth c H locs cells slots ls hC hl hS hP hc hn
  have hd := D _ (List.mem_of_getElem? hi)
  have hQ : ∀ t : State, t.heap = H → s.WarmedH t.vm → gQ E Pr args s (.returned (some (.double v))) t := fun t ht _ => ⟨⟨_, ws, rfl, hr, by rw [ht]; exact hP⟩, hS.F ht⟩
  refine vx_ret (W.widen (k := R.cells) (n := R.slots) (by omega) (by omega) ?_)
  exact W.dret hC.1 hC.2.1 (hC.2.2.1.trans ht) hQ hS.2.2 hd hC.2.2.2.1
theorem ev_aret (D : Lst Y L) (i : Nat) {a : Nat} {C : String} (hi : L[i]? = some (pc, .areturn, 1)) (ht : mrt Y = some (.object C)) (hr : Pr (some (.ref a)) ws) : Ev E Y Pr Px k n pc lv [.ref a] ws := by
  intro p e R s m args below meth c H locs cells slots ls hC hl hS hP hc hn
  have hd := D _ (List.mem_of_getElem? hi)
  have hQ : ∀ t : State, t.heap = H → s.WarmedH t.vm → gQ E Pr args s (.returned (some (.ref a))) t := fun t ht _ => ⟨⟨_, ws, rfl, hr, by rw [ht]; exact hP⟩, hS.F ht⟩
  refine vx_ret (W.widen (k := R.cells) (n := R.slots) (by omega) (by omega) ?_)
  exact W.aret hC.1 hC.2.1 (hC.2.2.1.trans ht) (Or.inl ⟨_, rfl⟩) (Or.inr ⟨_, rfl⟩) hQ hS.2.2 hd hC.2.2.2.1
theorem ev_vret (D : Lst Y L) (i : Nat) (hi : L[i]? = some (pc, .return_, 1)) (ht : mrt Y = none) (hr : Pr none ws) : Ev E Y Pr Px k n pc lv [] ws := by
  intro p e R s m args below meth c H locs cells slots ls hC hl hS hP hc hn
  have hd := D _ (List.mem_of_getElem? hi)
  have hQ : ∀ t : State, t.heap = H → s.WarmedH t.vm → gQ E Pr args s (.returned none) t := fun t ht _ => ⟨⟨_, ws, rfl, hr, by rw [ht]; exact hP⟩, hS.F ht⟩
  refine vx_ret (W.widen (k := R.cells) (n := R.slots) (by omega) (by omega) ?_)
  exact W.vret hC.1 hC.2.1 (hC.2.2.1.trans ht) hQ hS.2.2 hd hC.2.2.2.1
theorem ev_room {k2 n2 : Nat} (h1 : k2 ≤ k) (h2 : n2 ≤ n) (kt : Ev E Y Pr Px k2 n2 pc lv st ws) : Ev E Y Pr Px k n pc lv st ws := by
  intro p e R s m args below meth c H locs cells slots ls hC hl hS hP hc hn
  exact kt p e R s m args below meth c H locs cells slots ls hC hl hS hP (by omega) (by omega)
theorem ev_lv {lv2 : List (Nat × Value)} (hs : ∀ q ∈ lv2, q ∈ lv) (kt : Ev E Y Pr Px k n pc lv2 st ws) : Ev E Y Pr Px k n pc lv st ws := by
  intro p e R s m args below meth c H locs cells slots ls hC hl hS hP hc hn
  exact kt p e R s m args below meth c H locs cells slots ls hC ⟨hl.1, hl.2.1, fun q hq => hl.2.2 q (hs q hq)⟩ hS hP hc hn
end EVR
