/-! the law's start -/
theorem st_arr {args : Array Value} {s : State} {ty : FieldType} (h : (Cond.arrayClass ty).before args s = true) : ∃ cA : ClassId, ArrOfT s cA ty ∧ s.vm.findClass ("[" ++ ty.toString) = some cA := by
  obtain ⟨cA, kA, comp, h1, h2, h3⟩ := Cond.arrayClass_spec h
  exact ⟨cA, fun n z => ⟨fun k h => (by cases h), kA, h2, comp, h3⟩, h1⟩
theorem st_arrO {args : Array Value} {s : State} {C : String} (h : (Cond.arrayOver (.object C)).before args s = true) : ∃ cA : ClassId, ArrOfT s cA (.object C) ∧ va_RA s cA (.object C) := by
  obtain ⟨comp, c, k, h1, h2, h3, h4, h5⟩ := Cond.arrayOver_spec h
  exact ⟨c, fun n z => ⟨fun k h => (by cases h), k, h3, comp, h4⟩, k, comp, h3, h4, h1, h5⟩
theorem st_row {args : Array Value} {s : State} {nm : String} {N : Nat} {f : Nat → Int32} {A : Nat → Prop} (hl : (Cond.laysStatic RX6 nm "[I").before args s = true) (hini : (Cond.initialized RX6).before args s = true) (har : (Cond.arrayOf (.static RX6 nm "[I") .int).before args s = true) (hle : (Cond.eq (.length (.static RX6 nm "[I")) (.int (Int32.ofNat N))).before args s = true) (hel : ∀ j, j < N → (Cond.eq (.elem (.static RX6 nm "[I") (.int (Int32.ofNat j))) (.int (f j))).before args s = true) (hN : N < 2 ^ 31) (hA : ∀ a : Nat, a < s.heap.size → ¬ A a) : ∃ t : Nat, va_Z RX6 nm "[I" (.ref t) A s s.heap ∧ va_T .int t N (fun j => .int (f j)) A s s.heap ∧ ¬ A t := by
  obtain ⟨t, ht, hT⟩ := va_Tof (f := fun j => .int (f j)) hN har (va_eqt hle) (fun j hj => va_eqt (hel j hj)) hA
  exact ⟨t, va_Zof hl hini ht hA, hT, hT.out⟩
theorem st_str {args : Array Value} {s : State} {k : Nat} {tx : String} (h1 : (Cond.stringRef RX6 k tx).before args s = true) (h2 : (Cond.exactly (.string RX6 k) "java/lang/String").before args s = true) : ∃ a, vk_R RX6 k tx a s := by
  obtain ⟨a, c, cA, kA, q1, -⟩ := Cond.exactly_spec (args := args) (first := s) (o := none) (s := s) (idx := []) h2
  exact ⟨a, vk_R.of h1 q1⟩
set_option maxRecDepth 100000 in
theorem st_row0 {s : State} {b : Nat} (hts : ∀ w ∈ lw_tbl, w.before #[Value.ref b] s = true) (hs : ∀ w ∈ flatC (Jvm.Cond.and given_1 narrow_1), w.before #[Value.ref b] s = true) {A : Nat → Prop} (hA : ∀ a : Nat, a < s.heap.size → ¬ A a) : ∃ t : Nat, va_Z RX6 "LEAST_SETTING" "[I" (.ref t) A s s.heap ∧ va_T .int t 3 (fun j => .int (gSv [1, 4, 1] j)) A s s.heap ∧ ¬ A t := by
  refine st_row (args := #[Value.ref b]) (hts _ (List.mem_of_getElem? (i := 517) (by decide +kernel))) (hts _ (List.mem_of_getElem? (i := 7) (by decide +kernel))) (hs _ (List.mem_of_getElem? (i := 21) (by decide +kernel))) (hs _ (List.mem_of_getElem? (i := 22) (by decide +kernel))) (fun j hj => ?_) (by decide) hA
  rcases (show j = 0 ∨ j = 1 ∨ j = 2 by omega) with rfl | rfl | rfl
  · exact hs _ (List.mem_of_getElem? (i := 23) (by decide +kernel))
  · exact hs _ (List.mem_of_getElem? (i := 24) (by decide +kernel))
  · exact hs _ (List.mem_of_getElem? (i := 25) (by decide +kernel))
set_option maxRecDepth 100000 in
theorem st_row1 {s : State} {b : Nat} (hts : ∀ w ∈ lw_tbl, w.before #[Value.ref b] s = true) (hs : ∀ w ∈ flatC (Jvm.Cond.and given_1 narrow_1), w.before #[Value.ref b] s = true) {A : Nat → Prop} (hA : ∀ a : Nat, a < s.heap.size → ¬ A a) : ∃ t : Nat, va_Z RX6 "GREATEST_SETTING" "[I" (.ref t) A s s.heap ∧ va_T .int t 3 (fun j => .int (gSv [64, 40, 50] j)) A s s.heap ∧ ¬ A t := by
  refine st_row (args := #[Value.ref b]) (hts _ (List.mem_of_getElem? (i := 519) (by decide +kernel))) (hts _ (List.mem_of_getElem? (i := 7) (by decide +kernel))) (hs _ (List.mem_of_getElem? (i := 27) (by decide +kernel))) (hs _ (List.mem_of_getElem? (i := 28) (by decide +kernel))) (fun j hj => ?_) (by decide) hA
  rcases (show j = 0 ∨ j = 1 ∨ j = 2 by omega) with rfl | rfl | rfl
  · exact hs _ (List.mem_of_getElem? (i := 29) (by decide +kernel))
  · exact hs _ (List.mem_of_getElem? (i := 30) (by decide +kernel))
  · exact hs _ (List.mem_of_getElem? (i := 31) (by decide +kernel))
set_option maxRecDepth 100000 in
theorem st_row2 {s : State} {b : Nat} (hts : ∀ w ∈ lw_tbl, w.before #[Value.ref b] s = true) (hs : ∀ w ∈ flatC (Jvm.Cond.and given_1 narrow_1), w.before #[Value.ref b] s = true) {A : Nat → Prop} (hA : ∀ a : Nat, a < s.heap.size → ¬ A a) : ∃ t : Nat, va_Z RX6 "LEAST_STREET_NUMBER" "[I" (.ref t) A s s.heap ∧ va_T .int t 4 (fun j => .int (gSv [16, -32, -32, 0] j)) A s s.heap ∧ ¬ A t := by
  refine st_row (args := #[Value.ref b]) (hts _ (List.mem_of_getElem? (i := 437) (by decide +kernel))) (hts _ (List.mem_of_getElem? (i := 7) (by decide +kernel))) (hs _ (List.mem_of_getElem? (i := 7) (by decide +kernel))) (hs _ (List.mem_of_getElem? (i := 8) (by decide +kernel))) (fun j hj => ?_) (by decide) hA
  rcases (show j = 0 ∨ j = 1 ∨ j = 2 ∨ j = 3 by omega) with rfl | rfl | rfl | rfl
  · exact hs _ (List.mem_of_getElem? (i := 9) (by decide +kernel))
  · exact hs _ (List.mem_of_getElem? (i := 10) (by decide +kernel))
  · exact hs _ (List.mem_of_getElem? (i := 11) (by decide +kernel))
  · exact hs _ (List.mem_of_getElem? (i := 12) (by decide +kernel))
set_option maxRecDepth 100000 in
theorem st_row3 {s : State} {b : Nat} (hts : ∀ w ∈ lw_tbl, w.before #[Value.ref b] s = true) (hs : ∀ w ∈ flatC (Jvm.Cond.and given_1 narrow_1), w.before #[Value.ref b] s = true) {A : Nat → Prop} (hA : ∀ a : Nat, a < s.heap.size → ¬ A a) : ∃ t : Nat, va_Z RX6 "GREATEST_STREET_NUMBER" "[I" (.ref t) A s s.heap ∧ va_T .int t 4 (fun j => .int (gSv [96, 32, 32, 60] j)) A s s.heap ∧ ¬ A t := by
  refine st_row (args := #[Value.ref b]) (hts _ (List.mem_of_getElem? (i := 439) (by decide +kernel))) (hts _ (List.mem_of_getElem? (i := 7) (by decide +kernel))) (hs _ (List.mem_of_getElem? (i := 14) (by decide +kernel))) (hs _ (List.mem_of_getElem? (i := 15) (by decide +kernel))) (fun j hj => ?_) (by decide) hA
  rcases (show j = 0 ∨ j = 1 ∨ j = 2 ∨ j = 3 by omega) with rfl | rfl | rfl | rfl
  · exact hs _ (List.mem_of_getElem? (i := 16) (by decide +kernel))
  · exact hs _ (List.mem_of_getElem? (i := 17) (by decide +kernel))
  · exact hs _ (List.mem_of_getElem? (i := 18) (by decide +kernel))
  · exact hs _ (List.mem_of_getElem? (i := 19) (by decide +kernel))
set_option maxRecDepth 100000 in
theorem st_strs {s : State} {b : Nat} (hts : ∀ w ∈ lw_tbl, w.before #[Value.ref b] s = true) (hs : ∀ w ∈ flatC (Jvm.Cond.and given_1 narrow_1), w.before #[Value.ref b] s = true) : ∀ q ∈ gStr, ∃ a, vk_R RX6 q.1 q.2 a s :=
  List.forall_mem_cons.mpr ⟨st_str (args := #[Value.ref b]) (k := 214) (tx := "what is not 0 to 12") (hts _ (List.mem_of_getElem? (i := 282) (by decide +kernel))) (hs _ (List.mem_of_getElem? (i := 54) (by decide +kernel))),
    List.forall_mem_cons.mpr ⟨st_str (args := #[Value.ref b]) (k := 305) (tx := "there is no such way") (hts _ (List.mem_of_getElem? (i := 343) (by decide +kernel))) (hs _ (List.mem_of_getElem? (i := 77) (by decide +kernel))),
    List.forall_mem_cons.mpr ⟨st_str (args := #[Value.ref b]) (k := 307) (tx := "there is no such tone") (hts _ (List.mem_of_getElem? (i := 354) (by decide +kernel))) (hs _ (List.mem_of_getElem? (i := 102) (by decide +kernel))),
    List.forall_mem_cons.mpr ⟨st_str (args := #[Value.ref b]) (k := 177) (tx := "what is not 0 to 6") (hts _ (List.mem_of_getElem? (i := 355) (by decide +kernel))) (hs _ (List.mem_of_getElem? (i := 129) (by decide +kernel))),
    List.forall_mem_cons.mpr ⟨st_str (args := #[Value.ref b]) (k := 179) (tx := "what is not 0 to 10") (hts _ (List.mem_of_getElem? (i := 364) (by decide +kernel))) (hs _ (List.mem_of_getElem? (i := 154) (by decide +kernel))),
    List.forall_mem_cons.mpr ⟨st_str (args := #[Value.ref b]) (k := 321) (tx := "beats is not 1 to 100") (hts _ (List.mem_of_getElem? (i := 596) (by decide +kernel))) (hs _ (List.mem_of_getElem? (i := 681) (by decide +kernel))),
    List.forall_mem_cons.mpr ⟨st_str (args := #[Value.ref b]) (k := 309) (tx := "what is not 0 to 3") (hts _ (List.mem_of_getElem? (i := 435) (by decide +kernel))) (hs _ (List.mem_of_getElem? (i := 250) (by decide +kernel))),
    List.forall_mem_cons.mpr ⟨st_str (args := #[Value.ref b]) (k := 317) (tx := "value is out of range") (hts _ (List.mem_of_getElem? (i := 440) (by decide +kernel))) (hs _ (List.mem_of_getElem? (i := 279) (by decide +kernel))),
    List.forall_mem_cons.mpr ⟨st_str (args := #[Value.ref b]) (k := 59) (tx := "bits is not 0 to 4") (hts _ (List.mem_of_getElem? (i := 484) (by decide +kernel))) (hs _ (List.mem_of_getElem? (i := 312) (by decide +kernel))),
    List.forall_mem_cons.mpr ⟨st_str (args := #[Value.ref b]) (k := 68) (tx := "by is not -300 to 300") (hts _ (List.mem_of_getElem? (i := 492) (by decide +kernel))) (hs _ (List.mem_of_getElem? (i := 343) (by decide +kernel))),
    List.forall_mem_cons.mpr ⟨st_str (args := #[Value.ref b]) (k := 75) (tx := "the insult would not be -1000 to 1000") (hts _ (List.mem_of_getElem? (i := 502) (by decide +kernel))) (hs _ (List.mem_of_getElem? (i := 378) (by decide +kernel))),
    List.forall_mem_cons.mpr ⟨st_str (args := #[Value.ref b]) (k := 319) (tx := "there is no such setting") (hts _ (List.mem_of_getElem? (i := 401) (by decide +kernel))) (hs _ (List.mem_of_getElem? (i := 181) (by decide +kernel))),
    List.forall_mem_cons.mpr ⟨st_str (args := #[Value.ref b]) (k := 89) (tx := "value is out of the range of the setting") (hts _ (List.mem_of_getElem? (i := 520) (by decide +kernel))) (hs _ (List.mem_of_getElem? (i := 430) (by decide +kernel))),
    List.forall_mem_cons.mpr ⟨st_str (args := #[Value.ref b]) (k := 323) (tx := "there would be more than 5000 beats") (hts _ (List.mem_of_getElem? (i := 601) (by decide +kernel))) (hs _ (List.mem_of_getElem? (i := 723) (by decide +kernel))),
    List.forall_mem_cons.mpr ⟨st_str (args := #[Value.ref b]) (k := 124) (tx := "code is not 33 to 126") (hts _ (List.mem_of_getElem? (i := 543) (by decide +kernel))) (hs _ (List.mem_of_getElem? (i := 486) (by decide +kernel))),
    List.forall_mem_cons.mpr ⟨st_str (args := #[Value.ref b]) (k := 129) (tx := "the buffer is full") (hts _ (List.mem_of_getElem? (i := 544) (by decide +kernel))) (hs _ (List.mem_of_getElem? (i := 524) (by decide +kernel))),
    List.forall_mem_cons.mpr ⟨st_str (args := #[Value.ref b]) (k := 142) (tx := "the buffer is not a complete row of messages") (hts _ (List.mem_of_getElem? (i := 570) (by decide +kernel))) (hs _ (List.mem_of_getElem? (i := 560) (by decide +kernel))),
    List.forall_mem_cons.mpr ⟨st_str (args := #[Value.ref b]) (k := 163) (tx := "more than 256 bits would wait on a way") (hts _ (List.mem_of_getElem? (i := 575) (by decide +kernel))) (hs _ (List.mem_of_getElem? (i := 623) (by decide +kernel))),
    List.forall_mem_cons.mpr ⟨st_str (args := #[Value.ref b]) (k := 186) (tx := "there are not so many bits") (hts _ (List.mem_of_getElem? (i := 406) (by decide +kernel))) (hs _ (List.mem_of_getElem? (i := 214) (by decide +kernel))),
    fun _ h => absurd h List.not_mem_nil⟩⟩⟩⟩⟩⟩⟩⟩⟩⟩⟩⟩⟩⟩⟩⟩⟩⟩⟩
theorem st_nest {s : State} {b : Nat} (hts : ∀ w ∈ lw_tbl, w.before #[Value.ref b] s = true) (hs : ∀ w ∈ flatC (Jvm.Cond.and given_1 narrow_1), w.before #[Value.ref b] s = true) : ∀ q ∈ gNest, va_Nw (.methodLinkNest q.1 q.2.1 q.2.2 RX6) s :=
  List.forall_mem_cons.mpr ⟨va_Nw.of (A := #[Value.ref b]) rfl (hts _ (List.mem_of_getElem? (i := 33) (by decide +kernel))), List.forall_mem_cons.mpr ⟨va_Nw.of (A := #[Value.ref b]) rfl (hts _ (List.mem_of_getElem? (i := 47) (by decide +kernel))), List.forall_mem_cons.mpr ⟨va_Nw.of (A := #[Value.ref b]) rfl (hts _ (List.mem_of_getElem? (i := 64) (by decide +kernel))), List.forall_mem_cons.mpr ⟨va_Nw.of (A := #[Value.ref b]) rfl (hts _ (List.mem_of_getElem? (i := 178) (by decide +kernel))), List.forall_mem_cons.mpr ⟨va_Nw.of (A := #[Value.ref b]) rfl (hts _ (List.mem_of_getElem? (i := 192) (by decide +kernel))), fun _ h => absurd h List.not_mem_nil⟩⟩⟩⟩⟩
theorem st_nc {s : State} {b : Nat} (hts : ∀ w ∈ lw_tbl, w.before #[Value.ref b] s = true) (hs : ∀ w ∈ flatC (Jvm.Cond.and given_1 narrow_1), w.before #[Value.ref b] s = true) : ∀ q ∈ gNc, va_Nc q.1 q.2 s :=
  fun _ h => absurd h List.not_mem_nil
theorem st_xn {s : State} {b : Nat} (hts : ∀ w ∈ lw_tbl, w.before #[Value.ref b] s = true) (hs : ∀ w ∈ flatC (Jvm.Cond.and given_1 narrow_1), w.before #[Value.ref b] s = true) : ∀ X ∈ gXn, va_Nw (.castable X X) s :=
  List.forall_mem_cons.mpr ⟨va_Nw.of (A := #[Value.ref b]) rfl (hts _ (List.mem_of_getElem? (i := 336) (by decide +kernel))), List.forall_mem_cons.mpr ⟨va_Nw.of (A := #[Value.ref b]) rfl (hts _ (List.mem_of_getElem? (i := 243) (by decide +kernel))), List.forall_mem_cons.mpr ⟨va_Nw.of (A := #[Value.ref b]) rfl (hts _ (List.mem_of_getElem? (i := 495) (by decide +kernel))), fun _ h => absurd h List.not_mem_nil⟩⟩⟩
theorem st_xd {s : State} {b : Nat} (hts : ∀ w ∈ lw_tbl, w.before #[Value.ref b] s = true) (hs : ∀ w ∈ flatC (Jvm.Cond.and given_1 narrow_1), w.before #[Value.ref b] s = true) : ∀ X ∈ gXd, va_Nw (.declares (Bundle.initS X)) s :=
  List.forall_mem_cons.mpr ⟨va_Nw.of (A := #[Value.ref b]) rfl (hts _ (List.mem_of_getElem? (i := 245) (by decide +kernel))), List.forall_mem_cons.mpr ⟨va_Nw.of (A := #[Value.ref b]) rfl (hts _ (List.mem_of_getElem? (i := 247) (by decide +kernel))), List.forall_mem_cons.mpr ⟨va_Nw.of (A := #[Value.ref b]) rfl (hts _ (List.mem_of_getElem? (i := 249) (by decide +kernel))), fun _ h => absurd h List.not_mem_nil⟩⟩⟩
theorem st_zq0 {s : State} {b : Nat} (hts : ∀ w ∈ lw_tbl, w.before #[Value.ref b] s = true) (hs : ∀ w ∈ flatC (Jvm.Cond.and given_1 narrow_1), w.before #[Value.ref b] s = true) {A : Nat → Prop} (hA : ∀ a : Nat, a < s.heap.size → ¬ A a) : vx_Zq Bundle.tN "UNASSIGNED_STACK" Bundle.steD A s s.heap :=
  vx_Zqof (args := #[Value.ref b]) (hts _ (List.mem_of_getElem? (i := 268) (by decide +kernel))) (hts _ (List.mem_of_getElem? (i := 14) (by decide +kernel))) (hs _ (List.mem_of_getElem? (i := 4) (by decide +kernel))) hA
theorem st_zq1 {s : State} {b : Nat} (hts : ∀ w ∈ lw_tbl, w.before #[Value.ref b] s = true) (hs : ∀ w ∈ flatC (Jvm.Cond.and given_1 narrow_1), w.before #[Value.ref b] s = true) {A : Nat → Prop} (hA : ∀ a : Nat, a < s.heap.size → ¬ A a) : vx_Zq Bundle.tN "SUPPRESSED_SENTINEL" Bundle.listD A s s.heap :=
  vx_Zqof (args := #[Value.ref b]) (hts _ (List.mem_of_getElem? (i := 270) (by decide +kernel))) (hts _ (List.mem_of_getElem? (i := 14) (by decide +kernel))) (hs _ (List.mem_of_getElem? (i := 5) (by decide +kernel))) hA
def gN8 {α : Type} (a0 a1 a2 a3 a4 a5 a6 a7 : α) (k : Nat) : α := if k = 0 then a0 else if k = 1 then a1 else if k = 2 then a2 else if k = 3 then a3 else if k = 4 then a4 else if k = 5 then a5 else if k = 6 then a6 else a7
set_option maxRecDepth 100000 in
theorem st_world {s : State} {b L : Nat} {xs : Nat → Int32} (l : Launch) (hflags : l.flags = flags0) (hts : ∀ w ∈ lw_tbl, w.before #[Value.ref b] s = true) (hgv : (Jvm.Cond.and given_1 narrow_1).before #[Value.ref b] s = true) (hX : va_X b L xs s s.heap) (hbl : b < s.heap.size) : ∃ E : gE, gL E = l ∧ gSc E = (b, L, xs) ∧ gB E = s.heap.size ∧ WG E s s.heap := by
  have hs := flat_of_before _ hgv
  have hA : ∀ a : Nat, a < s.heap.size → ¬ (fun q : Nat => s.heap.size ≤ q) a := fun a h => Nat.not_le.mpr h
  have ht : ∀ w, gw w → w.before #[Value.ref b] s = true := fun w hw => hts w hw.1
  obtain ⟨c0, i0, k0⟩ := u_known (C := RX0) (T := TX0) (N := 2) (n := 2) (ws := u_ws RX0 TX0 2) (fun w hw => ht w (inX0 w hw)) (fun w hw => hw) (ht _ insX0)
  obtain ⟨c1, i1, k1⟩ := u_known (C := RX1) (T := TX1) (N := 5) (n := 5) (ws := u_ws RX1 TX1 5) (fun w hw => ht w (inX1 w hw)) (fun w hw => hw) (ht _ insX1)
  obtain ⟨c2, i2, k2⟩ := u_known (C := RX2) (T := TX2) (N := 2) (n := 2) (ws := u_ws RX2 TX2 2) (fun w hw => ht w (inX2 w hw)) (fun w hw => hw) (ht _ insX2)
  obtain ⟨c3, i3, k3⟩ := u_known (C := RX3) (T := TX3) (N := 18) (n := 18) (ws := u_ws RX3 TX3 18) (fun w hw => ht w (inX3 w hw)) (fun w hw => hw) (ht _ insX3)
  obtain ⟨c4, i4, k4⟩ := u_known (C := RX4) (T := TX4) (N := 3) (n := 3) (ws := u_ws RX4 TX4 3) (fun w hw => ht w (inX4 w hw)) (fun w hw => hw) (ht _ insX4)
  obtain ⟨c5, i5, k5⟩ := u_known (C := RX5) (T := TX5) (N := 5) (n := 5) (ws := u_ws RX5 TX5 5) (fun w hw => ht w (inX5 w hw)) (fun w hw => hw) (ht _ insX5)
  obtain ⟨c6, i6, k6⟩ := u_known (C := RX6) (T := TX6) (N := 6) (n := 6) (ws := u_ws RX6 TX6 6) (fun w hw => ht w (inX6 w hw)) (fun w hw => hw) (ht _ insX6)
  obtain ⟨a0, p0, q0⟩ := st_arr (ht _ arc_int)
  obtain ⟨a1, p1, q1⟩ := st_arr (ht _ arc_long)
  obtain ⟨a2, p2, q2⟩ := st_arr (ht _ arc_char)
  have o4 : va_AO RX3 s := va_AO.of (A := #[Value.ref b]) (hts _ (List.mem_of_getElem? (i := 44) (by decide +kernel)))
  have o5 : va_AO RX1 s := va_AO.of (A := #[Value.ref b]) (hts _ (List.mem_of_getElem? (i := 175) (by decide +kernel)))
  obtain ⟨a4, p4, q4⟩ := st_arrO (va_AO.use (A := #[Value.ref b]) o4)
  obtain ⟨a5, p5, q5⟩ := st_arrO (va_AO.use (A := #[Value.ref b]) o5)
  obtain ⟨t0, r0⟩ := st_row0 hts hs hA
  obtain ⟨t1, r1⟩ := st_row1 hts hs hA
  obtain ⟨t2, r2⟩ := st_row2 hts hs hA
  obtain ⟨t3, r3⟩ := st_row3 hts hs hA
  refine ⟨(l, (gN8 c0 c1 c2 c3 c4 c5 c6 c6, gN8 i0 i1 i2 i3 i4 i5 i6 i6), gN8 a0 a1 a2 a1 a4 a5 a5 a5, s.heap.size, (b, L, xs), gN8 t0 t1 t2 t3 t3 t3 t3 t3), rfl, rfl, rfl, ?_⟩
  refine ⟨?_, ⟨fun k q hq => ?_, fun k q hq => ?_⟩, ?_, ⟨hX, hA b hbl⟩, st_strs hts hs, st_zq0 hts hs hA, st_zq1 hts hs hA, st_nest hts hs, o4, o5, st_nc hts hs, st_xn hts hs, st_xd hts hs, Nat.le_refl _⟩
  · show l.stackTraces = false
    unfold Launch.stackTraces
    rw [hflags]
    decide +kernel
  · match k, hq with
    | 0, hq => cases hq; exact k0
    | 1, hq => cases hq; exact k1
    | 2, hq => cases hq; exact k2
    | 3, hq => cases hq; exact k3
    | 4, hq => cases hq; exact k4
    | 5, hq => cases hq; exact k5
    | 6, hq => cases hq; exact k6
    | k + 7, hq => exact absurd hq (by simp [gCl])
  · match k, hq with
    | 0, hq => cases hq; exact ⟨p0, q0⟩
    | 1, hq => cases hq; exact ⟨p1, q1⟩
    | 2, hq => cases hq; exact ⟨p2, q2⟩
    | 3, hq => cases hq; exact ⟨p1, q1⟩
    | 4, hq => cases hq; exact ⟨p4, q4⟩
    | 5, hq => cases hq; exact ⟨p5, q5⟩
    | k + 6, hq => exact absurd hq (by simp [gTy])
  · exact List.forall_mem_cons.mpr ⟨r0, List.forall_mem_cons.mpr ⟨r1, List.forall_mem_cons.mpr ⟨r2, List.forall_mem_cons.mpr ⟨r3, fun _ h => absurd h List.not_mem_nil⟩⟩⟩⟩
