/-! A LOGIC OVER THE MACHINE, whose heap is a list of cells: 'Ev .. pc lv st ws' says: from the program counter pc, with the locals lv, the operand stack st and the cells ws, the method comes to its end with Pr (or throws, with Px), and makes at most k cells of n slots on the way. -/
abbrev gE : Type := Launch × va_G × (Nat → ClassId) × Nat × (Nat × Nat × (Nat → Int32)) × (Nat → Nat)
abbrev gL (E : gE) : Launch := E.1
abbrev gD (E : gE) : va_G := E.2.1
abbrev gK (E : gE) : Nat → ClassId := E.2.2.1
abbrev gB (E : gE) : Nat := E.2.2.2.1
abbrev gSc (E : gE) : Nat × Nat × (Nat → Int32) := E.2.2.2.2.1
abbrev gT (E : gE) : Nat → Nat := E.2.2.2.2.2
def gA (E : gE) : Nat → Prop := fun q => gB E ≤ q
def gTy (E : gE) : List (ClassId × FieldType) := [(gK E 0, .int), (gK E 1, .long), (gK E 2, .char), (gK E 3, .long), (gK E 4, .object RX3), (gK E 5, .object RX1)]
/-- the four rows of bounds, by number, name, length, contents -/
def gSv (l : List Int32) : Nat → Int32 := fun k => l.getD k 0
def gSt : List (Nat × String × Nat × (Nat → Int32)) := [(0, "LEAST_SETTING", 3, gSv [1, 4, 1]), (1, "GREATEST_SETTING", 3, gSv [64, 40, 50]), (2, "LEAST_STREET_NUMBER", 4, gSv [16, -32, -32, 0]), (3, "GREATEST_STREET_NUMBER", 4, gSv [96, 32, 32, 60])]
def gStr : List (Nat × String) := [(214, "what is not 0 to 12"), (305, "there is no such way"), (307, "there is no such tone"), (177, "what is not 0 to 6"), (179, "what is not 0 to 10"), (321, "beats is not 1 to 100"), (309, "what is not 0 to 3"), (317, "value is out of range"), (59, "bits is not 0 to 4"), (68, "by is not -300 to 300"), (75, "the insult would not be -1000 to 1000"), (319, "there is no such setting"), (89, "value is out of the range of the setting"), (323, "there would be more than 5000 beats"), (124, "code is not 33 to 126"), (129, "the buffer is full"), (142, "the buffer is not a complete row of messages"), (163, "more than 256 bits would wait on a way"), (186, "there are not so many bits")]
def gNest : List (String × Nat × MethodName) := [(RX6, 11, yX1_init), (RX5, 19, yX4_init), (RX5, 24, yX3_init), (RX6, 25, yX0_init), (RX6, 32, yX2_init)]
def xI : String := "java/lang/IndexOutOfBoundsException"
def xA : String := "java/lang/IllegalArgumentException"
def xS : String := "java/lang/IllegalStateException"
def gNc : List (String × String) := []
def gXn : List String := [xI, xA, xS]
def gXd : List String := ["java/lang/RuntimeException", "java/lang/Exception", "java/lang/Throwable"]
/-- what holds of the tables, the statics, the constants, the script, in every state on the way -/
def WG (E : gE) (U : State) (H : Heap) : Prop :=
  (gL E).stackTraces = false ∧ va_K (gD E) gCl (gTy E) U ∧ (∀ q ∈ gSt, va_Z RX6 q.2.1 "[I" (.ref (gT E q.1)) (gA E) U H ∧ va_T .int (gT E q.1) q.2.2.1 (fun j => .int (q.2.2.2 j)) (gA E) U H ∧ ¬ gA E (gT E q.1)) ∧
  (va_X (gSc E).1 (gSc E).2.1 (gSc E).2.2 U H ∧ ¬ gA E (gSc E).1) ∧ (∀ q ∈ gStr, ∃ a, vk_R RX6 q.1 q.2 a U) ∧
  vx_Zq Bundle.tN "UNASSIGNED_STACK" Bundle.steD (gA E) U H ∧ vx_Zq Bundle.tN "SUPPRESSED_SENTINEL" Bundle.listD (gA E) U H ∧
  (∀ q ∈ gNest, va_Nw (.methodLinkNest q.1 q.2.1 q.2.2 RX6) U) ∧ va_AO RX3 U ∧ va_AO RX1 U ∧ (∀ q ∈ gNc, va_Nc q.1 q.2 U) ∧ (∀ X ∈ gXn, va_Nw (.castable X X) U) ∧ (∀ X ∈ gXd, va_Nw (.declares (Bundle.initS X)) U) ∧ gB E ≤ H.size
theorem va_X_lt {b L : Nat} {xs : Nat → Int32} {U : State} {H : Heap} (h : va_X b L xs U H) : b < H.size := by
  obtain ⟨scr, h1, -⟩ := h
  exact (Array.getElem?_eq_some_iff.mp h1).1
theorem WG_moved {E : gE} {s U : State} {H : Heap} {locs : List Loc} (hW : s.WarmedH U.vm) (hS : va_S (gA E) s.heap H locs) (h : WG E s s.heap) : WG E U H := by
  obtain ⟨h1, h2, h3, h4, h5, h6, h7, h8, h9, h10, h11, h12, h13, h14⟩ := h
  have kq : ∀ a : Nat, a < s.heap.size → ¬ gA E a → H[a]? = s.heap[a]? := hS.2.1
  refine ⟨h1, va_K.moved hW.alike h2, fun q hq => ?_, ?_, fun q hq => ?_, ?_, ?_, fun q hq => va_Nw.warmM hW (h8 q hq), va_AO.moved hW.alike h9, va_AO.moved hW.alike h10, fun q hq => va_Nc.moved hW.alike (h11 q hq), fun X hX => va_Nw.warmC hW (h12 X hX), fun X hX => va_Nw.warmD hW (h13 X hX), Nat.le_trans h14 hS.1⟩
  · obtain ⟨a1, a2, a3⟩ := h3 q hq
    exact ⟨va_Z.moved hW.alike (a1.kept kq), va_T.moved hW.alike (a2.kept kq), a3⟩
  · obtain ⟨a2, a3⟩ := h4
    exact ⟨(va_X.moved hW.alike a2).kept (kq _ (va_X_lt a2) a3), a3⟩
  · obtain ⟨a, ha⟩ := h5 q hq
    exact ⟨a, vk_R.warm hW ha⟩
  · exact vx_Zq.moved hW.alike (h6.kept kq)
  · exact vx_Zq.moved hW.alike (h7.kept kq)
def gP (E : gE) (ws : va_W) (H : Heap) : Prop := va_P (gD E) gCl ws H ∧ va_D (gA E) ws
def gQ (E : gE) (Pr : Option Value → va_W → Prop) : Array Value → State → Outcome → State → Prop := fun _ st oc t => (∃ (v : Option Value) (ws : va_W), oc = .returned v ∧ Pr v ws ∧ gP E ws t.heap) ∧ va_F (gA E) st t
def gXC (E : gE) (Px : String → va_W → Prop) : String → State → State → Prop := fun Ec st t => (∃ ws : va_W, Px Ec ws ∧ gP E ws t.heap) ∧ va_F (gA E) st t
def gPc (E : gE) (av : List Value) (ws : va_W) : Array Value → State → Prop := fun v U => v = av.toArray ∧ WG E U U.heap ∧ gP E ws U.heap
def wsU (Y : MI) : List Cond := Cond.code (mnm Y) (mcd Y) (mml Y) (mrt Y) :: lw_tbl.filter goodWord
def wsW (Y : MI) : List Cond := Cond.codeWith (mnm Y) (mcd Y) (mml Y) (mrt Y) (mhh Y) :: lw_tbl.filter goodWord
def gR (Y : MI) (k n : Nat) : Room := { frames := mdp Y, cells := k, slots := n, locals := 37 * mdp Y }
/-- a method that returns -/
def C0 (E : gE) (Y : MI) (k n : Nat) (av : List Value) (ws : va_W) (Pr : Option Value → va_W → Prop) : Prop := Met (gL E) (mnm Y) (wsU Y) (gR Y k n) (gPc E av ws) (gQ E Pr) k n (gA E)
/-- a method that returns or throws -/
def C1 (E : gE) (Y : MI) (k n : Nat) (av : List Value) (ws : va_W) (Pr : Option Value → va_W → Prop) (Px : String → va_W → Prop) : Prop := vx_Met (gL E) (mnm Y) (wsU Y) (gR Y k n) (gPc E av ws) (gQ E Pr) (gXC E Px) k n (gA E)
/-- a method with handlers, that returns -/
def C2 (E : gE) (Y : MI) (k n : Nat) (av : List Value) (ws : va_W) (Pr : Option Value → va_W → Prop) : Prop := Met (gL E) (mnm Y) (wsW Y) (gR Y k n) (gPc E av ws) (gQ E Pr) k n (gA E)
def Cx (E : gE) (Y : MI) (p : Program) (R : Room) (s : State) (m : MethodId) (args : Array Value) (meth : Method) (c : Code) : Prop :=
  p.tables.exec = Jvm.exec ∧ c.code = mcd Y ∧ meth.sig.returnType = mrt Y ∧ meth.locks = false ∧ c.maxLocals = mml Y ∧ (∀ w, gw w → w.before args s = true) ∧ s.vm.findClass (mnm Y).cls = some m.cls ∧ meth.name = (mnm Y).name ∧ c.exceptionTable.toList = tableOf (mhh Y) ∧ WG E s s.heap ∧ mdp Y ≤ R.frames ∧ 37 * mdp Y ≤ R.locals
def Ev (E : gE) (Y : MI) (Pr : Option Value → va_W → Prop) (Px : String → va_W → Prop) (k n pc : Nat) (lv : List (Nat × Value)) (st : List Value) (ws : va_W) : Prop :=
  ∀ (p : Program) (e : Env) (R : Room) (s : State) (m : MethodId) (args : Array Value) (below : List Frame) (meth : Method) (c : Code) (H : Heap) (locs : List Loc) (cells slots : Nat) (ls : Array Slot),
    Cx E Y p R s m args meth c → lv_has ls (mml Y) lv → va_S (gA E) s.heap H locs → gP E ws H → cells + k ≤ R.cells → slots + n ≤ R.slots →
    W p (gL E) e R s m args below meth c H locs cells slots (vx_MQ below (gQ E Pr) (gXC E Px) args s R.cells R.slots (gA E)) (F0 m pc ls st)
/-- something is thrown over the frame -/
def EvX (E : gE) (Y : MI) (Pr : Option Value → va_W → Prop) (Px : String → va_W → Prop) (k n pc : Nat) (lv : List (Nat × Value)) (Ec : String) (ws : va_W) : Prop :=
  ∀ (p : Program) (e : Env) (R : Room) (s : State) (m : MethodId) (args : Array Value) (below : List Frame) (meth : Method) (c : Code) (H : Heap) (locs : List Loc) (cells slots : Nat) (ls : Array Slot) (rest : List Value) (q : Nat) (ce : Cell),
    Cx E Y p R s m args meth c → lv_has ls (mml Y) lv → va_S (gA E) s.heap H locs → gP E ws H → cells + k ≤ R.cells → slots + n ≤ R.slots → H[q]? = some ce → ce.vm = .none → s.vm.findClass Ec = some ce.cls →
    vx_W p (gL E) e R s m args below meth c H locs cells slots (vx_MQ below (gQ E Pr) (gXC E Px) args s R.cells R.slots (gA E)) (F0 m pc ls rest) q
/-! the instructions that touch neither heap nor tables -/
def lgt : List (Nat × Value) → Nat → Option Value
  | [], _ => none
  | q :: r, i => if q.1 = i then some q.2 else lgt r i
theorem lgt_mem : ∀ (lv : List (Nat × Value)) (i : Nat) (v : Value), lgt lv i = some v → (i, v) ∈ lv
  | [], i, v, h => by simp [lgt] at h
  | q :: r, i, v, h => by
    unfold lgt at h
    by_cases hq : q.1 = i
    · rw [if_pos hq] at h
      cases h
      subst hq
      exact List.mem_cons_self
    · rw [if_neg hq] at h
      exact List.mem_cons_of_mem _ (lgt_mem r i v h)
theorem lgt_at {ls : Array Slot} {nL : Nat} {lv : List (Nat × Value)} {i : Nat} {v : Value} (hl : lv_has ls nL lv) (h : lgt lv i = some v) : ls[i]? = some (.val v) := hl.2.2 _ (lgt_mem lv i v h)
def ls1 (lv : List (Nat × Value)) (i : Nat) (v : Value) : List (Nat × Value) := (i, v) :: lv.filter (fun q => !(q.1 == i) && !(q.1 + 1 == i && q.2.category == 2))
def ls2 (lv : List (Nat × Value)) (i : Nat) (v : Value) : List (Nat × Value) := (i, v) :: lv.filter (fun q => !(q.1 == i) && (!(q.1 == i + 1) && !(q.1 + 1 == i && q.2.category == 2)))
/-- a written number -/
def icst : Int → Int32
  | .ofNat n => Int32.ofNat n
  | .negSucc n => -(Int32.ofNat (n + 1))
theorem icst_eq : ∀ d : Int, Int32.ofInt d = icst d
  | .ofNat n => Int32.ofInt_eq_ofNat
  | .negSucc n => by
    show Int32.ofInt (-((n + 1 : Nat) : Int)) = -(Int32.ofNat (n + 1))
    rw [Int32.ofInt_neg, Int32.ofInt_eq_ofNat]
abbrev sR : Type := Option (List (Nat × Value) × List Value)
def s_int (lv : List (Nat × Value)) (st : List Value) : Option Value → sR
  | some (.int x) => some (lv, .int x :: st)
  | _ => none
def s_ref (lv : List (Nat × Value)) (st : List Value) : Option Value → sR
  | some (.ref x) => some (lv, .ref x :: st)
  | _ => none
def s_long (lv : List (Nat × Value)) (st : List Value) : Option Value → sR
  | some (.long x) => some (lv, .long x :: st)
  | _ => none
def s_dbl (lv : List (Nat × Value)) (st : List Value) : Option Value → sR
  | some (.double x) => some (lv, .double x :: st)
  | _ => none
def st_int (nL : Nat) (lv : List (Nat × Value)) (i : Nat) : List Value → sR
  | .int x :: r => if i < nL then some (ls1 lv i (.int x), r) else none
  | _ => none
def st_ref (nL : Nat) (lv : List (Nat × Value)) (i : Nat) : List Value → sR
  | .ref x :: r => if i < nL then some (ls1 lv i (.ref x), r) else none
  | _ => none
def st_long (nL : Nat) (lv : List (Nat × Value)) (i : Nat) : List Value → sR
  | .long x :: r => if i + 1 < nL then some (ls2 lv i (.long x), r) else none
  | _ => none
def st_dbl (nL : Nat) (lv : List (Nat × Value)) (i : Nat) : List Value → sR
  | .double x :: r => if i + 1 < nL then some (ls2 lv i (.double x), r) else none
  | _ => none
def s_ii (lv : List (Nat × Value)) (f : Int32 → Int32 → Int32) : List Value → sR
  | .int y :: .int x :: r => some (lv, .int (f x y) :: r)
  | _ => none
def s_jj (lv : List (Nat × Value)) (f : Int64 → Int64 → Int64) : List Value → sR
  | .long y :: .long x :: r => some (lv, .long (f x y) :: r)
  | _ => none
def s_i (lv : List (Nat × Value)) (f : Int32 → Value) : List Value → sR
  | .int x :: r => some (lv, f x :: r)
  | _ => none
def s_j (lv : List (Nat × Value)) (f : Int64 → Value) : List Value → sR
  | .long x :: r => some (lv, f x :: r)
  | _ => none
def s_d (lv : List (Nat × Value)) (f : UInt64 → Value) : List Value → sR
  | .double x :: r => some (lv, f x :: r)
  | _ => none
def s_inc (nL : Nat) (lv : List (Nat × Value)) (st : List Value) (i : Nat) (d : Int) : Option Value → sR
  | some (.int x) => if i < nL then some (ls1 lv i (.int (x + icst d)), st) else none
  | _ => none
def s_lsh (lv : List (Nat × Value)) : List Value → sR
  | .int y :: .long x :: r => some (lv, .long (x <<< (y.toInt64 &&& 63)) :: r)
  | _ => none
def s_lcm (lv : List (Nat × Value)) : List Value → sR
  | .long y :: .long x :: r => some (lv, .int (lg_cmp x y) :: r)
  | _ => none
def s_dcm (lv : List (Nat × Value)) (op : CmpOp) : List Value → sR
  | .double y :: .double x :: r => some (lv, .int (Op.cmpValue (FP.dcmp x y) op) :: r)
  | _ => none
def s_dup (lv : List (Nat × Value)) : List Value → sR
  | v :: r => if v.category = 1 then some (lv, v :: v :: r) else none
  | _ => none
def s_dup2 (lv : List (Nat × Value)) : List Value → sR
  | v :: w :: r => if v.category = 1 ∧ w.category = 1 then some (lv, v :: w :: v :: w :: r) else none
  | _ => none
def s_pop (lv : List (Nat × Value)) : List Value → sR
  | v :: r => if v.category = 1 then some (lv, r) else none
  | _ => none
def simA (lv : List (Nat × Value)) (st : List Value) : Instr → sR
  | .iload_n k => s_int lv st (lgt lv k.val)
  | .iload i => s_int lv st (lgt lv i)
  | .aload_n k => s_ref lv st (lgt lv k.val)
  | .aload i => s_ref lv st (lgt lv i)
  | .lload_n k => s_long lv st (lgt lv k.val)
  | .lload i => s_long lv st (lgt lv i)
  | .dload_n k => s_dbl lv st (lgt lv k.val)
  | .dload i => s_dbl lv st (lgt lv i)
  | .iconst d => some (lv, .int (icst d) :: st)
  | .bipush d => if -128 ≤ d ∧ d ≤ 127 then some (lv, .int (icst d) :: st) else none
  | .sipush d => if -32768 ≤ d ∧ d ≤ 32767 then some (lv, .int (icst d) :: st) else none
  | .lconst d => some (lv, .long (Int64.ofNat d.val) :: st)
  | _ => none
def simB (nL : Nat) (lv : List (Nat × Value)) (st : List Value) : Instr → sR
  | .istore_n k => st_int nL lv k.val st
  | .istore i => st_int nL lv i st
  | .astore_n k => st_ref nL lv k.val st
  | .astore i => st_ref nL lv i st
  | .lstore_n k => st_long nL lv k.val st
  | .lstore i => st_long nL lv i st
  | .dstore_n k => st_dbl nL lv k.val st
  | .dstore i => st_dbl nL lv i st
  | .iinc i d => s_inc nL lv st i d (lgt lv i)
  | _ => none
def simC (lv : List (Nat × Value)) (st : List Value) : Instr → sR
  | .iadd => s_ii lv (fun x y => x + y) st
  | .isub => s_ii lv (fun x y => x - y) st
  | .imul => s_ii lv (fun x y => x * y) st
  | .iand => s_ii lv (fun x y => x &&& y) st
  | .ixor => s_ii lv (fun x y => x ^^^ y) st
  | .ishl => s_ii lv (fun x y => x <<< (y &&& 31)) st
  | .ishr => s_ii lv (fun x y => x >>> (y &&& 31)) st
  | .iushr => s_ii lv (fun x y => (x.toUInt32 >>> (y.toUInt32 &&& Int32.toUInt32 31)).toInt32) st
  | .ineg => s_i lv (fun x => .int (-x)) st
  | .ladd => s_jj lv (fun x y => x + y) st
  | .lsub => s_jj lv (fun x y => x - y) st
  | .lmul => s_jj lv (fun x y => x * y) st
  | .land => s_jj lv (fun x y => x &&& y) st
  | .lor => s_jj lv (fun x y => x ||| y) st
  | _ => none
def simD (lv : List (Nat × Value)) (st : List Value) : Instr → sR
  | .lshl => s_lsh lv st
  | .lcmp => s_lcm lv st
  | .dcmp op => s_dcm lv op st
  | .i2l => s_i lv (fun x => .long x.toInt64) st
  | .l2i => s_j lv (fun x => .int x.toInt32) st
  | .i2d => s_i lv (fun x => .double (FP.i2d x)) st
  | .d2l => s_d lv (fun x => .long (FP.d2l x)) st
  | .i2c => s_i lv (fun x => .int (x.toUInt32 % 65536).toInt32) st
  | .dup => s_dup lv st
  | .dup2 => s_dup2 lv st
  | .pop => s_pop lv st
  | _ => none
def sim1 (nL : Nat) (ins : Instr) (lv : List (Nat × Value)) (st : List Value) : sR :=
  match simA lv st ins with
  | some r => some r
  | none => match simB nL lv st ins with
    | some r => some r
    | none => match simC lv st ins with
      | some r => some r
      | none => simD lv st ins
