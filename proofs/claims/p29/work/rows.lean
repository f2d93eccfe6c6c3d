section
-- ===== PART A: goes FIRST, ahead of the names: the tables' words, and 'selects' of the private methods out of them =====
/-- a private method of a class that the tables say can be made, by its rows of tables_1 -/
def lw_okq (q : MethodName × Nat) : Prop := (q.1.cls ≠ "java/lang/invoke/MethodHandle" ∧ q.1.cls ≠ "java/lang/invoke/VarHandle") ∧ Cond.instantiable q.1.cls q.2 ∈ tables_1 ∧ Cond.privateMethod q.1 ∈ tables_1 ∧ Cond.instanceMethod q.1 ∈ tables_1
theorem lw_p0 : lw_okq (⟨"java/lang/Throwable", "fillInStackTrace", "(I)Ljava/lang/Throwable;"⟩, 6) := ⟨⟨by decide +kernel, by decide +kernel⟩, List.mem_of_getElem? (i := 274) (by decide +kernel), List.mem_of_getElem? (i := 272) (by decide +kernel), List.mem_of_getElem? (i := 273) (by decide +kernel)⟩
theorem lw_p1 : lw_okq (⟨"AccentModems", "toneOf", "(II)LAccentModems$Tone;"⟩, 6) := ⟨⟨by decide +kernel, by decide +kernel⟩, List.mem_of_getElem? (i := 18) (by decide +kernel), List.mem_of_getElem? (i := 321) (by decide +kernel), List.mem_of_getElem? (i := 322) (by decide +kernel)⟩
theorem lw_p2 : lw_okq (⟨"AccentModems", "wayOf", "(I)LAccentModems$Way;"⟩, 6) := ⟨⟨by decide +kernel, by decide +kernel⟩, List.mem_of_getElem? (i := 18) (by decide +kernel), List.mem_of_getElem? (i := 325) (by decide +kernel), List.mem_of_getElem? (i := 326) (by decide +kernel)⟩
theorem lw_p3 : lw_okq (⟨"AccentModems", "save", "()V"⟩, 6) := ⟨⟨by decide +kernel, by decide +kernel⟩, List.mem_of_getElem? (i := 18) (by decide +kernel), List.mem_of_getElem? (i := 436) (by decide +kernel), List.mem_of_getElem? (i := 437) (by decide +kernel)⟩
theorem lw_p4 : lw_okq (⟨"AccentModems", "dropOldest", "()V"⟩, 6) := ⟨⟨by decide +kernel, by decide +kernel⟩, List.mem_of_getElem? (i := 18) (by decide +kernel), List.mem_of_getElem? (i := 440) (by decide +kernel), List.mem_of_getElem? (i := 441) (by decide +kernel)⟩
theorem lw_p5 : lw_okq (⟨"AccentModems", "checkBeatsLeft", "(I)V"⟩, 6) := ⟨⟨by decide +kernel, by decide +kernel⟩, List.mem_of_getElem? (i := 18) (by decide +kernel), List.mem_of_getElem? (i := 592) (by decide +kernel), List.mem_of_getElem? (i := 593) (by decide +kernel)⟩
def lw_privs_1 : List (MethodName × Nat) := [(⟨"java/lang/Throwable", "fillInStackTrace", "(I)Ljava/lang/Throwable;"⟩, 6), (⟨"AccentModems", "toneOf", "(II)LAccentModems$Tone;"⟩, 6), (⟨"AccentModems", "wayOf", "(I)LAccentModems$Way;"⟩, 6), (⟨"AccentModems", "save", "()V"⟩, 6), (⟨"AccentModems", "dropOldest", "()V"⟩, 6), (⟨"AccentModems", "checkBeatsLeft", "(I)V"⟩, 6)]
theorem lw_r1 : ∀ q ∈ lw_privs_1, lw_okq q := List.forall_mem_cons.mpr ⟨lw_p0, List.forall_mem_cons.mpr ⟨lw_p1, List.forall_mem_cons.mpr ⟨lw_p2, List.forall_mem_cons.mpr ⟨lw_p3, List.forall_mem_cons.mpr ⟨lw_p4, List.forall_mem_cons.mpr ⟨lw_p5, fun _ h => absurd h List.not_mem_nil⟩⟩⟩⟩⟩⟩
def lw_privs : List (MethodName × Nat) := lw_privs_1
def lw_tbl : List Cond := k2_sels lw_privs ++ tables_1
theorem lw_privs_ok : ∀ q ∈ lw_privs, lw_okq q := lw_r1
/-- the streams that the claim lets the run draw from -/
abbrev lw_cs : List Choice := [Jvm.Choice.named "NaN.bits"]
theorem lw_bits : nanBits ∈ lw_cs := by first | decide | exact List.mem_cons_self | simp [lw_cs, nanBits]
end
section
/-! ===== BEGIN words of one list among another's, by their places ===== -/
theorem goodIn_r {big : List Cond} (ws : List Cond) (ps : List Nat) (hp : ws = ps.filterMap (fun i => big[i]?)) (h : ws.all goodWord = true) : GoodIn big ws := by
  intro w hw
  have h1 := List.all_eq_true.mp h w hw
  rw [hp] at hw
  obtain ⟨i, -, hi⟩ := List.mem_filterMap.mp hw
  have hm : w ∈ big := by first | exact List.mem_of_getElem? hi | exact List.getElem?_mem hi
  exact ⟨hm, good_of_word h1⟩
theorem goodIn_app {big a b : List Cond} (ha : GoodIn big a) (hb : GoodIn big b) : GoodIn big (a ++ b) := fun w h => (List.mem_append.mp h).elim (ha w) (hb w)
theorem goodIn_ca {big a b : List Cond} {c : Cond} (ha : GoodIn big (c :: a)) (hb : GoodIn big b) : GoodIn big (c :: (a ++ b)) := fun w h => (List.mem_cons.mp h).elim (fun e => ha w (List.mem_cons.mpr (Or.inl e))) (fun h => (List.mem_append.mp h).elim (fun h => ha w (List.mem_cons.mpr (Or.inr h))) (hb w))
theorem goodIn_sub {big ws : List Cond} (hm : ∀ w ∈ ws, w ∈ big) (h : ws.all goodWord = true) : GoodIn big ws := fun w hw => ⟨hm w hw, good_of_word (List.all_eq_true.mp h w hw)⟩
/-! ===== END ===== -/

/-! ===== BEGIN exceptions that leave a method, and their catching by the caller (launches without stack traces) ===== -/
section VXA
/-! The laws vx_back, vx_callV, vx_callS, vx_callSW, vx_throw0, vx_throwS follow proofs of the library, with one case more: JvmDerived/Free/Laws.lean (Back.of_free), Shelf42/LK1.lean (callV, callS), Shelf/KitTraced.lean (throwNew0V, throwNewS). -/
/-- where a method has thrown q: the class by its name, the cell, what was written, the world -/
def vx_T (XC : String → State → State → Prop) (st : State) (q : Addr) (t : State) (mc ms : Nat) (free : Addr → Prop) : Prop :=
  ∃ (E : String) (ce : Cell) (L : List Loc), XC E st t ∧ t.heap[q]? = some ce ∧ ce.vm = .none ∧ st.vm.findClass E = some ce.cls ∧ st.WarmedH t.vm ∧ st.sameButNew ({ t with vm := st.vm } : State) L mc ms ∧ ∀ z ∈ L, free z.base
def vx_Q (Qc : Array Value → State → Outcome → State → Prop) (XC : String → State → State → Prop) (mc ms : Nat) (free : Addr → Prop) : Array Value → State → Outcome → State → Prop := fun a st o t =>
  (Qc a st o t ∧ ∃ L, FrameEnd st o t L mc ms ∧ ∀ q ∈ L, free q.base) ∨ ∃ q, o = .threw q ∧ vx_T XC st q t mc ms free
/-- a callee that returns or throws -/
def vx_Met (l : Launch) (y : MethodName) (ws : List Cond) (rm : Room) (Pc : Array Value → State → Prop) (Qc : Array Value → State → Outcome → State → Prop) (XC : String → State → State → Prop) (mc ms : Nat) (free : Addr → Prop) : Prop :=
  MetFree l y (headSpec ws rm) Pc (fun _ _ _ _ _ => True) (vx_Q Qc XC mc ms free)
def vx_Post (XC : String → State → State → Prop) (mc ms : Nat) (free : Addr → Prop) : Pt → Array Value → Addr → Pt → Prop := fun A a q B =>
  ∃ (g : JFrame) (mk : MethodId) (t : State) (L : List Loc) (E : String) (ce : Cell), B.U.heap = t.heap ∧ B.U.vm = t.vm ∧ XC E (A.U.calling g mk a) t ∧ t.heap[q]? = some ce ∧ ce.vm = .none ∧ A.U.vm.findClass E = some ce.cls ∧ B.locs = A.locs ++ L ∧ (∀ z ∈ L, free z.base) ∧ B.cells = A.cells + mc ∧ B.slots = A.slots + ms
def vx_Back (l : Launch) (R : Room) (p : Program) (e : Env) (below : List Frame) (s : State) (sargs : Array Value) (y : MethodName) (len W9 : Nat)
    (Pre : Pt → Array Value → Prop) (Post : Pt → Array Value → Option Value → Pt → Prop) (PostX : Pt → Array Value → Addr → Pt → Prop) : Prop :=
  ∀ (m : MethodId) (meth : Method) (c : Code) (A : Pt) (g : JFrame) (ig : Instr) (mk : MethodId) (a : Array Value),
    Stand p l e R s m sargs below meth c A.U A.locs A.cells A.slots → g.method = m → g.locals.size = c.maxLocals → decode c.code g.pc = .ok (ig, len) →
    2 * g.monitorRoom + (g.stack.map fun v => v.category).sum ≤ W9 → A.U.methodNamed? y = some mk → Pre A a →
    (∃ (v : Option Value) (B : Pt), Stand p l e R s m sargs below meth c B.U B.locs B.cells B.slots ∧ Post A a v B ∧
      Steps p.tables e below (doInvoke e (A.U.setTop g) [] mk a).1 (B.U.setTop { g with pc := g.pc + len, stack := v.toList ++ g.stack })) ∨
    (∃ (q : Addr) (B : Pt), Stand p l e R s m sargs below meth c B.U B.locs B.cells B.slots ∧ PostX A a q B ∧
      Steps p.tables e below (doInvoke e (A.U.setTop g) [] mk a).1 ((B.U.setTop g).pushFrame (.throwing q)))
section Payer
variable {l : Launch} {R : Room} {p : Program} {e : Env} {below : List Frame} {s : State} {sargs : Array Value} {y : MethodName} {len W9 : Nat}
theorem vx_back {ws : List Cond} {rm : Room} {Pc : Array Value → State → Prop} {Qc : Array Value → State → Outcome → State → Prop} {XC : String → State → State → Prop} {mc ms : Nat} {free : Addr → Prop} {bytes : ByteArray} {maxL : Nat} {ret : Option FieldType}
    (hM : vx_Met l y ws rm Pc Qc XC mc ms free) (hblind : FrameBlind Pc) (hrc : rm.cells = mc) (hrs : rm.slots = ms)
    (hframes : rm.frames + 1 ≤ R.frames) (hlocals : W9 + (maxL + 11) + rm.locals ≤ R.locals)
    (hws : ∀ w ∈ ws, ∀ a' U, s.WarmedH U.vm → w.before a' U = true) (hcode : Cond.code y bytes maxL ret ∈ ws) (hinit : ∀ a' U, s.WarmedH U.vm → (Cond.initialized y.cls).before a' U = true) :
    vx_Back l R p e below s sargs y len W9 (PreOf R mc ms Pc) (PostOf Qc mc ms free) (vx_Post XC mc ms free) := by
  intro m meth c A g ig mk a X hg hsize hdg hW hn hp
  have h1 : (headSpec ws rm).pre.before a A.U = true := atoms_intro fun w hw => hws w hw _ _ X.warmed
  have h2 : (Cond.code y bytes maxL ret).before a A.U = true := hws _ hcode _ _ X.warmed
  have h3 : (Cond.initialized y.cls).before a A.U = true := hinit _ _ X.warmed
  have h4 : A.cells + (headSpec ws rm).room.cells ≤ R.cells := by rw [show (headSpec ws rm).room.cells = mc from hrc]; exact hp.1
  have h5 : A.slots + (headSpec ws rm).room.slots ≤ R.slots := by rw [show (headSpec ws rm).room.slots = ms from hrs]; exact hp.2.1
  have hPc : Pc a (A.U.calling g mk a) := hblind _ _ _ _ hp.2.2
  obtain ⟨U, Ls, c0, s0⟩ := A
  dsimp only [Pt.U, Pt.locs, Pt.cells, Pt.slots] at h1 h2 h3 h4 h5 X hn hPc ⊢
  obtain ⟨methY, cY, hmY, hcY, -, hlY, -, -, -, -⟩ := Cond.code_spec hn h2
  obtain ⟨kY, hkY, -⟩ := className_of_methodNamed hn
  have hinitY : kY.init = .initialized := Cond.initialized_spec (findClass_of_methodNamed hn) hkY h3
  have h : At U g.method c below := by rw [hg]; exact X.here
  have hlocals9 : W9 + (maxL + 11) + (headSpec ws rm).room.locals ≤ R.locals := hlocals
  have happ : (headSpec ws rm).appliesLoose y e.platform (U.calling g mk a) = true :=
    Spec.appliesLoose_calling (g := g) h hdg hn hkY hinitY
      (X.room_calling (g := g) (R' := (headSpec ws rm).room) hsize hmY hcY hframes (by rw [hlY]; omega) h4 h5) h1
  obtain ⟨mid, hmid⟩ := h.above
  have hfr : (U.setTop g).frames = (.java g :: mid) ++ below := by rw [State.frames_setTop' g h.top, hmid]; rfl
  obtain ⟨o, s₂, hsteps, -, hend, hq⟩ := Steps.callFree hM p X.admits X.cas X.clock (acts := []) hfr happ hPc trivial
  have hq' : vx_Q Qc XC mc ms free a (U.calling g mk a) o s₂ := hq
  rw [State.frames_setTop' g h.top] at hend
  obtain ⟨g₀, hg0⟩ := Option.isSome_iff_exists.mp h.top
  obtain ⟨r, hr⟩ := State.topJava?_eq_some.mp hg0
  have hr' : (({ U with heap := s₂.heap, slotsUsed := s₂.slotsUsed } : State).setVm s₂.vm).frames = .java g₀ :: r := hr
  rcases hq' with ⟨hqc, L, hfe, hL⟩ | ⟨q, rfl, E, ce, L, hx, hce, hcv, hcl, hW₂, hsm, hL⟩
  · obtain ⟨⟨v, rfl⟩, hW₂, e2, q2, q3, q4, q5, q6⟩ := id hfe
    have e3 : s₂ = ({ (U.calling g mk a).setFrames s₂.frames with heap := s₂.heap, slotsUsed := s₂.slotsUsed } : State).setVm s₂.vm := by
      have : s₂ = ({ s₂ with vm := (U.calling g mk a).vm } : State).setVm s₂.vm := rfl
      rw [e2] at this
      exact this
    obtain ⟨c₂, i₂, len₂, hc₂, hd₂, hf₂⟩ := hend
    have hW' : U.WarmedH s₂.vm := hW₂
    have hcc : c₂ = c := by
      have h1 : s₂.code? g.method = U.code? g.method := by
        rw [State.code?_eq, State.code?_eq, hW'.alike.method?]
      exact Option.some.inj (hc₂.symm.trans (h1.trans h.code))
    subst hcc
    have hlen : len₂ = len := by rw [hdg] at hd₂; cases hd₂; rfl
    subst hlen
    have hs₂ : s₂ = (({ U with heap := s₂.heap, slotsUsed := s₂.slotsUsed } : State).setVm s₂.vm).setTop { g with pc := g.pc + len₂, stack := v.toList ++ g.stack } := by
      refine e3.trans ?_
      rw [hf₂, State.calling_eq h.top, State.setFrames_setFrames, State.setTop_of_frames _ hr', hr]
      rfl
    have hsame : U.sameButNew ({ U with heap := s₂.heap, slotsUsed := s₂.slotsUsed } : State) L mc ms := by
      refine ⟨?_, q2, q3, q4, q5, q6⟩
      obtain ⟨t, ht, -⟩ := State.frames_cons hr
      show ({ U with heap := s₂.heap, slotsUsed := s₂.slotsUsed } : State) = { U.setFrames U.frames with heap := s₂.heap, slotsUsed := s₂.slotsUsed }
      rw [State.setFrames_self ht]
    subst hg
    refine Or.inl ⟨v, ⟨(({ U with heap := s₂.heap, slotsUsed := s₂.slotsUsed } : State).setVm s₂.vm), Ls ++ L, c0 + mc, s0 + ms⟩,
      ⟨X.admits, X.cas, X.clock, X.frames, X.room, X.hears, X.method, X.code, (X.here.setHeapUsed s₂.heap s₂.slotsUsed).setVm hW'.alike, X.tail, State.WarmedH.trans X.warmed hW', X.limits, X.bytes, X.same.trans (hsame.setVm s.vm)⟩,
      ⟨g, mk, s₂, L, rfl, rfl, hqc, rfl, hL, rfl, rfl⟩, ?_⟩
    show Steps p.tables e below _ ((({ U with heap := s₂.heap, slotsUsed := s₂.slotsUsed } : State).setVm s₂.vm).setTop { g with pc := g.pc + len₂, stack := v.toList ++ g.stack })
    rw [← hs₂]
    exact hsteps
  · obtain ⟨e2, q2, q3, q4, q5, q6⟩ := id hsm
    have e3 : s₂ = ({ (U.calling g mk a).setFrames s₂.frames with heap := s₂.heap, slotsUsed := s₂.slotsUsed } : State).setVm s₂.vm := by
      have : s₂ = ({ s₂ with vm := (U.calling g mk a).vm } : State).setVm s₂.vm := rfl
      rw [e2] at this
      exact this
    have hf₂ : s₂.frames = .throwing q :: .java g :: U.frames.tail := hend
    have hW' : U.WarmedH s₂.vm := hW₂
    have hs₂ : s₂ = ((({ U with heap := s₂.heap, slotsUsed := s₂.slotsUsed } : State).setVm s₂.vm).setTop g).pushFrame (.throwing q) := by
      refine e3.trans ?_
      rw [hf₂, State.calling_eq h.top, State.setFrames_setFrames, State.pushFrame, State.frames_setTop _ hr', State.setTop_of_frames _ hr', State.setFrames_setFrames, hr]
      rfl
    have hsame : U.sameButNew ({ U with heap := s₂.heap, slotsUsed := s₂.slotsUsed } : State) L mc ms := by
      refine ⟨?_, q2, q3, q4, q5, q6⟩
      obtain ⟨t, ht, -⟩ := State.frames_cons hr
      show ({ U with heap := s₂.heap, slotsUsed := s₂.slotsUsed } : State) = { U.setFrames U.frames with heap := s₂.heap, slotsUsed := s₂.slotsUsed }
      rw [State.setFrames_self ht]
    subst hg
    refine Or.inr ⟨q, ⟨(({ U with heap := s₂.heap, slotsUsed := s₂.slotsUsed } : State).setVm s₂.vm), Ls ++ L, c0 + mc, s0 + ms⟩,
      ⟨X.admits, X.cas, X.clock, X.frames, X.room, X.hears, X.method, X.code, (X.here.setHeapUsed s₂.heap s₂.slotsUsed).setVm hW'.alike, X.tail, State.WarmedH.trans X.warmed hW', X.limits, X.bytes, X.same.trans (hsame.setVm s.vm)⟩,
      ⟨g, mk, s₂, L, E, ce, rfl, rfl, hx, hce, hcv, hcl, rfl, hL, rfl, rfl⟩, ?_⟩
    show Steps p.tables e below _ (((({ U with heap := s₂.heap, slotsUsed := s₂.slotsUsed } : State).setVm s₂.vm).setTop g).pushFrame (.throwing q))
    rw [← hs₂]
    exact hsteps
end Payer
section Calls
variable {p : Program} {l : Launch} {e : Env} {R : Room} {s : State} {m : MethodId} {args : Array Value} {below : List Frame} {meth : Method} {c : Code} {T : State} {locs : List Loc} {cells slots : Nat}
theorem vx_callV (X : Stand p l e R s m args below meth c T locs cells slots) (hexec : p.tables.exec = Jvm.exec) {own C : String} {index : Nat} {y : MethodName} {bytes : ByteArray} {maxL : Nat} {ret : Option FieldType}
    (hown : s.vm.findClass own = some m.cls) (hlink : (Cond.methodLink own index y).before args s = true) (hinst : (Cond.instanceMethod y).before args s = true) (hsel : (Cond.selects C y y).before args s = true)
    (hcode : (Cond.code y bytes maxL ret).before args s = true) (hy : y.cls ≠ "java/lang/invoke/MethodHandle" ∧ y.cls ≠ "java/lang/invoke/VarHandle")
    {W9 : Nat} {Pre : Pt → Array Value → Prop} {Post : Pt → Array Value → Option Value → Pt → Prop} {PostX : Pt → Array Value → Addr → Pt → Prop} (hK : vx_Back l R p e below s args y 3 W9 Pre Post PostX)
    {b : Addr} {cellB : Cell} (hcell : T.heap[b]? = some cellB) (hobj : cellB.vm.isStatics = false) (hcls : s.vm.findClass C = some cellB.cls)
    {g : JFrame} (hg : g.method = m) (hsize : g.locals.size = c.maxLocals) {argsL rest : List Value} (hlen : ∀ sig, parseMethodDescriptor y.desc = some sig → argsL.length = sig.parameters.length)
    (hstack : g.stack = argsL.reverse ++ .ref b :: rest) (hW : 2 * g.monitorRoom + (rest.map fun v => v.category).sum ≤ W9) (hdg : decode c.code g.pc = .ok (.invokevirtual index, 3))
    (hpre : ∀ vm₁, s.WarmedH vm₁ → Pre ⟨T.setVm vm₁, locs, cells, slots⟩ (Value.ref b :: argsL).toArray) :
    (∃ (v : Option Value) (vm₁ : Vm) (B : Pt), s.WarmedH vm₁ ∧ Stand p l e R s m args below meth c B.U B.locs B.cells B.slots ∧ Post ⟨T.setVm vm₁, locs, cells, slots⟩ (Value.ref b :: argsL).toArray v B ∧
      ∀ target, Steps p.tables e below (B.U.setTop { g with pc := g.pc + 3, stack := v.toList ++ rest }) target → Steps p.tables e below (T.setTop g) target) ∨
    (∃ (q : Addr) (vm₁ : Vm) (B : Pt), s.WarmedH vm₁ ∧ Stand p l e R s m args below meth c B.U B.locs B.cells B.slots ∧ PostX ⟨T.setVm vm₁, locs, cells, slots⟩ (Value.ref b :: argsL).toArray q B ∧
      Steps p.tables e below (T.setTop g) ((B.U.setTop { g with stack := rest }).pushFrame (.throwing q))) := by
  obtain ⟨mk, methM, hnamed, hmethM, hstM, habM⟩ := Cond.instanceMethod_spec hinst
  obtain ⟨methM', cM, hmethM', -, -, -, -, -, -, hsigM⟩ := Cond.code_spec hnamed hcode
  cases hmethM.symm.trans hmethM'
  obtain ⟨c2, r2, m2, q1, q2, q3, q4, kP, hkP, hkPi⟩ := Cond.selects_spec hsel
  cases hcls.symm.trans q1
  cases (State.methodFound?_of_named hnamed hy).symm.trans q2
  cases hnamed.symm.trans q3
  have hselP : selectMethod e.platform s.vm cellB.cls mk = .method mk := by rw [Launch.admits_selectMethod X.admits]; exact q4
  obtain ⟨vm₁, X₁, hstep₁⟩ := X.invokevirtual hexec hown hlink hnamed hmethM hstM hkP hkPi hy (a := b) (cell := cellB) hcell
    (fun z h => by rw [h] at hobj; cases hobj) hselP hmethM habM hkP hkPi (g := g) hg (argsL := argsL) (rest := rest) (hlen _ hsigM) hstack hdg
  rcases hK m meth c ⟨T.setVm vm₁, locs, cells, slots⟩ { g with stack := rest } (.invokevirtual index) mk (Value.ref b :: argsL).toArray X₁ hg hsize hdg hW (X₁.named hnamed) (hpre vm₁ X₁.warmed) with ⟨v, B, X', hpost, hsteps⟩ | ⟨q, B, X', hpost, hsteps⟩
  · exact Or.inl ⟨v, vm₁, B, X₁.warmed, X', hpost, fun target h => hstep₁ _ fun acts => by rw [doInvoke_state]; exact hsteps.trans h⟩
  · exact Or.inr ⟨q, vm₁, B, X₁.warmed, X', hpost, hstep₁ _ fun acts => by rw [doInvoke_state]; exact hsteps⟩
theorem vx_callS (X : Stand p l e R s m args below meth c T locs cells slots) (hexec : p.tables.exec = Jvm.exec) {own : String} {index : Nat} {y : MethodName} {bytes : ByteArray} {maxL : Nat} {ret : Option FieldType}
    (hown : s.vm.findClass own = some m.cls) (hlink : (Cond.methodLink own index y).before args s = true) (hstat : (Cond.static y).before args s = true) (hinit : (Cond.initialized y.cls).before args s = true)
    (hcode : (Cond.code y bytes maxL ret).before args s = true) (hy : y.cls ≠ "java/lang/invoke/MethodHandle" ∧ y.cls ≠ "java/lang/invoke/VarHandle")
    {W9 : Nat} {Pre : Pt → Array Value → Prop} {Post : Pt → Array Value → Option Value → Pt → Prop} {PostX : Pt → Array Value → Addr → Pt → Prop} (hK : vx_Back l R p e below s args y 3 W9 Pre Post PostX)
    {g : JFrame} (hg : g.method = m) (hsize : g.locals.size = c.maxLocals) {argsL rest : List Value} (hlen : ∀ sig, parseMethodDescriptor y.desc = some sig → argsL.length = sig.parameters.length)
    (hstack : g.stack = argsL.reverse ++ rest) (hW : 2 * g.monitorRoom + (rest.map fun v => v.category).sum ≤ W9) (hdg : decode c.code g.pc = .ok (.invokestatic index, 3))
    (hpre : ∀ vm₁, s.WarmedH vm₁ → Pre ⟨T.setVm vm₁, locs, cells, slots⟩ argsL.toArray) :
    (∃ (v : Option Value) (vm₁ : Vm) (B : Pt), s.WarmedH vm₁ ∧ Stand p l e R s m args below meth c B.U B.locs B.cells B.slots ∧ Post ⟨T.setVm vm₁, locs, cells, slots⟩ argsL.toArray v B ∧
      ∀ target, Steps p.tables e below (B.U.setTop { g with pc := g.pc + 3, stack := v.toList ++ rest }) target → Steps p.tables e below (T.setTop g) target) ∨
    (∃ (q : Addr) (vm₁ : Vm) (B : Pt), s.WarmedH vm₁ ∧ Stand p l e R s m args below meth c B.U B.locs B.cells B.slots ∧ PostX ⟨T.setVm vm₁, locs, cells, slots⟩ argsL.toArray q B ∧
      Steps p.tables e below (T.setTop g) ((B.U.setTop { g with stack := rest }).pushFrame (.throwing q))) := by
  obtain ⟨mk, hnamed⟩ := Cond.code_named hcode
  obtain ⟨methM, cM, hmethM, -, -, -, -, -, -, hsigM⟩ := Cond.code_spec hnamed hcode
  have hstatic : methM.isStatic = true := Cond.static_spec hnamed hmethM hstat
  obtain ⟨kP, hkP, -⟩ := className_of_methodNamed hnamed
  have hinitP : kP.init = .initialized := Cond.initialized_spec (findClass_of_methodNamed hnamed) hkP hinit
  obtain ⟨vm₁, X₁, hstep₁⟩ := X.invokestatic hexec hown hlink hnamed hmethM hstatic hkP hinitP hy (g := g) hg (argsL := argsL) (rest := rest) (hlen _ hsigM) hstack hdg
  rcases hK m meth c ⟨T.setVm vm₁, locs, cells, slots⟩ { g with stack := rest } (.invokestatic index) mk argsL.toArray X₁ hg hsize hdg hW (X₁.named hnamed) (hpre vm₁ X₁.warmed) with ⟨v, B, X', hpost, hsteps⟩ | ⟨q, B, X', hpost, hsteps⟩
  · exact Or.inl ⟨v, vm₁, B, X₁.warmed, X', hpost, fun target h => hstep₁ _ fun acts => by rw [doInvoke_state]; exact hsteps.trans h⟩
  · exact Or.inr ⟨q, vm₁, B, X₁.warmed, X', hpost, hstep₁ _ fun acts => by rw [doInvoke_state]; exact hsteps⟩
end Calls
theorem vx_cls {s : State} {T : State} {vm₁ : Vm} {E : String} {k : ClassId} (hW : s.WarmedH vm₁) (h : (T.setVm vm₁).vm.findClass E = some k) : s.vm.findClass E = some k := by
  have h1 : vm₁.findClass E = some k := h
  rw [hW.alike.findClass] at h1
  exact h1
/-- the method's frame g, with q thrown over it -/
def vx_W (p : Program) (l : Launch) (e : Env) (R : Room) (s : State) (m : MethodId) (args : Array Value) (below : List Frame) (meth : Method) (c : Code) (H : Heap) (locs : List Loc) (cells slots : Nat) (Q : State → Prop) (g : JFrame) (q : Addr) : Prop :=
  ∀ T : State, T.heap = H → Stand p l e R s m args below meth c T locs cells slots → ∃ t, Steps p.tables e below ((T.setTop g).pushFrame (.throwing q)) t ∧ Q t
def vx_Run (p : Program) (l : Launch) (e : Env) (R : Room) (s : State) (m : MethodId) (args : Array Value) (below : List Frame) (meth : Method) (c : Code) (H : Heap) (locs : List Loc) (cells slots mc ms : Nat) (g : JFrame) (rest : List Value) (Qa : State → Outcome → State → Prop) (XC : String → State → State → Prop) (free : Addr → Prop) : Prop :=
  ∀ T : State, T.heap = H → Stand p l e R s m args below meth c T locs cells slots →
    (∃ (v : Option Value) (st₀ t T' : State) (L : List Loc), st₀.heap = H ∧ Stand p l e R s m args below meth c T' (locs ++ L) (cells + mc) (slots + ms) ∧ (∀ q ∈ L, free q.base) ∧ T'.heap = t.heap ∧ T'.vm = t.vm ∧ Qa st₀ (.returned v) t ∧
      Goes p e below T g T' { g with pc := g.pc + 3, stack := v.toList ++ rest }) ∨
    (∃ (q : Addr) (st₀ t T' : State) (L : List Loc) (E : String) (ce : Cell), st₀.heap = H ∧ Stand p l e R s m args below meth c T' (locs ++ L) (cells + mc) (slots + ms) ∧ (∀ z ∈ L, free z.base) ∧ T'.heap = t.heap ∧ T'.vm = t.vm ∧ XC E st₀ t ∧ t.heap[q]? = some ce ∧ ce.vm = .none ∧ s.vm.findClass E = some ce.cls ∧
      Steps p.tables e below (T.setTop g) ((T'.setTop { g with stack := rest }).pushFrame (.throwing q)))
def vx_X {S : Type} (px : S → Prop) (B : String → S → State → Prop) (A : Nat → Prop) : String → State → State → Prop := fun E st t => ∃ u : S, px u ∧ B E u t ∧ va_F A st t
section Runs
variable {p : Program} {l : Launch} {e : Env} {R : Room} {s : State} {m : MethodId} {args : Array Value} {below : List Frame} {meth : Method} {c : Code} {H : Heap} {locs : List Loc} {cells slots : Nat}
variable {y : MethodName} {bytes cc : ByteArray} {maxL nL mc ms n index : Nat} {ret : Option FieldType} {ws : List Cond} {rm : Room} {Pc : Array Value → State → Prop} {Qc : Array Value → State → Outcome → State → Prop} {XC : String → State → State → Prop} {free : Addr → Prop} {Ts : List Cond} {own C : String} {b : Addr} {As rest : List Value} {g : JFrame}
theorem vx_callBack (cb : CallB R s args own index y bytes maxL ret ws rm mc ms n) (hM : vx_Met l y ws rm Pc Qc XC mc ms free) (hbl : FrameBlind Pc) : vx_Back l R p e below s args y 3 8 (PreOf R mc ms Pc) (PostOf Qc mc ms free) (vx_Post XC mc ms free) := by
  obtain ⟨hrc, hrs, hfr, hlo, hws, hcw, -, hini, -⟩ := cb
  exact vx_back (bytes := bytes) (maxL := maxL) (ret := ret) hM hbl hrc hrs hfr hlo hws hcw (fun a' U hW => word_at hW (Or.inl (by first | rfl | simp [Cond.onTables, Cond.keeps, Cond.steady])) hini)
theorem vx_runV (S : CallFix p m c cc nL s args Ts own) (hM : vx_Met l y ws rm Pc Qc XC mc ms free) (cw : CallW R s args own C index y bytes maxL ret ws rm mc ms n) (hp : PreV s H C b Pc As)
    (hg : g.method = m) (hn : As.length = n) (hsize : g.locals.size = nL) (hstack : g.stack = As.reverse ++ .ref b :: rest) (hW : 2 * g.monitorRoom + (rest.map fun v => v.category).sum ≤ 8) (hdg : decode cc g.pc = .ok (.invokevirtual index, 3)) (hf : cells + mc ≤ R.cells ∧ slots + ms ≤ R.slots) :
    vx_Run p l e R s m args below meth c H locs cells slots mc ms g rest (Qc (Value.ref b :: As).toArray) XC free := by
  have hK : vx_Back l R p e below s args y 3 8 (PreOf R mc ms Pc) (PostOf Qc mc ms free) (vx_Post XC mc ms free) := vx_callBack cw.1 hM hp.1
  obtain ⟨⟨-, -, -, -, -, -, hcode, -, hy, hlen, hl⟩, hin, hse⟩ := cw
  obtain ⟨hx, hb, hml, ho, -⟩ := S
  obtain ⟨-, ⟨cellB, hcB, hoB, hclB⟩, hPc⟩ := hp
  intro T hT X
  rcases vx_callV X hx (C := C) (bytes := bytes) (maxL := maxL) (ret := ret) ho hl hin hse hcode hy hK (by rw [hT]; exact hcB) hoB hclB hg (hsize.trans hml.symm) (argsL := As) (rest := rest) (fun sig h => hn.trans (hlen sig h)) hstack hW (by rw [hb]; exact hdg)
    (fun vm₁ hW₁ => ⟨hf.1, hf.2, hPc (T.setVm vm₁) hT hW₁⟩) with ⟨v, vm₁, ⟨U', l2, c2, s2⟩, hW₁, X', ⟨g', mk, t, L, e1, e2, hq, h1, hL, h2, h3⟩, st⟩ | ⟨q, vm₁, ⟨U', l2, c2, s2⟩, hW₁, X', ⟨g', mk, t, L, E, ce, e1, e2, hq, hce, hcv, hcl, h1, hL, h2, h3⟩, st⟩
  · dsimp only [Pt.U, Pt.locs, Pt.cells, Pt.slots] at X' e1 e2 h1 h2 h3 st
    subst h1; subst h2; subst h3
    exact Or.inl ⟨v, (T.setVm vm₁).calling g' mk (Value.ref b :: As).toArray, t, U', L, hT, X', hL, e1, e2, hq, st⟩
  · dsimp only [Pt.U, Pt.locs, Pt.cells, Pt.slots] at X' e1 e2 h1 h2 h3 st hcl
    subst h1; subst h2; subst h3
    exact Or.inr ⟨q, (T.setVm vm₁).calling g' mk (Value.ref b :: As).toArray, t, U', L, E, ce, hT, X', hL, e1, e2, hq, hce, hcv, vx_cls hW₁ hcl, st⟩
theorem vx_runS (S : CallFix p m c cc nL s args Ts own) (hM : vx_Met l y ws rm Pc Qc XC mc ms free) (cw : CallB R s args own index y bytes maxL ret ws rm mc ms n ∧ (Cond.static y).before args s = true) (hp : PreS s H Pc As)
    (hg : g.method = m) (hn : As.length = n) (hsize : g.locals.size = nL) (hstack : g.stack = As.reverse ++ rest) (hW : 2 * g.monitorRoom + (rest.map fun v => v.category).sum ≤ 8) (hdg : decode cc g.pc = .ok (.invokestatic index, 3)) (hf : cells + mc ≤ R.cells ∧ slots + ms ≤ R.slots) :
    vx_Run p l e R s m args below meth c H locs cells slots mc ms g rest (Qc As.toArray) XC free := by
  have hK : vx_Back l R p e below s args y 3 8 (PreOf R mc ms Pc) (PostOf Qc mc ms free) (vx_Post XC mc ms free) := vx_callBack cw.1 hM hp.1
  obtain ⟨⟨-, -, -, -, -, -, hcode, hini, hy, hlen, hl⟩, hstt⟩ := cw
  obtain ⟨hx, hb, hml, ho, -⟩ := S
  intro T hT X
  rcases vx_callS X hx (bytes := bytes) (maxL := maxL) (ret := ret) ho hl hstt hini hcode hy hK hg (hsize.trans hml.symm) (argsL := As) (rest := rest) (fun sig h => hn.trans (hlen sig h)) hstack hW (by rw [hb]; exact hdg)
    (fun vm₁ hW₁ => ⟨hf.1, hf.2, hp.2 (T.setVm vm₁) hT hW₁⟩) with ⟨v, vm₁, ⟨U', l2, c2, s2⟩, hW₁, X', ⟨g', mk, t, L, e1, e2, hq, h1, hL, h2, h3⟩, st⟩ | ⟨q, vm₁, ⟨U', l2, c2, s2⟩, hW₁, X', ⟨g', mk, t, L, E, ce, e1, e2, hq, hce, hcv, hcl, h1, hL, h2, h3⟩, st⟩
  · dsimp only [Pt.U, Pt.locs, Pt.cells, Pt.slots] at X' e1 e2 h1 h2 h3 st
    subst h1; subst h2; subst h3
    exact Or.inl ⟨v, (T.setVm vm₁).calling g' mk As.toArray, t, U', L, hT, X', hL, e1, e2, hq, st⟩
  · dsimp only [Pt.U, Pt.locs, Pt.cells, Pt.slots] at X' e1 e2 h1 h2 h3 st hcl
    subst h1; subst h2; subst h3
    exact Or.inr ⟨q, (T.setVm vm₁).calling g' mk As.toArray, t, U', L, E, ce, hT, X', hL, e1, e2, hq, hce, hcv, vx_cls hW₁ hcl, st⟩
end Runs
section Rows
variable {p : Program} {l : Launch} {e : Env} {R : Room} {s : State} {m : MethodId} {args : Array Value} {below : List Frame} {meth : Method} {c : Code} {H : Heap} {locs : List Loc} {cells slots : Nat} {Q : State → Prop}
variable {mc ms : Nat} {free : Addr → Prop} {A0 A1 : Nat → Prop} {H0 : Heap} {a : Array Value} {pc : Nat} {ls : Array Slot} {st0 rest : List Value}
theorem vx_keep {st₀ t T' : State} {L : List Loc} (h0 : st₀.heap = H) (e1 : T'.heap = t.heap) (hS : va_S A0 H0 H locs) (hA : ∀ q, q < H.size → A1 q → A0 q) (hf : ∀ q, free q → A0 q) (hL : ∀ q ∈ L, free q.base) (hF : va_F A1 st₀ t) :
    H.size ≤ T'.heap.size ∧ (∀ q : Nat, q < H.size → ¬ A1 q → T'.heap[q]? = H[q]?) ∧ va_S A0 H0 T'.heap (locs ++ L) := by
  obtain ⟨hz, hk⟩ := hF
  rw [h0] at hz hk
  exact ⟨by rw [e1]; exact hz, fun q h1 h2 => by rw [e1]; exact hk q h1 h2,
    ⟨Nat.le_trans hS.1 (by rw [e1]; exact hz), fun q h1 h2 => by rw [e1, hk q (Nat.lt_of_lt_of_le h1 hS.1) (fun z => h2 (hA q (Nat.lt_of_lt_of_le h1 hS.1) z))]; exact hS.2.1 q h1 h2, fun q hq => by
      rcases List.mem_append.mp hq with h | h
      · exact hS.2.2 q h
      · exact hf _ (hL q h)⟩⟩
theorem vx_calli {S SX : Type} {post : Int32 → S → Prop} {px : SX → Prop} {B : S → State → Prop} {BX : String → SX → State → Prop} {AX : Nat → Prop} (hr : vx_Run p l e R s m args below meth c H locs cells slots mc ms (F0 m pc ls st0) rest (va_Qi post B A1 a) (vx_X px BX AX) free) (hS : va_S A0 H0 H locs) (hA : ∀ q, q < H.size → A1 q → A0 q) (hf : ∀ q, free q → A0 q) (hAX : ∀ q, q < H.size → AX q → A0 q)
    (kx : ∀ (E : String) (ce : Cell) (q9 : Addr) (u : SX) (t : State) (H1 : Heap) (locs1 : List Loc), t.heap = H1 → s.vm.Alike t.vm → px u → BX E u t → H.size ≤ H1.size → (∀ q : Nat, q < H.size → ¬ AX q → H1[q]? = H[q]?) → va_S A0 H0 H1 locs1 → H1[q9]? = some ce → ce.vm = .none → s.vm.findClass E = some ce.cls → vx_W p l e R s m args below meth c H1 locs1 (cells + mc) (slots + ms) Q (F0 m pc ls rest) q9)
    (kk : ∀ (r : Int32) (u : S) (t : State) (H1 : Heap) (locs1 : List Loc), t.heap = H1 → s.vm.Alike t.vm → post r u → B u t → H.size ≤ H1.size → (∀ q : Nat, q < H.size → ¬ A1 q → H1[q]? = H[q]?) → va_S A0 H0 H1 locs1 → W p l e R s m args below meth c H1 locs1 (cells + mc) (slots + ms) Q (F0 m (pc + 3) ls (.int r :: rest))) : W p l e R s m args below meth c H locs cells slots Q (F0 m pc ls st0) := by
  intro T hT X
  rcases hr T hT X with ⟨v, st₀, t, T', L, h0, X', hL, e1, e2, ⟨⟨r, u, hv, hp, hb⟩, hF⟩, st⟩ | ⟨q, st₀, t, T', L, E, ce, h0, X', hL, e1, e2, ⟨u, hp, hb, hF⟩, hce, hcv, hcl, st⟩
  · cases hv
    obtain ⟨k1, k2, k3⟩ := vx_keep h0 e1 hS hA hf hL hF
    obtain ⟨t2, a1, b1⟩ := kk r u t T'.heap (locs ++ L) e1.symm (by rw [← e2]; exact X'.warmed.alike) hp hb k1 k2 k3 T' rfl X'
    exact ⟨t2, st t2 a1, b1⟩
  · obtain ⟨k1, k2, k3⟩ := vx_keep h0 e1 hS hAX hf hL hF
    obtain ⟨t2, a1, b1⟩ := kx E ce q u t T'.heap (locs ++ L) e1.symm (by rw [← e2]; exact X'.warmed.alike) hp hb k1 k2 k3 (by rw [e1]; exact hce) hcv hcl T' rfl X'
    exact ⟨t2, st.trans a1, b1⟩
theorem vx_calll {S SX : Type} {post : Int64 → S → Prop} {px : SX → Prop} {B : S → State → Prop} {BX : String → SX → State → Prop} {AX : Nat → Prop} (hr : vx_Run p l e R s m args below meth c H locs cells slots mc ms (F0 m pc ls st0) rest (va_Ql post B A1 a) (vx_X px BX AX) free) (hS : va_S A0 H0 H locs) (hA : ∀ q, q < H.size → A1 q → A0 q) (hf : ∀ q, free q → A0 q) (hAX : ∀ q, q < H.size → AX q → A0 q)
    (kx : ∀ (E : String) (ce : Cell) (q9 : Addr) (u : SX) (t : State) (H1 : Heap) (locs1 : List Loc), t.heap = H1 → s.vm.Alike t.vm → px u → BX E u t → H.size ≤ H1.size → (∀ q : Nat, q < H.size → ¬ AX q → H1[q]? = H[q]?) → va_S A0 H0 H1 locs1 → H1[q9]? = some ce → ce.vm = .none → s.vm.findClass E = some ce.cls → vx_W p l e R s m args below meth c H1 locs1 (cells + mc) (slots + ms) Q (F0 m pc ls rest) q9)
    (kk : ∀ (r : Int64) (u : S) (t : State) (H1 : Heap) (locs1 : List Loc), t.heap = H1 → s.vm.Alike t.vm → post r u → B u t → H.size ≤ H1.size → (∀ q : Nat, q < H.size → ¬ A1 q → H1[q]? = H[q]?) → va_S A0 H0 H1 locs1 → W p l e R s m args below meth c H1 locs1 (cells + mc) (slots + ms) Q (F0 m (pc + 3) ls (.long r :: rest))) : W p l e R s m args below meth c H locs cells slots Q (F0 m pc ls st0) := by
  intro T hT X
  rcases hr T hT X with ⟨v, st₀, t, T', L, h0, X', hL, e1, e2, ⟨⟨r, u, hv, hp, hb⟩, hF⟩, st⟩ | ⟨q, st₀, t, T', L, E, ce, h0, X', hL, e1, e2, ⟨u, hp, hb, hF⟩, hce, hcv, hcl, st⟩
  · cases hv
    obtain ⟨k1, k2, k3⟩ := vx_keep h0 e1 hS hA hf hL hF
    obtain ⟨t2, a1, b1⟩ := kk r u t T'.heap (locs ++ L) e1.symm (by rw [← e2]; exact X'.warmed.alike) hp hb k1 k2 k3 T' rfl X'
    exact ⟨t2, st t2 a1, b1⟩
  · obtain ⟨k1, k2, k3⟩ := vx_keep h0 e1 hS hAX hf hL hF
    obtain ⟨t2, a1, b1⟩ := kx E ce q u t T'.heap (locs ++ L) e1.symm (by rw [← e2]; exact X'.warmed.alike) hp hb k1 k2 k3 (by rw [e1]; exact hce) hcv hcl T' rfl X'
    exact ⟨t2, st.trans a1, b1⟩
theorem vx_callf {S SX : Type} {post : UInt32 → S → Prop} {px : SX → Prop} {B : S → State → Prop} {BX : String → SX → State → Prop} {AX : Nat → Prop} (hr : vx_Run p l e R s m args below meth c H locs cells slots mc ms (F0 m pc ls st0) rest (va_Qf post B A1 a) (vx_X px BX AX) free) (hS : va_S A0 H0 H locs) (hA : ∀ q, q < H.size → A1 q → A0 q) (hf : ∀ q, free q → A0 q) (hAX : ∀ q, q < H.size → AX q → A0 q)
    (kx : ∀ (E : String) (ce : Cell) (q9 : Addr) (u : SX) (t : State) (H1 : Heap) (locs1 : List Loc), t.heap = H1 → s.vm.Alike t.vm → px u → BX E u t → H.size ≤ H1.size → (∀ q : Nat, q < H.size → ¬ AX q → H1[q]? = H[q]?) → va_S A0 H0 H1 locs1 → H1[q9]? = some ce → ce.vm = .none → s.vm.findClass E = some ce.cls → vx_W p l e R s m args below meth c H1 locs1 (cells + mc) (slots + ms) Q (F0 m pc ls rest) q9)
    (kk : ∀ (r : UInt32) (u : S) (t : State) (H1 : Heap) (locs1 : List Loc), t.heap = H1 → s.vm.Alike t.vm → post r u → B u t → H.size ≤ H1.size → (∀ q : Nat, q < H.size → ¬ A1 q → H1[q]? = H[q]?) → va_S A0 H0 H1 locs1 → W p l e R s m args below meth c H1 locs1 (cells + mc) (slots + ms) Q (F0 m (pc + 3) ls (.float r :: rest))) : W p l e R s m args below meth c H locs cells slots Q (F0 m pc ls st0) := by
  intro T hT X
  rcases hr T hT X with ⟨v, st₀, t, T', L, h0, X', hL, e1, e2, ⟨⟨r, u, hv, hp, hb⟩, hF⟩, st⟩ | ⟨q, st₀, t, T', L, E, ce, h0, X', hL, e1, e2, ⟨u, hp, hb, hF⟩, hce, hcv, hcl, st⟩
  · cases hv
    obtain ⟨k1, k2, k3⟩ := vx_keep h0 e1 hS hA hf hL hF
    obtain ⟨t2, a1, b1⟩ := kk r u t T'.heap (locs ++ L) e1.symm (by rw [← e2]; exact X'.warmed.alike) hp hb k1 k2 k3 T' rfl X'
    exact ⟨t2, st t2 a1, b1⟩
  · obtain ⟨k1, k2, k3⟩ := vx_keep h0 e1 hS hAX hf hL hF
    obtain ⟨t2, a1, b1⟩ := kx E ce q u t T'.heap (locs ++ L) e1.symm (by rw [← e2]; exact X'.warmed.alike) hp hb k1 k2 k3 (by rw [e1]; exact hce) hcv hcl T' rfl X'
    exact ⟨t2, st.trans a1, b1⟩
theorem vx_calld {S SX : Type} {post : UInt64 → S → Prop} {px : SX → Prop} {B : S → State → Prop} {BX : String → SX → State → Prop} {AX : Nat → Prop} (hr : vx_Run p l e R s m args below meth c H locs cells slots mc ms (F0 m pc ls st0) rest (va_Qd post B A1 a) (vx_X px BX AX) free) (hS : va_S A0 H0 H locs) (hA : ∀ q, q < H.size → A1 q → A0 q) (hf : ∀ q, free q → A0 q) (hAX : ∀ q, q < H.size → AX q → A0 q)
    (kx : ∀ (E : String) (ce : Cell) (q9 : Addr) (u : SX) (t : State) (H1 : Heap) (locs1 : List Loc), t.heap = H1 → s.vm.Alike t.vm → px u → BX E u t → H.size ≤ H1.size → (∀ q : Nat, q < H.size → ¬ AX q → H1[q]? = H[q]?) → va_S A0 H0 H1 locs1 → H1[q9]? = some ce → ce.vm = .none → s.vm.findClass E = some ce.cls → vx_W p l e R s m args below meth c H1 locs1 (cells + mc) (slots + ms) Q (F0 m pc ls rest) q9)
    (kk : ∀ (r : UInt64) (u : S) (t : State) (H1 : Heap) (locs1 : List Loc), t.heap = H1 → s.vm.Alike t.vm → post r u → B u t → H.size ≤ H1.size → (∀ q : Nat, q < H.size → ¬ A1 q → H1[q]? = H[q]?) → va_S A0 H0 H1 locs1 → W p l e R s m args below meth c H1 locs1 (cells + mc) (slots + ms) Q (F0 m (pc + 3) ls (.double r :: rest))) : W p l e R s m args below meth c H locs cells slots Q (F0 m pc ls st0) := by
  intro T hT X
  rcases hr T hT X with ⟨v, st₀, t, T', L, h0, X', hL, e1, e2, ⟨⟨r, u, hv, hp, hb⟩, hF⟩, st⟩ | ⟨q, st₀, t, T', L, E, ce, h0, X', hL, e1, e2, ⟨u, hp, hb, hF⟩, hce, hcv, hcl, st⟩
  · cases hv
    obtain ⟨k1, k2, k3⟩ := vx_keep h0 e1 hS hA hf hL hF
    obtain ⟨t2, a1, b1⟩ := kk r u t T'.heap (locs ++ L) e1.symm (by rw [← e2]; exact X'.warmed.alike) hp hb k1 k2 k3 T' rfl X'
    exact ⟨t2, st t2 a1, b1⟩
  · obtain ⟨k1, k2, k3⟩ := vx_keep h0 e1 hS hAX hf hL hF
    obtain ⟨t2, a1, b1⟩ := kx E ce q u t T'.heap (locs ++ L) e1.symm (by rw [← e2]; exact X'.warmed.alike) hp hb k1 k2 k3 (by rw [e1]; exact hce) hcv hcl T' rfl X'
    exact ⟨t2, st.trans a1, b1⟩
theorem vx_callv {S SX : Type} {post : S → Prop} {px : SX → Prop} {B : S → State → Prop} {BX : String → SX → State → Prop} {AX : Nat → Prop} (hr : vx_Run p l e R s m args below meth c H locs cells slots mc ms (F0 m pc ls st0) rest (va_Qv post B A1 a) (vx_X px BX AX) free) (hS : va_S A0 H0 H locs) (hA : ∀ q, q < H.size → A1 q → A0 q) (hf : ∀ q, free q → A0 q) (hAX : ∀ q, q < H.size → AX q → A0 q)
    (kx : ∀ (E : String) (ce : Cell) (q9 : Addr) (u : SX) (t : State) (H1 : Heap) (locs1 : List Loc), t.heap = H1 → s.vm.Alike t.vm → px u → BX E u t → H.size ≤ H1.size → (∀ q : Nat, q < H.size → ¬ AX q → H1[q]? = H[q]?) → va_S A0 H0 H1 locs1 → H1[q9]? = some ce → ce.vm = .none → s.vm.findClass E = some ce.cls → vx_W p l e R s m args below meth c H1 locs1 (cells + mc) (slots + ms) Q (F0 m pc ls rest) q9)
    (kk : ∀ (u : S) (t : State) (H1 : Heap) (locs1 : List Loc), t.heap = H1 → s.vm.Alike t.vm → post u → B u t → H.size ≤ H1.size → (∀ q : Nat, q < H.size → ¬ A1 q → H1[q]? = H[q]?) → va_S A0 H0 H1 locs1 → W p l e R s m args below meth c H1 locs1 (cells + mc) (slots + ms) Q (F0 m (pc + 3) ls (rest))) : W p l e R s m args below meth c H locs cells slots Q (F0 m pc ls st0) := by
  intro T hT X
  rcases hr T hT X with ⟨v, st₀, t, T', L, h0, X', hL, e1, e2, ⟨⟨u, hv, hp, hb⟩, hF⟩, st⟩ | ⟨q, st₀, t, T', L, E, ce, h0, X', hL, e1, e2, ⟨u, hp, hb, hF⟩, hce, hcv, hcl, st⟩
  · cases hv
    obtain ⟨k1, k2, k3⟩ := vx_keep h0 e1 hS hA hf hL hF
    obtain ⟨t2, a1, b1⟩ := kk u t T'.heap (locs ++ L) e1.symm (by rw [← e2]; exact X'.warmed.alike) hp hb k1 k2 k3 T' rfl X'
    exact ⟨t2, st t2 a1, b1⟩
  · obtain ⟨k1, k2, k3⟩ := vx_keep h0 e1 hS hAX hf hL hF
    obtain ⟨t2, a1, b1⟩ := kx E ce q u t T'.heap (locs ++ L) e1.symm (by rw [← e2]; exact X'.warmed.alike) hp hb k1 k2 k3 (by rw [e1]; exact hce) hcv hcl T' rfl X'
    exact ⟨t2, st.trans a1, b1⟩
/-- caught by the row x of this method's table; the rows ahead don't take it -/
theorem vx_catch {own name : String} {E : String} {ce : Cell} {q : Addr} (hown : s.vm.findClass own = some m.cls) (pre : List ExceptionTableEntry) (x : ExceptionTableEntry) (suf : List ExceptionTableEntry) (hsplit : c.exceptionTable.toList = pre ++ x :: suf)
    (hpass : ∀ z ∈ pre, covers z pc = false ∨ (z.catchType ≠ 0 ∧ ∃ nm : String, (Cond.classLink own z.catchType nm).before args s = true ∧ va_Nc E nm s)) (hx : covers x pc = true) (h0 : x.catchType ≠ 0)
    (hlink : (Cond.classLink own x.catchType name).before args s = true) (hcast : (Cond.castable E name).before args s = true) (hcell : H[q]? = some ce) (hv : ce.vm = .none) (hcl : s.vm.findClass E = some ce.cls)
    (kk : W p l e R s m args below meth c H locs cells slots Q (F0 m x.handlerPc ls [.ref q])) : vx_W p l e R s m args below meth c H locs cells slots Q (F0 m pc ls rest) q := by
  intro T hT X
  have hpl : e.platform.magicAccessors = ({} : Platform).magicAccessors := by rw [X.admits.platform]
  obtain ⟨c3, c4, hc3, hc4, hasg⟩ := Cond.castable_spec hcast
  cases Option.some.inj (hc3.symm.trans hcl)
  obtain ⟨c5, hc5, hcl5⟩ := Cond.classLink_spec hown hlink e.platform hpl
  cases Option.some.inj (hc4.symm.trans hc5)
  obtain ⟨vm', X', st⟩ := X.thenCaughtThrough q (g := F0 m pc ls rest) rfl (Steps.refl _) (by rw [hT]; exact hcell) (by rw [hv]; rfl) (by obtain ⟨k9, h9, -⟩ := Vm.findClass_spec hcl; exact ⟨k9, h9⟩) pre x suf hsplit
    (fun z hz => by
      rcases hpass z hz with h | ⟨hz0, nm, hl1, hn1⟩
      · exact Or.inl h
      · obtain ⟨c6, hc6, hcl6⟩ := Cond.classLink_spec hown hl1 e.platform hpl
        obtain ⟨a8, b8, h1, h2, h3⟩ := hn1
        cases Option.some.inj (h1.symm.trans hcl)
        cases Option.some.inj (h2.symm.trans hc6)
        exact Or.inr ⟨hz0, _, hcl6, h3⟩) hx (Or.inr ⟨h0, c4, hcl5, hasg⟩)
  obtain ⟨t, a1, b1⟩ := kk (T.setVm vm') hT X'
  exact ⟨t, st.trans a1, b1⟩
end Rows
section Ends
variable {p : Program} {l : Launch} {e : Env} {R : Room} {s : State} {m : MethodId} {args : Array Value} {below : List Frame} {meth : Method} {c : Code} {H : Heap} {locs : List Loc} {cells slots : Nat} {Q : State → Prop}
variable {mc ms : Nat} {free : Addr → Prop} {A0 A1 : Nat → Prop} {H0 : Heap} {a : Array Value} {ls : Array Slot} {st0 rest : List Value}
variable {Qc : Array Value → State → Outcome → State → Prop} {XC : String → State → State → Prop}
/-- what a body that may throw owes at its end -/
def vx_MQ (below : List Frame) (Qc : Array Value → State → Outcome → State → Prop) (XC : String → State → State → Prop) (a : Array Value) (s : State) (mc ms : Nat) (free : Addr → Prop) : State → Prop := fun t =>
  ∃ o, t.status = .running ∧ Ended t below o ∧ vx_Q Qc XC mc ms free a s o t
theorem vx_ret {g : JFrame} {mc ms : Nat} (k : W p l e R s m args below meth c H locs cells slots (MQ below Qc args s mc ms free) g) : W p l e R s m args below meth c H locs cells slots (vx_MQ below Qc XC args s mc ms free) g := by
  intro T hT X
  obtain ⟨t, a1, o, b1, b2, b3, b4⟩ := k T hT X
  exact ⟨t, a1, o, b1, b2, Or.inl ⟨b3, b4⟩⟩
/-- not caught here: it goes on to the caller -/
theorem vx_widen {g : JFrame} {q : Addr} {k n : Nat} (h1 : cells ≤ k) (h2 : slots ≤ n) (kk : vx_W p l e R s m args below meth c H locs k n Q g q) : vx_W p l e R s m args below meth c H locs cells slots Q g q := fun T hT X => kk T hT (stand_widen X h1 h2)
theorem vx_out {pc : Nat} {E : String} {ce : Cell} {q : Addr} {mc ms : Nat} (hout : ∀ x ∈ c.exceptionTable.toList, covers x pc = false) (hlocks : meth.locks = false) (hcell : H[q]? = some ce) (hv : ce.vm = .none) (hcl : s.vm.findClass E = some ce.cls)
    (hx : ∀ t : State, t.heap = H → s.vm.Alike t.vm → XC E s t) (hf : ∀ z ∈ locs, free z.base) (hc : cells ≤ mc) (hs : slots ≤ ms) :
    vx_W p l e R s m args below meth c H locs cells slots (vx_MQ below Qc XC args s mc ms free) (F0 m pc ls rest) q := by
  intro T hT X
  obtain ⟨st1, hrun, hend, hW, hsm⟩ := X.leaveThrown q (g := F0 m pc ls rest) rfl rfl rfl hout hlocks
  have hcell9 : (T.setFrames (.throwing q :: below)).heap[q]? = some ce := by
    show T.heap[q]? = some ce
    rw [hT]; exact hcell
  exact ⟨_, st1, .threw q, hrun, hend, Or.inr ⟨q, rfl, E, ce, locs, hx _ hT hW.alike, hcell9, hv, hcl, hW, hsm.mono hc hs, hf⟩⟩
theorem vx_frame {U : State} {k n : Nat} (h : s.sameButNew ({ U with vm := s.vm } : State) locs k n) : s.heap.size ≤ U.heap.size ∧ ∀ q : Nat, q < s.heap.size → (∀ z ∈ locs, z.base ≠ q) → U.heap[q]? = s.heap[q]? := by
  obtain ⟨-, h2, -, -, -, h6⟩ := h
  refine ⟨h2, fun q hq hz => ?_⟩
  obtain ⟨c9, e1, e2, e3, e4⟩ := h6 q _ (Array.getElem?_eq_getElem hq)
  have hs : c9.slots = (s.heap[q]).slots := Array.ext_getElem? fun i => e4 i fun hm => hz _ hm rfl
  have h9 : c9 = s.heap[q] := by
    rw [hs] at e2
    exact e2
  have e5 : U.heap[q]? = some c9 := e1
  rw [e5, h9, Array.getElem?_eq_getElem hq]
/-- the words of a throw but the four that speak of the heap -/
def vx_no (w : Cond) : Bool := decide (w ≠ .isRef (.static Bundle.tN "UNASSIGNED_STACK" Bundle.steD)) && decide (w ≠ .isRef (.static Bundle.tN "SUPPRESSED_SENTINEL" Bundle.listD)) && decide (w ≠ .laysStatic Bundle.tN "UNASSIGNED_STACK" Bundle.steD) && decide (w ≠ .laysStatic Bundle.tN "SUPPRESSED_SENTINEL" Bundle.listD)
def vx_at0 (own : String) (ic : Nat) (X : String) (names : List String) : List Cond := (Bundle.ownAtoms0 own ic X names).filter vx_no
def vx_atS (own : String) (ic : Nat) (X : String) (names : List String) : List Cond := (Bundle.ownAtoms own ic X names).filter vx_no
/-- a word that the tables alone decide, or a good one -/
def vx_ot (w : Cond) : Bool := w.onTables || goodWord w
theorem vx_ot_at {args a' : Array Value} {s U : State} {w : Cond} (hW : s.WarmedH U.vm) (hvm : s.vm = U.vm) (hg : vx_ot w = true) (h : w.before args s = true) : w.before a' U = true := by
  simp only [vx_ot, Bool.or_eq_true] at hg
  rcases hg with hg | hg
  · exact va_tabs hg hvm h
  · exact word_at hW (good_of_word hg) h
/-- a list's words: the good ones out of the method's own list, the others by premises of their own -/
theorem vx_hat {args : Array Value} {s : State} {L B : List Cond} (h1 : ∀ w ∈ L.filter goodWord, w.before args s = true) (h2 : ∀ w ∈ L.filter (fun w => !goodWord w), w ∈ B) (h3 : ∀ w ∈ B, w.before args s = true) : ∀ w ∈ L, w.before args s = true := by
  intro w hw
  by_cases g : goodWord w = true
  · exact h1 w (List.mem_filter.mpr ⟨hw, g⟩)
  · refine h3 w (h2 w (List.mem_filter.mpr ⟨hw, ?_⟩))
    show (!goodWord w) = true
    cases hgw : goodWord w
    · rfl
    · exact absurd hgw g
theorem vx_c {args : Array Value} {s : State} {w : Cond} {B : List Cond} (h : w.before args s = true) (t : ∀ w ∈ B, w.before args s = true) : ∀ w' ∈ w :: B, w'.before args s = true := fun w' h' => (List.mem_cons.mp h').elim (fun e => by rw [e]; exact h) (t w')
theorem vx_n {args : Array Value} {s : State} : ∀ w ∈ ([] : List Cond), w.before args s = true := fun _ h => nomatch h
theorem vx_own {args : Array Value} {s : State} {L : List Cond} (h1 : ∀ w ∈ L.filter vx_no, w.before args s = true)
    (hU : (Cond.isRef (.static Bundle.tN "UNASSIGNED_STACK" Bundle.steD)).before args s = true) (hN : (Cond.isRef (.static Bundle.tN "SUPPRESSED_SENTINEL" Bundle.listD)).before args s = true)
    (lU : (Cond.laysStatic Bundle.tN "UNASSIGNED_STACK" Bundle.steD).before args s = true) (lN : (Cond.laysStatic Bundle.tN "SUPPRESSED_SENTINEL" Bundle.listD).before args s = true) : ∀ w ∈ L, w.before args s = true := by
  intro w hw
  by_cases e1 : w = .isRef (.static Bundle.tN "UNASSIGNED_STACK" Bundle.steD)
  · rw [e1]; exact hU
  · by_cases e2 : w = .isRef (.static Bundle.tN "SUPPRESSED_SENTINEL" Bundle.listD)
    · rw [e2]; exact hN
    · by_cases e3 : w = .laysStatic Bundle.tN "UNASSIGNED_STACK" Bundle.steD
      · rw [e3]; exact lU
      · by_cases e4 : w = .laysStatic Bundle.tN "SUPPRESSED_SENTINEL" Bundle.listD
        · rw [e4]; exact lN
        · exact h1 w (List.mem_filter.mpr ⟨hw, by unfold vx_no; rw [decide_eq_true e1, decide_eq_true e2, decide_eq_true e3, decide_eq_true e4]; rfl⟩)
/-- where a static field lies, its class's statics cell in H -/
def vx_L (C n d : String) (A : Nat → Prop) (U : State) (H : Heap) : Prop := ∃ (c : ClassId) (k : Class) (i : Nat) (f : Field) (a : Nat) (cell : Cell), U.vm.findClass C = some c ∧ U.fieldFound? C n d = some (c, k, i, f) ∧ f.isStatic = true ∧ k.statics = some a ∧ H[a]? = some cell ∧ cell.vm.isStatics = true ∧ cell.cls = c ∧ f.slot < cell.slots.size ∧ k.staticTypes[f.slot]? = some f.type ∧ ¬ A a
theorem vx_L.moved {C n d : String} {A : Nat → Prop} {u U : State} {H : Heap} (hvm : u.vm.Alike U.vm) (h : vx_L C n d A u H) : vx_L C n d A U H := by
  obtain ⟨c, k, i, f, a, cell, h1, h2, h3, h4, h5, h6, h7, h8, h9, h10⟩ := h
  obtain ⟨k', hi', he⟩ := State.fieldFound?_setVm hvm h2
  exact ⟨c, k', i, f, a, cell, by rw [hvm.findClass]; exact h1, hi', h3, by rw [he]; exact h4, h5, h6, h7, h8, by rw [he]; exact h9, h10⟩
theorem vx_L.kept {C n d : String} {A : Nat → Prop} {U : State} {H H1 : Heap} (h : vx_L C n d A U H) (hq : ∀ a : Nat, a < H.size → ¬ A a → H1[a]? = H[a]?) : vx_L C n d A U H1 := by
  obtain ⟨c, k, i, f, a, cell, h1, h2, h3, h4, h5, h6, h7, h8, h9, h10⟩ := h
  exact ⟨c, k, i, f, a, cell, h1, h2, h3, h4, by rw [hq a (Array.getElem?_eq_some_iff.mp h5).1 h10]; exact h5, h6, h7, h8, h9, h10⟩
theorem vx_L.narrow {C n d : String} {A B : Nat → Prop} {U : State} {H : Heap} (h : vx_L C n d A U H) (hAB : ∀ q, B q → A q) : vx_L C n d B U H := by
  obtain ⟨c, k, i, f, a, cell, h1, h2, h3, h4, h5, h6, h7, h8, h9, h10⟩ := h
  exact ⟨c, k, i, f, a, cell, h1, h2, h3, h4, h5, h6, h7, h8, h9, fun z => h10 (hAB _ z)⟩
theorem vx_L.word {C n d : String} {A : Nat → Prop} {s : State} {args : Array Value} (h : vx_L C n d A s s.heap) : (Cond.laysStatic C n d).before args s = true := by
  obtain ⟨c, k, i, f, a, cell, h1, h2, h3, h4, h5, h6, h7, h8, h9, -⟩ := h
  show (Cond.laysStatic C n d).holds args s none s [] = true
  exact Cond.laysStatic_of h1 h2 h3 h4 h5 h6 h7 h8 h9
/-- .. and what it holds: null or some reference -/
def vx_Zq (C n d : String) (A : Nat → Prop) (U : State) (H : Heap) : Prop := va_Zq C n d A U H ∧ vx_L C n d A U H
theorem vx_Zq.moved {C n d : String} {A : Nat → Prop} {u U : State} {H : Heap} (hvm : u.vm.Alike U.vm) (h : vx_Zq C n d A u H) : vx_Zq C n d A U H := ⟨va_Zq.moved hvm h.1, vx_L.moved hvm h.2⟩
theorem vx_Zq.kept {C n d : String} {A : Nat → Prop} {U : State} {H H1 : Heap} (h : vx_Zq C n d A U H) (hq : ∀ a : Nat, a < H.size → ¬ A a → H1[a]? = H[a]?) : vx_Zq C n d A U H1 := ⟨va_Zq.kept h.1 hq, vx_L.kept h.2 hq⟩
theorem vx_Zq.narrow {C n d : String} {A B : Nat → Prop} {U : State} {H : Heap} (h : vx_Zq C n d A U H) (hAB : ∀ q, B q → A q) : vx_Zq C n d B U H := ⟨va_Zq.narrow h.1 hAB, vx_L.narrow h.2 hAB⟩
theorem vx_Zqof {args : Array Value} {s : State} {C n d : String} {A : Nat → Prop} (hl : (Cond.laysStatic C n d).before args s = true) (hini : (Cond.initialized C).before args s = true) (h : (Cond.isRef (.static C n d)).before args s = true) (hA : ∀ a : Nat, a < s.heap.size → ¬ A a) : vx_Zq C n d A s s.heap := by
  refine ⟨va_Zqof hl hini h hA, ?_⟩
  obtain ⟨c, k, i, f, a, cell, h1, h2, h3, h4, h5, h6, h7, h8, h9⟩ := Cond.laysStatic_spec hl
  exact ⟨c, k, i, f, a, cell, h1, h2, h3, h4, h5, h6, h7, h8, h9, hA a (Array.getElem?_eq_some_iff.mp h5).1⟩
theorem vx_isRef {C n d : String} {v : Value} {A : Nat → Prop} {s : State} {args : Array Value} (h : va_Z C n d v A s s.heap) (hv : v.isRef = true) : (Cond.isRef (.static C n d)).before args s = true := by
  obtain ⟨cf, kf, fi, f, a, cell, h1, h2, h3, h4, h5, h6, h7, -⟩ := h
  have he : (Term.static C n d).eval args s none [] s = some v := by
    simp [Term.eval, State.fieldNamed?, h1, h2, h4, h5, h6, h7]
  simp only [Cond.before, Cond.holds, Cond.value, he]
  cases v <;> simp_all [Value.isRef]
theorem vx_isRefq {C n d : String} {A : Nat → Prop} {s : State} {args : Array Value} (h : va_Zq C n d A s s.heap) : (Cond.isRef (.static C n d)).before args s = true := by
  rcases h with h | ⟨t, h⟩
  · exact vx_isRef h rfl
  · exact vx_isRef h rfl
/-- the same frame, seen from here: as if the method were called anew in this heap -/
theorem vx_rebase {T : State} (X : Stand p l e R s m args below meth c T locs cells slots) {R' : Room} (hf : R'.frames ≤ R.frames) (hl : R'.locals ≤ R.locals) (hc : cells + R'.cells ≤ R.cells) (hs : slots + R'.slots ≤ R.slots) :
    Stand p l e R' ((T.setVm s.vm).setFrames (.invoking m args :: below)) m args below meth c T [] 0 0 := by
  have htop : (T.setVm s.vm).topJava?.isSome := X.here.top
  have hF : ((T.setVm s.vm).setFrames (.invoking m args :: below)).frames = .invoking m args :: below := State.frames_setFrames _ (State.cur_lt_of_top htop)
  obtain ⟨g₀, hg0⟩ := Option.isSome_iff_exists.mp htop
  obtain ⟨r, hr⟩ := State.topJava?_eq_some.mp hg0
  have hl9 : e.platform.stackLimits (T.setVm s.vm).me = e.platform.stackLimits s.me := X.limits
  have hb9 : (T.setVm s.vm).me.stackBytes = s.me.stackBytes := X.bytes
  refine ⟨X.admits, X.cas, X.clock, hF, ?_, X.hears, X.method, X.code, X.here, X.tail, X.warmed, ?_, ?_, ?_⟩
  · have h := X.room
    have hU : ((T.setVm s.vm).setFrames (.invoking m args :: below)).localsInUse = s.localsInUse := by
      rw [State.localsInUse_invoking hF (meth := meth) (c := c) X.method X.code, State.localsInUse_invoking X.frames X.method X.code]
    simp only [State.hasRoom, Bool.and_eq_true, decide_eq_true_eq] at h ⊢
    obtain ⟨⟨⟨⟨h1, h2, h3, h4, h5, h6⟩, h7⟩, h8⟩, h9⟩ := h
    rw [X.frames, List.length_cons] at h2 h3
    have q1 := X.heapSize
    have q2 := X.used
    simp only [hF, hU, List.length_cons, State.stackLimits_setFrames, State.stackBytes_setFrames, hl9, hb9]
    refine ⟨⟨⟨⟨by omega, by omega, by omega, by omega, by omega, h6⟩, ?_⟩, ?_⟩, X.book⟩
    · show T.heap.size + R'.cells ≤ e.platform.maxCells
      omega
    · show T.slotsUsed + R'.slots ≤ e.platform.maxSlots
      omega
  · rw [State.stackLimits_setFrames]; rfl
  · rw [State.stackBytes_setFrames]; rfl
  · refine ⟨?_, Nat.le_refl _, Nat.le_refl _, ?_, ?_, fun a c9 h9 => ⟨c9, h9, rfl, rfl, fun _ _ => rfl⟩⟩
    · obtain ⟨t, ht, -⟩ := State.frames_cons hr
      show T.setVm s.vm = { ((T.setVm s.vm).setFrames (.invoking m args :: below)).setFrames (T.setVm s.vm).frames with heap := T.heap, slotsUsed := T.slotsUsed }
      rw [State.setFrames_setFrames, State.setFrames_self ht]
      rfl
    · show T.slotsUsed = T.slotsUsed + ((T.heap.toList.drop T.heap.size).map (·.slots.size)).sum
      rw [List.drop_eq_nil_of_le (Nat.le_of_eq Array.length_toList)]
      rfl
    · show ((T.heap.toList.drop T.heap.size).map (·.slots.size)).sum ≤ 0
      rw [List.drop_eq_nil_of_le (Nat.le_of_eq Array.length_toList)]
      exact Nat.le_refl _
/-- 'throw new E()': new; dup; invokespecial; athrow -/
theorem vx_throw0 {cc : ByteArray} {pc : Nat} (hexec : p.tables.exec = Jvm.exec) (hb : c.code = cc) (hl : l.stackTraces = false) {own cls : String} {names : List String} {ik ic mc ms : Nat} {A : Nat → Prop}
    (hown : s.vm.findClass own = some m.cls) (hcls : Bundle.fit cls = true) (hnames : ∀ n ∈ names, Bundle.fit n = true)
    (hk : (Cond.classLink own ik cls).before args s = true) (hini : (Cond.initialized cls).before args s = true) (hat : ∀ w ∈ vx_at0 own ic cls names, w.before args s = true)
    (hgood : ∀ w ∈ Cond.classLink own ik cls :: Cond.initialized cls :: vx_at0 own ic cls names, vx_ot w = true)
    (hU : vx_Zq Bundle.tN "UNASSIGNED_STACK" Bundle.steD A s s.heap) (hN : vx_Zq Bundle.tN "SUPPRESSED_SENTINEL" Bundle.listD A s s.heap) (hS : va_S A s.heap H locs) (hsize : ls.size = c.maxLocals)
    (d0 : decode cc pc = .ok (.new ik, 3)) (d3 : decode cc (pc + 3) = .ok (.dup, 1)) (d4 : decode cc (pc + 4) = .ok (.invokespecial ic, 3)) (d7 : decode cc (pc + 7) = .ok (.athrow, 1))
    (hout : ∀ x ∈ c.exceptionTable.toList, covers x (pc + 7) = false)
    (hRframes : names.length + 3 < R.frames) (hRlocals : (rest.map fun v => v.category).sum + (13 * (names.length + 1) + 42) ≤ R.locals) (hRcells : cells + 1 ≤ R.cells) (hRslots : slots + 6 ≤ R.slots) (hlocks : meth.locks = false)
    (hx : ∀ t : State, s.vm.Alike t.vm → H.size ≤ t.heap.size → (∀ q : Nat, q < H.size → t.heap[q]? = H[q]?) → XC cls s t)
    (hf : ∀ z ∈ locs, free z.base) (hc : cells + 1 ≤ mc) (hs : slots + 6 ≤ ms) :
    W p l e R s m args below meth c H locs cells slots (vx_MQ below Qc XC args s mc ms free) (F0 m pc ls rest) := by
  intro T hT X
  have htr : e.platform.stackTraces = false := (show e.platform.stackTraces = l.stackTraces by rw [X.admits.platform]).trans hl
  have Y := vx_rebase X (R' := { frames := R.frames, locals := R.locals, cells := 1, slots := 6 }) (Nat.le_refl _) (Nat.le_refl _) hRcells hRslots
  obtain ⟨s', hA⟩ : ∃ z, z = (T.setVm s.vm).setFrames (.invoking m args :: below) := ⟨_, rfl⟩
  rw [← hA] at Y
  have hvm : s'.vm = s.vm := by rw [hA]; rfl
  have hhp : s'.heap = H := by rw [hA]; exact hT
  have hW0 : s.WarmedH s'.vm := by rw [hvm]; exact State.WarmedH.refl s
  have hat' : ∀ w ∈ vx_at0 own ic cls names, w.before args s' = true := fun w hw => vx_ot_at hW0 hvm.symm (hgood w (List.mem_cons_of_mem _ (List.mem_cons_of_mem _ hw))) (hat w hw)
  have hk' : (Cond.classLink own ik cls).before args s' = true := vx_ot_at hW0 hvm.symm (hgood _ List.mem_cons_self) hk
  have hini' : (Cond.initialized cls).before args s' = true := vx_ot_at hW0 hvm.symm (hgood _ (List.mem_cons_of_mem _ List.mem_cons_self)) hini
  have hU' : vx_Zq Bundle.tN "UNASSIGNED_STACK" Bundle.steD A s' s'.heap := by rw [hhp]; exact vx_Zq.moved hW0.alike (hU.kept hS.2.1)
  have hN' : vx_Zq Bundle.tN "SUPPRESSED_SENTINEL" Bundle.listD A s' s'.heap := by rw [hhp]; exact vx_Zq.moved hW0.alike (hN.kept hS.2.1)
  have h : ∀ w ∈ Bundle.ownAtoms0 own ic cls names, w.before args s' = true := vx_own hat' (vx_isRefq hU'.1) (vx_isRefq hN'.1) hU'.2.word hN'.2.word
  have hown' : s'.vm.findClass own = some m.cls := by rw [hvm]; exact hown
  have hins : (Cond.instantiable cls 6).before args s' = true := h _ (by simp [Bundle.ownAtoms0])
  obtain ⟨vm₁, cX, kX, hfX, hkX, -, -, X₁, st1⟩ := Y.newCold hexec (own := own) (C := cls) (index := ik) (n := 6) hown' hk' hins hini'
    (g := F0 m pc ls rest) rfl (by rw [hb]; exact d0) (Nat.le_refl _) (Nat.le_refl _)
  generalize hT1 : (T.setVm vm₁).pushCell { cls := cX, slots := kX.instanceTypes.map defaultValue, vm := .none } = T1 at X₁ st1
  have hcat : (Value.ref T.heap.size).category = 1 := rfl
  have hcellA : T1.heap[T.heap.size]? = some (freshCell cX kX) := by rw [← hT1]; exact State.heap_pushCell_size _ _
  have d3' : decode c.code (pc + 3) = .ok (.dup, 1) := by rw [hb]; exact d3
  obtain ⟨U, hsteps, hrun, hend, hW, hsame, ce, hce, hO⟩ := X₁.ctorThrow0 hexec htr (own := own) (cls := cls) (names := names) (ic := ic) hown' hcls hnames h (fun x hx => nomatch hx) hfX hkX hcellA (by rw [hhp, hT]; exact Nat.le_refl _)
    (g := { method := m, pc := pc + 4, locals := ls, stack := .ref T.heap.size :: .ref T.heap.size :: rest, locked := none }) rfl hsize rfl rfl (rest := rest) rfl
    (by rw [hb]; exact d4) (by rw [hb]; exact d7) hout hRframes (by simp only [List.map_cons, List.sum_cons, hcat]; omega) hlocks
  obtain ⟨f1, f2⟩ := vx_frame hsame
  rw [hhp] at f1 f2
  have hWs : s.WarmedH U.vm := State.WarmedH.trans hW0 hW
  have hcl : s.vm.findClass cls = some ce.cls := by
    have h9 := hO.cls
    rw [hvm] at h9
    exact h9
  have hall : s.sameButNew ({ U with vm := s.vm } : State) locs mc ms := by
    subst hA
    obtain ⟨e1, e2⟩ := hsame
    rw [State.setFrames_setFrames] at e1
    have h2 : (T.setVm s.vm).sameButNew ({ U with vm := s.vm } : State) [] (0 + 1) (0 + 6) := ⟨e1, e2⟩
    have h3 := X.same.trans h2
    rw [List.append_nil] at h3
    exact h3.mono hc hs
  refine ⟨U, ?_, .threw T.heap.size, hrun, hend, Or.inr ⟨T.heap.size, rfl, cls, ce, locs, hx U hWs.alike f1 (fun q hq => f2 q hq (fun z hz => nomatch hz)), hce, hO.vm, hcl, hWs, hall, hf⟩⟩
  refine st1 _ ?_
  show Steps p.tables e below (T1.setTop { method := m, pc := pc + 3, locals := ls, stack := .ref T.heap.size :: rest, locked := none }) _
  jvm_step X₁.here [X₁.here.top, hexec, d3', Value.category]
  exact hsteps
/-- 'throw new E("text")': new; dup; ldc; invokespecial; athrow -/
theorem vx_throwS {cc : ByteArray} {pc : Nat} (hexec : p.tables.exec = Jvm.exec) (hb : c.code = cc) (hl : l.stackTraces = false) {own cls text : String} {names : List String} {ik is ic mc ms sa : Nat} {A : Nat → Prop}
    (hown : s.vm.findClass own = some m.cls) (hcls : Bundle.fit cls = true) (hnames : ∀ n ∈ names, Bundle.fit n = true)
    (hk : (Cond.classLink own ik cls).before args s = true) (hini : (Cond.initialized cls).before args s = true) (hstr : vk_R own is text sa s) (hat : ∀ w ∈ vx_atS own ic cls names, w.before args s = true)
    (hgood : ∀ w ∈ Cond.classLink own ik cls :: Cond.initialized cls :: vx_atS own ic cls names, vx_ot w = true)
    (hU : vx_Zq Bundle.tN "UNASSIGNED_STACK" Bundle.steD A s s.heap) (hN : vx_Zq Bundle.tN "SUPPRESSED_SENTINEL" Bundle.listD A s s.heap) (hS : va_S A s.heap H locs) (hsize : ls.size = c.maxLocals)
    (d0 : decode cc pc = .ok (.new ik, 3)) (d3 : decode cc (pc + 3) = .ok (.dup, 1)) (d4 : decode cc (pc + 4) = .ok (.ldc is, 2)) (d6 : decode cc (pc + 6) = .ok (.invokespecial ic, 3)) (d9 : decode cc (pc + 9) = .ok (.athrow, 1))
    (hout : ∀ x ∈ c.exceptionTable.toList, covers x (pc + 9) = false)
    (hRframes : names.length + 3 < R.frames) (hRlocals : (rest.map fun v => v.category).sum + (13 * (names.length + 1) + 43) ≤ R.locals) (hRcells : cells + 1 ≤ R.cells) (hRslots : slots + 6 ≤ R.slots) (hlocks : meth.locks = false)
    (hx : ∀ t : State, s.vm.Alike t.vm → H.size ≤ t.heap.size → (∀ q : Nat, q < H.size → t.heap[q]? = H[q]?) → XC cls s t)
    (hf : ∀ z ∈ locs, free z.base) (hc : cells + 1 ≤ mc) (hs : slots + 6 ≤ ms) :
    W p l e R s m args below meth c H locs cells slots (vx_MQ below Qc XC args s mc ms free) (F0 m pc ls rest) := by
  intro T hT X
  have htr : e.platform.stackTraces = false := (show e.platform.stackTraces = l.stackTraces by rw [X.admits.platform]).trans hl
  have Y := vx_rebase X (R' := { frames := R.frames, locals := R.locals, cells := 1, slots := 6 }) (Nat.le_refl _) (Nat.le_refl _) hRcells hRslots
  obtain ⟨s', hA⟩ : ∃ z, z = (T.setVm s.vm).setFrames (.invoking m args :: below) := ⟨_, rfl⟩
  rw [← hA] at Y
  have hvm : s'.vm = s.vm := by rw [hA]; rfl
  have hhp : s'.heap = H := by rw [hA]; exact hT
  have hW0 : s.WarmedH s'.vm := by rw [hvm]; exact State.WarmedH.refl s
  have hat' : ∀ w ∈ vx_atS own ic cls names, w.before args s' = true := fun w hw => vx_ot_at hW0 hvm.symm (hgood w (List.mem_cons_of_mem _ (List.mem_cons_of_mem _ hw))) (hat w hw)
  have hk' : (Cond.classLink own ik cls).before args s' = true := vx_ot_at hW0 hvm.symm (hgood _ List.mem_cons_self) hk
  have hini' : (Cond.initialized cls).before args s' = true := vx_ot_at hW0 hvm.symm (hgood _ (List.mem_cons_of_mem _ List.mem_cons_self)) hini
  have hU' : vx_Zq Bundle.tN "UNASSIGNED_STACK" Bundle.steD A s' s'.heap := by rw [hhp]; exact vx_Zq.moved hW0.alike (hU.kept hS.2.1)
  have hN' : vx_Zq Bundle.tN "SUPPRESSED_SENTINEL" Bundle.listD A s' s'.heap := by rw [hhp]; exact vx_Zq.moved hW0.alike (hN.kept hS.2.1)
  have h : ∀ w ∈ Bundle.ownAtoms own ic cls names, w.before args s' = true := vx_own hat' (vx_isRefq hU'.1) (vx_isRefq hN'.1) hU'.2.word hN'.2.word
  have hown' : s'.vm.findClass own = some m.cls := by rw [hvm]; exact hown
  have hins : (Cond.instantiable cls 6).before args s' = true := h _ (by simp [Bundle.ownAtoms])
  obtain ⟨vm₁, cX, kX, hfX, hkX, -, -, X₁, st1⟩ := Y.newCold hexec (own := own) (C := cls) (index := ik) (n := 6) hown' hk' hins hini'
    (g := F0 m pc ls rest) rfl (by rw [hb]; exact d0) (Nat.le_refl _) (Nat.le_refl _)
  generalize hT1 : (T.setVm vm₁).pushCell { cls := cX, slots := kX.instanceTypes.map defaultValue, vm := .none } = T1 at X₁ st1
  have hcat : (Value.ref T.heap.size).category = 1 := rfl
  have hcellA : T1.heap[T.heap.size]? = some (freshCell cX kX) := by rw [← hT1]; exact State.heap_pushCell_size _ _
  have d3' : decode c.code (pc + 3) = .ok (.dup, 1) := by rw [hb]; exact d3
  have d4' : decode c.code (pc + 4) = .ok (.ldc is, 2) := by rw [hb]; exact d4
  have hstr' : vk_R own is text sa s' := vk_R.warm hW0 hstr
  obtain ⟨U, hsteps, hrun, hend, hW, hsame, ce, hce, hO⟩ := X₁.ctorThrowS hexec htr (own := own) (cls := cls) (names := names) (ic := ic) hown' hcls hnames h (fun x hx => nomatch hx) hfX hkX hcellA (by rw [hhp, hT]; exact Nat.le_refl _) (msg := .ref sa) rfl
    (g := { method := m, pc := pc + 6, locals := ls, stack := .ref sa :: .ref T.heap.size :: .ref T.heap.size :: rest, locked := none }) rfl hsize rfl rfl (rest := rest) rfl
    (by rw [hb]; exact d6) (by rw [hb]; exact d9) hout hRframes (by simp only [List.map_cons, List.sum_cons, hcat]; omega) hlocks
  obtain ⟨f1, f2⟩ := vx_frame hsame
  rw [hhp] at f1 f2
  have hWs : s.WarmedH U.vm := State.WarmedH.trans hW0 hW
  have hcl : s.vm.findClass cls = some ce.cls := by
    have h9 := hO.cls
    rw [hvm] at h9
    exact h9
  have hall : s.sameButNew ({ U with vm := s.vm } : State) locs mc ms := by
    subst hA
    obtain ⟨e1, e2⟩ := hsame
    rw [State.setFrames_setFrames] at e1
    have h2 : (T.setVm s.vm).sameButNew ({ U with vm := s.vm } : State) [] (0 + 1) (0 + 6) := ⟨e1, e2⟩
    have h3 := X.same.trans h2
    rw [List.append_nil] at h3
    exact h3.mono hc hs
  refine ⟨U, ?_, .threw T.heap.size, hrun, hend, Or.inr ⟨T.heap.size, rfl, cls, ce, locs, hx U hWs.alike f1 (fun q hq => f2 q hq (fun z hz => nomatch hz)), hce, hO.vm, hcl, hWs, hall, hf⟩⟩
  refine st1 _ ?_
  show Steps p.tables e below (T1.setTop { method := m, pc := pc + 3, locals := ls, stack := .ref T.heap.size :: rest, locked := none }) _
  jvm_step X₁.here [X₁.here.top, hexec, d3', Value.category]
  exact X₁.ldcString hexec (own := own) (text := text) (index := is) (a := sa) hown' hstr'.1 hstr'.2
    (g := { method := m, pc := pc + 4, locals := ls, stack := .ref T.heap.size :: .ref T.heap.size :: rest, locked := none }) rfl d4' _ hsteps
/-- 'throw new E("text")', the text by a wide index -/
theorem vx_throwSW {cc : ByteArray} {pc : Nat} (hexec : p.tables.exec = Jvm.exec) (hb : c.code = cc) (hl : l.stackTraces = false) {own cls text : String} {names : List String} {ik is ic mc ms sa : Nat} {A : Nat → Prop}
    (hown : s.vm.findClass own = some m.cls) (hcls : Bundle.fit cls = true) (hnames : ∀ n ∈ names, Bundle.fit n = true)
    (hk : (Cond.classLink own ik cls).before args s = true) (hini : (Cond.initialized cls).before args s = true) (hstr : vk_R own is text sa s) (hat : ∀ w ∈ vx_atS own ic cls names, w.before args s = true)
    (hgood : ∀ w ∈ Cond.classLink own ik cls :: Cond.initialized cls :: vx_atS own ic cls names, vx_ot w = true)
    (hU : vx_Zq Bundle.tN "UNASSIGNED_STACK" Bundle.steD A s s.heap) (hN : vx_Zq Bundle.tN "SUPPRESSED_SENTINEL" Bundle.listD A s s.heap) (hS : va_S A s.heap H locs) (hsize : ls.size = c.maxLocals)
    (d0 : decode cc pc = .ok (.new ik, 3)) (d3 : decode cc (pc + 3) = .ok (.dup, 1)) (d4 : decode cc (pc + 4) = .ok (.ldc_w is, 3)) (d7 : decode cc (pc + 7) = .ok (.invokespecial ic, 3)) (d10 : decode cc (pc + 10) = .ok (.athrow, 1))
    (hout : ∀ x ∈ c.exceptionTable.toList, covers x (pc + 10) = false)
    (hRframes : names.length + 3 < R.frames) (hRlocals : (rest.map fun v => v.category).sum + (13 * (names.length + 1) + 43) ≤ R.locals) (hRcells : cells + 1 ≤ R.cells) (hRslots : slots + 6 ≤ R.slots) (hlocks : meth.locks = false)
    (hx : ∀ t : State, s.vm.Alike t.vm → H.size ≤ t.heap.size → (∀ q : Nat, q < H.size → t.heap[q]? = H[q]?) → XC cls s t)
    (hf : ∀ z ∈ locs, free z.base) (hc : cells + 1 ≤ mc) (hs : slots + 6 ≤ ms) :
    W p l e R s m args below meth c H locs cells slots (vx_MQ below Qc XC args s mc ms free) (F0 m pc ls rest) := by
  intro T hT X
  have htr : e.platform.stackTraces = false := (show e.platform.stackTraces = l.stackTraces by rw [X.admits.platform]).trans hl
  have Y := vx_rebase X (R' := { frames := R.frames, locals := R.locals, cells := 1, slots := 6 }) (Nat.le_refl _) (Nat.le_refl _) hRcells hRslots
  obtain ⟨s', hA⟩ : ∃ z, z = (T.setVm s.vm).setFrames (.invoking m args :: below) := ⟨_, rfl⟩
  rw [← hA] at Y
  have hvm : s'.vm = s.vm := by rw [hA]; rfl
  have hhp : s'.heap = H := by rw [hA]; exact hT
  have hW0 : s.WarmedH s'.vm := by rw [hvm]; exact State.WarmedH.refl s
  have hat' : ∀ w ∈ vx_atS own ic cls names, w.before args s' = true := fun w hw => vx_ot_at hW0 hvm.symm (hgood w (List.mem_cons_of_mem _ (List.mem_cons_of_mem _ hw))) (hat w hw)
  have hk' : (Cond.classLink own ik cls).before args s' = true := vx_ot_at hW0 hvm.symm (hgood _ List.mem_cons_self) hk
  have hini' : (Cond.initialized cls).before args s' = true := vx_ot_at hW0 hvm.symm (hgood _ (List.mem_cons_of_mem _ List.mem_cons_self)) hini
  have hU' : vx_Zq Bundle.tN "UNASSIGNED_STACK" Bundle.steD A s' s'.heap := by rw [hhp]; exact vx_Zq.moved hW0.alike (hU.kept hS.2.1)
  have hN' : vx_Zq Bundle.tN "SUPPRESSED_SENTINEL" Bundle.listD A s' s'.heap := by rw [hhp]; exact vx_Zq.moved hW0.alike (hN.kept hS.2.1)
  have h : ∀ w ∈ Bundle.ownAtoms own ic cls names, w.before args s' = true := vx_own hat' (vx_isRefq hU'.1) (vx_isRefq hN'.1) hU'.2.word hN'.2.word
  have hown' : s'.vm.findClass own = some m.cls := by rw [hvm]; exact hown
  have hins : (Cond.instantiable cls 6).before args s' = true := h _ (by simp [Bundle.ownAtoms])
  obtain ⟨vm₁, cX, kX, hfX, hkX, -, -, X₁, st1⟩ := Y.newCold hexec (own := own) (C := cls) (index := ik) (n := 6) hown' hk' hins hini'
    (g := F0 m pc ls rest) rfl (by rw [hb]; exact d0) (Nat.le_refl _) (Nat.le_refl _)
  generalize hT1 : (T.setVm vm₁).pushCell { cls := cX, slots := kX.instanceTypes.map defaultValue, vm := .none } = T1 at X₁ st1
  have hcat : (Value.ref T.heap.size).category = 1 := rfl
  have hcellA : T1.heap[T.heap.size]? = some (freshCell cX kX) := by rw [← hT1]; exact State.heap_pushCell_size _ _
  have d3' : decode c.code (pc + 3) = .ok (.dup, 1) := by rw [hb]; exact d3
  have d4' : decode c.code (pc + 4) = .ok (.ldc_w is, 3) := by rw [hb]; exact d4
  have hstr' : vk_R own is text sa s' := vk_R.warm hW0 hstr
  obtain ⟨U, hsteps, hrun, hend, hW, hsame, ce, hce, hO⟩ := X₁.ctorThrowS hexec htr (own := own) (cls := cls) (names := names) (ic := ic) hown' hcls hnames h (fun x hx => nomatch hx) hfX hkX hcellA (by rw [hhp, hT]; exact Nat.le_refl _) (msg := .ref sa) rfl
    (g := { method := m, pc := pc + 7, locals := ls, stack := .ref sa :: .ref T.heap.size :: .ref T.heap.size :: rest, locked := none }) rfl hsize rfl rfl (rest := rest) rfl
    (by rw [hb]; exact d7) (by rw [hb]; exact d10) hout hRframes (by simp only [List.map_cons, List.sum_cons, hcat]; omega) hlocks
  obtain ⟨f1, f2⟩ := vx_frame hsame
  rw [hhp] at f1 f2
  have hWs : s.WarmedH U.vm := State.WarmedH.trans hW0 hW
  have hcl : s.vm.findClass cls = some ce.cls := by
    have h9 := hO.cls
    rw [hvm] at h9
    exact h9
  have hall : s.sameButNew ({ U with vm := s.vm } : State) locs mc ms := by
    subst hA
    obtain ⟨e1, e2⟩ := hsame
    rw [State.setFrames_setFrames] at e1
    have h2 : (T.setVm s.vm).sameButNew ({ U with vm := s.vm } : State) [] (0 + 1) (0 + 6) := ⟨e1, e2⟩
    have h3 := X.same.trans h2
    rw [List.append_nil] at h3
    exact h3.mono hc hs
  refine ⟨U, ?_, .threw T.heap.size, hrun, hend, Or.inr ⟨T.heap.size, rfl, cls, ce, locs, hx U hWs.alike f1 (fun q hq => f2 q hq (fun z hz => nomatch hz)), hce, hO.vm, hcl, hWs, hall, hf⟩⟩
  refine st1 _ ?_
  show Steps p.tables e below (T1.setTop { method := m, pc := pc + 3, locals := ls, stack := .ref T.heap.size :: rest, locked := none }) _
  jvm_step X₁.here [X₁.here.top, hexec, d3', Value.category]
  exact X₁.ldcStringW hexec (own := own) (text := text) (index := is) (a := sa) hown' hstr'.1 hstr'.2
    (g := { method := m, pc := pc + 4, locals := ls, stack := .ref T.heap.size :: .ref T.heap.size :: rest, locked := none }) rfl d4' _ hsteps
end Ends
section Bodies
variable {l : Launch}
theorem vx_ofW {y : MethodName} {ws ws' : List Cond} {rm : Room} {Pc : Array Value → State → Prop} {Qc : Array Value → State → Outcome → State → Prop} {XC : String → State → State → Prop} {mc ms : Nat} {free : Addr → Prop} {cc : ByteArray} {maxL : Nat} {ret : Option FieldType}
    (hy : plainName y.cls = true) (hw : ws = Cond.code y cc maxL ret :: ws')
    (body : ∀ p e s m args below meth c s₁, BodyLoose p l y (headSpec ws rm) cc maxL ret e s m args below meth c s₁ → c.maxLocals = maxL → (∀ x ∈ c.exceptionTable.toList, False) → Pc args s →
      W p l e (headSpec ws rm).room s m args below meth c s.heap [] 0 0 (vx_MQ below Qc XC args s mc ms free) (entryFrame m args maxL)) : vx_Met l y ws rm Pc Qc XC mc ms free := by
  refine MetFree.of_bodyS (code := cc) (maxLocals := maxL) (ret := ret) hy ?_ ?_
  · intro args s m h hn
    obtain ⟨meth, c, h1, h2, h3, h4, h5, h6, -, -⟩ := Cond.code_spec hn (atoms_spec (ws := ws) h _ (by rw [hw]; exact List.mem_cons_self))
    exact ⟨meth, c, h1, h2, h3, h4, h5, h6⟩
  · intro p e s m args below meth c s₁ B hml hP _
    have hh0 : s₁.heap = s.heap := by rw [B.state]; rfl
    have ht : ∀ x ∈ c.exceptionTable.toList, False := by
      obtain ⟨meth9, c9, h1, h2, -, -, -, -, h7, -⟩ := Cond.code_spec B.named (atoms_spec (ws := ws) B.pre _ (by rw [hw]; exact List.mem_cons_self))
      cases Option.some.inj (h1.symm.trans B.method)
      cases Option.some.inj (h2.symm.trans (Stand.of_body B).code)
      intro x hx
      rw [Array.isEmpty_iff.mp h7] at hx
      cases hx
    obtain ⟨t, a1, o, b1, b2, b3⟩ := body p e s m args below meth c s₁ B hml ht hP s₁ hh0 (Stand.of_body B)
    exact ⟨t, o, a1, b1, b2, b3⟩
/-- the table of a body with handlers -/
theorem vx_table {p : Program} {x y : MethodName} {S : Spec} {cc bytes : ByteArray} {maxL maxL' : Nat} {ret ret' : Option FieldType} {e : Env} {s s₁ : State} {m : MethodId} {args : Array Value} {below : List Frame} {meth : Method} {c : Code} {hh : List (Nat × Nat × Nat × Nat)}
    (B : BodyLoose p l y S cc maxL ret e s m args below meth c s₁) (h : (Cond.codeWith y bytes maxL' ret' hh).before args s = true) : c.exceptionTable.toList = tableOf hh := by
  obtain ⟨m9, meth9, c9, hn9, h1, h2, -, -, h6, -⟩ := Cond.codeWith_spec h
  cases Option.some.inj (hn9.symm.trans B.named)
  cases Option.some.inj (h1.symm.trans B.method)
  cases Option.some.inj (h2.symm.trans (Stand.of_body B).code)
  rw [← h6, table_eq]
end Bodies
end VXA
/-! ===== END ===== -/
/-! ===== BEGIN a static call of a method with an exception table ===== -/
section VXS
variable {p : Program} {l : Launch} {e : Env} {R : Room} {s : State} {m : MethodId} {args : Array Value} {below : List Frame} {meth : Method} {c : Code} {T : State} {H : Heap} {locs : List Loc} {cells slots : Nat}
abbrev vx_CSW (R : Room) (s : State) (args : Array Value) (own : String) (index : Nat) (y : MethodName) (bytes : ByteArray) (maxL : Nat) (ret : Option FieldType) (hh : List (Nat × Nat × Nat × Nat)) (ws : List Cond) (rm : Room) (mc ms n : Nat) : Prop :=
  (rm.cells = mc ∧ rm.slots = ms ∧ rm.frames + 1 ≤ R.frames ∧ 8 + (maxL + 11) + rm.locals ≤ R.locals ∧ (∀ w ∈ ws, ∀ (a' : Array Value) (U : State), s.WarmedH U.vm → w.before a' U = true) ∧ Cond.codeWith y bytes maxL ret hh ∈ ws) ∧
  (Cond.codeWith y bytes maxL ret hh).before args s = true ∧ (Cond.initialized y.cls).before args s = true ∧ (y.cls ≠ "java/lang/invoke/MethodHandle" ∧ y.cls ≠ "java/lang/invoke/VarHandle") ∧
  (∀ sig, parseMethodDescriptor y.desc = some sig → n = sig.parameters.length) ∧ (Cond.methodLink own index y).before args s = true ∧ (Cond.static y).before args s = true
theorem vx_cwSW {own : String} {index maxL mc ms : Nat} {y : MethodName} {bytes : ByteArray} {ret : Option FieldType} {hh : List (Nat × Nat × Nat × Nat)} {Ts ws ws' : List Cond} {rm : Room} (n : Nat) (ht : ∀ w ∈ Ts, w.before args s = true) (hT : GoodIn Ts (va_wsS own index y ws)) (hw : ws = Cond.codeWith y bytes maxL ret hh :: ws') (hrc : rm.cells = mc) (hrs : rm.slots = ms)
    (hd : y.cls ≠ "java/lang/invoke/MethodHandle" ∧ y.cls ≠ "java/lang/invoke/VarHandle" ∧ (parseMethodDescriptor y.desc).map (fun d => d.parameters.length) = some n) (hR : rm.frames + 1 ≤ R.frames ∧ 8 + (maxL + 11) + rm.locals ≤ R.locals) :
    vx_CSW R s args own index y bytes maxL ret hh ws rm mc ms n := by
  have ok : ∀ w ∈ va_wsS own index y ws, w.before args s = true := fun w h => ht w (hT w h).1
  have hG : GoodIn Ts ws := fun w h => hT w (by unfold va_wsS; exact List.mem_append_right _ h)
  have hc : Cond.codeWith y bytes maxL ret hh ∈ ws := by rw [hw]; exact List.mem_cons_self
  refine ⟨⟨hrc, hrs, hR.1, hR.2, pay_in ht hG, hc⟩, ht _ (hG _ hc).1, ok _ (by simp [va_wsS]), ⟨hd.1, hd.2.1⟩, fun sig h => ?_, ok _ (by simp [va_wsS]), ok _ (by simp [va_wsS])⟩
  have h2 := hd.2.2
  rw [h] at h2
  exact (Option.some.inj h2).symm
theorem vx_callSW (X : Stand p l e R s m args below meth c T locs cells slots) (hexec : p.tables.exec = Jvm.exec) {own : String} {index : Nat} {y : MethodName} {bytes : ByteArray} {maxL : Nat} {ret : Option FieldType} {hh : List (Nat × Nat × Nat × Nat)}
    (hown : s.vm.findClass own = some m.cls) (hlink : (Cond.methodLink own index y).before args s = true) (hstat : (Cond.static y).before args s = true) (hinit : (Cond.initialized y.cls).before args s = true)
    (hcode : (Cond.codeWith y bytes maxL ret hh).before args s = true) (hy : y.cls ≠ "java/lang/invoke/MethodHandle" ∧ y.cls ≠ "java/lang/invoke/VarHandle")
    {W9 : Nat} {Pre : Pt → Array Value → Prop} {Post : Pt → Array Value → Option Value → Pt → Prop} (hK : Back l R p e below s args y 3 W9 Pre Post)
    {g : JFrame} (hg : g.method = m) (hsize : g.locals.size = c.maxLocals) {argsL rest : List Value} (hlen : ∀ sig, parseMethodDescriptor y.desc = some sig → argsL.length = sig.parameters.length)
    (hstack : g.stack = argsL.reverse ++ rest) (hW : 2 * g.monitorRoom + (rest.map fun v => v.category).sum ≤ W9) (hdg : decode c.code g.pc = .ok (.invokestatic index, 3))
    (hpre : ∀ vm₁, s.WarmedH vm₁ → Pre ⟨T.setVm vm₁, locs, cells, slots⟩ argsL.toArray) :
    ∃ (v : Option Value) (vm₁ : Vm) (B : Pt), s.WarmedH vm₁ ∧ Stand p l e R s m args below meth c B.U B.locs B.cells B.slots ∧ Post ⟨T.setVm vm₁, locs, cells, slots⟩ argsL.toArray v B ∧
      ∀ target, Steps p.tables e below (B.U.setTop { g with pc := g.pc + 3, stack := v.toList ++ rest }) target → Steps p.tables e below (T.setTop g) target := by
  obtain ⟨mk, methM, cM, hnamed, hmethM, -, -, -, -, -, -, hsigM⟩ := Cond.codeWith_spec hcode
  have hstatic : methM.isStatic = true := Cond.static_spec hnamed hmethM hstat
  obtain ⟨kP, hkP, -⟩ := className_of_methodNamed hnamed
  have hinitP : kP.init = .initialized := Cond.initialized_spec (findClass_of_methodNamed hnamed) hkP hinit
  obtain ⟨vm₁, X₁, hstep₁⟩ := X.invokestatic hexec hown hlink hnamed hmethM hstatic hkP hinitP hy (g := g) hg (argsL := argsL) (rest := rest) (hlen _ hsigM) hstack hdg
  obtain ⟨v, B, X', hpost, hsteps⟩ := hK m meth c ⟨T.setVm vm₁, locs, cells, slots⟩ { g with stack := rest } (.invokestatic index) mk argsL.toArray X₁ hg hsize hdg hW (X₁.named hnamed) (hpre vm₁ X₁.warmed)
  exact ⟨v, vm₁, B, X₁.warmed, X', hpost, fun target h => hstep₁ _ fun acts => by rw [doInvoke_state]; exact hsteps.trans h⟩
theorem vx_runSW {y : MethodName} {bytes cc : ByteArray} {maxL nL mc ms n index : Nat} {ret : Option FieldType} {hh : List (Nat × Nat × Nat × Nat)} {ws : List Cond} {rm : Room} {Pc : Array Value → State → Prop} {Qc : Array Value → State → Outcome → State → Prop} {free : Addr → Prop} {Ts : List Cond} {own : String} {As rest : List Value} {g : JFrame}
    (S : CallFix p m c cc nL s args Ts own) (hM : Met l y ws rm Pc Qc mc ms free) (cw : vx_CSW R s args own index y bytes maxL ret hh ws rm mc ms n) (hp : PreS s H Pc As)
    (hg : g.method = m) (hn : As.length = n) (hsize : g.locals.size = nL) (hstack : g.stack = As.reverse ++ rest) (hW : 2 * g.monitorRoom + (rest.map fun v => v.category).sum ≤ 8) (hdg : decode cc g.pc = .ok (.invokestatic index, 3)) (hf : cells + mc ≤ R.cells ∧ slots + ms ≤ R.slots) :
    va_Run p l e R s m args below meth c H locs cells slots mc ms g rest (Qc As.toArray) (free) := by
  obtain ⟨⟨hrc, hrs, hfr, hlo, hws, hcw⟩, hcode, hini, hy, hlen, hl, hstt⟩ := cw
  have hK : Back l R p e below s args y 3 8 (PreOf R mc ms Pc) (PostOf Qc mc ms free) := va_backW (hh := hh) (bytes := bytes) (maxL := maxL) (ret := ret) hM hp.1 hrc hrs hfr hlo hws hcw (fun a' U hW => word_at hW (Or.inl (by first | rfl | simp [Cond.onTables, Cond.keeps, Cond.steady])) hini)
  obtain ⟨hx, hb, hml, ho, -⟩ := S
  intro T hT X
  obtain ⟨v, vm₁, ⟨U', l2, c2, s2⟩, hW₁, X', ⟨g', mk, t, L, e1, e2, hq, h1, hL, h2, h3⟩, st⟩ := vx_callSW X hx (hh := hh) (bytes := bytes) (maxL := maxL) (ret := ret) ho hl hstt hini hcode hy hK hg (hsize.trans hml.symm) (argsL := As) (rest := rest) (fun sig h => hn.trans (hlen sig h)) hstack hW (by rw [hb]; exact hdg)
    (fun vm₁ hW₁ => ⟨hf.1, hf.2, hp.2 (T.setVm vm₁) hT hW₁⟩)
  dsimp only [Pt.U, Pt.locs, Pt.cells, Pt.slots] at X' e1 e2 h1 h2 h3 st
  subst h1; subst h2; subst h3
  exact ⟨v, (T.setVm vm₁).calling g' mk As.toArray, t, U', L, hT, X', hL, e1, e2, hq, st⟩
/-- not caught here, past rows that name other classes: it goes on to the caller -/
theorem vx_outP {p : Program} {l : Launch} {e : Env} {R : Room} {s : State} {m : MethodId} {args : Array Value} {below : List Frame} {meth : Method} {c : Code} {H : Heap} {locs : List Loc} {cells slots : Nat} {free : Addr → Prop} {ls : Array Slot} {rest : List Value} {Qc : Array Value → State → Outcome → State → Prop} {XC : String → State → State → Prop}
    {pc : Nat} {own E : String} {ce : Cell} {q : Addr} {mc ms : Nat} (hown : s.vm.findClass own = some m.cls) (hlocks : meth.locks = false)
    (hpass : ∀ z ∈ c.exceptionTable.toList, covers z pc = false ∨ (z.catchType ≠ 0 ∧ ∃ nm : String, (Cond.classLink own z.catchType nm).before args s = true ∧ va_Nc E nm s)) (hcell : H[q]? = some ce) (hv : ce.vm = .none) (hcl : s.vm.findClass E = some ce.cls)
    (hx : ∀ t : State, t.heap = H → s.vm.Alike t.vm → XC E s t) (hf : ∀ z ∈ locs, free z.base) (hc : cells ≤ mc) (hs : slots ≤ ms) :
    vx_W p l e R s m args below meth c H locs cells slots (vx_MQ below Qc XC args s mc ms free) (F0 m pc ls rest) q := by
  intro T hT X
  have hpl : e.platform.magicAccessors = ({} : Platform).magicAccessors := by rw [X.admits.platform]
  obtain ⟨vm', hW', X', st⟩ := X.outThrough hlocks q (g := F0 m pc ls rest) rfl rfl rfl (cell := ce) (by rw [hT]; exact hcell) (by rw [hv]; rfl)
    (by obtain ⟨k9, h9, -⟩ := Vm.findClass_spec hcl; exact ⟨k9, h9⟩) (fun z hz => by
      rcases hpass z hz with h | ⟨hz0, nm, hl1, hn1⟩
      · exact Or.inl h
      · obtain ⟨c6, hc6, hcl6⟩ := Cond.classLink_spec hown hl1 e.platform hpl
        obtain ⟨a8, b8, h1, h2, h3⟩ := hn1
        cases Option.some.inj (h1.symm.trans hcl)
        cases Option.some.inj (h2.symm.trans hc6)
        exact Or.inr ⟨hz0, _, hcl6, h3⟩)
  obtain ⟨g₀, hfr⟩ := X'.frames_eq
  have hcell9 : ((T.setVm vm').setFrames (.throwing q :: below)).heap[q]? = some ce := by
    show T.heap[q]? = some ce
    rw [hT]; exact hcell
  have hend : Ended ((T.setVm vm').setFrames (.throwing q :: below)) below (.threw q) := State.frames_setFrames _ (State.cur_lt_of_frames hfr)
  refine ⟨(T.setVm vm').setFrames (.throwing q :: below), ?_, .threw q, X'.here.running, hend, Or.inr ⟨q, rfl, E, ce, locs, hx _ hT (X'.ends _).1.alike, hcell9, hv, hcl, (X'.ends _).1, (X'.ends _).2.mono hc hs, hf⟩⟩
  rw [X.pushThrowing_eq]
  exact st
/-- a thing of a world lies in the heap -/
theorem vx_lt {D : va_G} {cl : List vw_C} {ws : va_W} {H1 : Heap} (h : va_P D cl ws H1) {k : Nat} {q : Nat × va_E} (hk : ws[k]? = some q) : q.1 < H1.size := (h k q hk).lt
end VXS
/-! ===== END ===== -/
/-! ===== BEGIN methods with a table of their own: called by a name, returning or throwing ===== -/
section VXH
/-! vx_backW, vx_callVX, vx_callSX, vx_callVW, vx_runVW, vx_runVX, vx_runSX, vx_ofWH follow the same proofs as their sisters above (Free/Laws.lean, Shelf42/LK1.lean); vx_outP calls Shelf42/NT130.lean (outThrough). -/
section
variable {l : Launch} {R : Room} {p : Program} {e : Env} {below : List Frame} {s : State} {sargs : Array Value} {y : MethodName} {len W9 : Nat}
theorem vx_backW {ws : List Cond} {rm : Room} {Pc : Array Value → State → Prop} {Qc : Array Value → State → Outcome → State → Prop} {XC : String → State → State → Prop} {mc ms : Nat} {free : Addr → Prop} {bytes : ByteArray} {maxL : Nat} {ret : Option FieldType} {hh : List (Nat × Nat × Nat × Nat)}
    (hM : vx_Met l y ws rm Pc Qc XC mc ms free) (hblind : FrameBlind Pc) (hrc : rm.cells = mc) (hrs : rm.slots = ms)
    (hframes : rm.frames + 1 ≤ R.frames) (hlocals : W9 + (maxL + 11) + rm.locals ≤ R.locals)
    (hws : ∀ w ∈ ws, ∀ a' U, s.WarmedH U.vm → w.before a' U = true) (hcode : Cond.codeWith y bytes maxL ret hh ∈ ws) (hinit : ∀ a' U, s.WarmedH U.vm → (Cond.initialized y.cls).before a' U = true) :
    vx_Back l R p e below s sargs y len W9 (PreOf R mc ms Pc) (PostOf Qc mc ms free) (vx_Post XC mc ms free) := by
  intro m meth c A g ig mk a X hg hsize hdg hW hn hp
  have h1 : (headSpec ws rm).pre.before a A.U = true := atoms_intro fun w hw => hws w hw _ _ X.warmed
  have h2 : (Cond.codeWith y bytes maxL ret hh).before a A.U = true := hws _ hcode _ _ X.warmed
  have h3 : (Cond.initialized y.cls).before a A.U = true := hinit _ _ X.warmed
  have h4 : A.cells + (headSpec ws rm).room.cells ≤ R.cells := by rw [show (headSpec ws rm).room.cells = mc from hrc]; exact hp.1
  have h5 : A.slots + (headSpec ws rm).room.slots ≤ R.slots := by rw [show (headSpec ws rm).room.slots = ms from hrs]; exact hp.2.1
  have hPc : Pc a (A.U.calling g mk a) := hblind _ _ _ _ hp.2.2
  obtain ⟨U, Ls, c0, s0⟩ := A
  dsimp only [Pt.U, Pt.locs, Pt.cells, Pt.slots] at h1 h2 h3 h4 h5 X hn hPc ⊢
  obtain ⟨m9, methY, cY, hn9, hmY, hcY, -, hlY, -⟩ := Cond.codeWith_spec h2
  cases Option.some.inj (hn9.symm.trans hn)
  obtain ⟨kY, hkY, -⟩ := className_of_methodNamed hn
  have hinitY : kY.init = .initialized := Cond.initialized_spec (findClass_of_methodNamed hn) hkY h3
  have h : At U g.method c below := by rw [hg]; exact X.here
  have hlocals9 : W9 + (maxL + 11) + (headSpec ws rm).room.locals ≤ R.locals := hlocals
  have happ : (headSpec ws rm).appliesLoose y e.platform (U.calling g mk a) = true :=
    Spec.appliesLoose_calling (g := g) h hdg hn hkY hinitY
      (X.room_calling (g := g) (R' := (headSpec ws rm).room) hsize hmY hcY hframes (by rw [hlY]; omega) h4 h5) h1
  obtain ⟨mid, hmid⟩ := h.above
  have hfr : (U.setTop g).frames = (.java g :: mid) ++ below := by rw [State.frames_setTop' g h.top, hmid]; rfl
  obtain ⟨o, s₂, hsteps, -, hend, hq⟩ := Steps.callFree hM p X.admits X.cas X.clock (acts := []) hfr happ hPc trivial
  have hq' : vx_Q Qc XC mc ms free a (U.calling g mk a) o s₂ := hq
  rw [State.frames_setTop' g h.top] at hend
  obtain ⟨g₀, hg0⟩ := Option.isSome_iff_exists.mp h.top
  obtain ⟨r, hr⟩ := State.topJava?_eq_some.mp hg0
  have hr' : (({ U with heap := s₂.heap, slotsUsed := s₂.slotsUsed } : State).setVm s₂.vm).frames = .java g₀ :: r := hr
  rcases hq' with ⟨hqc, L, hfe, hL⟩ | ⟨q, rfl, E, ce, L, hx, hce, hcv, hcl, hW₂, hsm, hL⟩
  · obtain ⟨⟨v, rfl⟩, hW₂, e2, q2, q3, q4, q5, q6⟩ := id hfe
    have e3 : s₂ = ({ (U.calling g mk a).setFrames s₂.frames with heap := s₂.heap, slotsUsed := s₂.slotsUsed } : State).setVm s₂.vm := by
      have : s₂ = ({ s₂ with vm := (U.calling g mk a).vm } : State).setVm s₂.vm := rfl
      rw [e2] at this
      exact this
    obtain ⟨c₂, i₂, len₂, hc₂, hd₂, hf₂⟩ := hend
    have hW' : U.WarmedH s₂.vm := hW₂
    have hcc : c₂ = c := by
      have h1 : s₂.code? g.method = U.code? g.method := by
        rw [State.code?_eq, State.code?_eq, hW'.alike.method?]
      exact Option.some.inj (hc₂.symm.trans (h1.trans h.code))
    subst hcc
    have hlen : len₂ = len := by rw [hdg] at hd₂; cases hd₂; rfl
    subst hlen
    have hs₂ : s₂ = (({ U with heap := s₂.heap, slotsUsed := s₂.slotsUsed } : State).setVm s₂.vm).setTop { g with pc := g.pc + len₂, stack := v.toList ++ g.stack } := by
      refine e3.trans ?_
      rw [hf₂, State.calling_eq h.top, State.setFrames_setFrames, State.setTop_of_frames _ hr', hr]
      rfl
    have hsame : U.sameButNew ({ U with heap := s₂.heap, slotsUsed := s₂.slotsUsed } : State) L mc ms := by
      refine ⟨?_, q2, q3, q4, q5, q6⟩
      obtain ⟨t, ht, -⟩ := State.frames_cons hr
      show ({ U with heap := s₂.heap, slotsUsed := s₂.slotsUsed } : State) = { U.setFrames U.frames with heap := s₂.heap, slotsUsed := s₂.slotsUsed }
      rw [State.setFrames_self ht]
    subst hg
    refine Or.inl ⟨v, ⟨(({ U with heap := s₂.heap, slotsUsed := s₂.slotsUsed } : State).setVm s₂.vm), Ls ++ L, c0 + mc, s0 + ms⟩,
      ⟨X.admits, X.cas, X.clock, X.frames, X.room, X.hears, X.method, X.code, (X.here.setHeapUsed s₂.heap s₂.slotsUsed).setVm hW'.alike, X.tail, State.WarmedH.trans X.warmed hW', X.limits, X.bytes, X.same.trans (hsame.setVm s.vm)⟩,
      ⟨g, mk, s₂, L, rfl, rfl, hqc, rfl, hL, rfl, rfl⟩, ?_⟩
    show Steps p.tables e below _ ((({ U with heap := s₂.heap, slotsUsed := s₂.slotsUsed } : State).setVm s₂.vm).setTop { g with pc := g.pc + len₂, stack := v.toList ++ g.stack })
    rw [← hs₂]
    exact hsteps
  · obtain ⟨e2, q2, q3, q4, q5, q6⟩ := id hsm
    have e3 : s₂ = ({ (U.calling g mk a).setFrames s₂.frames with heap := s₂.heap, slotsUsed := s₂.slotsUsed } : State).setVm s₂.vm := by
      have : s₂ = ({ s₂ with vm := (U.calling g mk a).vm } : State).setVm s₂.vm := rfl
      rw [e2] at this
      exact this
    have hf₂ : s₂.frames = .throwing q :: .java g :: U.frames.tail := hend
    have hW' : U.WarmedH s₂.vm := hW₂
    have hs₂ : s₂ = ((({ U with heap := s₂.heap, slotsUsed := s₂.slotsUsed } : State).setVm s₂.vm).setTop g).pushFrame (.throwing q) := by
      refine e3.trans ?_
      rw [hf₂, State.calling_eq h.top, State.setFrames_setFrames, State.pushFrame, State.frames_setTop _ hr', State.setTop_of_frames _ hr', State.setFrames_setFrames, hr]
      rfl
    have hsame : U.sameButNew ({ U with heap := s₂.heap, slotsUsed := s₂.slotsUsed } : State) L mc ms := by
      refine ⟨?_, q2, q3, q4, q5, q6⟩
      obtain ⟨t, ht, -⟩ := State.frames_cons hr
      show ({ U with heap := s₂.heap, slotsUsed := s₂.slotsUsed } : State) = { U.setFrames U.frames with heap := s₂.heap, slotsUsed := s₂.slotsUsed }
      rw [State.setFrames_self ht]
    subst hg
    refine Or.inr ⟨q, ⟨(({ U with heap := s₂.heap, slotsUsed := s₂.slotsUsed } : State).setVm s₂.vm), Ls ++ L, c0 + mc, s0 + ms⟩,
      ⟨X.admits, X.cas, X.clock, X.frames, X.room, X.hears, X.method, X.code, (X.here.setHeapUsed s₂.heap s₂.slotsUsed).setVm hW'.alike, X.tail, State.WarmedH.trans X.warmed hW', X.limits, X.bytes, X.same.trans (hsame.setVm s.vm)⟩,
      ⟨g, mk, s₂, L, E, ce, rfl, rfl, hx, hce, hcv, hcl, rfl, hL, rfl, rfl⟩, ?_⟩
    show Steps p.tables e below _ (((({ U with heap := s₂.heap, slotsUsed := s₂.slotsUsed } : State).setVm s₂.vm).setTop g).pushFrame (.throwing q))
    rw [← hs₂]
    exact hsteps
end
variable {p : Program} {l : Launch} {e : Env} {R : Room} {s : State} {m : MethodId} {args : Array Value} {below : List Frame} {meth : Method} {c : Code} {T : State} {H : Heap} {locs : List Loc} {cells slots : Nat}
theorem vx_callVX (X : Stand p l e R s m args below meth c T locs cells slots) (hexec : p.tables.exec = Jvm.exec) {own C : String} {index : Nat} {y : MethodName} {bytes : ByteArray} {maxL : Nat} {ret : Option FieldType} {hh : List (Nat × Nat × Nat × Nat)}
    (hown : s.vm.findClass own = some m.cls) (hlink : (Cond.methodLink own index y).before args s = true) (hinst : (Cond.instanceMethod y).before args s = true) (hsel : (Cond.selects C y y).before args s = true)
    (hcode : (Cond.codeWith y bytes maxL ret hh).before args s = true) (hy : y.cls ≠ "java/lang/invoke/MethodHandle" ∧ y.cls ≠ "java/lang/invoke/VarHandle")
    {W9 : Nat} {Pre : Pt → Array Value → Prop} {Post : Pt → Array Value → Option Value → Pt → Prop} {PostX : Pt → Array Value → Addr → Pt → Prop} (hK : vx_Back l R p e below s args y 3 W9 Pre Post PostX)
    {b : Addr} {cellB : Cell} (hcell : T.heap[b]? = some cellB) (hobj : cellB.vm.isStatics = false) (hcls : s.vm.findClass C = some cellB.cls)
    {g : JFrame} (hg : g.method = m) (hsize : g.locals.size = c.maxLocals) {argsL rest : List Value} (hlen : ∀ sig, parseMethodDescriptor y.desc = some sig → argsL.length = sig.parameters.length)
    (hstack : g.stack = argsL.reverse ++ .ref b :: rest) (hW : 2 * g.monitorRoom + (rest.map fun v => v.category).sum ≤ W9) (hdg : decode c.code g.pc = .ok (.invokevirtual index, 3))
    (hpre : ∀ vm₁, s.WarmedH vm₁ → Pre ⟨T.setVm vm₁, locs, cells, slots⟩ (Value.ref b :: argsL).toArray) :
    (∃ (v : Option Value) (vm₁ : Vm) (B : Pt), s.WarmedH vm₁ ∧ Stand p l e R s m args below meth c B.U B.locs B.cells B.slots ∧ Post ⟨T.setVm vm₁, locs, cells, slots⟩ (Value.ref b :: argsL).toArray v B ∧
      ∀ target, Steps p.tables e below (B.U.setTop { g with pc := g.pc + 3, stack := v.toList ++ rest }) target → Steps p.tables e below (T.setTop g) target) ∨
    (∃ (q : Addr) (vm₁ : Vm) (B : Pt), s.WarmedH vm₁ ∧ Stand p l e R s m args below meth c B.U B.locs B.cells B.slots ∧ PostX ⟨T.setVm vm₁, locs, cells, slots⟩ (Value.ref b :: argsL).toArray q B ∧
      Steps p.tables e below (T.setTop g) ((B.U.setTop { g with stack := rest }).pushFrame (.throwing q))) := by
  obtain ⟨mk, methM, hnamed, hmethM, hstM, habM⟩ := Cond.instanceMethod_spec hinst
  obtain ⟨m8, methM', cM, hn8, hmethM', -, -, -, -, -, -, hsigM⟩ := Cond.codeWith_spec hcode
  cases Option.some.inj (hn8.symm.trans hnamed)
  cases hmethM.symm.trans hmethM'
  obtain ⟨c2, r2, m2, q1, q2, q3, q4, kP, hkP, hkPi⟩ := Cond.selects_spec hsel
  cases hcls.symm.trans q1
  cases (State.methodFound?_of_named hnamed hy).symm.trans q2
  cases hnamed.symm.trans q3
  have hselP : selectMethod e.platform s.vm cellB.cls mk = .method mk := by rw [Launch.admits_selectMethod X.admits]; exact q4
  obtain ⟨vm₁, X₁, hstep₁⟩ := X.invokevirtual hexec hown hlink hnamed hmethM hstM hkP hkPi hy (a := b) (cell := cellB) hcell
    (fun z h => by rw [h] at hobj; cases hobj) hselP hmethM habM hkP hkPi (g := g) hg (argsL := argsL) (rest := rest) (hlen _ hsigM) hstack hdg
  rcases hK m meth c ⟨T.setVm vm₁, locs, cells, slots⟩ { g with stack := rest } (.invokevirtual index) mk (Value.ref b :: argsL).toArray X₁ hg hsize hdg hW (X₁.named hnamed) (hpre vm₁ X₁.warmed) with ⟨v, B, X', hpost, hsteps⟩ | ⟨q, B, X', hpost, hsteps⟩
  · exact Or.inl ⟨v, vm₁, B, X₁.warmed, X', hpost, fun target h => hstep₁ _ fun acts => by rw [doInvoke_state]; exact hsteps.trans h⟩
  · exact Or.inr ⟨q, vm₁, B, X₁.warmed, X', hpost, hstep₁ _ fun acts => by rw [doInvoke_state]; exact hsteps⟩
theorem vx_callSX (X : Stand p l e R s m args below meth c T locs cells slots) (hexec : p.tables.exec = Jvm.exec) {own : String} {index : Nat} {y : MethodName} {bytes : ByteArray} {maxL : Nat} {ret : Option FieldType} {hh : List (Nat × Nat × Nat × Nat)}
    (hown : s.vm.findClass own = some m.cls) (hlink : (Cond.methodLink own index y).before args s = true) (hstat : (Cond.static y).before args s = true) (hinit : (Cond.initialized y.cls).before args s = true)
    (hcode : (Cond.codeWith y bytes maxL ret hh).before args s = true) (hy : y.cls ≠ "java/lang/invoke/MethodHandle" ∧ y.cls ≠ "java/lang/invoke/VarHandle")
    {W9 : Nat} {Pre : Pt → Array Value → Prop} {Post : Pt → Array Value → Option Value → Pt → Prop} {PostX : Pt → Array Value → Addr → Pt → Prop} (hK : vx_Back l R p e below s args y 3 W9 Pre Post PostX)
    {g : JFrame} (hg : g.method = m) (hsize : g.locals.size = c.maxLocals) {argsL rest : List Value} (hlen : ∀ sig, parseMethodDescriptor y.desc = some sig → argsL.length = sig.parameters.length)
    (hstack : g.stack = argsL.reverse ++ rest) (hW : 2 * g.monitorRoom + (rest.map fun v => v.category).sum ≤ W9) (hdg : decode c.code g.pc = .ok (.invokestatic index, 3))
    (hpre : ∀ vm₁, s.WarmedH vm₁ → Pre ⟨T.setVm vm₁, locs, cells, slots⟩ argsL.toArray) :
    (∃ (v : Option Value) (vm₁ : Vm) (B : Pt), s.WarmedH vm₁ ∧ Stand p l e R s m args below meth c B.U B.locs B.cells B.slots ∧ Post ⟨T.setVm vm₁, locs, cells, slots⟩ argsL.toArray v B ∧
      ∀ target, Steps p.tables e below (B.U.setTop { g with pc := g.pc + 3, stack := v.toList ++ rest }) target → Steps p.tables e below (T.setTop g) target) ∨
    (∃ (q : Addr) (vm₁ : Vm) (B : Pt), s.WarmedH vm₁ ∧ Stand p l e R s m args below meth c B.U B.locs B.cells B.slots ∧ PostX ⟨T.setVm vm₁, locs, cells, slots⟩ argsL.toArray q B ∧
      Steps p.tables e below (T.setTop g) ((B.U.setTop { g with stack := rest }).pushFrame (.throwing q))) := by
  obtain ⟨mk, methM, cM, hnamed, hmethM, -, -, -, -, -, -, hsigM⟩ := Cond.codeWith_spec hcode
  have hstatic : methM.isStatic = true := Cond.static_spec hnamed hmethM hstat
  obtain ⟨kP, hkP, -⟩ := className_of_methodNamed hnamed
  have hinitP : kP.init = .initialized := Cond.initialized_spec (findClass_of_methodNamed hnamed) hkP hinit
  obtain ⟨vm₁, X₁, hstep₁⟩ := X.invokestatic hexec hown hlink hnamed hmethM hstatic hkP hinitP hy (g := g) hg (argsL := argsL) (rest := rest) (hlen _ hsigM) hstack hdg
  rcases hK m meth c ⟨T.setVm vm₁, locs, cells, slots⟩ { g with stack := rest } (.invokestatic index) mk argsL.toArray X₁ hg hsize hdg hW (X₁.named hnamed) (hpre vm₁ X₁.warmed) with ⟨v, B, X', hpost, hsteps⟩ | ⟨q, B, X', hpost, hsteps⟩
  · exact Or.inl ⟨v, vm₁, B, X₁.warmed, X', hpost, fun target h => hstep₁ _ fun acts => by rw [doInvoke_state]; exact hsteps.trans h⟩
  · exact Or.inr ⟨q, vm₁, B, X₁.warmed, X', hpost, hstep₁ _ fun acts => by rw [doInvoke_state]; exact hsteps⟩
theorem vx_callVW (X : Stand p l e R s m args below meth c T locs cells slots) (hexec : p.tables.exec = Jvm.exec) {own C : String} {index : Nat} {y : MethodName} {bytes : ByteArray} {maxL : Nat} {ret : Option FieldType} {hh : List (Nat × Nat × Nat × Nat)}
    (hown : s.vm.findClass own = some m.cls) (hlink : (Cond.methodLink own index y).before args s = true) (hinst : (Cond.instanceMethod y).before args s = true) (hsel : (Cond.selects C y y).before args s = true)
    (hcode : (Cond.codeWith y bytes maxL ret hh).before args s = true) (hy : y.cls ≠ "java/lang/invoke/MethodHandle" ∧ y.cls ≠ "java/lang/invoke/VarHandle")
    {W9 : Nat} {Pre : Pt → Array Value → Prop} {Post : Pt → Array Value → Option Value → Pt → Prop} (hK : Back l R p e below s args y 3 W9 Pre Post)
    {b : Addr} {cellB : Cell} (hcell : T.heap[b]? = some cellB) (hobj : cellB.vm.isStatics = false) (hcls : s.vm.findClass C = some cellB.cls)
    {g : JFrame} (hg : g.method = m) (hsize : g.locals.size = c.maxLocals) {argsL rest : List Value} (hlen : ∀ sig, parseMethodDescriptor y.desc = some sig → argsL.length = sig.parameters.length)
    (hstack : g.stack = argsL.reverse ++ .ref b :: rest) (hW : 2 * g.monitorRoom + (rest.map fun v => v.category).sum ≤ W9) (hdg : decode c.code g.pc = .ok (.invokevirtual index, 3))
    (hpre : ∀ vm₁, s.WarmedH vm₁ → Pre ⟨T.setVm vm₁, locs, cells, slots⟩ (Value.ref b :: argsL).toArray) :
    ∃ (v : Option Value) (vm₁ : Vm) (B : Pt), s.WarmedH vm₁ ∧ Stand p l e R s m args below meth c B.U B.locs B.cells B.slots ∧ Post ⟨T.setVm vm₁, locs, cells, slots⟩ (Value.ref b :: argsL).toArray v B ∧
      ∀ target, Steps p.tables e below (B.U.setTop { g with pc := g.pc + 3, stack := v.toList ++ rest }) target → Steps p.tables e below (T.setTop g) target := by
  obtain ⟨mk, methM, hnamed, hmethM, hstM, habM⟩ := Cond.instanceMethod_spec hinst
  obtain ⟨m8, methM', cM, hn8, hmethM', -, -, -, -, -, -, hsigM⟩ := Cond.codeWith_spec hcode
  cases Option.some.inj (hn8.symm.trans hnamed)
  cases hmethM.symm.trans hmethM'
  obtain ⟨c2, r2, m2, q1, q2, q3, q4, kP, hkP, hkPi⟩ := Cond.selects_spec hsel
  cases hcls.symm.trans q1
  cases (State.methodFound?_of_named hnamed hy).symm.trans q2
  cases hnamed.symm.trans q3
  have hselP : selectMethod e.platform s.vm cellB.cls mk = .method mk := by rw [Launch.admits_selectMethod X.admits]; exact q4
  obtain ⟨vm₁, X₁, hstep₁⟩ := X.invokevirtual hexec hown hlink hnamed hmethM hstM hkP hkPi hy (a := b) (cell := cellB) hcell
    (fun z h => by rw [h] at hobj; cases hobj) hselP hmethM habM hkP hkPi (g := g) hg (argsL := argsL) (rest := rest) (hlen _ hsigM) hstack hdg
  obtain ⟨v, B, X', hpost, hsteps⟩ := hK m meth c ⟨T.setVm vm₁, locs, cells, slots⟩ { g with stack := rest } (.invokevirtual index) mk (Value.ref b :: argsL).toArray X₁ hg hsize hdg hW (X₁.named hnamed) (hpre vm₁ X₁.warmed)
  exact ⟨v, vm₁, B, X₁.warmed, X', hpost, fun target h => hstep₁ _ fun acts => by rw [doInvoke_state]; exact hsteps.trans h⟩
abbrev vx_CVW (R : Room) (s : State) (args : Array Value) (own C : String) (index : Nat) (y : MethodName) (bytes : ByteArray) (maxL : Nat) (ret : Option FieldType) (hh : List (Nat × Nat × Nat × Nat)) (ws : List Cond) (rm : Room) (mc ms n : Nat) : Prop :=
  (rm.cells = mc ∧ rm.slots = ms ∧ rm.frames + 1 ≤ R.frames ∧ 8 + (maxL + 11) + rm.locals ≤ R.locals ∧ (∀ w ∈ ws, ∀ (a' : Array Value) (U : State), s.WarmedH U.vm → w.before a' U = true) ∧ Cond.codeWith y bytes maxL ret hh ∈ ws) ∧
  (Cond.codeWith y bytes maxL ret hh).before args s = true ∧ (Cond.initialized y.cls).before args s = true ∧ (y.cls ≠ "java/lang/invoke/MethodHandle" ∧ y.cls ≠ "java/lang/invoke/VarHandle") ∧
  (∀ sig, parseMethodDescriptor y.desc = some sig → n = sig.parameters.length) ∧ (Cond.methodLink own index y).before args s = true ∧ (Cond.instanceMethod y).before args s = true ∧ (Cond.selects C y y).before args s = true
theorem vx_cwVW {own C : String} {index maxL mc ms : Nat} {y : MethodName} {bytes : ByteArray} {ret : Option FieldType} {hh : List (Nat × Nat × Nat × Nat)} {Ts ws ws' : List Cond} {rm : Room} (n : Nat) (ht : ∀ w ∈ Ts, w.before args s = true) (hT : GoodIn Ts (wsV own index C y ws)) (hw : ws = Cond.codeWith y bytes maxL ret hh :: ws') (hrc : rm.cells = mc) (hrs : rm.slots = ms)
    (hd : y.cls = C ∧ y.cls ≠ "java/lang/invoke/MethodHandle" ∧ y.cls ≠ "java/lang/invoke/VarHandle" ∧ (parseMethodDescriptor y.desc).map (fun d => d.parameters.length) = some n) (hR : rm.frames + 1 ≤ R.frames ∧ 8 + (maxL + 11) + rm.locals ≤ R.locals) :
    vx_CVW R s args own C index y bytes maxL ret hh ws rm mc ms n := by
  obtain ⟨hC, hd⟩ := hd
  subst hC
  have ok : ∀ w ∈ wsV own index y.cls y ws, w.before args s = true := fun w h => ht w (hT w h).1
  have hG : GoodIn Ts ws := fun w h => hT w (by unfold wsV; exact List.mem_append_right _ h)
  have hc : Cond.codeWith y bytes maxL ret hh ∈ ws := by rw [hw]; exact List.mem_cons_self
  refine ⟨⟨hrc, hrs, hR.1, hR.2, pay_in ht hG, hc⟩, ht _ (hG _ hc).1, ok _ (by simp [wsV]), ⟨hd.1, hd.2.1⟩, fun sig h => ?_, ok _ (by simp [wsV]), ok _ (by simp [wsV]), ok _ (by simp [wsV])⟩
  have h2 := hd.2.2
  rw [h] at h2
  exact (Option.some.inj h2).symm
theorem vx_runVW {y : MethodName} {bytes cc : ByteArray} {maxL nL mc ms n index : Nat} {ret : Option FieldType} {hh : List (Nat × Nat × Nat × Nat)} {ws : List Cond} {rm : Room} {Pc : Array Value → State → Prop} {Qc : Array Value → State → Outcome → State → Prop} {free : Addr → Prop} {Ts : List Cond} {own C : String} {b : Addr} {As rest : List Value} {g : JFrame}
    (S : CallFix p m c cc nL s args Ts own) (hM : Met l y ws rm Pc Qc mc ms free) (cw : vx_CVW R s args own C index y bytes maxL ret hh ws rm mc ms n) (hp : PreV s H C b Pc As)
    (hg : g.method = m) (hn : As.length = n) (hsize : g.locals.size = nL) (hstack : g.stack = As.reverse ++ .ref b :: rest) (hW : 2 * g.monitorRoom + (rest.map fun v => v.category).sum ≤ 8) (hdg : decode cc g.pc = .ok (.invokevirtual index, 3)) (hf : cells + mc ≤ R.cells ∧ slots + ms ≤ R.slots) :
    va_Run p l e R s m args below meth c H locs cells slots mc ms g rest (Qc (Value.ref b :: As).toArray) free := by
  obtain ⟨⟨hrc, hrs, hfr, hlo, hws, hcw⟩, hcode, hini, hy, hlen, hl, hin, hse⟩ := cw
  have hK : Back l R p e below s args y 3 8 (PreOf R mc ms Pc) (PostOf Qc mc ms free) := va_backW (hh := hh) (bytes := bytes) (maxL := maxL) (ret := ret) hM hp.1 hrc hrs hfr hlo hws hcw (fun a' U hW => word_at hW (Or.inl (by first | rfl | simp [Cond.onTables, Cond.keeps, Cond.steady])) hini)
  obtain ⟨hx, hb, hml, ho, -⟩ := S
  obtain ⟨-, ⟨cellB, hcB, hoB, hclB⟩, hPc⟩ := hp
  intro T hT X
  obtain ⟨v, vm₁, ⟨U', l2, c2, s2⟩, hW₁, X', ⟨g', mk, t, L, e1, e2, hq, h1, hL, h2, h3⟩, st⟩ := vx_callVW X hx (C := C) (hh := hh) (bytes := bytes) (maxL := maxL) (ret := ret) ho hl hin hse hcode hy hK (by rw [hT]; exact hcB) hoB hclB hg (hsize.trans hml.symm) (argsL := As) (rest := rest) (fun sig h => hn.trans (hlen sig h)) hstack hW (by rw [hb]; exact hdg)
    (fun vm₁ hW₁ => ⟨hf.1, hf.2, hPc (T.setVm vm₁) hT hW₁⟩)
  dsimp only [Pt.U, Pt.locs, Pt.cells, Pt.slots] at X' e1 e2 h1 h2 h3 st
  subst h1; subst h2; subst h3
  exact ⟨v, (T.setVm vm₁).calling g' mk (Value.ref b :: As).toArray, t, U', L, hT, X', hL, e1, e2, hq, st⟩
section
variable {y : MethodName} {bytes cc : ByteArray} {maxL nL mc ms n index : Nat} {ret : Option FieldType} {ws : List Cond} {rm : Room} {Pc : Array Value → State → Prop} {Qc : Array Value → State → Outcome → State → Prop} {XC : String → State → State → Prop} {free : Addr → Prop} {Ts : List Cond} {own C : String} {b : Addr} {As rest : List Value} {g : JFrame}
theorem vx_runVX {hh : List (Nat × Nat × Nat × Nat)} (S : CallFix p m c cc nL s args Ts own) (hM : vx_Met l y ws rm Pc Qc XC mc ms free) (cw : vx_CVW R s args own C index y bytes maxL ret hh ws rm mc ms n) (hp : PreV s H C b Pc As)
    (hg : g.method = m) (hn : As.length = n) (hsize : g.locals.size = nL) (hstack : g.stack = As.reverse ++ .ref b :: rest) (hW : 2 * g.monitorRoom + (rest.map fun v => v.category).sum ≤ 8) (hdg : decode cc g.pc = .ok (.invokevirtual index, 3)) (hf : cells + mc ≤ R.cells ∧ slots + ms ≤ R.slots) :
    vx_Run p l e R s m args below meth c H locs cells slots mc ms g rest (Qc (Value.ref b :: As).toArray) XC free := by
  obtain ⟨⟨hrc, hrs, hfr, hlo, hws, hcw⟩, hcode, hini, hy, hlen, hl, hin, hse⟩ := cw
  have hK : vx_Back l R p e below s args y 3 8 (PreOf R mc ms Pc) (PostOf Qc mc ms free) (vx_Post XC mc ms free) := vx_backW (hh := hh) (bytes := bytes) (maxL := maxL) (ret := ret) hM hp.1 hrc hrs hfr hlo hws hcw (fun a' U hW => word_at hW (Or.inl (by first | rfl | simp [Cond.onTables, Cond.keeps, Cond.steady])) hini)
  obtain ⟨hx, hb, hml, ho, -⟩ := S
  obtain ⟨-, ⟨cellB, hcB, hoB, hclB⟩, hPc⟩ := hp
  intro T hT X
  rcases vx_callVX X hx (C := C) (hh := hh) (bytes := bytes) (maxL := maxL) (ret := ret) ho hl hin hse hcode hy hK (by rw [hT]; exact hcB) hoB hclB hg (hsize.trans hml.symm) (argsL := As) (rest := rest) (fun sig h => hn.trans (hlen sig h)) hstack hW (by rw [hb]; exact hdg)
    (fun vm₁ hW₁ => ⟨hf.1, hf.2, hPc (T.setVm vm₁) hT hW₁⟩) with ⟨v, vm₁, ⟨U', l2, c2, s2⟩, hW₁, X', ⟨g', mk, t, L, e1, e2, hq, h1, hL, h2, h3⟩, st⟩ | ⟨q, vm₁, ⟨U', l2, c2, s2⟩, hW₁, X', ⟨g', mk, t, L, E, ce, e1, e2, hq, hce, hcv, hcl, h1, hL, h2, h3⟩, st⟩
  · dsimp only [Pt.U, Pt.locs, Pt.cells, Pt.slots] at X' e1 e2 h1 h2 h3 st
    subst h1; subst h2; subst h3
    exact Or.inl ⟨v, (T.setVm vm₁).calling g' mk (Value.ref b :: As).toArray, t, U', L, hT, X', hL, e1, e2, hq, st⟩
  · dsimp only [Pt.U, Pt.locs, Pt.cells, Pt.slots] at X' e1 e2 h1 h2 h3 st hcl
    subst h1; subst h2; subst h3
    exact Or.inr ⟨q, (T.setVm vm₁).calling g' mk (Value.ref b :: As).toArray, t, U', L, E, ce, hT, X', hL, e1, e2, hq, hce, hcv, vx_cls hW₁ hcl, st⟩
theorem vx_runSX {hh : List (Nat × Nat × Nat × Nat)} (S : CallFix p m c cc nL s args Ts own) (hM : vx_Met l y ws rm Pc Qc XC mc ms free) (cw : vx_CSW R s args own index y bytes maxL ret hh ws rm mc ms n) (hp : PreS s H Pc As)
    (hg : g.method = m) (hn : As.length = n) (hsize : g.locals.size = nL) (hstack : g.stack = As.reverse ++ rest) (hW : 2 * g.monitorRoom + (rest.map fun v => v.category).sum ≤ 8) (hdg : decode cc g.pc = .ok (.invokestatic index, 3)) (hf : cells + mc ≤ R.cells ∧ slots + ms ≤ R.slots) :
    vx_Run p l e R s m args below meth c H locs cells slots mc ms g rest (Qc As.toArray) XC free := by
  obtain ⟨⟨hrc, hrs, hfr, hlo, hws, hcw⟩, hcode, hini, hy, hlen, hl, hstt⟩ := cw
  have hK : vx_Back l R p e below s args y 3 8 (PreOf R mc ms Pc) (PostOf Qc mc ms free) (vx_Post XC mc ms free) := vx_backW (hh := hh) (bytes := bytes) (maxL := maxL) (ret := ret) hM hp.1 hrc hrs hfr hlo hws hcw (fun a' U hW => word_at hW (Or.inl (by first | rfl | simp [Cond.onTables, Cond.keeps, Cond.steady])) hini)
  obtain ⟨hx, hb, hml, ho, -⟩ := S
  intro T hT X
  rcases vx_callSX X hx (hh := hh) (bytes := bytes) (maxL := maxL) (ret := ret) ho hl hstt hini hcode hy hK hg (hsize.trans hml.symm) (argsL := As) (rest := rest) (fun sig h => hn.trans (hlen sig h)) hstack hW (by rw [hb]; exact hdg)
    (fun vm₁ hW₁ => ⟨hf.1, hf.2, hp.2 (T.setVm vm₁) hT hW₁⟩) with ⟨v, vm₁, ⟨U', l2, c2, s2⟩, hW₁, X', ⟨g', mk, t, L, e1, e2, hq, h1, hL, h2, h3⟩, st⟩ | ⟨q, vm₁, ⟨U', l2, c2, s2⟩, hW₁, X', ⟨g', mk, t, L, E, ce, e1, e2, hq, hce, hcv, hcl, h1, hL, h2, h3⟩, st⟩
  · dsimp only [Pt.U, Pt.locs, Pt.cells, Pt.slots] at X' e1 e2 h1 h2 h3 st
    subst h1; subst h2; subst h3
    exact Or.inl ⟨v, (T.setVm vm₁).calling g' mk As.toArray, t, U', L, hT, X', hL, e1, e2, hq, st⟩
  · dsimp only [Pt.U, Pt.locs, Pt.cells, Pt.slots] at X' e1 e2 h1 h2 h3 st hcl
    subst h1; subst h2; subst h3
    exact Or.inr ⟨q, (T.setVm vm₁).calling g' mk As.toArray, t, U', L, E, ce, hT, X', hL, e1, e2, hq, hce, hcv, vx_cls hW₁ hcl, st⟩
end
end VXH
theorem vx_ofWH {l : Launch} {y : MethodName} {ws ws' : List Cond} {rm : Room} {Pc : Array Value → State → Prop} {Qc : Array Value → State → Outcome → State → Prop} {XC : String → State → State → Prop} {mc ms : Nat} {free : Addr → Prop} {cc : ByteArray} {maxL : Nat} {ret : Option FieldType} {hh : List (Nat × Nat × Nat × Nat)}
    (hy : plainName y.cls = true) (hw : ws = Cond.codeWith y cc maxL ret hh :: ws')
    (body : ∀ p e s m args below meth c s₁, BodyLoose p l y (headSpec ws rm) cc maxL ret e s m args below meth c s₁ → c.maxLocals = maxL → Pc args s →
      W p l e (headSpec ws rm).room s m args below meth c s.heap [] 0 0 (vx_MQ below Qc XC args s mc ms free) (entryFrame m args maxL)) : vx_Met l y ws rm Pc Qc XC mc ms free := by
  refine MetFree.of_bodyS (code := cc) (maxLocals := maxL) (ret := ret) hy ?_ ?_
  · intro args s m h hn
    obtain ⟨m9, meth, c, hn9, h1, h2, h3, h4, -, h5, h6, -⟩ := Cond.codeWith_spec (atoms_spec (ws := ws) h _ (by rw [hw]; exact List.mem_cons_self))
    cases hn.symm.trans hn9
    exact ⟨meth, c, h1, h2, h3, h4, h5, h6⟩
  · intro p e s m args below meth c s₁ B hml hP _
    have hh0 : s₁.heap = s.heap := by rw [B.state]; rfl
    obtain ⟨t, a1, o, b1, b2, b3⟩ := body p e s m args below meth c s₁ B hml hP s₁ hh0 (Stand.of_body B)
    exact ⟨t, o, a1, b1, b2, b3⟩
/-! ===== END ===== -/
end
section
/-! ===== BEGIN printed: names, fields, word lists, decode rows ===== -/
def RX0 : String := "AccentModems$Lesson"
def TX0 : u_T := fun k => match k with
  | 0 => ("AccentModems$Lesson", "sizes", "[I", true)
  | _ => ("AccentModems$Lesson", "beats", "I", false)
def tyX0 : Nat → FieldType := fun k => match k with
  | 0 => .array .int
  | _ => .int
theorem nmX0 : ∀ a, a < 2 → ∀ b, b < 2 → a ≠ b → (TX0 a).2.1 ≠ (TX0 b).2.1 := by decide +kernel
theorem tyX0_ok : ∀ k, k < 2 → parseFieldDescriptor (TX0 k).2.2.1 = some (tyX0 k) := by decide +kernel
abbrev cX0_init : ByteArray := prog_2_method_1_code
def yX0_init : MethodName := ⟨RX0, "<init>", "()V"⟩
abbrev cX0_begin : ByteArray := prog_2_method_2_code
def yX0_begin : MethodName := ⟨RX0, "begin", "()V"⟩
abbrev cX0_note : ByteArray := prog_2_method_3_code
def yX0_note : MethodName := ⟨RX0, "note", "(II)V"⟩
abbrev cX0_worstOf : ByteArray := prog_2_method_4_code
def yX0_worstOf : MethodName := ⟨RX0, "worstOf", "(I)I"⟩
def RX1 : String := "AccentModems$State"
def TX1 : u_T := fun k => match k with
  | 0 => ("AccentModems$State", "there", "LAccentModems$Way;", true)
  | 1 => ("AccentModems$State", "back", "LAccentModems$Way;", true)
  | 2 => ("AccentModems$State", "settings", "[I", true)
  | 3 => ("AccentModems$State", "seed", "I", false)
  | _ => ("AccentModems$State", "beats", "I", false)
def tyX1 : Nat → FieldType := fun k => match k with
  | 0 => .object "AccentModems$Way"
  | 1 => .object "AccentModems$Way"
  | 2 => .array .int
  | 3 => .int
  | _ => .int
theorem nmX1 : ∀ a, a < 5 → ∀ b, b < 5 → a ≠ b → (TX1 a).2.1 ≠ (TX1 b).2.1 := by decide +kernel
theorem tyX1_ok : ∀ k, k < 5 → parseFieldDescriptor (TX1 k).2.2.1 = some (tyX1 k) := by decide +kernel
abbrev cX1_init : ByteArray := prog_3_method_1_code
def yX1_init : MethodName := ⟨RX1, "<init>", "()V"⟩
abbrev cX1_wayAt : ByteArray := prog_3_method_2_code
def yX1_wayAt : MethodName := ⟨RX1, "wayAt", "(I)LAccentModems$Way;"⟩
abbrev cX1_copyFrom : ByteArray := prog_3_method_3_code
def yX1_copyFrom : MethodName := ⟨RX1, "copyFrom", "(LAccentModems$State;)V"⟩
abbrev cX1_copyCommonFrom : ByteArray := prog_3_method_5_code
def yX1_copyCommonFrom : MethodName := ⟨RX1, "copyCommonFrom", "(LAccentModems$State;)V"⟩
abbrev cX1_draw : ByteArray := prog_3_method_6_code
def yX1_draw : MethodName := ⟨RX1, "draw", "(I)I"⟩
abbrev cX1_drawNoise : ByteArray := prog_3_method_7_code
def yX1_drawNoise : MethodName := ⟨RX1, "drawNoise", "(LAccentModems$Tone;)I"⟩
abbrev cX1_sendBeats : ByteArray := prog_3_method_8_code
def yX1_sendBeats : MethodName := ⟨RX1, "sendBeats", "(LAccentModems$Way;I)I"⟩
abbrev cX1_sendSign : ByteArray := prog_3_method_9_code
def yX1_sendSign : MethodName := ⟨RX1, "sendSign", "(LAccentModems$Way;LAccentModems$Tone;)I"⟩
abbrev cX1_takeLesson : ByteArray := prog_3_method_10_code
def yX1_takeLesson : MethodName := ⟨RX1, "takeLesson", "(LAccentModems$Way;ILAccentModems$Lesson;)V"⟩
abbrev cX1_learnBeat : ByteArray := prog_3_method_11_code
def yX1_learnBeat : MethodName := ⟨RX1, "learnBeat", "(LAccentModems$Way;LAccentModems$Lesson;)V"⟩
def RX2 : String := "AccentModems$Text"
def TX2 : u_T := fun k => match k with
  | 0 => ("AccentModems$Text", "characters", "[C", true)
  | _ => ("AccentModems$Text", "length", "I", false)
def tyX2 : Nat → FieldType := fun k => match k with
  | 0 => .array .char
  | _ => .int
theorem nmX2 : ∀ a, a < 2 → ∀ b, b < 2 → a ≠ b → (TX2 a).2.1 ≠ (TX2 b).2.1 := by decide +kernel
theorem tyX2_ok : ∀ k, k < 2 → parseFieldDescriptor (TX2 k).2.2.1 = some (tyX2 k) := by decide +kernel
abbrev cX2_init : ByteArray := prog_4_method_1_code
def yX2_init : MethodName := ⟨RX2, "<init>", "()V"⟩
abbrev cX2_next : ByteArray := prog_4_method_2_code
def yX2_next : MethodName := ⟨RX2, "next", "(IC)I"⟩
abbrev cX2_behindDigit : ByteArray := prog_4_method_3_code
def yX2_behindDigit : MethodName := ⟨RX2, "behindDigit", "(C)I"⟩
abbrev cX2_digitOf : ByteArray := prog_4_method_4_code
def yX2_digitOf : MethodName := ⟨RX2, "digitOf", "(C)I"⟩
abbrev cX2_errorPlace : ByteArray := prog_4_method_5_code
def yX2_errorPlace : MethodName := ⟨RX2, "errorPlace", "()I"⟩
abbrev cX2_isComplete : ByteArray := prog_4_method_6_code
def yX2_isComplete : MethodName := ⟨RX2, "isComplete", "()Z"⟩
abbrev cX2_bitsFor : ByteArray := prog_4_method_7_code
def yX2_bitsFor : MethodName := ⟨RX2, "bitsFor", "(I)I"⟩
abbrev cX2_putBits : ByteArray := prog_4_method_8_code
def yX2_putBits : MethodName := ⟨RX2, "putBits", "(LAccentModems$State;)V"⟩
def RX3 : String := "AccentModems$Tone"
def TX3 : u_T := fun k => match k with
  | 0 => ("AccentModems$Tone", "gain", "I", false)
  | 1 => ("AccentModems$Tone", "echo1", "I", false)
  | 2 => ("AccentModems$Tone", "echo2", "I", false)
  | 3 => ("AccentModems$Tone", "noise", "I", false)
  | 4 => ("AccentModems$Tone", "insult", "I", false)
  | 5 => ("AccentModems$Tone", "last", "I", false)
  | 6 => ("AccentModems$Tone", "before", "I", false)
  | 7 => ("AccentModems$Tone", "accentGain", "I", false)
  | 8 => ("AccentModems$Tone", "accentEcho1", "I", false)
  | 9 => ("AccentModems$Tone", "accentEcho2", "I", false)
  | 10 => ("AccentModems$Tone", "bits", "I", false)
  | 11 => ("AccentModems$Tone", "worst", "I", false)
  | 12 => ("AccentModems$Tone", "wrongsToShy", "I", false)
  | 13 => ("AccentModems$Tone", "shies", "I", false)
  | 14 => ("AccentModems$Tone", "signs", "I", false)
  | 15 => ("AccentModems$Tone", "wrongSigns", "I", false)
  | 16 => ("AccentModems$Tone", "taken", "I", false)
  | _ => ("AccentModems$Tone", "takenBefore", "I", false)
def tyX3 : Nat → FieldType := fun k => match k with
  | 0 => .int
  | 1 => .int
  | 2 => .int
  | 3 => .int
  | 4 => .int
  | 5 => .int
  | 6 => .int
  | 7 => .int
  | 8 => .int
  | 9 => .int
  | 10 => .int
  | 11 => .int
  | 12 => .int
  | 13 => .int
  | 14 => .int
  | 15 => .int
  | 16 => .int
  | _ => .int
theorem nmX3 : ∀ a, a < 18 → ∀ b, b < 18 → a ≠ b → (TX3 a).2.1 ≠ (TX3 b).2.1 := by decide +kernel
theorem tyX3_ok : ∀ k, k < 18 → parseFieldDescriptor (TX3 k).2.2.1 = some (tyX3 k) := by decide +kernel
abbrev cX3_init : ByteArray := prog_5_method_1_code
def yX3_init : MethodName := ⟨RX3, "<init>", "()V"⟩
abbrev cX3_copyFrom : ByteArray := prog_5_method_2_code
def yX3_copyFrom : MethodName := ⟨RX3, "copyFrom", "(LAccentModems$Tone;)V"⟩
abbrev cX3_streetNumber : ByteArray := prog_5_method_3_code
def yX3_streetNumber : MethodName := ⟨RX3, "streetNumber", "(I)I"⟩
abbrev cX3_setStreetNumber : ByteArray := prog_5_method_4_code
def yX3_setStreetNumber : MethodName := ⟨RX3, "setStreetNumber", "(II)V"⟩
abbrev cX3_accentNumber : ByteArray := prog_5_method_5_code
def yX3_accentNumber : MethodName := ⟨RX3, "accentNumber", "(I)I"⟩
abbrev cX3_amplitudeOf : ByteArray := prog_5_method_6_code
def yX3_amplitudeOf : MethodName := ⟨RX3, "amplitudeOf", "(I)I"⟩
abbrev cX3_arriving : ByteArray := prog_5_method_7_code
def yX3_arriving : MethodName := ⟨RX3, "arriving", "(II)I"⟩
abbrev cX3_expected : ByteArray := prog_5_method_8_code
def yX3_expected : MethodName := ⟨RX3, "expected", "(I)I"⟩
abbrev cX3_decide : ByteArray := prog_5_method_9_code
def yX3_decide : MethodName := ⟨RX3, "decide", "(I)I"⟩
abbrev cX3_pass : ByteArray := prog_5_method_10_code
def yX3_pass : MethodName := ⟨RX3, "pass", "(II)V"⟩
abbrev cX3_knowSignBefore : ByteArray := prog_5_method_11_code
def yX3_knowSignBefore : MethodName := ⟨RX3, "knowSignBefore", "()V"⟩
abbrev cX3_countSign : ByteArray := prog_5_method_12_code
def yX3_countSign : MethodName := ⟨RX3, "countSign", "(Z)V"⟩
abbrev cX3_becomeShyAt : ByteArray := prog_5_method_13_code
def yX3_becomeShyAt : MethodName := ⟨RX3, "becomeShyAt", "(I)V"⟩
abbrev cX3_improve : ByteArray := prog_5_method_14_code
def yX3_improve : MethodName := ⟨RX3, "improve", "(III)V"⟩
abbrev cX3_step : ByteArray := prog_5_method_15_code
def yX3_step : MethodName := ⟨RX3, "step", "(II)I"⟩
abbrev cX3_held : ByteArray := prog_5_method_16_code
def yX3_held : MethodName := ⟨RX3, "held", "(III)I"⟩
abbrev cX3_endLesson : ByteArray := prog_5_method_17_code
def yX3_endLesson : MethodName := ⟨RX3, "endLesson", "(II)V"⟩
abbrev cX3_bitsFor : ByteArray := prog_5_method_18_code
def yX3_bitsFor : MethodName := ⟨RX3, "bitsFor", "(II)I"⟩
abbrev cX3_roomWith : ByteArray := prog_5_method_19_code
def yX3_roomWith : MethodName := ⟨RX3, "roomWith", "(I)I"⟩
abbrev cX3_sureBits : ByteArray := prog_5_method_20_code
def yX3_sureBits : MethodName := ⟨RX3, "sureBits", "()I"⟩
abbrev cX3_misheardWith : ByteArray := prog_5_method_21_code
def yX3_misheardWith : MethodName := ⟨RX3, "misheardWith", "(I)I"⟩
abbrev cX3_loseAccent : ByteArray := prog_5_method_22_code
def yX3_loseAccent : MethodName := ⟨RX3, "loseAccent", "()V"⟩
def RX4 : String := "AccentModems$WaitingBits"
def TX4 : u_T := fun k => match k with
  | 0 => ("AccentModems$WaitingBits", "ring", "[I", true)
  | 1 => ("AccentModems$WaitingBits", "start", "I", false)
  | _ => ("AccentModems$WaitingBits", "size", "I", false)
def tyX4 : Nat → FieldType := fun k => match k with
  | 0 => .array .int
  | 1 => .int
  | _ => .int
theorem nmX4 : ∀ a, a < 3 → ∀ b, b < 3 → a ≠ b → (TX4 a).2.1 ≠ (TX4 b).2.1 := by decide +kernel
theorem tyX4_ok : ∀ k, k < 3 → parseFieldDescriptor (TX4 k).2.2.1 = some (tyX4 k) := by decide +kernel
abbrev cX4_init : ByteArray := prog_6_method_1_code
def yX4_init : MethodName := ⟨RX4, "<init>", "()V"⟩
abbrev cX4_copyFrom : ByteArray := prog_6_method_2_code
def yX4_copyFrom : MethodName := ⟨RX4, "copyFrom", "(LAccentModems$WaitingBits;)V"⟩
abbrev cX4_bitAt : ByteArray := prog_6_method_3_code
def yX4_bitAt : MethodName := ⟨RX4, "bitAt", "(I)I"⟩
abbrev cX4_put : ByteArray := prog_6_method_4_code
def yX4_put : MethodName := ⟨RX4, "put", "(I)V"⟩
abbrev cX4_putDigit : ByteArray := prog_6_method_5_code
def yX4_putDigit : MethodName := ⟨RX4, "putDigit", "(I)V"⟩
abbrev cX4_take : ByteArray := prog_6_method_6_code
def yX4_take : MethodName := ⟨RX4, "take", "(I)I"⟩
def RX5 : String := "AccentModems$Way"
def TX5 : u_T := fun k => match k with
  | 0 => ("AccentModems$Way", "tones", "[LAccentModems$Tone;", true)
  | 1 => ("AccentModems$Way", "waiting", "LAccentModems$WaitingBits;", true)
  | 2 => ("AccentModems$Way", "latest", "J", false)
  | 3 => ("AccentModems$Way", "came", "I", false)
  | _ => ("AccentModems$Way", "wrong", "I", false)
def tyX5 : Nat → FieldType := fun k => match k with
  | 0 => .array (.object "AccentModems$Tone")
  | 1 => .object "AccentModems$WaitingBits"
  | 2 => .long
  | 3 => .int
  | _ => .int
theorem nmX5 : ∀ a, a < 5 → ∀ b, b < 5 → a ≠ b → (TX5 a).2.1 ≠ (TX5 b).2.1 := by decide +kernel
theorem tyX5_ok : ∀ k, k < 5 → parseFieldDescriptor (TX5 k).2.2.1 = some (tyX5 k) := by decide +kernel
abbrev cX5_init : ByteArray := prog_7_method_1_code
def yX5_init : MethodName := ⟨RX5, "<init>", "()V"⟩
abbrev cX5_copyFrom : ByteArray := prog_7_method_2_code
def yX5_copyFrom : MethodName := ⟨RX5, "copyFrom", "(LAccentModems$Way;)V"⟩
abbrev cX5_receive : ByteArray := prog_7_method_3_code
def yX5_receive : MethodName := ⟨RX5, "receive", "(III)V"⟩
abbrev cX5_bits : ByteArray := prog_7_method_4_code
def yX5_bits : MethodName := ⟨RX5, "bits", "()I"⟩
abbrev cX5_shies : ByteArray := prog_7_method_5_code
def yX5_shies : MethodName := ⟨RX5, "shies", "()I"⟩
abbrev cX5_insulted : ByteArray := prog_7_method_6_code
def yX5_insulted : MethodName := ⟨RX5, "insulted", "()I"⟩
def RX6 : String := "AccentModems"
def TX6 : u_T := fun k => match k with
  | 0 => ("AccentModems", "now", "LAccentModems$State;", true)
  | 1 => ("AccentModems", "trial", "LAccentModems$State;", true)
  | 2 => ("AccentModems", "saved", "[LAccentModems$State;", true)
  | 3 => ("AccentModems", "lesson", "LAccentModems$Lesson;", true)
  | 4 => ("AccentModems", "text", "LAccentModems$Text;", true)
  | _ => ("AccentModems", "savedCount", "I", false)
def tyX6 : Nat → FieldType := fun k => match k with
  | 0 => .object "AccentModems$State"
  | 1 => .object "AccentModems$State"
  | 2 => .array (.object "AccentModems$State")
  | 3 => .object "AccentModems$Lesson"
  | 4 => .object "AccentModems$Text"
  | _ => .int
theorem nmX6 : ∀ a, a < 6 → ∀ b, b < 6 → a ≠ b → (TX6 a).2.1 ≠ (TX6 b).2.1 := by decide +kernel
theorem tyX6_ok : ∀ k, k < 6 → parseFieldDescriptor (TX6 k).2.2.1 = some (tyX6 k) := by decide +kernel
abbrev cX6_init : ByteArray := prog_1_method_1_code
def yX6_init : MethodName := ⟨RX6, "<init>", "()V"⟩
abbrev cX6_build : ByteArray := prog_1_method_2_code
def yX6_build : MethodName := ⟨RX6, "build", "(IIII)I"⟩
abbrev cX6_carry : ByteArray := prog_1_method_3_code
def yX6_carry : MethodName := ⟨RX6, "carry", "(III)I"⟩
abbrev cX6_insult : ByteArray := prog_1_method_4_code
def yX6_insult : MethodName := ⟨RX6, "insult", "(III)I"⟩
abbrev cX6_set : ByteArray := prog_1_method_5_code
def yX6_set : MethodName := ⟨RX6, "set", "(II)I"⟩
abbrev cX6_learn : ByteArray := prog_1_method_6_code
def yX6_learn : MethodName := ⟨RX6, "learn", "(II)I"⟩
abbrev cX6_send : ByteArray := prog_1_method_7_code
def yX6_send : MethodName := ⟨RX6, "send", "(II)I"⟩
abbrev cX6_forget : ByteArray := prog_1_method_8_code
def yX6_forget : MethodName := ⟨RX6, "forget", "(I)I"⟩
abbrev cX6_append : ByteArray := prog_1_method_9_code
def yX6_append : MethodName := ⟨RX6, "append", "(I)I"⟩
abbrev cX6_clearBuffer : ByteArray := prog_1_method_10_code
def yX6_clearBuffer : MethodName := ⟨RX6, "clearBuffer", "()I"⟩
abbrev cX6_firstError : ByteArray := prog_1_method_11_code
def yX6_firstError : MethodName := ⟨RX6, "firstError", "()I"⟩
abbrev cX6_say : ByteArray := prog_1_method_12_code
def yX6_say : MethodName := ⟨RX6, "say", "()I"⟩
abbrev cX6_street : ByteArray := prog_1_method_14_code
def yX6_street : MethodName := ⟨RX6, "street", "(III)I"⟩
abbrev cX6_accent : ByteArray := prog_1_method_15_code
def yX6_accent : MethodName := ⟨RX6, "accent", "(III)I"⟩
abbrev cX6_waits : ByteArray := prog_1_method_16_code
def yX6_waits : MethodName := ⟨RX6, "waits", "(II)I"⟩
abbrev cX6_had : ByteArray := prog_1_method_17_code
def yX6_had : MethodName := ⟨RX6, "had", "(I)J"⟩
abbrev cX6_count : ByteArray := prog_1_method_18_code
def yX6_count : MethodName := ⟨RX6, "count", "(I)I"⟩
abbrev cX6_setting : ByteArray := prog_1_method_19_code
def yX6_setting : MethodName := ⟨RX6, "setting", "(I)I"⟩
abbrev cX6_sure : ByteArray := prog_1_method_20_code
def yX6_sure : MethodName := ⟨RX6, "sure", "(II)I"⟩
abbrev cX6_rightShare : ByteArray := prog_1_method_26_code
def yX6_rightShare : MethodName := ⟨RX6, "rightShare", "(I)D"⟩
abbrev cX6_wayOf : ByteArray := prog_1_method_31_code
def yX6_wayOf : MethodName := ⟨RX6, "wayOf", "(I)LAccentModems$Way;"⟩
abbrev cX6_toneOf : ByteArray := prog_1_method_32_code
def yX6_toneOf : MethodName := ⟨RX6, "toneOf", "(II)LAccentModems$Tone;"⟩
abbrev cX6_checkStreetNumber : ByteArray := prog_1_method_33_code
def yX6_checkStreetNumber : MethodName := ⟨RX6, "checkStreetNumber", "(II)V"⟩
abbrev cX6_checkSetting : ByteArray := prog_1_method_34_code
def yX6_checkSetting : MethodName := ⟨RX6, "checkSetting", "(I)V"⟩
abbrev cX6_checkBeats : ByteArray := prog_1_method_35_code
def yX6_checkBeats : MethodName := ⟨RX6, "checkBeats", "(I)V"⟩
abbrev cX6_checkBeatsLeft : ByteArray := prog_1_method_36_code
def yX6_checkBeatsLeft : MethodName := ⟨RX6, "checkBeatsLeft", "(I)V"⟩
abbrev cX6_save : ByteArray := prog_1_method_37_code
def yX6_save : MethodName := ⟨RX6, "save", "()V"⟩
abbrev cX6_dropOldest : ByteArray := prog_1_method_38_code
def yX6_dropOldest : MethodName := ⟨RX6, "dropOldest", "()V"⟩
def RX7 : String := "AccentModemsModel"
def TX7 : u_T := fun k => match k with
  | _ => ("", "", "", false)
def tyX7 : Nat → FieldType := fun k => match k with
  | _ => .int
theorem nmX7 : ∀ a, a < 0 → ∀ b, b < 0 → a ≠ b → (TX7 a).2.1 ≠ (TX7 b).2.1 := by decide +kernel
theorem tyX7_ok : ∀ k, k < 0 → parseFieldDescriptor (TX7 k).2.2.1 = some (tyX7 k) := by decide +kernel
def RJ6 : String := "java/lang/Integer"
def TJ6 : u_T := fun k => match k with
  | _ => ("", "", "", false)
def tyJ6 : Nat → FieldType := fun k => match k with
  | _ => .int
theorem nmJ6 : ∀ a, a < 0 → ∀ b, b < 0 → a ≠ b → (TJ6 a).2.1 ≠ (TJ6 b).2.1 := by decide +kernel
theorem tyJ6_ok : ∀ k, k < 0 → parseFieldDescriptor (TJ6 k).2.2.1 = some (tyJ6 k) := by decide +kernel
abbrev cJ6_bitCount_0f7a4 : ByteArray := prog_14_method_49_code
def yJ6_bitCount_0f7a4 : MethodName := ⟨RJ6, "bitCount", "(I)I"⟩
def RJ9 : String := "java/lang/Math"
def TJ9 : u_T := fun k => match k with
  | _ => ("", "", "", false)
def tyJ9 : Nat → FieldType := fun k => match k with
  | _ => .int
theorem nmJ9 : ∀ a, a < 0 → ∀ b, b < 0 → a ≠ b → (TJ9 a).2.1 ≠ (TJ9 b).2.1 := by decide +kernel
theorem tyJ9_ok : ∀ k, k < 0 → parseFieldDescriptor (TJ9 k).2.2.1 = some (tyJ9 k) := by decide +kernel
abbrev cJ9_floorMod_7cf53 : ByteArray := prog_15_method_50_code
def yJ9_floorMod_7cf53 : MethodName := ⟨RJ9, "floorMod", "(II)I"⟩
abbrev cJ9_abs_0f7a4 : ByteArray := prog_15_method_59_code
def yJ9_abs_0f7a4 : MethodName := ⟨RJ9, "abs", "(I)I"⟩
abbrev cJ9_max_7cf53 : ByteArray := prog_15_method_65_code
def yJ9_max_7cf53 : MethodName := ⟨RJ9, "max", "(II)I"⟩
abbrev cJ9_min_7cf53 : ByteArray := prog_15_method_69_code
def yJ9_min_7cf53 : MethodName := ⟨RJ9, "min", "(II)I"⟩
def RJ0 : String := "java/lang/String"
def TJ0 : u_T := fun k => match k with
  | _ => ("", "", "", false)
def tyJ0 : Nat → FieldType := fun k => match k with
  | _ => .int
theorem nmJ0 : ∀ a, a < 0 → ∀ b, b < 0 → a ≠ b → (TJ0 a).2.1 ≠ (TJ0 b).2.1 := by decide +kernel
theorem tyJ0_ok : ∀ k, k < 0 → parseFieldDescriptor (TJ0 k).2.2.1 = some (tyJ0 k) := by decide +kernel
def RJ10 : String := "java/lang/System"
def TJ10 : u_T := fun k => match k with
  | _ => ("", "", "", false)
def tyJ10 : Nat → FieldType := fun k => match k with
  | _ => .int
theorem nmJ10 : ∀ a, a < 0 → ∀ b, b < 0 → a ≠ b → (TJ10 a).2.1 ≠ (TJ10 b).2.1 := by decide +kernel
theorem tyJ10_ok : ∀ k, k < 0 → parseFieldDescriptor (TJ10 k).2.2.1 = some (tyJ10 k) := by decide +kernel
def RL : String := "AccentModemsLaw"
abbrev cL_cell : ByteArray := method_2_code
def yL_cell : MethodName := ⟨RL, "cell", "([II)I"⟩
abbrev cL_at : ByteArray := method_3_code
def yL_at : MethodName := ⟨RL, "at", "(II)I"⟩
abbrev cL_draw : ByteArray := method_4_code
def yL_draw : MethodName := ⟨RL, "draw", "(I[I)I"⟩
abbrev cL_amp : ByteArray := method_5_code
def yL_amp : MethodName := ⟨RL, "amp", "(II)I"⟩
abbrev cL_come : ByteArray := method_6_code
def yL_come : MethodName := ⟨RL, "come", "(II[I[I[I)I"⟩
abbrev cL_size : ByteArray := method_7_code
def yL_size : MethodName := ⟨RL, "size", "(I)I"⟩
abbrev cL_held : ByteArray := method_8_code
def yL_held : MethodName := ⟨RL, "held", "(III)I"⟩
abbrev cL_lesson : ByteArray := method_9_code
def yL_lesson : MethodName := ⟨RL, "lesson", "(II[I[I[I[I[I[I[I)V"⟩
abbrev cL_learn : ByteArray := method_10_code
def yL_learn : MethodName := ⟨RL, "learn", "(II[I[I[I[I[I[I[I[I)I"⟩
abbrev cL_next : ByteArray := method_11_code
def yL_next : MethodName := ⟨RL, "next", "(I[I[I)I"⟩
abbrev cL_taken : ByteArray := method_12_code
def yL_taken : MethodName := ⟨RL, "taken", "(II[I[I)I"⟩
abbrev cL_sign : ByteArray := method_13_code
def yL_sign : MethodName := ⟨RL, "sign", "(I[I[I[I[I[I[I[I[J)I"⟩
abbrev cL_send : ByteArray := method_14_code
def yL_send : MethodName := ⟨RL, "send", "(II[I[I[I[I[I[I[I[I[J)I"⟩
abbrev cL_sure : ByteArray := method_15_code
def yL_sure : MethodName := ⟨RL, "sure", "(I[I[I)I"⟩
abbrev cL_lines : ByteArray := method_16_code
def yL_lines : MethodName := ⟨RL, "lines", "(LAccentModems;[I[I[I[I[I)Z"⟩
abbrev cL_carried : ByteArray := method_17_code
def yL_carried : MethodName := ⟨RL, "carried", "(I[I)I"⟩
abbrev cL_told : ByteArray := method_18_code
def yL_told : MethodName := ⟨RL, "told", "(LAccentModems;[I[I[I[I[I[I[I[I[J)Z"⟩
abbrev cL_say : ByteArray := method_19_code
def yL_say : MethodName := ⟨RL, "say", "(LAccentModems;II[I[I)Z"⟩
abbrev cL_street : ByteArray := method_20_code
def yL_street : MethodName := ⟨RL, "street", "(LAccentModems;II[I)Z"⟩
abbrev cL_insult : ByteArray := method_21_code
def yL_insult : MethodName := ⟨RL, "insult", "(LAccentModems;II[I)Z"⟩
abbrev cL_forget : ByteArray := method_22_code
def yL_forget : MethodName := ⟨RL, "forget", "(LAccentModems;I[I[I[I)Z"⟩
abbrev cL_set : ByteArray := method_23_code
def yL_set : MethodName := ⟨RL, "set", "(LAccentModems;II[I)Z"⟩
abbrev cL_carry : ByteArray := method_24_code
def yL_carry : MethodName := ⟨RL, "carry", "(LAccentModems;II[I)Z"⟩
abbrev cL_act : ByteArray := method_25_code
def yL_act : MethodName := ⟨RL, "act", "(LAccentModems;III[I[I[I[I[I[I[I[I[I[J)Z"⟩
abbrev cL_law : ByteArray := code
def yL_law : MethodName := ⟨RL, "law", "([I)Z"⟩
abbrev MI : Type := MethodName × ByteArray × Nat × Option FieldType × List (Nat × Nat × Nat × Nat) × Nat
abbrev mnm (Y : MI) : MethodName := Y.1
abbrev mcd (Y : MI) : ByteArray := Y.2.1
abbrev mml (Y : MI) : Nat := Y.2.2.1
abbrev mrt (Y : MI) : Option FieldType := Y.2.2.2.1
abbrev mhh (Y : MI) : List (Nat × Nat × Nat × Nat) := Y.2.2.2.2.1
abbrev mdp (Y : MI) : Nat := Y.2.2.2.2.2
abbrev gCl : List vw_C := [(RX0, TX0, 2), (RX1, TX1, 5), (RX2, TX2, 2), (RX3, TX3, 18), (RX4, TX4, 3), (RX5, TX5, 5), (RX6, TX6, 6)]
/-- a listing of a method: program counter, instruction, length -/
abbrev LI : Type := List (Nat × Instr × Nat)
def Lst (Y : MI) (L : LI) : Prop := ∀ q ∈ L, decode (mcd Y) q.1 = .ok q.2
/-- a word of the tables that goes to every callee -/
def gw (w : Cond) : Prop := w ∈ lw_tbl ∧ goodWord w = true
-- methods
def YX0_init : MI := (yX0_init, cX0_init, 1, none, [], 1)
def YX0_begin : MI := (yX0_begin, cX0_begin, 2, none, [], 0)
def YX0_note : MI := (yX0_note, cX0_note, 4, none, [], 1)
def YX0_worstOf : MI := (yX0_worstOf, cX0_worstOf, 5, (some .int), [], 1)
def YX1_init : MI := (yX1_init, cX1_init, 1, none, [], 3)
def YX1_wayAt : MI := (yX1_wayAt, cX1_wayAt, 2, (some (.object "AccentModems$Way")), [], 0)
def YX1_copyFrom : MI := (yX1_copyFrom, cX1_copyFrom, 2, none, [], 3)
def YX1_copyCommonFrom : MI := (yX1_copyCommonFrom, cX1_copyCommonFrom, 2, none, [], 1)
def YX1_draw : MI := (yX1_draw, cX1_draw, 2, (some .int), [], 0)
def YX1_drawNoise : MI := (yX1_drawNoise, cX1_drawNoise, 2, (some .int), [], 1)
def YX1_sendBeats : MI := (yX1_sendBeats, cX1_sendBeats, 6, (some .int), [], 3)
def YX1_sendSign : MI := (yX1_sendSign, cX1_sendSign, 7, (some .int), [], 2)
def YX1_takeLesson : MI := (yX1_takeLesson, cX1_takeLesson, 5, none, [], 3)
def YX1_learnBeat : MI := (yX1_learnBeat, cX1_learnBeat, 7, none, [], 2)
def YX2_init : MI := (yX2_init, cX2_init, 1, none, [], 1)
def YX2_next : MI := (yX2_next, cX2_next, 2, (some .int), [], 2)
def YX2_behindDigit : MI := (yX2_behindDigit, cX2_behindDigit, 1, (some .int), [], 1)
def YX2_digitOf : MI := (yX2_digitOf, cX2_digitOf, 1, (some .int), [], 0)
def YX2_errorPlace : MI := (yX2_errorPlace, cX2_errorPlace, 3, (some .int), [], 3)
def YX2_isComplete : MI := (yX2_isComplete, cX2_isComplete, 3, (some .boolean), [], 3)
def YX2_bitsFor : MI := (yX2_bitsFor, cX2_bitsFor, 7, (some .int), [], 3)
def YX2_putBits : MI := (yX2_putBits, cX2_putBits, 6, none, [], 3)
def YX3_init : MI := (yX3_init, cX3_init, 1, none, [], 1)
def YX3_copyFrom : MI := (yX3_copyFrom, cX3_copyFrom, 2, none, [], 0)
def YX3_streetNumber : MI := (yX3_streetNumber, cX3_streetNumber, 2, (some .int), [], 0)
def YX3_setStreetNumber : MI := (yX3_setStreetNumber, cX3_setStreetNumber, 3, none, [], 0)
def YX3_accentNumber : MI := (yX3_accentNumber, cX3_accentNumber, 2, (some .int), [], 0)
def YX3_amplitudeOf : MI := (yX3_amplitudeOf, cX3_amplitudeOf, 2, (some .int), [], 0)
def YX3_arriving : MI := (yX3_arriving, cX3_arriving, 3, (some .int), [], 0)
def YX3_expected : MI := (yX3_expected, cX3_expected, 2, (some .int), [], 0)
def YX3_decide : MI := (yX3_decide, cX3_decide, 5, (some .int), [], 1)
def YX3_pass : MI := (yX3_pass, cX3_pass, 3, none, [], 0)
def YX3_knowSignBefore : MI := (yX3_knowSignBefore, cX3_knowSignBefore, 1, none, [], 0)
def YX3_countSign : MI := (yX3_countSign, cX3_countSign, 2, none, [], 0)
def YX3_becomeShyAt : MI := (yX3_becomeShyAt, cX3_becomeShyAt, 2, none, [], 0)
def YX3_improve : MI := (yX3_improve, cX3_improve, 4, none, [], 1)
def YX3_step : MI := (yX3_step, cX3_step, 2, (some .int), [], 0)
def YX3_held : MI := (yX3_held, cX3_held, 3, (some .int), [], 0)
def YX3_endLesson : MI := (yX3_endLesson, cX3_endLesson, 3, none, [], 2)
def YX3_bitsFor : MI := (yX3_bitsFor, cX3_bitsFor, 5, (some .int), [], 1)
def YX3_roomWith : MI := (yX3_roomWith, cX3_roomWith, 2, (some .int), [], 0)
def YX3_sureBits : MI := (yX3_sureBits, cX3_sureBits, 2, (some .int), [], 2)
def YX3_misheardWith : MI := (yX3_misheardWith, cX3_misheardWith, 4, (some .int), [], 1)
def YX3_loseAccent : MI := (yX3_loseAccent, cX3_loseAccent, 1, none, [], 0)
def YX4_init : MI := (yX4_init, cX4_init, 1, none, [], 1)
def YX4_copyFrom : MI := (yX4_copyFrom, cX4_copyFrom, 2, none, [], 1)
def YX4_bitAt : MI := (yX4_bitAt, cX4_bitAt, 2, (some .int), [], 0)
def YX4_put : MI := (yX4_put, cX4_put, 2, none, [], 0)
def YX4_putDigit : MI := (yX4_putDigit, cX4_putDigit, 3, none, [], 1)
def YX4_take : MI := (yX4_take, cX4_take, 4, (some .int), [], 1)
def YX5_init : MI := (yX5_init, cX5_init, 2, none, [], 2)
def YX5_copyFrom : MI := (yX5_copyFrom, cX5_copyFrom, 3, none, [], 2)
def YX5_receive : MI := (yX5_receive, cX5_receive, 4, none, [], 0)
def YX5_bits : MI := (yX5_bits, cX5_bits, 3, (some .int), [], 0)
def YX5_shies : MI := (yX5_shies, cX5_shies, 3, (some .int), [], 0)
def YX5_insulted : MI := (yX5_insulted, cX5_insulted, 3, (some .int), [], 0)
def YX6_init : MI := (yX6_init, cX6_init, 2, none, [], 4)
def YX6_build : MI := (yX6_build, cX6_build, 7, (some .int), [], 8)
def YX6_carry : MI := (yX6_carry, cX6_carry, 6, (some .int), [], 8)
def YX6_insult : MI := (yX6_insult, cX6_insult, 6, (some .int), [], 8)
def YX6_set : MI := (yX6_set, cX6_set, 4, (some .int), [], 7)
def YX6_learn : MI := (yX6_learn, cX6_learn, 4, (some .int), [], 7)
def YX6_send : MI := (yX6_send, cX6_send, 4, (some .int), [], 7)
def YX6_forget : MI := (yX6_forget, cX6_forget, 5, (some .int), [], 7)
def YX6_append : MI := (yX6_append, cX6_append, 2, (some .int), [], 6)
def YX6_clearBuffer : MI := (yX6_clearBuffer, cX6_clearBuffer, 2, (some .int), [], 0)
def YX6_firstError : MI := (yX6_firstError, cX6_firstError, 1, (some .int), [], 4)
def YX6_say : MI := (yX6_say, cX6_say, 3, (some .int), [], 6)
def YX6_street : MI := (yX6_street, cX6_street, 5, (some .int), [], 8)
def YX6_accent : MI := (yX6_accent, cX6_accent, 5, (some .int), [], 8)
def YX6_waits : MI := (yX6_waits, cX6_waits, 4, (some .int), [], 7)
def YX6_had : MI := (yX6_had, cX6_had, 2, (some .long), [], 7)
def YX6_count : MI := (yX6_count, cX6_count, 2, (some .int), [], 6)
def YX6_setting : MI := (yX6_setting, cX6_setting, 2, (some .int), [], 7)
def YX6_sure : MI := (yX6_sure, cX6_sure, 3, (some .int), [], 8)
def YX6_rightShare : MI := (yX6_rightShare, cX6_rightShare, 3, (some .double), [], 7)
def YX6_wayOf : MI := (yX6_wayOf, cX6_wayOf, 2, (some (.object "AccentModems$Way")), [], 6)
def YX6_toneOf : MI := (yX6_toneOf, cX6_toneOf, 4, (some (.object "AccentModems$Tone")), [], 7)
def YX6_checkStreetNumber : MI := (yX6_checkStreetNumber, cX6_checkStreetNumber, 2, none, [], 6)
def YX6_checkSetting : MI := (yX6_checkSetting, cX6_checkSetting, 1, none, [], 6)
def YX6_checkBeats : MI := (yX6_checkBeats, cX6_checkBeats, 1, none, [], 6)
def YX6_checkBeatsLeft : MI := (yX6_checkBeatsLeft, cX6_checkBeatsLeft, 2, none, [], 6)
def YX6_save : MI := (yX6_save, cX6_save, 1, none, [], 4)
def YX6_dropOldest : MI := (yX6_dropOldest, cX6_dropOldest, 3, none, [], 0)
def YJ6_bitCount_0f7a4 : MI := (yJ6_bitCount_0f7a4, cJ6_bitCount_0f7a4, 1, (some .int), [], 0)
def YJ9_floorMod_7cf53 : MI := (yJ9_floorMod_7cf53, cJ9_floorMod_7cf53, 3, (some .int), [], 0)
def YL_cell : MI := (yL_cell, cL_cell, 2, (some .int), [], 0)
def YL_at : MI := (yL_at, cL_at, 2, (some .int), [], 0)
def YL_draw : MI := (yL_draw, cL_draw, 2, (some .int), [], 0)
def YL_amp : MI := (yL_amp, cL_amp, 2, (some .int), [], 0)
def YL_come : MI := (yL_come, cL_come, 8, (some .int), [], 1)
def YL_size : MI := (yL_size, cL_size, 1, (some .int), [], 0)
def YL_held : MI := (yL_held, cL_held, 3, (some .int), [], 0)
def YL_lesson : MI := (yL_lesson, cL_lesson, 16, none, [], 2)
def YL_learn : MI := (yL_learn, cL_learn, 16, (some .int), [], 3)
def YL_next : MI := (yL_next, cL_next, 5, (some .int), [], 0)
def YL_taken : MI := (yL_taken, cL_taken, 8, (some .int), [], 1)
def YL_sign : MI := (yL_sign, cL_sign, 16, (some .int), [], 2)
def YL_send : MI := (yL_send, cL_send, 15, (some .int), [], 3)
def YL_sure : MI := (yL_sure, cL_sure, 8, (some .int), [], 1)
def YL_lines : MI := (yL_lines, cL_lines, 10, (some .boolean), [], 9)
def YL_carried : MI := (yL_carried, cL_carried, 4, (some .int), [], 0)
def YL_told : MI := (yL_told, cL_told, 14, (some .boolean), [], 10)
def YL_say : MI := (yL_say, cL_say, 11, (some .boolean), [], 7)
def YL_street : MI := (yL_street, cL_street, 8, (some .boolean), [], 9)
def YL_insult : MI := (yL_insult, cL_insult, 6, (some .boolean), [], 9)
def YL_forget : MI := (yL_forget, cL_forget, 8, (some .boolean), [], 8)
def YL_set : MI := (yL_set, cL_set, 7, (some .boolean), [], 8)
def YL_carry : MI := (yL_carry, cL_carry, 6, (some .boolean), [], 9)
def YL_act : MI := (yL_act, cL_act, 15, (some .boolean), [], 10)
def YL_law : MI := (x, code, maxLocals, ret, [], 11)
def LX0_init : LI := [(0, .aload_n 0, 1), (1, .invokespecial 3, 3), (4, .aload_n 0, 1), (5, .bipush 64, 2), (7, .newarray .int, 2), (9, .putfield 9, 3), (12, .return_, 1)]
set_option maxRecDepth 20000 in
theorem DX0_init : Lst YX0_init LX0_init := by unfold Lst; decide +kernel
def LX0_begin : LI := [(0, .aload_n 0, 1), (1, .iconst 0, 1), (2, .putfield 15, 3), (5, .iconst 0, 1), (6, .istore_n 1, 1), (7, .iload_n 1, 1), (8, .bipush 64, 2), (10, .if_icmp .ge 16, 3), (13, .aload_n 0, 1), (14, .getfield 9, 3), (17, .iload_n 1, 1), (18, .iconst 0, 1), (19, .iastore, 1), (20, .iinc 1 1, 3), (23, .goto (-16), 3), (26, .return_, 1)]
set_option maxRecDepth 20000 in
theorem DX0_begin : Lst YX0_begin LX0_begin := by unfold Lst; decide +kernel
def LX0_note : LI := [(0, .iload_n 1, 1), (1, .bipush 8, 2), (3, .imul, 1), (4, .aload_n 0, 1), (5, .getfield 15, 3), (8, .bipush 8, 2), (10, .invokestatic 19, 3), (13, .iadd, 1), (14, .istore_n 3, 1), (15, .iload_n 3, 1), (16, .ifCond .lt 19, 3), (19, .iload_n 3, 1), (20, .bipush 64, 2), (22, .if_icmp .ge 13, 3), (25, .aload_n 0, 1), (26, .getfield 9, 3), (29, .iload_n 3, 1), (30, .iload_n 2, 1), (31, .invokestatic 25, 3), (34, .iastore, 1), (35, .return_, 1)]
set_option maxRecDepth 20000 in
theorem DX0_note : Lst YX0_note LX0_note := by unfold Lst; decide +kernel
def LX0_worstOf : LI := [(0, .iconst 0, 1), (1, .istore_n 2, 1), (2, .iconst 0, 1), (3, .istore_n 3, 1), (4, .iload_n 3, 1), (5, .bipush 8, 2), (7, .if_icmp .ge 41, 3), (10, .iload_n 1, 1), (11, .bipush 8, 2), (13, .imul, 1), (14, .iload_n 3, 1), (15, .iadd, 1), (16, .istore 4, 2), (18, .iload 4, 2), (20, .ifCond .lt 22, 3), (23, .iload 4, 2), (25, .bipush 64, 2), (27, .if_icmp .ge 15, 3), (30, .iload_n 2, 1), (31, .aload_n 0, 1), (32, .getfield 9, 3), (35, .iload 4, 2), (37, .iaload, 1), (38, .invokestatic 29, 3), (41, .istore_n 2, 1), (42, .iinc 3 1, 3), (45, .goto (-41), 3), (48, .iload_n 2, 1), (49, .ireturn, 1)]
set_option maxRecDepth 20000 in
theorem DX0_worstOf : Lst YX0_worstOf LX0_worstOf := by unfold Lst; decide +kernel
def LX1_init : LI := [(0, .aload_n 0, 1), (1, .invokespecial 3, 3), (4, .aload_n 0, 1), (5, .new 9, 3), (8, .dup, 1), (9, .invokespecial 11, 3), (12, .putfield 12, 3), (15, .aload_n 0, 1), (16, .new 9, 3), (19, .dup, 1), (20, .invokespecial 11, 3), (23, .putfield 18, 3), (26, .aload_n 0, 1), (27, .iconst 3, 1), (28, .newarray .int, 2), (30, .dup, 1), (31, .iconst 0, 1), (32, .bipush 8, 2), (34, .iastore, 1), (35, .dup, 1), (36, .iconst 1, 1), (37, .bipush 8, 2), (39, .iastore, 1), (40, .dup, 1), (41, .iconst 2, 1), (42, .iconst 3, 1), (43, .iastore, 1), (44, .putfield 21, 3), (47, .aload_n 0, 1), (48, .iconst 1, 1), (49, .putfield 25, 3), (52, .return_, 1)]
set_option maxRecDepth 20000 in
theorem DX1_init : Lst YX1_init LX1_init := by unfold Lst; decide +kernel
def LX1_wayAt : LI := [(0, .iload_n 1, 1), (1, .ifCond .ne 10, 3), (4, .aload_n 0, 1), (5, .getfield 12, 3), (8, .goto 7, 3), (11, .aload_n 0, 1), (12, .getfield 18, 3), (15, .areturn, 1)]
set_option maxRecDepth 20000 in
theorem DX1_wayAt : Lst YX1_wayAt LX1_wayAt := by unfold Lst; decide +kernel
def LX1_copyFrom : LI := [(0, .aload_n 0, 1), (1, .getfield 12, 3), (4, .aload_n 1, 1), (5, .getfield 12, 3), (8, .invokevirtual 29, 3), (11, .aload_n 0, 1), (12, .getfield 18, 3), (15, .aload_n 1, 1), (16, .getfield 18, 3), (19, .invokevirtual 29, 3), (22, .aload_n 0, 1), (23, .aload_n 1, 1), (24, .invokevirtual 33, 3), (27, .return_, 1)]
set_option maxRecDepth 20000 in
theorem DX1_copyFrom : Lst YX1_copyFrom LX1_copyFrom := by unfold Lst; decide +kernel
def LX1_copyCommonFrom : LI := [(0, .aload_n 1, 1), (1, .getfield 21, 3), (4, .iconst 0, 1), (5, .aload_n 0, 1), (6, .getfield 21, 3), (9, .iconst 0, 1), (10, .iconst 3, 1), (11, .invokestatic 41, 3), (14, .aload_n 0, 1), (15, .aload_n 1, 1), (16, .getfield 25, 3), (19, .putfield 25, 3), (22, .aload_n 0, 1), (23, .aload_n 1, 1), (24, .getfield 47, 3), (27, .putfield 47, 3), (30, .return_, 1)]
set_option maxRecDepth 20000 in
theorem DX1_copyCommonFrom : Lst YX1_copyCommonFrom LX1_copyCommonFrom := by unfold Lst; decide +kernel
def LX1_draw : LI := [(0, .aload_n 0, 1), (1, .ldc2_w 50, 3), (4, .aload_n 0, 1), (5, .getfield 25, 3), (8, .i2l, 1), (9, .lmul, 1), (10, .ldc2_w 52, 3), (13, .ladd, 1), (14, .ldc2_w 54, 3), (17, .lrem, 1), (18, .l2i, 1), (19, .putfield 25, 3), (22, .iload_n 1, 1), (23, .ifCond .le 15, 3), (26, .aload_n 0, 1), (27, .getfield 25, 3), (30, .ldc 56, 2), (32, .idiv, 1), (33, .iload_n 1, 1), (34, .irem, 1), (35, .goto 4, 3), (38, .iconst 0, 1), (39, .ireturn, 1)]
set_option maxRecDepth 20000 in
theorem DX1_draw : Lst YX1_draw LX1_draw := by unfold Lst; decide +kernel
def LX1_drawNoise : LI := [(0, .aload_n 0, 1), (1, .iconst 2, 1), (2, .aload_n 1, 1), (3, .getfield 57, 3), (6, .imul, 1), (7, .iconst 1, 1), (8, .iadd, 1), (9, .invokevirtual 62, 3), (12, .aload_n 1, 1), (13, .getfield 57, 3), (16, .isub, 1), (17, .ireturn, 1)]
set_option maxRecDepth 20000 in
theorem DX1_drawNoise : Lst YX1_drawNoise LX1_drawNoise := by unfold Lst; decide +kernel
def LX1_sendBeats : LI := [(0, .iconst 0, 1), (1, .istore_n 3, 1), (2, .iconst 0, 1), (3, .istore 4, 2), (5, .iload 4, 2), (7, .iload_n 2, 1), (8, .if_icmp .ge 82, 3), (11, .iconst 0, 1), (12, .istore 5, 2), (14, .iload 5, 2), (16, .bipush 8, 2), (18, .if_icmp .ge 24, 3), (21, .iload_n 3, 1), (22, .aload_n 0, 1), (23, .aload_n 1, 1), (24, .aload_n 1, 1), (25, .getfield 66, 3), (28, .iload 5, 2), (30, .aaload, 1), (31, .invokevirtual 70, 3), (34, .iadd, 1), (35, .istore_n 3, 1), (36, .iinc 5 1, 3), (39, .goto (-25), 3), (42, .iconst 0, 1), (43, .istore 5, 2), (45, .iload 5, 2), (47, .bipush 8, 2), (49, .if_icmp .ge 25, 3), (52, .aload_n 1, 1), (53, .getfield 66, 3), (56, .iload 5, 2), (58, .aaload, 1), (59, .aload_n 0, 1), (60, .getfield 21, 3), (63, .iconst 2, 1), (64, .iaload, 1), (65, .invokevirtual 74, 3), (68, .iinc 5 1, 3), (71, .goto (-26), 3), (74, .aload_n 0, 1), (75, .dup, 1), (76, .getfield 47, 3), (79, .iconst 1, 1), (80, .iadd, 1), (81, .putfield 47, 3), (84, .iinc 4 1, 3), (87, .goto (-82), 3), (90, .iload_n 3, 1), (91, .ireturn, 1)]
set_option maxRecDepth 20000 in
theorem DX1_sendBeats : Lst YX1_sendBeats LX1_sendBeats := by unfold Lst; decide +kernel
def LX1_sendSign : LI := [(0, .aload_n 1, 1), (1, .getfield 78, 3), (4, .aload_n 2, 1), (5, .getfield 82, 3), (8, .invokevirtual 85, 3), (11, .istore_n 3, 1), (12, .aload_n 2, 1), (13, .iload_n 3, 1), (14, .invokevirtual 90, 3), (17, .istore 4, 2), (19, .aload_n 2, 1), (20, .aload_n 2, 1), (21, .iload 4, 2), (23, .aload_n 0, 1), (24, .aload_n 2, 1), (25, .invokevirtual 93, 3), (28, .invokevirtual 97, 3), (31, .invokevirtual 101, 3), (34, .istore 5, 2), (36, .iload_n 3, 1), (37, .iload 5, 2), (39, .ixor, 1), (40, .invokestatic 104, 3), (43, .istore 6, 2), (45, .aload_n 2, 1), (46, .iload 4, 2), (48, .aload_n 2, 1), (49, .iload 5, 2), (51, .invokevirtual 90, 3), (54, .invokevirtual 109, 3), (57, .aload_n 2, 1), (58, .iload 6, 2), (60, .ifCond .le 7, 3), (63, .iconst 1, 1), (64, .goto 4, 3), (67, .iconst 0, 1), (68, .invokevirtual 113, 3), (71, .aload_n 1, 1), (72, .iload 5, 2), (74, .aload_n 2, 1), (75, .getfield 82, 3), (78, .iload 6, 2), (80, .invokevirtual 117, 3), (83, .iload 6, 2), (85, .ireturn, 1)]
set_option maxRecDepth 20000 in
theorem DX1_sendSign : Lst YX1_sendSign LX1_sendSign := by unfold Lst; decide +kernel
def LX1_takeLesson : LI := [(0, .aload_n 3, 1), (1, .invokevirtual 121, 3), (4, .iconst 0, 1), (5, .istore 4, 2), (7, .iload 4, 2), (9, .iload_n 2, 1), (10, .if_icmp .ge 15, 3), (13, .aload_n 0, 1), (14, .aload_n 1, 1), (15, .aload_n 3, 1), (16, .invokevirtual 126, 3), (19, .iinc 4 1, 3), (22, .goto (-15), 3), (25, .iconst 0, 1), (26, .istore 4, 2), (28, .iload 4, 2), (30, .bipush 8, 2), (32, .if_icmp .ge 31, 3), (35, .aload_n 1, 1), (36, .getfield 66, 3), (39, .iload 4, 2), (41, .aaload, 1), (42, .aload_n 3, 1), (43, .iload 4, 2), (45, .invokevirtual 130, 3), (48, .aload_n 0, 1), (49, .getfield 21, 3), (52, .iconst 1, 1), (53, .iaload, 1), (54, .invokevirtual 133, 3), (57, .iinc 4 1, 3), (60, .goto (-32), 3), (63, .return_, 1)]
set_option maxRecDepth 20000 in
theorem DX1_takeLesson : Lst YX1_takeLesson LX1_takeLesson := by unfold Lst; decide +kernel
def LX1_learnBeat : LI := [(0, .iconst 0, 1), (1, .istore_n 3, 1), (2, .iload_n 3, 1), (3, .bipush 8, 2), (5, .if_icmp .ge 95, 3), (8, .aload_n 1, 1), (9, .getfield 66, 3), (12, .iload_n 3, 1), (13, .aaload, 1), (14, .astore 4, 2), (16, .aload_n 0, 1), (17, .iconst 2, 1), (18, .invokevirtual 62, 3), (21, .iconst 1, 1), (22, .if_icmp .ne 9, 3), (25, .sipush 128, 3), (28, .goto 5, 3), (31, .bipush (-128), 2), (33, .istore 5, 2), (35, .aload 4, 2), (37, .iload 5, 2), (39, .aload_n 0, 1), (40, .aload 4, 2), (42, .invokevirtual 93, 3), (45, .invokevirtual 97, 3), (48, .aload 4, 2), (50, .iload 5, 2), (52, .invokevirtual 136, 3), (55, .isub, 1), (56, .istore 6, 2), (58, .aload 4, 2), (60, .iload 6, 2), (62, .iload 5, 2), (64, .aload_n 0, 1), (65, .getfield 21, 3), (68, .iconst 0, 1), (69, .iaload, 1), (70, .invokevirtual 139, 3), (73, .aload 4, 2), (75, .iload 5, 2), (77, .iload 5, 2), (79, .invokevirtual 109, 3), (82, .aload 4, 2), (84, .invokevirtual 142, 3), (87, .aload_n 2, 1), (88, .iload_n 3, 1), (89, .iload 6, 2), (91, .invokevirtual 145, 3), (94, .iinc 3 1, 3), (97, .goto (-95), 3), (100, .aload_n 2, 1), (101, .dup, 1), (102, .getfield 148, 3), (105, .iconst 1, 1), (106, .iadd, 1), (107, .putfield 148, 3), (110, .aload_n 0, 1), (111, .dup, 1), (112, .getfield 47, 3), (115, .iconst 1, 1), (116, .iadd, 1), (117, .putfield 47, 3), (120, .return_, 1)]
set_option maxRecDepth 20000 in
theorem DX1_learnBeat : Lst YX1_learnBeat LX1_learnBeat := by unfold Lst; decide +kernel
def LX2_init : LI := [(0, .aload_n 0, 1), (1, .invokespecial 3, 3), (4, .aload_n 0, 1), (5, .bipush 60, 2), (7, .newarray .char, 2), (9, .putfield 9, 3), (12, .return_, 1)]
set_option maxRecDepth 20000 in
theorem DX2_init : Lst YX2_init LX2_init := by unfold Lst; decide +kernel
def LX2_next : LI := [(0, .iload_n 0, 1), (1, .tableswitch 81 0 3 #[31, 49, 61, 66], 31), (32, .iload_n 1, 1), (33, .bipush 97, 2), (35, .if_icmp .eq 9, 3), (38, .iload_n 1, 1), (39, .bipush 98, 2), (41, .if_icmp .ne 7, 3), (44, .iconst 1, 1), (45, .goto 4, 3), (48, .iconst 4, 1), (49, .ireturn, 1), (50, .iload_n 1, 1), (51, .bipush 58, 2), (53, .if_icmp .ne 7, 3), (56, .iconst 2, 1), (57, .goto 4, 3), (60, .iconst 4, 1), (61, .ireturn, 1), (62, .iload_n 1, 1), (63, .invokestatic 15, 3), (66, .ireturn, 1), (67, .iload_n 1, 1), (68, .bipush 59, 2), (70, .if_icmp .ne 7, 3), (73, .iconst 0, 1), (74, .goto 7, 3), (77, .iload_n 1, 1), (78, .invokestatic 15, 3), (81, .ireturn, 1), (82, .iconst 4, 1), (83, .ireturn, 1)]
set_option maxRecDepth 20000 in
theorem DX2_next : Lst YX2_next LX2_next := by unfold Lst; decide +kernel
def LX2_behindDigit : LI := [(0, .iload_n 0, 1), (1, .invokestatic 19, 3), (4, .iconst (-1), 1), (5, .if_icmp .ne 7, 3), (8, .iconst 4, 1), (9, .goto 4, 3), (12, .iconst 3, 1), (13, .ireturn, 1)]
set_option maxRecDepth 20000 in
theorem DX2_behindDigit : Lst YX2_behindDigit LX2_behindDigit := by unfold Lst; decide +kernel
def LX2_digitOf : LI := [(0, .iload_n 0, 1), (1, .bipush 48, 2), (3, .if_icmp .lt 14, 3), (6, .iload_n 0, 1), (7, .bipush 57, 2), (9, .if_icmp .gt 8, 3), (12, .iload_n 0, 1), (13, .bipush 48, 2), (15, .isub, 1), (16, .ireturn, 1), (17, .iload_n 0, 1), (18, .bipush 97, 2), (20, .if_icmp .lt 19, 3), (23, .iload_n 0, 1), (24, .bipush 102, 2), (26, .if_icmp .gt 13, 3), (29, .iload_n 0, 1), (30, .bipush 97, 2), (32, .isub, 1), (33, .bipush 10, 2), (35, .iadd, 1), (36, .goto 4, 3), (39, .iconst (-1), 1), (40, .ireturn, 1)]
set_option maxRecDepth 20000 in
theorem DX2_digitOf : Lst YX2_digitOf LX2_digitOf := by unfold Lst; decide +kernel
def LX2_errorPlace : LI := [(0, .iconst 0, 1), (1, .istore_n 1, 1), (2, .iconst 0, 1), (3, .istore_n 2, 1), (4, .iload_n 2, 1), (5, .aload_n 0, 1), (6, .getfield 22, 3), (9, .if_icmp .ge 33, 3), (12, .iload_n 2, 1), (13, .bipush 60, 2), (15, .if_icmp .ge 27, 3), (18, .iload_n 1, 1), (19, .aload_n 0, 1), (20, .getfield 9, 3), (23, .iload_n 2, 1), (24, .caload, 1), (25, .invokestatic 26, 3), (28, .istore_n 1, 1), (29, .iload_n 1, 1), (30, .iconst 4, 1), (31, .if_icmp .ne 5, 3), (34, .iload_n 2, 1), (35, .ireturn, 1), (36, .iinc 2 1, 3), (39, .goto (-35), 3), (42, .aload_n 0, 1), (43, .getfield 22, 3), (46, .ireturn, 1)]
set_option maxRecDepth 20000 in
theorem DX2_errorPlace : Lst YX2_errorPlace LX2_errorPlace := by unfold Lst; decide +kernel
def LX2_isComplete : LI := [(0, .iconst 0, 1), (1, .istore_n 1, 1), (2, .iconst 0, 1), (3, .istore_n 2, 1), (4, .iload_n 2, 1), (5, .aload_n 0, 1), (6, .getfield 22, 3), (9, .if_icmp .ge 26, 3), (12, .iload_n 2, 1), (13, .bipush 60, 2), (15, .if_icmp .ge 20, 3), (18, .iload_n 1, 1), (19, .aload_n 0, 1), (20, .getfield 9, 3), (23, .iload_n 2, 1), (24, .caload, 1), (25, .invokestatic 26, 3), (28, .istore_n 1, 1), (29, .iinc 2 1, 3), (32, .goto (-28), 3), (35, .iload_n 1, 1), (36, .iconst 3, 1), (37, .if_icmp .ne 7, 3), (40, .iconst 1, 1), (41, .goto 4, 3), (44, .iconst 0, 1), (45, .ireturn, 1)]
set_option maxRecDepth 20000 in
theorem DX2_isComplete : Lst YX2_isComplete LX2_isComplete := by unfold Lst; decide +kernel
def LX2_bitsFor : LI := [(0, .iconst 0, 1), (1, .istore_n 2, 1), (2, .iconst 0, 1), (3, .istore_n 3, 1), (4, .iconst 0, 1), (5, .istore 4, 2), (7, .iconst 0, 1), (8, .istore 5, 2), (10, .iload 5, 2), (12, .aload_n 0, 1), (13, .getfield 22, 3), (16, .if_icmp .ge 66, 3), (19, .iload 5, 2), (21, .bipush 60, 2), (23, .if_icmp .ge 59, 3), (26, .aload_n 0, 1), (27, .getfield 9, 3), (30, .iload 5, 2), (32, .caload, 1), (33, .istore 6, 2), (35, .iload_n 2, 1), (36, .ifCond .ne 11, 3), (39, .iload 6, 2), (41, .bipush 97, 2), (43, .isub, 1), (44, .goto 4, 3), (47, .iload_n 3, 1), (48, .istore_n 3, 1), (49, .iload_n 2, 1), (50, .iload 6, 2), (52, .invokestatic 26, 3), (55, .istore_n 2, 1), (56, .iload 4, 2), (58, .iload_n 2, 1), (59, .iconst 3, 1), (60, .if_icmp .ne 12, 3), (63, .iload_n 3, 1), (64, .iload_n 1, 1), (65, .if_icmp .ne 7, 3), (68, .iconst 4, 1), (69, .goto 4, 3), (72, .iconst 0, 1), (73, .iadd, 1), (74, .istore 4, 2), (76, .iinc 5 1, 3), (79, .goto (-69), 3), (82, .iload 4, 2), (84, .ireturn, 1)]
set_option maxRecDepth 20000 in
theorem DX2_bitsFor : Lst YX2_bitsFor LX2_bitsFor := by unfold Lst; decide +kernel
def LX2_putBits : LI := [(0, .iconst 0, 1), (1, .istore_n 2, 1), (2, .iconst 0, 1), (3, .istore_n 3, 1), (4, .iconst 0, 1), (5, .istore 4, 2), (7, .iload 4, 2), (9, .aload_n 0, 1), (10, .getfield 22, 3), (13, .if_icmp .ge 67, 3), (16, .iload 4, 2), (18, .bipush 60, 2), (20, .if_icmp .ge 60, 3), (23, .aload_n 0, 1), (24, .getfield 9, 3), (27, .iload 4, 2), (29, .caload, 1), (30, .istore 5, 2), (32, .iload_n 2, 1), (33, .ifCond .ne 11, 3), (36, .iload 5, 2), (38, .bipush 97, 2), (40, .isub, 1), (41, .goto 4, 3), (44, .iload_n 3, 1), (45, .istore_n 3, 1), (46, .iload_n 2, 1), (47, .iload 5, 2), (49, .invokestatic 26, 3), (52, .istore_n 2, 1), (53, .iload_n 2, 1), (54, .iconst 3, 1), (55, .if_icmp .ne 19, 3), (58, .aload_n 1, 1), (59, .iload_n 3, 1), (60, .invokevirtual 30, 3), (63, .getfield 36, 3), (66, .iload 5, 2), (68, .invokestatic 19, 3), (71, .invokevirtual 42, 3), (74, .iinc 4 1, 3), (77, .goto (-70), 3), (80, .return_, 1)]
set_option maxRecDepth 20000 in
theorem DX2_putBits : Lst YX2_putBits LX2_putBits := by unfold Lst; decide +kernel
def LX3_init : LI := [(0, .aload_n 0, 1), (1, .invokespecial 3, 3), (4, .aload_n 0, 1), (5, .bipush 64, 2), (7, .putfield 9, 3), (10, .aload_n 0, 1), (11, .bipush 64, 2), (13, .putfield 15, 3), (16, .aload_n 0, 1), (17, .iconst (-1), 1), (18, .putfield 18, 3), (21, .return_, 1)]
set_option maxRecDepth 20000 in
theorem DX3_init : Lst YX3_init LX3_init := by unfold Lst; decide +kernel
def LX3_copyFrom : LI := [(0, .aload_n 0, 1), (1, .aload_n 1, 1), (2, .getfield 9, 3), (5, .putfield 9, 3), (8, .aload_n 0, 1), (9, .aload_n 1, 1), (10, .getfield 21, 3), (13, .putfield 21, 3), (16, .aload_n 0, 1), (17, .aload_n 1, 1), (18, .getfield 24, 3), (21, .putfield 24, 3), (24, .aload_n 0, 1), (25, .aload_n 1, 1), (26, .getfield 27, 3), (29, .putfield 27, 3), (32, .aload_n 0, 1), (33, .aload_n 1, 1), (34, .getfield 30, 3), (37, .putfield 30, 3), (40, .aload_n 0, 1), (41, .aload_n 1, 1), (42, .getfield 33, 3), (45, .putfield 33, 3), (48, .aload_n 0, 1), (49, .aload_n 1, 1), (50, .getfield 36, 3), (53, .putfield 36, 3), (56, .aload_n 0, 1), (57, .aload_n 1, 1), (58, .getfield 15, 3), (61, .putfield 15, 3), (64, .aload_n 0, 1), (65, .aload_n 1, 1), (66, .getfield 39, 3), (69, .putfield 39, 3), (72, .aload_n 0, 1), (73, .aload_n 1, 1), (74, .getfield 42, 3), (77, .putfield 42, 3), (80, .aload_n 0, 1), (81, .aload_n 1, 1), (82, .getfield 45, 3), (85, .putfield 45, 3), (88, .aload_n 0, 1), (89, .aload_n 1, 1), (90, .getfield 18, 3), (93, .putfield 18, 3), (96, .aload_n 0, 1), (97, .aload_n 1, 1), (98, .getfield 48, 3), (101, .putfield 48, 3), (104, .aload_n 0, 1), (105, .aload_n 1, 1), (106, .getfield 51, 3), (109, .putfield 51, 3), (112, .aload_n 0, 1), (113, .aload_n 1, 1), (114, .getfield 54, 3), (117, .putfield 54, 3), (120, .aload_n 0, 1), (121, .aload_n 1, 1), (122, .getfield 57, 3), (125, .putfield 57, 3), (128, .aload_n 0, 1), (129, .aload_n 1, 1), (130, .getfield 60, 3), (133, .putfield 60, 3), (136, .aload_n 0, 1), (137, .aload_n 1, 1), (138, .getfield 63, 3), (141, .putfield 63, 3), (144, .return_, 1)]
set_option maxRecDepth 20000 in
theorem DX3_copyFrom : Lst YX3_copyFrom LX3_copyFrom := by unfold Lst; decide +kernel
def LX3_streetNumber : LI := [(0, .iload_n 1, 1), (1, .tableswitch 69 0 5 #[39, 44, 49, 54, 59, 64], 39), (40, .aload_n 0, 1), (41, .getfield 9, 3), (44, .ireturn, 1), (45, .aload_n 0, 1), (46, .getfield 21, 3), (49, .ireturn, 1), (50, .aload_n 0, 1), (51, .getfield 24, 3), (54, .ireturn, 1), (55, .aload_n 0, 1), (56, .getfield 27, 3), (59, .ireturn, 1), (60, .aload_n 0, 1), (61, .getfield 30, 3), (64, .ireturn, 1), (65, .aload_n 0, 1), (66, .getfield 33, 3), (69, .ireturn, 1), (70, .aload_n 0, 1), (71, .getfield 36, 3), (74, .ireturn, 1)]
set_option maxRecDepth 20000 in
theorem DX3_streetNumber : Lst YX3_streetNumber LX3_streetNumber := by unfold Lst; decide +kernel
def LX3_setStreetNumber : LI := [(0, .iload_n 1, 1), (1, .tableswitch 51 0 2 #[27, 35, 43], 27), (28, .aload_n 0, 1), (29, .iload_n 2, 1), (30, .putfield 9, 3), (33, .goto 24, 3), (36, .aload_n 0, 1), (37, .iload_n 2, 1), (38, .putfield 21, 3), (41, .goto 16, 3), (44, .aload_n 0, 1), (45, .iload_n 2, 1), (46, .putfield 24, 3), (49, .goto 8, 3), (52, .aload_n 0, 1), (53, .iload_n 2, 1), (54, .putfield 27, 3), (57, .return_, 1)]
set_option maxRecDepth 20000 in
theorem DX3_setStreetNumber : Lst YX3_setStreetNumber LX3_setStreetNumber := by unfold Lst; decide +kernel
def LX3_accentNumber : LI := [(0, .iload_n 1, 1), (1, .tableswitch 105 0 9 #[55, 60, 65, 70, 75, 80, 85, 90, 95, 100], 55), (56, .aload_n 0, 1), (57, .getfield 15, 3), (60, .ireturn, 1), (61, .aload_n 0, 1), (62, .getfield 39, 3), (65, .ireturn, 1), (66, .aload_n 0, 1), (67, .getfield 42, 3), (70, .ireturn, 1), (71, .aload_n 0, 1), (72, .getfield 45, 3), (75, .ireturn, 1), (76, .aload_n 0, 1), (77, .getfield 18, 3), (80, .ireturn, 1), (81, .aload_n 0, 1), (82, .getfield 48, 3), (85, .ireturn, 1), (86, .aload_n 0, 1), (87, .getfield 51, 3), (90, .ireturn, 1), (91, .aload_n 0, 1), (92, .getfield 54, 3), (95, .ireturn, 1), (96, .aload_n 0, 1), (97, .getfield 57, 3), (100, .ireturn, 1), (101, .aload_n 0, 1), (102, .getfield 60, 3), (105, .ireturn, 1), (106, .aload_n 0, 1), (107, .getfield 63, 3), (110, .ireturn, 1)]
set_option maxRecDepth 20000 in
theorem DX3_accentNumber : Lst YX3_accentNumber LX3_accentNumber := by unfold Lst; decide +kernel
def LX3_amplitudeOf : LI := [(0, .iconst 2, 1), (1, .iload_n 1, 1), (2, .imul, 1), (3, .iconst 1, 1), (4, .iadd, 1), (5, .iconst 1, 1), (6, .aload_n 0, 1), (7, .getfield 45, 3), (10, .ishl, 1), (11, .isub, 1), (12, .sipush 256, 3), (15, .aload_n 0, 1), (16, .getfield 45, 3), (19, .ishr, 1), (20, .imul, 1), (21, .ireturn, 1)]
set_option maxRecDepth 20000 in
theorem DX3_amplitudeOf : Lst YX3_amplitudeOf LX3_amplitudeOf := by unfold Lst; decide +kernel
def LX3_arriving : LI := [(0, .aload_n 0, 1), (1, .getfield 9, 3), (4, .iload_n 1, 1), (5, .imul, 1), (6, .aload_n 0, 1), (7, .getfield 21, 3), (10, .aload_n 0, 1), (11, .getfield 33, 3), (14, .imul, 1), (15, .iadd, 1), (16, .aload_n 0, 1), (17, .getfield 24, 3), (20, .aload_n 0, 1), (21, .getfield 36, 3), (24, .imul, 1), (25, .iadd, 1), (26, .bipush 64, 2), (28, .idiv, 1), (29, .iload_n 2, 1), (30, .iadd, 1), (31, .aload_n 0, 1), (32, .getfield 30, 3), (35, .iadd, 1), (36, .ireturn, 1)]
set_option maxRecDepth 20000 in
theorem DX3_arriving : Lst YX3_arriving LX3_arriving := by unfold Lst; decide +kernel
def LX3_expected : LI := [(0, .aload_n 0, 1), (1, .getfield 15, 3), (4, .iload_n 1, 1), (5, .imul, 1), (6, .aload_n 0, 1), (7, .getfield 39, 3), (10, .aload_n 0, 1), (11, .getfield 33, 3), (14, .imul, 1), (15, .iadd, 1), (16, .aload_n 0, 1), (17, .getfield 42, 3), (20, .aload_n 0, 1), (21, .getfield 36, 3), (24, .imul, 1), (25, .iadd, 1), (26, .bipush 64, 2), (28, .idiv, 1), (29, .ireturn, 1)]
set_option maxRecDepth 20000 in
theorem DX3_expected : Lst YX3_expected LX3_expected := by unfold Lst; decide +kernel
def LX3_decide : LI := [(0, .iload_n 1, 1), (1, .aload_n 0, 1), (2, .getfield 39, 3), (5, .aload_n 0, 1), (6, .getfield 60, 3), (9, .imul, 1), (10, .aload_n 0, 1), (11, .getfield 42, 3), (14, .aload_n 0, 1), (15, .getfield 63, 3), (18, .imul, 1), (19, .iadd, 1), (20, .bipush 64, 2), (22, .idiv, 1), (23, .isub, 1), (24, .istore_n 2, 1), (25, .aload_n 0, 1), (26, .getfield 15, 3), (29, .ifCond .le 15, 3), (32, .iload_n 2, 1), (33, .bipush 64, 2), (35, .imul, 1), (36, .aload_n 0, 1), (37, .getfield 15, 3), (40, .idiv, 1), (41, .goto 4, 3), (44, .iconst 0, 1), (45, .istore_n 3, 1), (46, .iload_n 3, 1), (47, .sipush 256, 3), (50, .iadd, 1), (51, .iconst 1, 1), (52, .isub, 1), (53, .bipush 9, 2), (55, .aload_n 0, 1), (56, .getfield 45, 3), (59, .isub, 1), (60, .ishr, 1), (61, .istore 4, 2), (63, .iconst 0, 1), (64, .iload 4, 2), (66, .iconst 1, 1), (67, .aload_n 0, 1), (68, .getfield 45, 3), (71, .ishl, 1), (72, .iconst 1, 1), (73, .isub, 1), (74, .invokestatic 66, 3), (77, .invokestatic 72, 3), (80, .ireturn, 1)]
set_option maxRecDepth 20000 in
theorem DX3_decide : Lst YX3_decide LX3_decide := by unfold Lst; decide +kernel
def LX3_pass : LI := [(0, .aload_n 0, 1), (1, .iconst 0, 1), (2, .putfield 30, 3), (5, .aload_n 0, 1), (6, .aload_n 0, 1), (7, .getfield 33, 3), (10, .putfield 36, 3), (13, .aload_n 0, 1), (14, .iload_n 1, 1), (15, .putfield 33, 3), (18, .aload_n 0, 1), (19, .aload_n 0, 1), (20, .getfield 60, 3), (23, .putfield 63, 3), (26, .aload_n 0, 1), (27, .iload_n 2, 1), (28, .putfield 60, 3), (31, .return_, 1)]
set_option maxRecDepth 20000 in
theorem DX3_pass : Lst YX3_pass LX3_pass := by unfold Lst; decide +kernel
def LX3_knowSignBefore : LI := [(0, .aload_n 0, 1), (1, .aload_n 0, 1), (2, .getfield 36, 3), (5, .putfield 63, 3), (8, .return_, 1)]
set_option maxRecDepth 20000 in
theorem DX3_knowSignBefore : Lst YX3_knowSignBefore LX3_knowSignBefore := by unfold Lst; decide +kernel
def LX3_countSign : LI := [(0, .aload_n 0, 1), (1, .getfield 45, 3), (4, .ifCond .le 13, 3), (7, .aload_n 0, 1), (8, .dup, 1), (9, .getfield 54, 3), (12, .iconst 1, 1), (13, .iadd, 1), (14, .putfield 54, 3), (17, .iload_n 1, 1), (18, .ifCond .eq 23, 3), (21, .aload_n 0, 1), (22, .dup, 1), (23, .getfield 57, 3), (26, .iconst 1, 1), (27, .iadd, 1), (28, .putfield 57, 3), (31, .aload_n 0, 1), (32, .dup, 1), (33, .getfield 48, 3), (36, .iconst 1, 1), (37, .iadd, 1), (38, .putfield 48, 3), (41, .return_, 1)]
set_option maxRecDepth 20000 in
theorem DX3_countSign : Lst YX3_countSign LX3_countSign := by unfold Lst; decide +kernel
def LX3_becomeShyAt : LI := [(0, .aload_n 0, 1), (1, .getfield 45, 3), (4, .ifCond .le 36, 3), (7, .aload_n 0, 1), (8, .getfield 48, 3), (11, .iload_n 1, 1), (12, .if_icmp .lt 28, 3), (15, .aload_n 0, 1), (16, .dup, 1), (17, .getfield 45, 3), (20, .iconst 1, 1), (21, .isub, 1), (22, .putfield 45, 3), (25, .aload_n 0, 1), (26, .dup, 1), (27, .getfield 51, 3), (30, .iconst 1, 1), (31, .iadd, 1), (32, .putfield 51, 3), (35, .aload_n 0, 1), (36, .iconst 0, 1), (37, .putfield 48, 3), (40, .return_, 1)]
set_option maxRecDepth 20000 in
theorem DX3_becomeShyAt : Lst YX3_becomeShyAt LX3_becomeShyAt := by unfold Lst; decide +kernel
def LX3_improve : LI := [(0, .aload_n 0, 1), (1, .aload_n 0, 1), (2, .getfield 15, 3), (5, .iload_n 1, 1), (6, .iload_n 2, 1), (7, .imul, 1), (8, .iload_n 3, 1), (9, .invokestatic 75, 3), (12, .iadd, 1), (13, .bipush 8, 2), (15, .sipush 128, 3), (18, .invokestatic 78, 3), (21, .putfield 15, 3), (24, .aload_n 0, 1), (25, .aload_n 0, 1), (26, .getfield 39, 3), (29, .iload_n 1, 1), (30, .aload_n 0, 1), (31, .getfield 33, 3), (34, .imul, 1), (35, .iload_n 3, 1), (36, .invokestatic 75, 3), (39, .iadd, 1), (40, .bipush (-48), 2), (42, .bipush 48, 2), (44, .invokestatic 78, 3), (47, .putfield 39, 3), (50, .aload_n 0, 1), (51, .aload_n 0, 1), (52, .getfield 42, 3), (55, .iload_n 1, 1), (56, .aload_n 0, 1), (57, .getfield 36, 3), (60, .imul, 1), (61, .iload_n 3, 1), (62, .invokestatic 75, 3), (65, .iadd, 1), (66, .bipush (-48), 2), (68, .bipush 48, 2), (70, .invokestatic 78, 3), (73, .putfield 42, 3), (76, .return_, 1)]
set_option maxRecDepth 20000 in
theorem DX3_improve : Lst YX3_improve LX3_improve := by unfold Lst; decide +kernel
def LX3_step : LI := [(0, .iload_n 1, 1), (1, .ifCond .le 13, 3), (4, .iload_n 0, 1), (5, .sipush 128, 3), (8, .iload_n 1, 1), (9, .imul, 1), (10, .idiv, 1), (11, .goto 4, 3), (14, .iconst 0, 1), (15, .ireturn, 1)]
set_option maxRecDepth 20000 in
theorem DX3_step : Lst YX3_step LX3_step := by unfold Lst; decide +kernel
def LX3_held : LI := [(0, .iload_n 0, 1), (1, .iload_n 1, 1), (2, .if_icmp .ge 5, 3), (5, .iload_n 1, 1), (6, .ireturn, 1), (7, .iload_n 0, 1), (8, .iload_n 2, 1), (9, .if_icmp .le 7, 3), (12, .iload_n 2, 1), (13, .goto 4, 3), (16, .iload_n 0, 1), (17, .ireturn, 1)]
set_option maxRecDepth 20000 in
theorem DX3_held : Lst YX3_held LX3_held := by unfold Lst; decide +kernel
def LX3_endLesson : LI := [(0, .aload_n 0, 1), (1, .iload_n 1, 1), (2, .putfield 18, 3), (5, .aload_n 0, 1), (6, .aload_n 0, 1), (7, .iload_n 1, 1), (8, .iload_n 2, 1), (9, .invokevirtual 82, 3), (12, .putfield 45, 3), (15, .aload_n 0, 1), (16, .iconst 0, 1), (17, .putfield 48, 3), (20, .return_, 1)]
set_option maxRecDepth 20000 in
theorem DX3_endLesson : Lst YX3_endLesson LX3_endLesson := by unfold Lst; decide +kernel
def LX3_bitsFor : LI := [(0, .iload_n 1, 1), (1, .iload_n 2, 1), (2, .imul, 1), (3, .iconst 4, 1), (4, .idiv, 1), (5, .istore_n 3, 1), (6, .iconst 4, 1), (7, .istore 4, 2), (9, .iload 4, 2), (11, .ifCond .le 22, 3), (14, .iload_n 3, 1), (15, .aload_n 0, 1), (16, .iload 4, 2), (18, .invokevirtual 85, 3), (21, .if_icmp .ge 6, 3), (24, .iload 4, 2), (26, .ireturn, 1), (27, .iinc 4 (-1), 3), (30, .goto (-21), 3), (33, .iconst 0, 1), (34, .ireturn, 1)]
set_option maxRecDepth 20000 in
theorem DX3_bitsFor : Lst YX3_bitsFor LX3_bitsFor := by unfold Lst; decide +kernel
def LX3_roomWith : LI := [(0, .sipush 256, 3), (3, .iload_n 1, 1), (4, .ishr, 1), (5, .aload_n 0, 1), (6, .getfield 15, 3), (9, .imul, 1), (10, .bipush 64, 2), (12, .idiv, 1), (13, .ireturn, 1)]
set_option maxRecDepth 20000 in
theorem DX3_roomWith : Lst YX3_roomWith LX3_roomWith := by unfold Lst; decide +kernel
def LX3_sureBits : LI := [(0, .iconst 4, 1), (1, .istore_n 1, 1), (2, .iload_n 1, 1), (3, .ifCond .le 31, 3), (6, .aload_n 0, 1), (7, .iload_n 1, 1), (8, .invokevirtual 89, 3), (11, .aload_n 0, 1), (12, .getfield 27, 3), (15, .iadd, 1), (16, .iconst 4, 1), (17, .iadd, 1), (18, .aload_n 0, 1), (19, .iload_n 1, 1), (20, .invokevirtual 85, 3), (23, .if_icmp .ge 5, 3), (26, .iload_n 1, 1), (27, .ireturn, 1), (28, .iinc 1 (-1), 3), (31, .goto (-29), 3), (34, .iconst 0, 1), (35, .ireturn, 1)]
set_option maxRecDepth 20000 in
theorem DX3_sureBits : Lst YX3_sureBits LX3_sureBits := by unfold Lst; decide +kernel
def LX3_misheardWith : LI := [(0, .sipush 256, 3), (3, .sipush 256, 3), (6, .iload_n 1, 1), (7, .ishr, 1), (8, .isub, 1), (9, .istore_n 2, 1), (10, .aload_n 0, 1), (11, .getfield 21, 3), (14, .aload_n 0, 1), (15, .getfield 39, 3), (18, .isub, 1), (19, .invokestatic 92, 3), (22, .aload_n 0, 1), (23, .getfield 24, 3), (26, .aload_n 0, 1), (27, .getfield 42, 3), (30, .isub, 1), (31, .invokestatic 92, 3), (34, .iadd, 1), (35, .istore_n 3, 1), (36, .aload_n 0, 1), (37, .getfield 9, 3), (40, .aload_n 0, 1), (41, .getfield 15, 3), (44, .isub, 1), (45, .invokestatic 92, 3), (48, .iload_n 2, 1), (49, .imul, 1), (50, .iload_n 3, 1), (51, .sipush 256, 3), (54, .imul, 1), (55, .iadd, 1), (56, .bipush 64, 2), (58, .idiv, 1), (59, .ireturn, 1)]
set_option maxRecDepth 20000 in
theorem DX3_misheardWith : Lst YX3_misheardWith LX3_misheardWith := by unfold Lst; decide +kernel
def LX3_loseAccent : LI := [(0, .aload_n 0, 1), (1, .bipush 64, 2), (3, .putfield 15, 3), (6, .aload_n 0, 1), (7, .iconst 0, 1), (8, .putfield 39, 3), (11, .aload_n 0, 1), (12, .iconst 0, 1), (13, .putfield 42, 3), (16, .aload_n 0, 1), (17, .iconst 0, 1), (18, .putfield 45, 3), (21, .aload_n 0, 1), (22, .iconst (-1), 1), (23, .putfield 18, 3), (26, .aload_n 0, 1), (27, .iconst 0, 1), (28, .putfield 48, 3), (31, .return_, 1)]
set_option maxRecDepth 20000 in
theorem DX3_loseAccent : Lst YX3_loseAccent LX3_loseAccent := by unfold Lst; decide +kernel
def LX4_init : LI := [(0, .aload_n 0, 1), (1, .invokespecial 3, 3), (4, .aload_n 0, 1), (5, .sipush 256, 3), (8, .newarray .int, 2), (10, .putfield 9, 3), (13, .return_, 1)]
set_option maxRecDepth 20000 in
theorem DX4_init : Lst YX4_init LX4_init := by unfold Lst; decide +kernel
def LX4_copyFrom : LI := [(0, .aload_n 1, 1), (1, .getfield 9, 3), (4, .iconst 0, 1), (5, .aload_n 0, 1), (6, .getfield 9, 3), (9, .iconst 0, 1), (10, .sipush 256, 3), (13, .invokestatic 15, 3), (16, .aload_n 0, 1), (17, .aload_n 1, 1), (18, .getfield 21, 3), (21, .putfield 21, 3), (24, .aload_n 0, 1), (25, .aload_n 1, 1), (26, .getfield 25, 3), (29, .putfield 25, 3), (32, .return_, 1)]
set_option maxRecDepth 20000 in
theorem DX4_copyFrom : Lst YX4_copyFrom LX4_copyFrom := by unfold Lst; decide +kernel
def LX4_bitAt : LI := [(0, .aload_n 0, 1), (1, .getfield 9, 3), (4, .aload_n 0, 1), (5, .getfield 21, 3), (8, .iload_n 1, 1), (9, .iadd, 1), (10, .sipush 255, 3), (13, .iand, 1), (14, .iaload, 1), (15, .ireturn, 1)]
set_option maxRecDepth 20000 in
theorem DX4_bitAt : Lst YX4_bitAt LX4_bitAt := by unfold Lst; decide +kernel
def LX4_put : LI := [(0, .aload_n 0, 1), (1, .getfield 25, 3), (4, .sipush 256, 3), (7, .if_icmp .ge 32, 3), (10, .aload_n 0, 1), (11, .getfield 9, 3), (14, .aload_n 0, 1), (15, .getfield 21, 3), (18, .aload_n 0, 1), (19, .getfield 25, 3), (22, .iadd, 1), (23, .sipush 255, 3), (26, .iand, 1), (27, .iload_n 1, 1), (28, .iastore, 1), (29, .aload_n 0, 1), (30, .dup, 1), (31, .getfield 25, 3), (34, .iconst 1, 1), (35, .iadd, 1), (36, .putfield 25, 3), (39, .return_, 1)]
set_option maxRecDepth 20000 in
theorem DX4_put : Lst YX4_put LX4_put := by unfold Lst; decide +kernel
def LX4_putDigit : LI := [(0, .iconst 3, 1), (1, .istore_n 2, 1), (2, .iload_n 2, 1), (3, .ifCond .lt 18, 3), (6, .aload_n 0, 1), (7, .iload_n 1, 1), (8, .iload_n 2, 1), (9, .ishr, 1), (10, .iconst 1, 1), (11, .iand, 1), (12, .invokevirtual 28, 3), (15, .iinc 2 (-1), 3), (18, .goto (-16), 3), (21, .return_, 1)]
set_option maxRecDepth 20000 in
theorem DX4_putDigit : Lst YX4_putDigit LX4_putDigit := by unfold Lst; decide +kernel
def LX4_take : LI := [(0, .iconst 0, 1), (1, .istore_n 2, 1), (2, .iconst 0, 1), (3, .istore_n 3, 1), (4, .iload_n 3, 1), (5, .iload_n 1, 1), (6, .if_icmp .ge 52, 3), (9, .iconst 2, 1), (10, .iload_n 2, 1), (11, .imul, 1), (12, .istore_n 2, 1), (13, .aload_n 0, 1), (14, .getfield 25, 3), (17, .ifCond .le 35, 3), (20, .iload_n 2, 1), (21, .aload_n 0, 1), (22, .iconst 0, 1), (23, .invokevirtual 32, 3), (26, .iadd, 1), (27, .istore_n 2, 1), (28, .aload_n 0, 1), (29, .aload_n 0, 1), (30, .getfield 21, 3), (33, .iconst 1, 1), (34, .iadd, 1), (35, .sipush 255, 3), (38, .iand, 1), (39, .putfield 21, 3), (42, .aload_n 0, 1), (43, .dup, 1), (44, .getfield 25, 3), (47, .iconst 1, 1), (48, .isub, 1), (49, .putfield 25, 3), (52, .iinc 3 1, 3), (55, .goto (-51), 3), (58, .iload_n 2, 1), (59, .ireturn, 1)]
set_option maxRecDepth 20000 in
theorem DX4_take : Lst YX4_take LX4_take := by unfold Lst; decide +kernel
def LX5_init : LI := [(0, .aload_n 0, 1), (1, .invokespecial 3, 3), (4, .aload_n 0, 1), (5, .bipush 8, 2), (7, .anewarray 9, 3), (10, .putfield 11, 3), (13, .aload_n 0, 1), (14, .new 17, 3), (17, .dup, 1), (18, .invokespecial 19, 3), (21, .putfield 20, 3), (24, .iconst 0, 1), (25, .istore_n 1, 1), (26, .iload_n 1, 1), (27, .bipush 8, 2), (29, .if_icmp .ge 22, 3), (32, .aload_n 0, 1), (33, .getfield 11, 3), (36, .iload_n 1, 1), (37, .new 9, 3), (40, .dup, 1), (41, .invokespecial 24, 3), (44, .aastore, 1), (45, .iinc 1 1, 3), (48, .goto (-22), 3), (51, .return_, 1)]
set_option maxRecDepth 20000 in
theorem DX5_init : Lst YX5_init LX5_init := by unfold Lst; decide +kernel
def LX5_copyFrom : LI := [(0, .iconst 0, 1), (1, .istore_n 2, 1), (2, .iload_n 2, 1), (3, .bipush 8, 2), (5, .if_icmp .ge 24, 3), (8, .aload_n 0, 1), (9, .getfield 11, 3), (12, .iload_n 2, 1), (13, .aaload, 1), (14, .aload_n 1, 1), (15, .getfield 11, 3), (18, .iload_n 2, 1), (19, .aaload, 1), (20, .invokevirtual 25, 3), (23, .iinc 2 1, 3), (26, .goto (-24), 3), (29, .aload_n 0, 1), (30, .getfield 20, 3), (33, .aload_n 1, 1), (34, .getfield 20, 3), (37, .invokevirtual 29, 3), (40, .aload_n 0, 1), (41, .aload_n 1, 1), (42, .getfield 32, 3), (45, .putfield 32, 3), (48, .aload_n 0, 1), (49, .aload_n 1, 1), (50, .getfield 36, 3), (53, .putfield 36, 3), (56, .aload_n 0, 1), (57, .aload_n 1, 1), (58, .getfield 40, 3), (61, .putfield 40, 3), (64, .return_, 1)]
set_option maxRecDepth 20000 in
theorem DX5_copyFrom : Lst YX5_copyFrom LX5_copyFrom := by unfold Lst; decide +kernel
def LX5_receive : LI := [(0, .aload_n 0, 1), (1, .aload_n 0, 1), (2, .getfield 32, 3), (5, .iload_n 2, 1), (6, .lshl, 1), (7, .iload_n 1, 1), (8, .i2l, 1), (9, .lor, 1), (10, .ldc2_w 43, 3), (13, .land, 1), (14, .putfield 32, 3), (17, .aload_n 0, 1), (18, .dup, 1), (19, .getfield 36, 3), (22, .iload_n 2, 1), (23, .iadd, 1), (24, .putfield 36, 3), (27, .aload_n 0, 1), (28, .dup, 1), (29, .getfield 40, 3), (32, .iload_n 3, 1), (33, .iadd, 1), (34, .putfield 40, 3), (37, .return_, 1)]
set_option maxRecDepth 20000 in
theorem DX5_receive : Lst YX5_receive LX5_receive := by unfold Lst; decide +kernel
def LX5_bits : LI := [(0, .iconst 0, 1), (1, .istore_n 1, 1), (2, .iconst 0, 1), (3, .istore_n 2, 1), (4, .iload_n 2, 1), (5, .bipush 8, 2), (7, .if_icmp .ge 21, 3), (10, .iload_n 1, 1), (11, .aload_n 0, 1), (12, .getfield 11, 3), (15, .iload_n 2, 1), (16, .aaload, 1), (17, .getfield 45, 3), (20, .iadd, 1), (21, .istore_n 1, 1), (22, .iinc 2 1, 3), (25, .goto (-21), 3), (28, .iload_n 1, 1), (29, .ireturn, 1)]
set_option maxRecDepth 20000 in
theorem DX5_bits : Lst YX5_bits LX5_bits := by unfold Lst; decide +kernel
def LX5_shies : LI := [(0, .iconst 0, 1), (1, .istore_n 1, 1), (2, .iconst 0, 1), (3, .istore_n 2, 1), (4, .iload_n 2, 1), (5, .bipush 8, 2), (7, .if_icmp .ge 21, 3), (10, .iload_n 1, 1), (11, .aload_n 0, 1), (12, .getfield 11, 3), (15, .iload_n 2, 1), (16, .aaload, 1), (17, .getfield 48, 3), (20, .iadd, 1), (21, .istore_n 1, 1), (22, .iinc 2 1, 3), (25, .goto (-21), 3), (28, .iload_n 1, 1), (29, .ireturn, 1)]
set_option maxRecDepth 20000 in
theorem DX5_shies : Lst YX5_shies LX5_shies := by unfold Lst; decide +kernel
def LX5_insulted : LI := [(0, .iconst 0, 1), (1, .istore_n 1, 1), (2, .iconst 0, 1), (3, .istore_n 2, 1), (4, .iload_n 2, 1), (5, .bipush 8, 2), (7, .if_icmp .ge 29, 3), (10, .iload_n 1, 1), (11, .aload_n 0, 1), (12, .getfield 11, 3), (15, .iload_n 2, 1), (16, .aaload, 1), (17, .getfield 51, 3), (20, .ifCond .eq 7, 3), (23, .iconst 1, 1), (24, .goto 4, 3), (27, .iconst 0, 1), (28, .iadd, 1), (29, .istore_n 1, 1), (30, .iinc 2 1, 3), (33, .goto (-29), 3), (36, .iload_n 1, 1), (37, .ireturn, 1)]
set_option maxRecDepth 20000 in
theorem DX5_insulted : Lst YX5_insulted LX5_insulted := by unfold Lst; decide +kernel
def LX6_init : LI := [(0, .aload_n 0, 1), (1, .invokespecial 3, 3), (4, .aload_n 0, 1), (5, .new 9, 3), (8, .dup, 1), (9, .invokespecial 11, 3), (12, .putfield 12, 3), (15, .aload_n 0, 1), (16, .new 9, 3), (19, .dup, 1), (20, .invokespecial 11, 3), (23, .putfield 16, 3), (26, .aload_n 0, 1), (27, .bipush 6, 2), (29, .anewarray 9, 3), (32, .putfield 19, 3), (35, .aload_n 0, 1), (36, .new 23, 3), (39, .dup, 1), (40, .invokespecial 25, 3), (43, .putfield 26, 3), (46, .aload_n 0, 1), (47, .new 30, 3), (50, .dup, 1), (51, .invokespecial 32, 3), (54, .putfield 33, 3), (57, .iconst 0, 1), (58, .istore_n 1, 1), (59, .iload_n 1, 1), (60, .bipush 6, 2), (62, .if_icmp .ge 22, 3), (65, .aload_n 0, 1), (66, .getfield 19, 3), (69, .iload_n 1, 1), (70, .new 9, 3), (73, .dup, 1), (74, .invokespecial 11, 3), (77, .aastore, 1), (78, .iinc 1 1, 3), (81, .goto (-22), 3), (84, .return_, 1)]
set_option maxRecDepth 20000 in
theorem DX6_init : Lst YX6_init LX6_init := by unfold Lst; decide +kernel
def LX6_build : LI := [(0, .aload_n 0, 1), (1, .iload_n 1, 1), (2, .iload_n 2, 1), (3, .invokevirtual 37, 3), (6, .astore 5, 2), (8, .iload_n 3, 1), (9, .iload 4, 2), (11, .invokestatic 41, 3), (14, .aload_n 0, 1), (15, .invokevirtual 45, 3), (18, .aload 5, 2), (20, .iload_n 3, 1), (21, .invokevirtual 48, 3), (24, .istore 6, 2), (26, .aload 5, 2), (28, .iload_n 3, 1), (29, .iload 4, 2), (31, .invokevirtual 54, 3), (34, .iload 6, 2), (36, .ireturn, 1)]
set_option maxRecDepth 20000 in
theorem DX6_build : Lst YX6_build LX6_build := by unfold Lst; decide +kernel
def LX6_carry : LI := [(0, .aload_n 0, 1), (1, .iload_n 1, 1), (2, .iload_n 2, 1), (3, .invokevirtual 37, 3), (6, .astore 4, 2), (8, .iload_n 3, 1), (9, .ifCond .lt 8, 3), (12, .iload_n 3, 1), (13, .iconst 4, 1), (14, .if_icmp .le 13, 3), (17, .new 57, 3), (20, .dup, 1), (21, .ldc 59, 2), (23, .invokespecial 61, 3), (26, .athrow, 1), (27, .aload_n 0, 1), (28, .invokevirtual 45, 3), (31, .aload 4, 2), (33, .getfield 64, 3), (36, .istore 5, 2), (38, .aload 4, 2), (40, .iload_n 3, 1), (41, .putfield 64, 3), (44, .iload 5, 2), (46, .ireturn, 1)]
set_option maxRecDepth 20000 in
theorem DX6_carry : Lst YX6_carry LX6_carry := by unfold Lst; decide +kernel
def LX6_insult : LI := [(0, .aload_n 0, 1), (1, .iload_n 1, 1), (2, .iload_n 2, 1), (3, .invokevirtual 37, 3), (6, .astore 4, 2), (8, .iload_n 3, 1), (9, .sipush (-300), 3), (12, .if_icmp .lt 10, 3), (15, .iload_n 3, 1), (16, .sipush 300, 3), (19, .if_icmp .le 13, 3), (22, .new 57, 3), (25, .dup, 1), (26, .ldc 68, 2), (28, .invokespecial 61, 3), (31, .athrow, 1), (32, .aload 4, 2), (34, .getfield 70, 3), (37, .iload_n 3, 1), (38, .iadd, 1), (39, .istore 5, 2), (41, .iload 5, 2), (43, .sipush (-1000), 3), (46, .if_icmp .lt 11, 3), (49, .iload 5, 2), (51, .sipush 1000, 3), (54, .if_icmp .le 13, 3), (57, .new 73, 3), (60, .dup, 1), (61, .ldc 75, 2), (63, .invokespecial 77, 3), (66, .athrow, 1), (67, .aload_n 0, 1), (68, .invokevirtual 45, 3), (71, .aload 4, 2), (73, .iload 5, 2), (75, .putfield 70, 3), (78, .iload 5, 2), (80, .ireturn, 1)]
set_option maxRecDepth 20000 in
theorem DX6_insult : Lst YX6_insult LX6_insult := by unfold Lst; decide +kernel
def LX6_set : LI := [(0, .iload_n 1, 1), (1, .invokestatic 78, 3), (4, .iload_n 2, 1), (5, .getstatic 82, 3), (8, .iload_n 1, 1), (9, .iaload, 1), (10, .if_icmp .lt 12, 3), (13, .iload_n 2, 1), (14, .getstatic 86, 3), (17, .iload_n 1, 1), (18, .iaload, 1), (19, .if_icmp .le 13, 3), (22, .new 57, 3), (25, .dup, 1), (26, .ldc 89, 2), (28, .invokespecial 61, 3), (31, .athrow, 1), (32, .aload_n 0, 1), (33, .invokevirtual 45, 3), (36, .aload_n 0, 1), (37, .getfield 12, 3), (40, .getfield 91, 3), (43, .iload_n 1, 1), (44, .iaload, 1), (45, .istore_n 3, 1), (46, .aload_n 0, 1), (47, .getfield 12, 3), (50, .getfield 91, 3), (53, .iload_n 1, 1), (54, .iload_n 2, 1), (55, .iastore, 1), (56, .iload_n 3, 1), (57, .ireturn, 1)]
set_option maxRecDepth 20000 in
theorem DX6_set : Lst YX6_set LX6_set := by unfold Lst; decide +kernel
def LX6_learn : LI := [(0, .aload_n 0, 1), (1, .iload_n 1, 1), (2, .invokevirtual 94, 3), (5, .astore_n 3, 1), (6, .iload_n 2, 1), (7, .invokestatic 98, 3), (10, .aload_n 0, 1), (11, .iload_n 2, 1), (12, .invokevirtual 101, 3), (15, .aload_n 0, 1), (16, .invokevirtual 45, 3), (19, .aload_n 0, 1), (20, .getfield 12, 3), (23, .aload_n 3, 1), (24, .iload_n 2, 1), (25, .aload_n 0, 1), (26, .getfield 26, 3), (29, .invokevirtual 104, 3), (32, .aload_n 3, 1), (33, .invokevirtual 108, 3), (36, .ireturn, 1)]
set_option maxRecDepth 20000 in
theorem DX6_learn : Lst YX6_learn LX6_learn := by unfold Lst; decide +kernel
def LX6_send : LI := [(0, .aload_n 0, 1), (1, .iload_n 1, 1), (2, .invokevirtual 94, 3), (5, .astore_n 3, 1), (6, .iload_n 2, 1), (7, .invokestatic 98, 3), (10, .aload_n 0, 1), (11, .iload_n 2, 1), (12, .invokevirtual 101, 3), (15, .aload_n 0, 1), (16, .invokevirtual 45, 3), (19, .aload_n 0, 1), (20, .getfield 12, 3), (23, .aload_n 3, 1), (24, .iload_n 2, 1), (25, .invokevirtual 113, 3), (28, .ireturn, 1)]
set_option maxRecDepth 20000 in
theorem DX6_send : Lst YX6_send LX6_send := by unfold Lst; decide +kernel
def LX6_forget : LI := [(0, .aload_n 0, 1), (1, .iload_n 1, 1), (2, .invokevirtual 94, 3), (5, .astore_n 2, 1), (6, .aload_n 0, 1), (7, .invokevirtual 45, 3), (10, .aload_n 2, 1), (11, .invokevirtual 108, 3), (14, .istore_n 3, 1), (15, .iconst 0, 1), (16, .istore 4, 2), (18, .iload 4, 2), (20, .bipush 8, 2), (22, .if_icmp .ge 19, 3), (25, .aload_n 2, 1), (26, .getfield 117, 3), (29, .iload 4, 2), (31, .aaload, 1), (32, .invokevirtual 121, 3), (35, .iinc 4 1, 3), (38, .goto (-20), 3), (41, .iload_n 3, 1), (42, .ireturn, 1)]
set_option maxRecDepth 20000 in
theorem DX6_forget : Lst YX6_forget LX6_forget := by unfold Lst; decide +kernel
def LX6_append : LI := [(0, .iload_n 1, 1), (1, .bipush 33, 2), (3, .if_icmp .lt 9, 3), (6, .iload_n 1, 1), (7, .bipush 126, 2), (9, .if_icmp .le 13, 3), (12, .new 57, 3), (15, .dup, 1), (16, .ldc 124, 2), (18, .invokespecial 61, 3), (21, .athrow, 1), (22, .aload_n 0, 1), (23, .getfield 33, 3), (26, .getfield 126, 3), (29, .bipush 60, 2), (31, .if_icmp .lt 13, 3), (34, .new 73, 3), (37, .dup, 1), (38, .ldc 129, 2), (40, .invokespecial 77, 3), (43, .athrow, 1), (44, .aload_n 0, 1), (45, .getfield 33, 3), (48, .getfield 131, 3), (51, .aload_n 0, 1), (52, .getfield 33, 3), (55, .getfield 126, 3), (58, .iload_n 1, 1), (59, .i2c, 1), (60, .castore, 1), (61, .aload_n 0, 1), (62, .getfield 33, 3), (65, .dup, 1), (66, .getfield 126, 3), (69, .iconst 1, 1), (70, .iadd, 1), (71, .putfield 126, 3), (74, .aload_n 0, 1), (75, .getfield 33, 3), (78, .getfield 126, 3), (81, .ireturn, 1)]
set_option maxRecDepth 20000 in
theorem DX6_append : Lst YX6_append LX6_append := by unfold Lst; decide +kernel
def LX6_clearBuffer : LI := [(0, .aload_n 0, 1), (1, .getfield 33, 3), (4, .getfield 126, 3), (7, .istore_n 1, 1), (8, .aload_n 0, 1), (9, .getfield 33, 3), (12, .iconst 0, 1), (13, .putfield 126, 3), (16, .iload_n 1, 1), (17, .ireturn, 1)]
set_option maxRecDepth 20000 in
theorem DX6_clearBuffer : Lst YX6_clearBuffer LX6_clearBuffer := by unfold Lst; decide +kernel
def LX6_firstError : LI := [(0, .aload_n 0, 1), (1, .getfield 33, 3), (4, .invokevirtual 135, 3), (7, .ireturn, 1)]
set_option maxRecDepth 20000 in
theorem DX6_firstError : Lst YX6_firstError LX6_firstError := by unfold Lst; decide +kernel
def LX6_say : LI := [(0, .aload_n 0, 1), (1, .getfield 33, 3), (4, .invokevirtual 138, 3), (7, .ifCond .ne 13, 3), (10, .new 57, 3), (13, .dup, 1), (14, .ldc 142, 2), (16, .invokespecial 61, 3), (19, .athrow, 1), (20, .aload_n 0, 1), (21, .getfield 33, 3), (24, .iconst 0, 1), (25, .invokevirtual 144, 3), (28, .istore_n 1, 1), (29, .aload_n 0, 1), (30, .getfield 33, 3), (33, .iconst 1, 1), (34, .invokevirtual 144, 3), (37, .istore_n 2, 1), (38, .aload_n 0, 1), (39, .getfield 12, 3), (42, .getfield 147, 3), (45, .getfield 151, 3), (48, .getfield 155, 3), (51, .iload_n 1, 1), (52, .iadd, 1), (53, .sipush 256, 3), (56, .if_icmp .gt 24, 3), (59, .aload_n 0, 1), (60, .getfield 12, 3), (63, .getfield 160, 3), (66, .getfield 151, 3), (69, .getfield 155, 3), (72, .iload_n 2, 1), (73, .iadd, 1), (74, .sipush 256, 3), (77, .if_icmp .le 13, 3), (80, .new 73, 3), (83, .dup, 1), (84, .ldc 163, 2), (86, .invokespecial 77, 3), (89, .athrow, 1), (90, .aload_n 0, 1), (91, .invokevirtual 45, 3), (94, .aload_n 0, 1), (95, .getfield 33, 3), (98, .aload_n 0, 1), (99, .getfield 12, 3), (102, .invokevirtual 165, 3), (105, .aload_n 0, 1), (106, .getfield 33, 3), (109, .iconst 0, 1), (110, .putfield 126, 3), (113, .iload_n 1, 1), (114, .iload_n 2, 1), (115, .iadd, 1), (116, .ireturn, 1)]
set_option maxRecDepth 20000 in
theorem DX6_say : Lst YX6_say LX6_say := by unfold Lst; decide +kernel
def LX6_street : LI := [(0, .aload_n 0, 1), (1, .iload_n 1, 1), (2, .iload_n 2, 1), (3, .invokevirtual 37, 3), (6, .astore 4, 2), (8, .iload_n 3, 1), (9, .ifCond .lt 9, 3), (12, .iload_n 3, 1), (13, .bipush 6, 2), (15, .if_icmp .le 13, 3), (18, .new 57, 3), (21, .dup, 1), (22, .ldc 177, 2), (24, .invokespecial 61, 3), (27, .athrow, 1), (28, .aload 4, 2), (30, .iload_n 3, 1), (31, .invokevirtual 48, 3), (34, .ireturn, 1)]
set_option maxRecDepth 20000 in
theorem DX6_street : Lst YX6_street LX6_street := by unfold Lst; decide +kernel
def LX6_accent : LI := [(0, .aload_n 0, 1), (1, .iload_n 1, 1), (2, .iload_n 2, 1), (3, .invokevirtual 37, 3), (6, .astore 4, 2), (8, .iload_n 3, 1), (9, .ifCond .lt 9, 3), (12, .iload_n 3, 1), (13, .bipush 10, 2), (15, .if_icmp .le 13, 3), (18, .new 57, 3), (21, .dup, 1), (22, .ldc 179, 2), (24, .invokespecial 61, 3), (27, .athrow, 1), (28, .aload 4, 2), (30, .iload_n 3, 1), (31, .invokevirtual 181, 3), (34, .ireturn, 1)]
set_option maxRecDepth 20000 in
theorem DX6_accent : Lst YX6_accent LX6_accent := by unfold Lst; decide +kernel
def LX6_waits : LI := [(0, .aload_n 0, 1), (1, .iload_n 1, 1), (2, .invokevirtual 94, 3), (5, .getfield 151, 3), (8, .astore_n 3, 1), (9, .iload_n 2, 1), (10, .ifCond .lt 11, 3), (13, .iload_n 2, 1), (14, .aload_n 3, 1), (15, .getfield 155, 3), (18, .if_icmp .lt 13, 3), (21, .new 184, 3), (24, .dup, 1), (25, .ldc 186, 2), (27, .invokespecial 188, 3), (30, .athrow, 1), (31, .aload_n 3, 1), (32, .iload_n 2, 1), (33, .invokevirtual 189, 3), (36, .ireturn, 1)]
set_option maxRecDepth 20000 in
theorem DX6_waits : Lst YX6_waits LX6_waits := by unfold Lst; decide +kernel
def LX6_had : LI := [(0, .aload_n 0, 1), (1, .iload_n 1, 1), (2, .invokevirtual 94, 3), (5, .getfield 192, 3), (8, .lreturn, 1)]
set_option maxRecDepth 20000 in
theorem DX6_had : Lst YX6_had LX6_had := by unfold Lst; decide +kernel
def LX6_count : LI := [(0, .iload_n 1, 1), (1, .tableswitch 226 0 12 #[67, 75, 83, 97, 111, 122, 133, 144, 155, 166, 177, 199, 221], 67), (68, .aload_n 0, 1), (69, .getfield 12, 3), (72, .getfield 196, 3), (75, .ireturn, 1), (76, .aload_n 0, 1), (77, .getfield 12, 3), (80, .getfield 199, 3), (83, .ireturn, 1), (84, .aload_n 0, 1), (85, .getfield 12, 3), (88, .getfield 147, 3), (91, .getfield 151, 3), (94, .getfield 155, 3), (97, .ireturn, 1), (98, .aload_n 0, 1), (99, .getfield 12, 3), (102, .getfield 160, 3), (105, .getfield 151, 3), (108, .getfield 155, 3), (111, .ireturn, 1), (112, .aload_n 0, 1), (113, .getfield 12, 3), (116, .getfield 147, 3), (119, .getfield 202, 3), (122, .ireturn, 1), (123, .aload_n 0, 1), (124, .getfield 12, 3), (127, .getfield 160, 3), (130, .getfield 202, 3), (133, .ireturn, 1), (134, .aload_n 0, 1), (135, .getfield 12, 3), (138, .getfield 147, 3), (141, .getfield 205, 3), (144, .ireturn, 1), (145, .aload_n 0, 1), (146, .getfield 12, 3), (149, .getfield 160, 3), (152, .getfield 205, 3), (155, .ireturn, 1), (156, .aload_n 0, 1), (157, .getfield 12, 3), (160, .getfield 147, 3), (163, .invokevirtual 108, 3), (166, .ireturn, 1), (167, .aload_n 0, 1), (168, .getfield 12, 3), (171, .getfield 160, 3), (174, .invokevirtual 108, 3), (177, .ireturn, 1), (178, .aload_n 0, 1), (179, .getfield 12, 3), (182, .getfield 147, 3), (185, .invokevirtual 208, 3), (188, .aload_n 0, 1), (189, .getfield 12, 3), (192, .getfield 160, 3), (195, .invokevirtual 208, 3), (198, .iadd, 1), (199, .ireturn, 1), (200, .aload_n 0, 1), (201, .getfield 12, 3), (204, .getfield 147, 3), (207, .invokevirtual 211, 3), (210, .aload_n 0, 1), (211, .getfield 12, 3), (214, .getfield 160, 3), (217, .invokevirtual 211, 3), (220, .iadd, 1), (221, .ireturn, 1), (222, .aload_n 0, 1), (223, .getfield 169, 3), (226, .ireturn, 1), (227, .new 57, 3), (230, .dup, 1), (231, .ldc 214, 2), (233, .invokespecial 61, 3), (236, .athrow, 1)]
set_option maxRecDepth 20000 in
theorem DX6_count : Lst YX6_count LX6_count := by unfold Lst; decide +kernel
def LX6_setting : LI := [(0, .iload_n 1, 1), (1, .invokestatic 78, 3), (4, .aload_n 0, 1), (5, .getfield 12, 3), (8, .getfield 91, 3), (11, .iload_n 1, 1), (12, .iaload, 1), (13, .ireturn, 1)]
set_option maxRecDepth 20000 in
theorem DX6_setting : Lst YX6_setting LX6_setting := by unfold Lst; decide +kernel
def LX6_sure : LI := [(0, .aload_n 0, 1), (1, .iload_n 1, 1), (2, .iload_n 2, 1), (3, .invokevirtual 37, 3), (6, .invokevirtual 216, 3), (9, .ireturn, 1)]
set_option maxRecDepth 20000 in
theorem DX6_sure : Lst YX6_sure LX6_sure := by unfold Lst; decide +kernel
def LX6_rightShare : LI := [(0, .aload_n 0, 1), (1, .iload_n 1, 1), (2, .invokevirtual 94, 3), (5, .astore_n 2, 1), (6, .aload_n 2, 1), (7, .getfield 202, 3), (10, .ifCond .le 22, 3), (13, .aload_n 2, 1), (14, .getfield 202, 3), (17, .aload_n 2, 1), (18, .getfield 205, 3), (21, .isub, 1), (22, .i2d, 1), (23, .aload_n 2, 1), (24, .getfield 202, 3), (27, .i2d, 1), (28, .ddiv, 1), (29, .goto 4, 3), (32, .dconst 1, 1), (33, .dreturn, 1)]
set_option maxRecDepth 20000 in
theorem DX6_rightShare : Lst YX6_rightShare LX6_rightShare := by unfold Lst; decide +kernel
def LX6_wayOf : LI := [(0, .iload_n 1, 1), (1, .ifCond .lt 8, 3), (4, .iload_n 1, 1), (5, .iconst 2, 1), (6, .if_icmp .lt 14, 3), (9, .new 184, 3), (12, .dup, 1), (13, .ldc_w 305, 3), (16, .invokespecial 188, 3), (19, .athrow, 1), (20, .aload_n 0, 1), (21, .getfield 12, 3), (24, .iload_n 1, 1), (25, .invokevirtual 272, 3), (28, .areturn, 1)]
set_option maxRecDepth 20000 in
theorem DX6_wayOf : Lst YX6_wayOf LX6_wayOf := by unfold Lst; decide +kernel
def LX6_toneOf : LI := [(0, .aload_n 0, 1), (1, .iload_n 1, 1), (2, .invokevirtual 94, 3), (5, .astore_n 3, 1), (6, .iload_n 2, 1), (7, .ifCond .lt 9, 3), (10, .iload_n 2, 1), (11, .bipush 8, 2), (13, .if_icmp .lt 14, 3), (16, .new 184, 3), (19, .dup, 1), (20, .ldc_w 307, 3), (23, .invokespecial 188, 3), (26, .athrow, 1), (27, .aload_n 3, 1), (28, .getfield 117, 3), (31, .iload_n 2, 1), (32, .aaload, 1), (33, .areturn, 1)]
set_option maxRecDepth 20000 in
theorem DX6_toneOf : Lst YX6_toneOf LX6_toneOf := by unfold Lst; decide +kernel
def LX6_checkStreetNumber : LI := [(0, .iload_n 0, 1), (1, .ifCond .lt 8, 3), (4, .iload_n 0, 1), (5, .iconst 4, 1), (6, .if_icmp .lt 14, 3), (9, .new 57, 3), (12, .dup, 1), (13, .ldc_w 309, 3), (16, .invokespecial 61, 3), (19, .athrow, 1), (20, .iload_n 1, 1), (21, .getstatic 311, 3), (24, .iload_n 0, 1), (25, .iaload, 1), (26, .if_icmp .lt 12, 3), (29, .iload_n 1, 1), (30, .getstatic 314, 3), (33, .iload_n 0, 1), (34, .iaload, 1), (35, .if_icmp .le 14, 3), (38, .new 57, 3), (41, .dup, 1), (42, .ldc_w 317, 3), (45, .invokespecial 61, 3), (48, .athrow, 1), (49, .return_, 1)]
set_option maxRecDepth 20000 in
theorem DX6_checkStreetNumber : Lst YX6_checkStreetNumber LX6_checkStreetNumber := by unfold Lst; decide +kernel
def LX6_checkSetting : LI := [(0, .iload_n 0, 1), (1, .ifCond .lt 8, 3), (4, .iload_n 0, 1), (5, .iconst 3, 1), (6, .if_icmp .lt 14, 3), (9, .new 184, 3), (12, .dup, 1), (13, .ldc_w 319, 3), (16, .invokespecial 188, 3), (19, .athrow, 1), (20, .return_, 1)]
set_option maxRecDepth 20000 in
theorem DX6_checkSetting : Lst YX6_checkSetting LX6_checkSetting := by unfold Lst; decide +kernel
def LX6_checkBeats : LI := [(0, .iload_n 0, 1), (1, .iconst 1, 1), (2, .if_icmp .lt 9, 3), (5, .iload_n 0, 1), (6, .bipush 100, 2), (8, .if_icmp .le 14, 3), (11, .new 57, 3), (14, .dup, 1), (15, .ldc_w 321, 3), (18, .invokespecial 61, 3), (21, .athrow, 1), (22, .return_, 1)]
set_option maxRecDepth 20000 in
theorem DX6_checkBeats : Lst YX6_checkBeats LX6_checkBeats := by unfold Lst; decide +kernel
def LX6_checkBeatsLeft : LI := [(0, .aload_n 0, 1), (1, .getfield 12, 3), (4, .getfield 196, 3), (7, .iload_n 1, 1), (8, .iadd, 1), (9, .sipush 5000, 3), (12, .if_icmp .le 14, 3), (15, .new 73, 3), (18, .dup, 1), (19, .ldc_w 323, 3), (22, .invokespecial 77, 3), (25, .athrow, 1), (26, .return_, 1)]
set_option maxRecDepth 20000 in
theorem DX6_checkBeatsLeft : Lst YX6_checkBeatsLeft LX6_checkBeatsLeft := by unfold Lst; decide +kernel
def LX6_save : LI := [(0, .aload_n 0, 1), (1, .getfield 169, 3), (4, .bipush 6, 2), (6, .if_icmp .lt 7, 3), (9, .aload_n 0, 1), (10, .invokevirtual 325, 3), (13, .aload_n 0, 1), (14, .getfield 19, 3), (17, .aload_n 0, 1), (18, .getfield 169, 3), (21, .aaload, 1), (22, .aload_n 0, 1), (23, .getfield 12, 3), (26, .invokevirtual 174, 3), (29, .aload_n 0, 1), (30, .dup, 1), (31, .getfield 169, 3), (34, .iconst 1, 1), (35, .iadd, 1), (36, .putfield 169, 3), (39, .return_, 1)]
set_option maxRecDepth 20000 in
theorem DX6_save : Lst YX6_save LX6_save := by unfold Lst; decide +kernel
def LX6_dropOldest : LI := [(0, .aload_n 0, 1), (1, .getfield 19, 3), (4, .iconst 0, 1), (5, .aaload, 1), (6, .astore_n 1, 1), (7, .iconst 1, 1), (8, .istore_n 2, 1), (9, .iload_n 2, 1), (10, .bipush 6, 2), (12, .if_icmp .ge 23, 3), (15, .aload_n 0, 1), (16, .getfield 19, 3), (19, .iload_n 2, 1), (20, .iconst 1, 1), (21, .isub, 1), (22, .aload_n 0, 1), (23, .getfield 19, 3), (26, .iload_n 2, 1), (27, .aaload, 1), (28, .aastore, 1), (29, .iinc 2 1, 3), (32, .goto (-23), 3), (35, .aload_n 0, 1), (36, .getfield 19, 3), (39, .iconst 5, 1), (40, .aload_n 1, 1), (41, .aastore, 1), (42, .aload_n 0, 1), (43, .iconst 5, 1), (44, .putfield 169, 3), (47, .return_, 1)]
set_option maxRecDepth 20000 in
theorem DX6_dropOldest : Lst YX6_dropOldest LX6_dropOldest := by unfold Lst; decide +kernel
def LJ6_bitCount_0f7a4 : LI := [(0, .iload_n 0, 1), (1, .iload_n 0, 1), (2, .iconst 1, 1), (3, .iushr, 1), (4, .ldc_w 265, 3), (7, .iand, 1), (8, .isub, 1), (9, .istore_n 0, 1), (10, .iload_n 0, 1), (11, .ldc_w 266, 3), (14, .iand, 1), (15, .iload_n 0, 1), (16, .iconst 2, 1), (17, .iushr, 1), (18, .ldc_w 266, 3), (21, .iand, 1), (22, .iadd, 1), (23, .istore_n 0, 1), (24, .iload_n 0, 1), (25, .iload_n 0, 1), (26, .iconst 4, 1), (27, .iushr, 1), (28, .iadd, 1), (29, .ldc_w 267, 3), (32, .iand, 1), (33, .istore_n 0, 1), (34, .iload_n 0, 1), (35, .iload_n 0, 1), (36, .bipush 8, 2), (38, .iushr, 1), (39, .iadd, 1), (40, .istore_n 0, 1), (41, .iload_n 0, 1), (42, .iload_n 0, 1), (43, .bipush 16, 2), (45, .iushr, 1), (46, .iadd, 1), (47, .istore_n 0, 1), (48, .iload_n 0, 1), (49, .bipush 63, 2), (51, .iand, 1), (52, .ireturn, 1)]
set_option maxRecDepth 20000 in
theorem DJ6_bitCount_0f7a4 : Lst YJ6_bitCount_0f7a4 LJ6_bitCount_0f7a4 := by unfold Lst; decide +kernel
def LJ9_floorMod_7cf53 : LI := [(0, .iload_n 0, 1), (1, .iload_n 1, 1), (2, .irem, 1), (3, .istore_n 2, 1), (4, .iload_n 0, 1), (5, .iload_n 1, 1), (6, .ixor, 1), (7, .ifCond .ge 11, 3), (10, .iload_n 2, 1), (11, .ifCond .eq 7, 3), (14, .iload_n 2, 1), (15, .iload_n 1, 1), (16, .iadd, 1), (17, .ireturn, 1), (18, .iload_n 2, 1), (19, .ireturn, 1)]
set_option maxRecDepth 20000 in
theorem DJ9_floorMod_7cf53 : Lst YJ9_floorMod_7cf53 LJ9_floorMod_7cf53 := by unfold Lst; decide +kernel
def LL_cell : LI := [(0, .iload_n 1, 1), (1, .aload_n 0, 1), (2, .arraylength, 1), (3, .if_icmp .ge 9, 3), (6, .aload_n 0, 1), (7, .iload_n 1, 1), (8, .iaload, 1), (9, .goto 9, 3), (12, .ldc 7, 2), (14, .iload_n 1, 1), (15, .iconst 1, 1), (16, .iadd, 1), (17, .imul, 1), (18, .ireturn, 1)]
set_option maxRecDepth 20000 in
theorem DL_cell : Lst YL_cell LL_cell := by unfold Lst; decide +kernel
def LL_at : LI := [(0, .iload_n 0, 1), (1, .iconst 1, 1), (2, .iushr, 1), (3, .iload_n 1, 1), (4, .irem, 1), (5, .ireturn, 1)]
set_option maxRecDepth 20000 in
theorem DL_at : Lst YL_at LL_at := by unfold Lst; decide +kernel
def LL_draw : LI := [(0, .aload_n 1, 1), (1, .iconst 1, 1), (2, .ldc2_w 8, 3), (5, .aload_n 1, 1), (6, .iconst 1, 1), (7, .iaload, 1), (8, .i2l, 1), (9, .lmul, 1), (10, .ldc2_w 10, 3), (13, .ladd, 1), (14, .ldc2_w 12, 3), (17, .lrem, 1), (18, .l2i, 1), (19, .iastore, 1), (20, .aload_n 1, 1), (21, .iconst 1, 1), (22, .iaload, 1), (23, .ldc 14, 2), (25, .idiv, 1), (26, .iload_n 0, 1), (27, .irem, 1), (28, .ireturn, 1)]
set_option maxRecDepth 20000 in
theorem DL_draw : Lst YL_draw LL_draw := by unfold Lst; decide +kernel
def LL_amp : LI := [(0, .iload_n 0, 1), (1, .ifCond .ne 7, 3), (4, .iconst 0, 1), (5, .goto 18, 3), (8, .iconst 2, 1), (9, .iload_n 1, 1), (10, .imul, 1), (11, .iconst 1, 1), (12, .iadd, 1), (13, .iconst 1, 1), (14, .iload_n 0, 1), (15, .ishl, 1), (16, .isub, 1), (17, .sipush 256, 3), (20, .iload_n 0, 1), (21, .ishr, 1), (22, .imul, 1), (23, .ireturn, 1)]
set_option maxRecDepth 20000 in
theorem DL_amp : Lst YL_amp LL_amp := by unfold Lst; decide +kernel
def LL_come : LI := [(0, .iconst 4, 1), (1, .iload_n 0, 1), (2, .imul, 1), (3, .istore 5, 2), (5, .aload_n 2, 1), (6, .iload 5, 2), (8, .iaload, 1), (9, .iload_n 1, 1), (10, .imul, 1), (11, .aload_n 2, 1), (12, .iload 5, 2), (14, .iconst 1, 1), (15, .iadd, 1), (16, .iaload, 1), (17, .aload_n 3, 1), (18, .iload 5, 2), (20, .iconst 1, 1), (21, .iadd, 1), (22, .iaload, 1), (23, .imul, 1), (24, .iadd, 1), (25, .aload_n 2, 1), (26, .iload 5, 2), (28, .iconst 2, 1), (29, .iadd, 1), (30, .iaload, 1), (31, .aload_n 3, 1), (32, .iload 5, 2), (34, .iconst 2, 1), (35, .iadd, 1), (36, .iaload, 1), (37, .imul, 1), (38, .iadd, 1), (39, .bipush 64, 2), (41, .idiv, 1), (42, .istore 6, 2), (44, .iconst 2, 1), (45, .aload_n 2, 1), (46, .iload 5, 2), (48, .iconst 3, 1), (49, .iadd, 1), (50, .iaload, 1), (51, .imul, 1), (52, .iconst 1, 1), (53, .iadd, 1), (54, .aload 4, 2), (56, .invokestatic 15, 3), (59, .aload_n 2, 1), (60, .iload 5, 2), (62, .iconst 3, 1), (63, .iadd, 1), (64, .iaload, 1), (65, .isub, 1), (66, .istore 7, 2), (68, .iload 6, 2), (70, .iload 7, 2), (72, .aload_n 3, 1), (73, .iload 5, 2), (75, .iaload, 1), (76, .iadd, 1), (77, .iadd, 1), (78, .istore 6, 2), (80, .aload_n 3, 1), (81, .iload 5, 2), (83, .iconst 0, 1), (84, .iastore, 1), (85, .aload_n 3, 1), (86, .iload 5, 2), (88, .iconst 2, 1), (89, .iadd, 1), (90, .aload_n 3, 1), (91, .iload 5, 2), (93, .iconst 1, 1), (94, .iadd, 1), (95, .iaload, 1), (96, .iastore, 1), (97, .aload_n 3, 1), (98, .iload 5, 2), (100, .iconst 1, 1), (101, .iadd, 1), (102, .iload_n 1, 1), (103, .iastore, 1), (104, .iload 6, 2), (106, .ireturn, 1)]
set_option maxRecDepth 20000 in
theorem DL_come : Lst YL_come LL_come := by unfold Lst; decide +kernel
def LL_size : LI := [(0, .iload_n 0, 1), (1, .ifCond .ge 8, 3), (4, .iload_n 0, 1), (5, .ineg, 1), (6, .goto 4, 3), (9, .iload_n 0, 1), (10, .ireturn, 1)]
set_option maxRecDepth 20000 in
theorem DL_size : Lst YL_size LL_size := by unfold Lst; decide +kernel
def LL_held : LI := [(0, .iload_n 0, 1), (1, .iload_n 1, 1), (2, .if_icmp .ge 7, 3), (5, .iload_n 1, 1), (6, .goto 13, 3), (9, .iload_n 0, 1), (10, .iload_n 2, 1), (11, .if_icmp .le 7, 3), (14, .iload_n 2, 1), (15, .goto 4, 3), (18, .iload_n 0, 1), (19, .ireturn, 1)]
set_option maxRecDepth 20000 in
theorem DL_held : Lst YL_held LL_held := by unfold Lst; decide +kernel
def LL_lesson_0 : LI := [(0, .iconst 4, 1), (1, .iload_n 0, 1), (2, .imul, 1), (3, .istore 9, 2), (5, .iconst 2, 1), (6, .aload 7, 2), (8, .invokestatic 15, 3), (11, .sipush 256, 3), (14, .imul, 1), (15, .sipush 128, 3), (18, .isub, 1), (19, .istore 10, 2), (21, .aload_n 3, 1), (22, .iload 9, 2), (24, .iconst 1, 1), (25, .iadd, 1), (26, .iaload, 1), (27, .istore 11, 2), (29, .aload_n 3, 1), (30, .iload 9, 2), (32, .iconst 2, 1), (33, .iadd, 1), (34, .iaload, 1), (35, .istore 12, 2), (37, .iload_n 0, 1), (38, .iload 10, 2), (40, .aload_n 2, 1), (41, .aload_n 3, 1), (42, .aload 7, 2), (44, .invokestatic 21, 3), (47, .istore 13, 2), (49, .iload 13, 2), (51, .aload 4, 2), (53, .iload 9, 2), (55, .iaload, 1), (56, .iload 10, 2), (58, .imul, 1), (59, .aload 4, 2), (61, .iload 9, 2), (63, .iconst 1, 1), (64, .iadd, 1), (65, .iaload, 1), (66, .iload 11, 2), (68, .imul, 1), (69, .iadd, 1), (70, .aload 4, 2), (72, .iload 9, 2), (74, .iconst 2, 1), (75, .iadd, 1), (76, .iaload, 1), (77, .iload 12, 2), (79, .imul, 1), (80, .iadd, 1), (81, .bipush 64, 2), (83, .idiv, 1), (84, .isub, 1), (85, .istore 14, 2), (87, .sipush 128, 3), (90, .aload 8, 2), (92, .iconst 0, 1), (93, .iaload, 1), (94, .imul, 1), (95, .istore 15, 2), (97, .aload 4, 2), (99, .iload 9, 2), (101, .aload 4, 2), (103, .iload 9, 2), (105, .iaload, 1), (106, .iload 14, 2), (108, .iload 10, 2), (110, .imul, 1), (111, .iload 15, 2), (113, .idiv, 1), (114, .iadd, 1), (115, .bipush 8, 2), (117, .sipush 128, 3), (120, .invokestatic 25, 3), (123, .iastore, 1), (124, .aload 4, 2), (126, .iload 9, 2), (128, .iconst 1, 1), (129, .iadd, 1), (130, .aload 4, 2), (132, .iload 9, 2), (134, .iconst 1, 1), (135, .iadd, 1), (136, .iaload, 1), (137, .iload 14, 2), (139, .iload 11, 2), (141, .imul, 1), (142, .iload 15, 2), (144, .idiv, 1), (145, .iadd, 1), (146, .bipush (-48), 2), (148, .bipush 48, 2), (150, .invokestatic 25, 3), (153, .iastore, 1), (154, .aload 4, 2), (156, .iload 9, 2), (158, .iconst 2, 1), (159, .iadd, 1), (160, .aload 4, 2), (162, .iload 9, 2), (164, .iconst 2, 1), (165, .iadd, 1), (166, .iaload, 1), (167, .iload 14, 2), (169, .iload 12, 2), (171, .imul, 1), (172, .iload 15, 2), (174, .idiv, 1), (175, .iadd, 1), (176, .bipush (-48), 2), (178, .bipush 48, 2), (180, .invokestatic 25, 3), (183, .iastore, 1), (184, .aload 5, 2), (186, .iconst 2, 1), (187, .iload_n 0, 1), (188, .imul, 1)]
set_option maxRecDepth 20000 in
theorem DL_lesson_0 : Lst YL_lesson LL_lesson_0 := by unfold Lst; decide +kernel
def LL_lesson_1 : LI := [(189, .iload 10, 2), (191, .iastore, 1), (192, .aload 5, 2), (194, .iconst 2, 1), (195, .iload_n 0, 1), (196, .imul, 1), (197, .iconst 1, 1), (198, .iadd, 1), (199, .iload 11, 2), (201, .iastore, 1), (202, .aload 6, 2), (204, .iload_n 0, 1), (205, .bipush 8, 2), (207, .irem, 1), (208, .bipush 8, 2), (210, .imul, 1), (211, .iload_n 1, 1), (212, .bipush 8, 2), (214, .irem, 1), (215, .iadd, 1), (216, .iload 14, 2), (218, .invokestatic 29, 3), (221, .iastore, 1), (222, .return_, 1)]
set_option maxRecDepth 20000 in
theorem DL_lesson_1 : Lst YL_lesson LL_lesson_1 := by unfold Lst; decide +kernel
def LL_learn_0 : LI := [(0, .iconst 0, 1), (1, .istore 10, 2), (3, .iload 10, 2), (5, .iload_n 1, 1), (6, .if_icmp .ge 49, 3), (9, .iconst 0, 1), (10, .istore 11, 2), (12, .iload 11, 2), (14, .bipush 8, 2), (16, .if_icmp .ge 33, 3), (19, .bipush 8, 2), (21, .iload_n 0, 1), (22, .imul, 1), (23, .iload 11, 2), (25, .iadd, 1), (26, .iload 10, 2), (28, .aload_n 2, 1), (29, .aload_n 3, 1), (30, .aload 4, 2), (32, .aload 6, 2), (34, .aload 7, 2), (36, .aload 8, 2), (38, .aload 9, 2), (40, .invokestatic 33, 3), (43, .iinc 11 1, 3), (46, .goto (-34), 3), (49, .iinc 10 1, 3), (52, .goto (-49), 3), (55, .iconst 0, 1), (56, .istore 10, 2), (58, .iconst 0, 1), (59, .istore 11, 2), (61, .iload 11, 2), (63, .bipush 8, 2), (65, .if_icmp .ge 163, 3), (68, .iconst 4, 1), (69, .bipush 8, 2), (71, .iload_n 0, 1), (72, .imul, 1), (73, .iload 11, 2), (75, .iadd, 1), (76, .imul, 1), (77, .istore 12, 2), (79, .iconst 0, 1), (80, .istore 13, 2), (82, .iconst 0, 1), (83, .istore 14, 2), (85, .iload 14, 2), (87, .bipush 8, 2), (89, .if_icmp .ge 49, 3), (92, .iload 14, 2), (94, .iload_n 1, 1), (95, .if_icmp .ge 43, 3), (98, .aload 7, 2), (100, .bipush 8, 2), (102, .iload 11, 2), (104, .imul, 1), (105, .iload 14, 2), (107, .iadd, 1), (108, .iaload, 1), (109, .iload 13, 2), (111, .if_icmp .le 17, 3), (114, .aload 7, 2), (116, .bipush 8, 2), (118, .iload 11, 2), (120, .imul, 1), (121, .iload 14, 2), (123, .iadd, 1), (124, .iaload, 1), (125, .goto 5, 3), (128, .iload 13, 2), (130, .istore 13, 2), (132, .iinc 14 1, 3), (135, .goto (-50), 3), (138, .aload_n 3, 1), (139, .iload 12, 2), (141, .iconst 3, 1), (142, .iadd, 1), (143, .iload 13, 2), (145, .iastore, 1), (146, .iconst 0, 1), (147, .istore 14, 2), (149, .iconst 1, 1), (150, .istore 15, 2), (152, .iload 15, 2), (154, .iconst 4, 1), (155, .if_icmp .gt 45, 3), (158, .iload 13, 2), (160, .aload 9, 2), (162, .iconst 1, 1), (163, .iaload, 1), (164, .imul, 1), (165, .iconst 4, 1), (166, .idiv, 1), (167, .sipush 256, 3), (170, .iload 15, 2), (172, .ishr, 1), (173, .aload 4, 2), (175, .iload 12, 2), (177, .iaload, 1), (178, .imul, 1), (179, .bipush 64, 2), (181, .idiv, 1), (182, .if_icmp .ge 8, 3), (185, .iload 15, 2), (187, .goto 5, 3), (190, .iload 14, 2), (192, .istore 14, 2), (194, .iinc 15 1, 3), (197, .goto (-45), 3), (200, .aload 4, 2), (202, .iload 12, 2), (204, .iconst 3, 1), (205, .iadd, 1), (206, .iload 14, 2), (208, .iastore, 1), (209, .aload 5, 2), (211, .iload 12, 2), (213, .iconst 0, 1), (214, .iastore, 1)]
set_option maxRecDepth 20000 in
theorem DL_learn_0 : Lst YL_learn LL_learn_0 := by unfold Lst; decide +kernel
def LL_learn_1 : LI := [(215, .iload 10, 2), (217, .iload 14, 2), (219, .iadd, 1), (220, .istore 10, 2), (222, .iinc 11 1, 3), (225, .goto (-164), 3), (228, .aload 8, 2), (230, .iconst 0, 1), (231, .dup2, 1), (232, .iaload, 1), (233, .iload_n 1, 1), (234, .iadd, 1), (235, .iastore, 1), (236, .iload 10, 2), (238, .ireturn, 1)]
set_option maxRecDepth 20000 in
theorem DL_learn_1 : Lst YL_learn LL_learn_1 := by unfold Lst; decide +kernel
def LL_next : LI := [(0, .aload_n 2, 1), (1, .iconst 2, 1), (2, .iload_n 0, 1), (3, .iadd, 1), (4, .iaload, 1), (5, .ifCond .ne 5, 3), (8, .iconst 0, 1), (9, .ireturn, 1), (10, .aload_n 1, 1), (11, .bipush 32, 2), (13, .iload_n 0, 1), (14, .imul, 1), (15, .iaload, 1), (16, .istore_n 3, 1), (17, .aload_n 2, 1), (18, .iconst 2, 1), (19, .iload_n 0, 1), (20, .iadd, 1), (21, .dup2, 1), (22, .iaload, 1), (23, .iconst 1, 1), (24, .isub, 1), (25, .iastore, 1), (26, .iconst 0, 1), (27, .istore 4, 2), (29, .iload 4, 2), (31, .aload_n 2, 1), (32, .iconst 2, 1), (33, .iload_n 0, 1), (34, .iadd, 1), (35, .iaload, 1), (36, .if_icmp .ge 29, 3), (39, .aload_n 1, 1), (40, .bipush 32, 2), (42, .iload_n 0, 1), (43, .imul, 1), (44, .iload 4, 2), (46, .iadd, 1), (47, .aload_n 1, 1), (48, .bipush 32, 2), (50, .iload_n 0, 1), (51, .imul, 1), (52, .iload 4, 2), (54, .iadd, 1), (55, .iconst 1, 1), (56, .iadd, 1), (57, .iaload, 1), (58, .iastore, 1), (59, .iinc 4 1, 3), (62, .goto (-33), 3), (65, .iload_n 3, 1), (66, .ireturn, 1)]
set_option maxRecDepth 20000 in
theorem DL_next : Lst YL_next LL_next := by unfold Lst; decide +kernel
def LL_taken : LI := [(0, .iconst 4, 1), (1, .iload_n 0, 1), (2, .imul, 1), (3, .istore 4, 2), (5, .iload_n 1, 1), (6, .aload_n 2, 1), (7, .iload 4, 2), (9, .iconst 1, 1), (10, .iadd, 1), (11, .iaload, 1), (12, .aload_n 3, 1), (13, .iconst 2, 1), (14, .iload_n 0, 1), (15, .imul, 1), (16, .iaload, 1), (17, .imul, 1), (18, .aload_n 2, 1), (19, .iload 4, 2), (21, .iconst 2, 1), (22, .iadd, 1), (23, .iaload, 1), (24, .aload_n 3, 1), (25, .iconst 2, 1), (26, .iload_n 0, 1), (27, .imul, 1), (28, .iconst 1, 1), (29, .iadd, 1), (30, .iaload, 1), (31, .imul, 1), (32, .iadd, 1), (33, .bipush 64, 2), (35, .idiv, 1), (36, .isub, 1), (37, .bipush 64, 2), (39, .imul, 1), (40, .aload_n 2, 1), (41, .iload 4, 2), (43, .iaload, 1), (44, .idiv, 1), (45, .istore 5, 2), (47, .iconst 0, 1), (48, .istore 6, 2), (50, .iconst 0, 1), (51, .istore 7, 2), (53, .iload 7, 2), (55, .iconst 1, 1), (56, .aload_n 2, 1), (57, .iload 4, 2), (59, .iconst 3, 1), (60, .iadd, 1), (61, .iaload, 1), (62, .ishl, 1), (63, .if_icmp .ge 50, 3), (66, .aload_n 2, 1), (67, .iload 4, 2), (69, .iconst 3, 1), (70, .iadd, 1), (71, .iaload, 1), (72, .iload 7, 2), (74, .invokestatic 37, 3), (77, .iload 5, 2), (79, .isub, 1), (80, .invokestatic 29, 3), (83, .aload_n 2, 1), (84, .iload 4, 2), (86, .iconst 3, 1), (87, .iadd, 1), (88, .iaload, 1), (89, .iload 6, 2), (91, .invokestatic 37, 3), (94, .iload 5, 2), (96, .isub, 1), (97, .invokestatic 29, 3), (100, .if_icmp .ge 7, 3), (103, .iload 7, 2), (105, .istore 6, 2), (107, .iinc 7 1, 3), (110, .goto (-57), 3), (113, .iload 6, 2), (115, .ireturn, 1)]
set_option maxRecDepth 20000 in
theorem DL_taken : Lst YL_taken LL_taken := by unfold Lst; decide +kernel
def LL_sign_0 : LI := [(0, .iconst 4, 1), (1, .iload_n 0, 1), (2, .imul, 1), (3, .istore 9, 2), (5, .iload_n 0, 1), (6, .bipush 8, 2), (8, .idiv, 1), (9, .istore 10, 2), (11, .aload_n 3, 1), (12, .iload 9, 2), (14, .iconst 3, 1), (15, .iadd, 1), (16, .iaload, 1), (17, .istore 11, 2), (19, .iconst 0, 1), (20, .istore 12, 2), (22, .iconst 0, 1), (23, .istore 13, 2), (25, .iload 13, 2), (27, .iload 11, 2), (29, .if_icmp .ge 25, 3), (32, .iload 12, 2), (34, .iconst 1, 1), (35, .ishl, 1), (36, .iload 10, 2), (38, .aload 6, 2), (40, .aload 7, 2), (42, .invokestatic 41, 3), (45, .ior, 1), (46, .istore 12, 2), (48, .iinc 13 1, 3), (51, .goto (-26), 3), (54, .iload_n 0, 1), (55, .iload_n 0, 1), (56, .iload 11, 2), (58, .iload 12, 2), (60, .invokestatic 37, 3), (63, .aload_n 1, 1), (64, .aload_n 2, 1), (65, .aload 7, 2), (67, .invokestatic 21, 3), (70, .aload_n 3, 1), (71, .aload 5, 2), (73, .invokestatic 45, 3), (76, .istore 13, 2), (78, .iconst 0, 1), (79, .istore 14, 2), (81, .iconst 0, 1), (82, .istore 15, 2), (84, .iload 15, 2), (86, .iload 11, 2), (88, .if_icmp .ge 24, 3), (91, .iload 14, 2), (93, .iload 12, 2), (95, .iload 13, 2), (97, .ixor, 1), (98, .iload 15, 2), (100, .ishr, 1), (101, .iconst 1, 1), (102, .iand, 1), (103, .iadd, 1), (104, .istore 14, 2), (106, .iinc 15 1, 3), (109, .goto (-25), 3), (112, .aload 5, 2), (114, .iconst 2, 1), (115, .iload_n 0, 1), (116, .imul, 1), (117, .iconst 1, 1), (118, .iadd, 1), (119, .aload 5, 2), (121, .iconst 2, 1), (122, .iload_n 0, 1), (123, .imul, 1), (124, .iaload, 1), (125, .iastore, 1), (126, .aload 5, 2), (128, .iconst 2, 1), (129, .iload_n 0, 1), (130, .imul, 1), (131, .iload 11, 2), (133, .iload 13, 2), (135, .invokestatic 37, 3), (138, .iastore, 1), (139, .aload 4, 2), (141, .iload 9, 2), (143, .dup2, 1), (144, .iaload, 1), (145, .iload 14, 2), (147, .ifCond .le 7, 3), (150, .iconst 1, 1), (151, .goto 4, 3), (154, .iconst 0, 1), (155, .iadd, 1), (156, .iastore, 1), (157, .aload 4, 2), (159, .iload 9, 2), (161, .iconst 2, 1), (162, .iadd, 1), (163, .dup2, 1), (164, .iaload, 1), (165, .iload 11, 2), (167, .ifCond .le 7, 3), (170, .iconst 1, 1), (171, .goto 4, 3), (174, .iconst 0, 1), (175, .iadd, 1), (176, .iastore, 1), (177, .aload 4, 2), (179, .iload 9, 2), (181, .iconst 3, 1), (182, .iadd, 1), (183, .dup2, 1), (184, .iaload, 1), (185, .iload 14, 2), (187, .ifCond .le 7, 3), (190, .iconst 1, 1), (191, .goto 4, 3), (194, .iconst 0, 1), (195, .iadd, 1)]
set_option maxRecDepth 20000 in
theorem DL_sign_0 : Lst YL_sign LL_sign_0 := by unfold Lst; decide +kernel
def LL_sign_1 : LI := [(196, .iastore, 1), (197, .aload 7, 2), (199, .iconst 4, 1), (200, .iload 10, 2), (202, .iadd, 1), (203, .dup2, 1), (204, .iaload, 1), (205, .iload 11, 2), (207, .iadd, 1), (208, .iastore, 1), (209, .aload 7, 2), (211, .bipush 6, 2), (213, .iload 10, 2), (215, .iadd, 1), (216, .dup2, 1), (217, .iaload, 1), (218, .iload 14, 2), (220, .iadd, 1), (221, .iastore, 1), (222, .aload 8, 2), (224, .iload 10, 2), (226, .aload 8, 2), (228, .iload 10, 2), (230, .laload, 1), (231, .iload 11, 2), (233, .lshl, 1), (234, .iload 13, 2), (236, .i2l, 1), (237, .lor, 1), (238, .ldc2_w 49, 3), (241, .land, 1), (242, .lastore, 1), (243, .iload 14, 2), (245, .ireturn, 1)]
set_option maxRecDepth 20000 in
theorem DL_sign_1 : Lst YL_sign LL_sign_1 := by unfold Lst; decide +kernel
def LL_send : LI := [(0, .iconst 0, 1), (1, .istore 11, 2), (3, .iconst 0, 1), (4, .istore 12, 2), (6, .iload 12, 2), (8, .iload_n 1, 1), (9, .if_icmp .ge 134, 3), (12, .iconst 0, 1), (13, .istore 13, 2), (15, .iload 13, 2), (17, .bipush 8, 2), (19, .if_icmp .ge 38, 3), (22, .iload 11, 2), (24, .bipush 8, 2), (26, .iload_n 0, 1), (27, .imul, 1), (28, .iload 13, 2), (30, .iadd, 1), (31, .aload_n 2, 1), (32, .aload_n 3, 1), (33, .aload 4, 2), (35, .aload 5, 2), (37, .aload 6, 2), (39, .aload 7, 2), (41, .aload 8, 2), (43, .aload 10, 2), (45, .invokestatic 51, 3), (48, .iadd, 1), (49, .istore 11, 2), (51, .iinc 13 1, 3), (54, .goto (-39), 3), (57, .iconst 0, 1), (58, .istore 13, 2), (60, .iload 13, 2), (62, .bipush 8, 2), (64, .if_icmp .ge 73, 3), (67, .iconst 4, 1), (68, .bipush 8, 2), (70, .iload_n 0, 1), (71, .imul, 1), (72, .iload 13, 2), (74, .iadd, 1), (75, .imul, 1), (76, .istore 14, 2), (78, .aload 4, 2), (80, .iload 14, 2), (82, .iconst 3, 1), (83, .iadd, 1), (84, .iaload, 1), (85, .ifCond .eq 46, 3), (88, .aload 5, 2), (90, .iload 14, 2), (92, .iaload, 1), (93, .aload 9, 2), (95, .iconst 2, 1), (96, .iaload, 1), (97, .if_icmp .ge 6, 3), (100, .goto 31, 3), (103, .aload 4, 2), (105, .iload 14, 2), (107, .iconst 3, 1), (108, .iadd, 1), (109, .dup2, 1), (110, .iaload, 1), (111, .iconst 1, 1), (112, .isub, 1), (113, .iastore, 1), (114, .aload 5, 2), (116, .iload 14, 2), (118, .iconst 0, 1), (119, .iastore, 1), (120, .aload 5, 2), (122, .iload 14, 2), (124, .iconst 1, 1), (125, .iadd, 1), (126, .dup2, 1), (127, .iaload, 1), (128, .iconst 1, 1), (129, .iadd, 1), (130, .iastore, 1), (131, .iinc 13 1, 3), (134, .goto (-74), 3), (137, .iinc 12 1, 3), (140, .goto (-134), 3), (143, .aload 8, 2), (145, .iconst 0, 1), (146, .dup2, 1), (147, .iaload, 1), (148, .iload_n 1, 1), (149, .iadd, 1), (150, .iastore, 1), (151, .iload 11, 2), (153, .ireturn, 1)]
set_option maxRecDepth 20000 in
theorem DL_send : Lst YL_send LL_send := by unfold Lst; decide +kernel
def LL_sure : LI := [(0, .iconst 4, 1), (1, .iload_n 0, 1), (2, .imul, 1), (3, .istore_n 3, 1), (4, .iconst 0, 1), (5, .istore 4, 2), (7, .iconst 1, 1), (8, .istore 5, 2), (10, .iload 5, 2), (12, .iconst 4, 1), (13, .if_icmp .gt 108, 3), (16, .sipush 256, 3), (19, .iload 5, 2), (21, .ishr, 1), (22, .istore 6, 2), (24, .aload_n 1, 1), (25, .iload_n 3, 1), (26, .iaload, 1), (27, .aload_n 2, 1), (28, .iload_n 3, 1), (29, .iaload, 1), (30, .isub, 1), (31, .invokestatic 29, 3), (34, .sipush 256, 3), (37, .iload 6, 2), (39, .isub, 1), (40, .imul, 1), (41, .aload_n 1, 1), (42, .iload_n 3, 1), (43, .iconst 1, 1), (44, .iadd, 1), (45, .iaload, 1), (46, .aload_n 2, 1), (47, .iload_n 3, 1), (48, .iconst 1, 1), (49, .iadd, 1), (50, .iaload, 1), (51, .isub, 1), (52, .invokestatic 29, 3), (55, .sipush 256, 3), (58, .imul, 1), (59, .iadd, 1), (60, .aload_n 1, 1), (61, .iload_n 3, 1), (62, .iconst 2, 1), (63, .iadd, 1), (64, .iaload, 1), (65, .aload_n 2, 1), (66, .iload_n 3, 1), (67, .iconst 2, 1), (68, .iadd, 1), (69, .iaload, 1), (70, .isub, 1), (71, .invokestatic 29, 3), (74, .sipush 256, 3), (77, .imul, 1), (78, .iadd, 1), (79, .bipush 64, 2), (81, .idiv, 1), (82, .aload_n 1, 1), (83, .iload_n 3, 1), (84, .iconst 3, 1), (85, .iadd, 1), (86, .iaload, 1), (87, .iadd, 1), (88, .iconst 4, 1), (89, .iadd, 1), (90, .istore 7, 2), (92, .iload 7, 2), (94, .iload 6, 2), (96, .aload_n 2, 1), (97, .iload_n 3, 1), (98, .iaload, 1), (99, .imul, 1), (100, .bipush 64, 2), (102, .idiv, 1), (103, .if_icmp .ge 8, 3), (106, .iload 5, 2), (108, .goto 5, 3), (111, .iload 4, 2), (113, .istore 4, 2), (115, .iinc 5 1, 3), (118, .goto (-108), 3), (121, .iload 4, 2), (123, .ireturn, 1)]
set_option maxRecDepth 20000 in
theorem DL_sure : Lst YL_sure LL_sure := by unfold Lst; decide +kernel
def LL_lines_0 : LI := [(0, .iconst 0, 1), (1, .istore 6, 2), (3, .iload 6, 2), (5, .bipush 16, 2), (7, .if_icmp .ge 249, 3), (10, .iload 6, 2), (12, .bipush 8, 2), (14, .idiv, 1), (15, .istore 7, 2), (17, .iload 6, 2), (19, .bipush 8, 2), (21, .irem, 1), (22, .istore 8, 2), (24, .iconst 0, 1), (25, .istore 9, 2), (27, .iload 9, 2), (29, .iconst 4, 1), (30, .if_icmp .ge 55, 3), (33, .aload_n 0, 1), (34, .iload 7, 2), (36, .iload 8, 2), (38, .iload 9, 2), (40, .invokevirtual 55, 3), (43, .aload_n 1, 1), (44, .iconst 4, 1), (45, .iload 6, 2), (47, .imul, 1), (48, .iload 9, 2), (50, .iadd, 1), (51, .iaload, 1), (52, .if_icmp .ne 25, 3), (55, .aload_n 0, 1), (56, .iload 7, 2), (58, .iload 8, 2), (60, .iload 9, 2), (62, .invokevirtual 60, 3), (65, .aload_n 3, 1), (66, .iconst 4, 1), (67, .iload 6, 2), (69, .imul, 1), (70, .iload 9, 2), (72, .iadd, 1), (73, .iaload, 1), (74, .if_icmp .eq 5, 3), (77, .iconst 0, 1), (78, .ireturn, 1), (79, .iinc 9 1, 3), (82, .goto (-55), 3), (85, .iconst 0, 1), (86, .istore 9, 2), (88, .iload 9, 2), (90, .iconst 3, 1), (91, .if_icmp .ge 35, 3), (94, .aload_n 0, 1), (95, .iload 7, 2), (97, .iload 8, 2), (99, .iload 9, 2), (101, .iconst 4, 1), (102, .iadd, 1), (103, .invokevirtual 55, 3), (106, .aload_n 2, 1), (107, .iconst 4, 1), (108, .iload 6, 2), (110, .imul, 1), (111, .iload 9, 2), (113, .iadd, 1), (114, .iaload, 1), (115, .if_icmp .eq 5, 3), (118, .iconst 0, 1), (119, .ireturn, 1), (120, .iinc 9 1, 3), (123, .goto (-35), 3), (126, .iconst 0, 1), (127, .istore 9, 2), (129, .iload 9, 2), (131, .iconst 4, 1), (132, .if_icmp .ge 36, 3), (135, .aload_n 0, 1), (136, .iload 7, 2), (138, .iload 8, 2), (140, .iload 9, 2), (142, .iconst 5, 1), (143, .iadd, 1), (144, .invokevirtual 60, 3), (147, .aload 4, 2), (149, .iconst 4, 1), (150, .iload 6, 2), (152, .imul, 1), (153, .iload 9, 2), (155, .iadd, 1), (156, .iaload, 1), (157, .if_icmp .eq 5, 3), (160, .iconst 0, 1), (161, .ireturn, 1), (162, .iinc 9 1, 3), (165, .goto (-36), 3), (168, .aload_n 0, 1), (169, .iload 7, 2), (171, .iload 8, 2), (173, .iconst 4, 1), (174, .invokevirtual 60, 3), (177, .aload_n 2, 1), (178, .iconst 4, 1), (179, .iload 6, 2), (181, .imul, 1), (182, .iconst 3, 1), (183, .iadd, 1), (184, .iaload, 1), (185, .if_icmp .ne 63, 3), (188, .aload_n 0, 1), (189, .iload 7, 2), (191, .iload 8, 2), (193, .bipush 9, 2), (195, .invokevirtual 60, 3), (198, .aload 5, 2), (200, .iconst 2, 1), (201, .iload 6, 2), (203, .imul, 1), (204, .iaload, 1), (205, .if_icmp .ne 43, 3)]
set_option maxRecDepth 20000 in
theorem DL_lines_0 : Lst YL_lines LL_lines_0 := by unfold Lst; decide +kernel
def LL_lines_1 : LI := [(208, .aload_n 0, 1), (209, .iload 7, 2), (211, .iload 8, 2), (213, .bipush 10, 2), (215, .invokevirtual 60, 3), (218, .aload 5, 2), (220, .iconst 2, 1), (221, .iload 6, 2), (223, .imul, 1), (224, .iconst 1, 1), (225, .iadd, 1), (226, .iaload, 1), (227, .if_icmp .ne 21, 3), (230, .aload_n 0, 1), (231, .iload 7, 2), (233, .iload 8, 2), (235, .invokevirtual 63, 3), (238, .iload 6, 2), (240, .aload_n 1, 1), (241, .aload_n 3, 1), (242, .invokestatic 66, 3), (245, .if_icmp .eq 5, 3), (248, .iconst 0, 1), (249, .ireturn, 1), (250, .iinc 6 1, 3), (253, .goto (-250), 3), (256, .iconst 1, 1), (257, .ireturn, 1)]
set_option maxRecDepth 20000 in
theorem DL_lines_1 : Lst YL_lines LL_lines_1 := by unfold Lst; decide +kernel
def LL_carried : LI := [(0, .iconst 0, 1), (1, .istore_n 2, 1), (2, .iconst 0, 1), (3, .istore_n 3, 1), (4, .iload_n 3, 1), (5, .bipush 8, 2), (7, .if_icmp .ge 24, 3), (10, .iload_n 2, 1), (11, .aload_n 1, 1), (12, .iconst 4, 1), (13, .bipush 8, 2), (15, .iload_n 0, 1), (16, .imul, 1), (17, .iload_n 3, 1), (18, .iadd, 1), (19, .imul, 1), (20, .iconst 3, 1), (21, .iadd, 1), (22, .iaload, 1), (23, .iadd, 1), (24, .istore_n 2, 1), (25, .iinc 3 1, 3), (28, .goto (-24), 3), (31, .iload_n 2, 1), (32, .ireturn, 1)]
set_option maxRecDepth 20000 in
theorem DL_carried : Lst YL_carried LL_carried := by unfold Lst; decide +kernel
def LL_told_0 : LI := [(0, .aload_n 0, 1), (1, .aload_n 1, 1), (2, .aload_n 2, 1), (3, .aload_n 3, 1), (4, .aload 4, 2), (6, .aload 5, 2), (8, .invokestatic 68, 3), (11, .ifCond .ne 5, 3), (14, .iconst 0, 1), (15, .ireturn, 1), (16, .iconst 0, 1), (17, .istore 10, 2), (19, .iload 10, 2), (21, .bipush 8, 2), (23, .if_icmp .ge 25, 3), (26, .aload_n 0, 1), (27, .iload 10, 2), (29, .invokevirtual 72, 3), (32, .aload 7, 2), (34, .iload 10, 2), (36, .iaload, 1), (37, .if_icmp .eq 5, 3), (40, .iconst 0, 1), (41, .ireturn, 1), (42, .iinc 10 1, 3), (45, .goto (-26), 3), (48, .iconst 0, 1), (49, .istore 10, 2), (51, .iload 10, 2), (53, .iconst 3, 1), (54, .if_icmp .ge 25, 3), (57, .aload_n 0, 1), (58, .iload 10, 2), (60, .invokevirtual 75, 3), (63, .aload 8, 2), (65, .iload 10, 2), (67, .iaload, 1), (68, .if_icmp .eq 5, 3), (71, .iconst 0, 1), (72, .ireturn, 1), (73, .iinc 10 1, 3), (76, .goto (-25), 3), (79, .iconst 0, 1), (80, .istore 10, 2), (82, .iconst 0, 1), (83, .istore 11, 2), (85, .iconst 0, 1), (86, .istore 12, 2), (88, .iload 12, 2), (90, .bipush 16, 2), (92, .if_icmp .ge 42, 3), (95, .iload 10, 2), (97, .aload 4, 2), (99, .iconst 4, 1), (100, .iload 12, 2), (102, .imul, 1), (103, .iconst 1, 1), (104, .iadd, 1), (105, .iaload, 1), (106, .iadd, 1), (107, .istore 10, 2), (109, .iload 11, 2), (111, .aload_n 2, 1), (112, .iconst 4, 1), (113, .iload 12, 2), (115, .imul, 1), (116, .iaload, 1), (117, .ifCond .eq 7, 3), (120, .iconst 1, 1), (121, .goto 4, 3), (124, .iconst 0, 1), (125, .iadd, 1), (126, .istore 11, 2), (128, .iinc 12 1, 3), (131, .goto (-43), 3), (134, .aload_n 0, 1), (135, .bipush 10, 2), (137, .invokevirtual 72, 3), (140, .iload 10, 2), (142, .if_icmp .ne 14, 3), (145, .aload_n 0, 1), (146, .bipush 11, 2), (148, .invokevirtual 72, 3), (151, .iload 11, 2), (153, .if_icmp .eq 5, 3), (156, .iconst 0, 1), (157, .ireturn, 1), (158, .iconst 0, 1), (159, .istore 12, 2), (161, .iload 12, 2), (163, .iconst 2, 1), (164, .if_icmp .ge 141, 3), (167, .iconst 0, 1), (168, .istore 13, 2), (170, .iload 13, 2), (172, .aload 7, 2), (174, .iconst 2, 1), (175, .iload 12, 2), (177, .iadd, 1), (178, .iaload, 1), (179, .if_icmp .ge 33, 3), (182, .aload_n 0, 1), (183, .iload 12, 2), (185, .iload 13, 2), (187, .invokevirtual 78, 3), (190, .aload 6, 2), (192, .bipush 32, 2), (194, .iload 12, 2), (196, .imul, 1), (197, .iload 13, 2), (199, .iadd, 1), (200, .iaload, 1), (201, .if_icmp .eq 5, 3), (204, .iconst 0, 1), (205, .ireturn, 1), (206, .iinc 13 1, 3), (209, .goto (-39), 3), (212, .aload_n 0, 1), (213, .iload 12, 2), (215, .invokevirtual 81, 3)]
set_option maxRecDepth 20000 in
theorem DL_told_0 : Lst YL_told LL_told_0 := by unfold Lst; decide +kernel
def LL_told_1 : LI := [(218, .aload 9, 2), (220, .iload 12, 2), (222, .laload, 1), (223, .lcmp, 1), (224, .ifCond .ne 73, 3), (227, .aload_n 0, 1), (228, .bipush 8, 2), (230, .iload 12, 2), (232, .iadd, 1), (233, .invokevirtual 72, 3), (236, .iload 12, 2), (238, .aload_n 3, 1), (239, .invokestatic 85, 3), (242, .if_icmp .ne 55, 3), (245, .aload_n 0, 1), (246, .iload 12, 2), (248, .invokevirtual 88, 3), (251, .aload 7, 2), (253, .iconst 4, 1), (254, .iload 12, 2), (256, .iadd, 1), (257, .iaload, 1), (258, .ifCond .ne 7, 3), (261, .dconst 1, 1), (262, .goto 31, 3), (265, .aload 7, 2), (267, .iconst 4, 1), (268, .iload 12, 2), (270, .iadd, 1), (271, .iaload, 1), (272, .aload 7, 2), (274, .bipush 6, 2), (276, .iload 12, 2), (278, .iadd, 1), (279, .iaload, 1), (280, .isub, 1), (281, .i2d, 1), (282, .dconst 1, 1), (283, .dmul, 1), (284, .aload 7, 2), (286, .iconst 4, 1), (287, .iload 12, 2), (289, .iadd, 1), (290, .iaload, 1), (291, .i2d, 1), (292, .ddiv, 1), (293, .dcmp .l, 1), (294, .ifCond .eq 5, 3), (297, .iconst 0, 1), (298, .ireturn, 1), (299, .iinc 12 1, 3), (302, .goto (-141), 3), (305, .iconst 1, 1), (306, .ireturn, 1)]
set_option maxRecDepth 20000 in
theorem DL_told_1 : Lst YL_told LL_told_1 := by unfold Lst; decide +kernel
def LL_say_0 : LI := [(0, .aload_n 0, 1), (1, .invokevirtual 92, 3), (4, .pop, 1), (5, .iload_n 1, 1), (6, .iconst 1, 1), (7, .iand, 1), (8, .istore 5, 2), (10, .iconst 1, 1), (11, .iload_n 1, 1), (12, .iconst 3, 1), (13, .ishr, 1), (14, .iconst 3, 1), (15, .invokestatic 96, 3), (18, .iadd, 1), (19, .istore 6, 2), (21, .aload 4, 2), (23, .iconst 2, 1), (24, .iload 5, 2), (26, .iadd, 1), (27, .iaload, 1), (28, .iconst 4, 1), (29, .iload 6, 2), (31, .imul, 1), (32, .iadd, 1), (33, .bipush 32, 2), (35, .if_icmp .le 5, 3), (38, .iconst 1, 1), (39, .ireturn, 1), (40, .aload_n 0, 1), (41, .bipush 97, 2), (43, .iload 5, 2), (45, .iadd, 1), (46, .invokevirtual 99, 3), (49, .iconst 1, 1), (50, .if_icmp .ne 17, 3), (53, .aload_n 0, 1), (54, .bipush 58, 2), (56, .invokevirtual 99, 3), (59, .iconst 2, 1), (60, .if_icmp .ne 7, 3), (63, .iconst 1, 1), (64, .goto 4, 3), (67, .iconst 0, 1), (68, .istore 7, 2), (70, .iconst 0, 1), (71, .istore 8, 2), (73, .iload 8, 2), (75, .iload 6, 2), (77, .if_icmp .ge 110, 3), (80, .iload 7, 2), (82, .ifCond .eq 105, 3), (85, .iload_n 2, 1), (86, .iconst 4, 1), (87, .iload 8, 2), (89, .imul, 1), (90, .ishr, 1), (91, .bipush 15, 2), (93, .iand, 1), (94, .istore 9, 2), (96, .aload_n 0, 1), (97, .iload 9, 2), (99, .bipush 10, 2), (101, .if_icmp .ge 11, 3), (104, .bipush 48, 2), (106, .iload 9, 2), (108, .iadd, 1), (109, .goto 8, 3), (112, .bipush 87, 2), (114, .iload 9, 2), (116, .iadd, 1), (117, .invokevirtual 99, 3), (120, .iload 8, 2), (122, .iconst 3, 1), (123, .iadd, 1), (124, .if_icmp .ne 7, 3), (127, .iconst 1, 1), (128, .goto 4, 3), (131, .iconst 0, 1), (132, .istore 7, 2), (134, .iconst 3, 1), (135, .istore 10, 2), (137, .iload 10, 2), (139, .ifCond .lt 42, 3), (142, .aload_n 3, 1), (143, .bipush 32, 2), (145, .iload 5, 2), (147, .imul, 1), (148, .aload 4, 2), (150, .iconst 2, 1), (151, .iload 5, 2), (153, .iadd, 1), (154, .iaload, 1), (155, .iadd, 1), (156, .iload 9, 2), (158, .iload 10, 2), (160, .ishr, 1), (161, .iconst 1, 1), (162, .iand, 1), (163, .iastore, 1), (164, .aload 4, 2), (166, .iconst 2, 1), (167, .iload 5, 2), (169, .iadd, 1), (170, .dup2, 1), (171, .iaload, 1), (172, .iconst 1, 1), (173, .iadd, 1), (174, .iastore, 1), (175, .iinc 10 (-1), 3), (178, .goto (-41), 3), (181, .iinc 8 1, 3), (184, .goto (-111), 3), (187, .iload 7, 2), (189, .ifCond .eq 36, 3), (192, .aload_n 0, 1), (193, .invokevirtual 102, 3), (196, .iload 6, 2), (198, .iconst 2, 1), (199, .iadd, 1), (200, .if_icmp .ne 25, 3)]
set_option maxRecDepth 20000 in
theorem DL_say_0 : Lst YL_say LL_say_0 := by unfold Lst; decide +kernel
def LL_say_1 : LI := [(203, .aload_n 0, 1), (204, .invokevirtual 105, 3), (207, .iconst 4, 1), (208, .iload 6, 2), (210, .imul, 1), (211, .if_icmp .ne 14, 3), (214, .aload_n 0, 1), (215, .invokevirtual 92, 3), (218, .ifCond .ne 7, 3), (221, .iconst 1, 1), (222, .goto 4, 3), (225, .iconst 0, 1), (226, .ireturn, 1)]
set_option maxRecDepth 20000 in
theorem DL_say_1 : Lst YL_say LL_say_1 := by unfold Lst; decide +kernel
def LL_street : LI := [(0, .iload_n 1, 1), (1, .iconst 2, 1), (2, .ishr, 1), (3, .bipush 16, 2), (5, .invokestatic 96, 3), (8, .istore 4, 2), (10, .iload_n 2, 1), (11, .iconst 4, 1), (12, .invokestatic 96, 3), (15, .istore 5, 2), (17, .iload 5, 2), (19, .ifCond .ne 17, 3), (22, .bipush 16, 2), (24, .iload_n 2, 1), (25, .iconst 4, 1), (26, .ishr, 1), (27, .bipush 81, 2), (29, .invokestatic 96, 3), (32, .iadd, 1), (33, .goto 43, 3), (36, .iload 5, 2), (38, .iconst 3, 1), (39, .if_icmp .ne 26, 3), (42, .iload_n 2, 1), (43, .iconst 4, 1), (44, .ishr, 1), (45, .iload_n 2, 1), (46, .bipush 9, 2), (48, .ishr, 1), (49, .iconst 2, 1), (50, .invokestatic 96, 3), (53, .bipush 52, 2), (55, .imul, 1), (56, .bipush 9, 2), (58, .iadd, 1), (59, .invokestatic 96, 3), (62, .goto 14, 3), (65, .iload_n 2, 1), (66, .iconst 4, 1), (67, .ishr, 1), (68, .bipush 65, 2), (70, .invokestatic 96, 3), (73, .bipush 32, 2), (75, .isub, 1), (76, .istore 6, 2), (78, .aload_n 3, 1), (79, .iconst 4, 1), (80, .iload 4, 2), (82, .imul, 1), (83, .iload 5, 2), (85, .iadd, 1), (86, .iaload, 1), (87, .istore 7, 2), (89, .aload_n 3, 1), (90, .iconst 4, 1), (91, .iload 4, 2), (93, .imul, 1), (94, .iload 5, 2), (96, .iadd, 1), (97, .iload 6, 2), (99, .iastore, 1), (100, .aload_n 0, 1), (101, .iload 4, 2), (103, .bipush 8, 2), (105, .idiv, 1), (106, .iload 4, 2), (108, .bipush 8, 2), (110, .irem, 1), (111, .iload 5, 2), (113, .iload 6, 2), (115, .invokevirtual 108, 3), (118, .iload 7, 2), (120, .if_icmp .ne 7, 3), (123, .iconst 1, 1), (124, .goto 4, 3), (127, .iconst 0, 1), (128, .ireturn, 1)]
set_option maxRecDepth 20000 in
theorem DL_street : Lst YL_street LL_street := by unfold Lst; decide +kernel
def LL_insult : LI := [(0, .iload_n 1, 1), (1, .iconst 2, 1), (2, .ishr, 1), (3, .bipush 16, 2), (5, .invokestatic 96, 3), (8, .istore 4, 2), (10, .iload_n 2, 1), (11, .iconst 3, 1), (12, .ishr, 1), (13, .sipush 601, 3), (16, .invokestatic 96, 3), (19, .sipush 300, 3), (22, .isub, 1), (23, .istore 5, 2), (25, .aload_n 3, 1), (26, .iconst 4, 1), (27, .iload 4, 2), (29, .imul, 1), (30, .iaload, 1), (31, .iload 5, 2), (33, .iadd, 1), (34, .invokestatic 29, 3), (37, .sipush 1000, 3), (40, .if_icmp .le 5, 3), (43, .iconst 1, 1), (44, .ireturn, 1), (45, .aload_n 3, 1), (46, .iconst 4, 1), (47, .iload 4, 2), (49, .imul, 1), (50, .dup2, 1), (51, .iaload, 1), (52, .iload 5, 2), (54, .iadd, 1), (55, .iastore, 1), (56, .aload_n 0, 1), (57, .iload 4, 2), (59, .bipush 8, 2), (61, .idiv, 1), (62, .iload 4, 2), (64, .bipush 8, 2), (66, .irem, 1), (67, .iload 5, 2), (69, .invokevirtual 112, 3), (72, .aload_n 3, 1), (73, .iconst 4, 1), (74, .iload 4, 2), (76, .imul, 1), (77, .iaload, 1), (78, .if_icmp .ne 7, 3), (81, .iconst 1, 1), (82, .goto 4, 3), (85, .iconst 0, 1), (86, .ireturn, 1)]
set_option maxRecDepth 20000 in
theorem DL_insult : Lst YL_insult LL_insult := by unfold Lst; decide +kernel
def LL_forget : LI := [(0, .iload_n 1, 1), (1, .aload_n 3, 1), (2, .invokestatic 85, 3), (5, .istore 5, 2), (7, .iconst 0, 1), (8, .istore 6, 2), (10, .iload 6, 2), (12, .bipush 8, 2), (14, .if_icmp .ge 60, 3), (17, .iconst 4, 1), (18, .bipush 8, 2), (20, .iload_n 1, 1), (21, .imul, 1), (22, .iload 6, 2), (24, .iadd, 1), (25, .imul, 1), (26, .istore 7, 2), (28, .aload_n 3, 1), (29, .iload 7, 2), (31, .bipush 64, 2), (33, .iastore, 1), (34, .aload_n 3, 1), (35, .iload 7, 2), (37, .iconst 1, 1), (38, .iadd, 1), (39, .iconst 0, 1), (40, .iastore, 1), (41, .aload_n 3, 1), (42, .iload 7, 2), (44, .iconst 2, 1), (45, .iadd, 1), (46, .iconst 0, 1), (47, .iastore, 1), (48, .aload_n 3, 1), (49, .iload 7, 2), (51, .iconst 3, 1), (52, .iadd, 1), (53, .iconst 0, 1), (54, .iastore, 1), (55, .aload_n 2, 1), (56, .iload 7, 2), (58, .iconst 3, 1), (59, .iadd, 1), (60, .iconst (-1), 1), (61, .iastore, 1), (62, .aload 4, 2), (64, .iload 7, 2), (66, .iconst 0, 1), (67, .iastore, 1), (68, .iinc 6 1, 3), (71, .goto (-61), 3), (74, .aload_n 0, 1), (75, .iload_n 1, 1), (76, .invokevirtual 115, 3), (79, .iload 5, 2), (81, .if_icmp .ne 7, 3), (84, .iconst 1, 1), (85, .goto 4, 3), (88, .iconst 0, 1), (89, .ireturn, 1)]
set_option maxRecDepth 20000 in
theorem DL_forget : Lst YL_forget LL_forget := by unfold Lst; decide +kernel
def LL_set : LI := [(0, .iload_n 1, 1), (1, .iconst 2, 1), (2, .ishr, 1), (3, .iconst 3, 1), (4, .invokestatic 96, 3), (7, .istore 4, 2), (9, .iload 4, 2), (11, .ifCond .ne 14, 3), (14, .iconst 1, 1), (15, .iload_n 2, 1), (16, .bipush 64, 2), (18, .invokestatic 96, 3), (21, .iadd, 1), (22, .goto 43, 3), (25, .iload 4, 2), (27, .iconst 1, 1), (28, .if_icmp .ne 14, 3), (31, .iconst 4, 1), (32, .iload_n 2, 1), (33, .bipush 37, 2), (35, .invokestatic 96, 3), (38, .iadd, 1), (39, .goto 26, 3), (42, .iconst 1, 1), (43, .iload_n 2, 1), (44, .iload_n 2, 1), (45, .bipush 8, 2), (47, .ishr, 1), (48, .iconst 2, 1), (49, .invokestatic 96, 3), (52, .ifCond .ne 7, 3), (55, .iconst 3, 1), (56, .goto 5, 3), (59, .bipush 50, 2), (61, .invokestatic 96, 3), (64, .iadd, 1), (65, .istore 5, 2), (67, .aload_n 3, 1), (68, .iload 4, 2), (70, .iaload, 1), (71, .istore 6, 2), (73, .aload_n 3, 1), (74, .iload 4, 2), (76, .iload 5, 2), (78, .iastore, 1), (79, .aload_n 0, 1), (80, .iload 4, 2), (82, .iload 5, 2), (84, .invokevirtual 118, 3), (87, .iload 6, 2), (89, .if_icmp .ne 7, 3), (92, .iconst 1, 1), (93, .goto 4, 3), (96, .iconst 0, 1), (97, .ireturn, 1)]
set_option maxRecDepth 20000 in
theorem DL_set : Lst YL_set LL_set := by unfold Lst; decide +kernel
def LL_carry : LI := [(0, .iload_n 1, 1), (1, .iconst 2, 1), (2, .ishr, 1), (3, .bipush 16, 2), (5, .invokestatic 96, 3), (8, .istore 4, 2), (10, .aload_n 3, 1), (11, .iconst 4, 1), (12, .iload 4, 2), (14, .imul, 1), (15, .iconst 3, 1), (16, .iadd, 1), (17, .iaload, 1), (18, .istore 5, 2), (20, .aload_n 3, 1), (21, .iconst 4, 1), (22, .iload 4, 2), (24, .imul, 1), (25, .iconst 3, 1), (26, .iadd, 1), (27, .iload_n 2, 1), (28, .iconst 5, 1), (29, .invokestatic 96, 3), (32, .iastore, 1), (33, .aload_n 0, 1), (34, .iload 4, 2), (36, .bipush 8, 2), (38, .idiv, 1), (39, .iload 4, 2), (41, .bipush 8, 2), (43, .irem, 1), (44, .aload_n 3, 1), (45, .iconst 4, 1), (46, .iload 4, 2), (48, .imul, 1), (49, .iconst 3, 1), (50, .iadd, 1), (51, .iaload, 1), (52, .invokevirtual 121, 3), (55, .iload 5, 2), (57, .if_icmp .ne 7, 3), (60, .iconst 1, 1), (61, .goto 4, 3), (64, .iconst 0, 1), (65, .ireturn, 1)]
set_option maxRecDepth 20000 in
theorem DL_carry : Lst YL_carry LL_carry := by unfold Lst; decide +kernel
def LL_act_0 : LI := [(0, .iconst 1, 1), (1, .iload_n 3, 1), (2, .iconst 5, 1), (3, .ishr, 1), (4, .iload_n 3, 1), (5, .bipush 12, 2), (7, .ishr, 1), (8, .iconst 3, 1), (9, .invokestatic 96, 3), (12, .ifCond .ne 8, 3), (15, .bipush 30, 2), (17, .goto 4, 3), (20, .iconst 5, 1), (21, .invokestatic 96, 3), (24, .iadd, 1), (25, .istore 14, 2), (27, .iload_n 1, 1), (28, .iconst 3, 1), (29, .if_icmp .ge 12, 3), (32, .aload_n 0, 1), (33, .iload_n 2, 1), (34, .iload_n 3, 1), (35, .aload 4, 2), (37, .invokestatic 124, 3), (40, .ireturn, 1), (41, .iload_n 1, 1), (42, .iconst 3, 1), (43, .if_icmp .ne 12, 3), (46, .aload_n 0, 1), (47, .iload_n 2, 1), (48, .iload_n 3, 1), (49, .aload 6, 2), (51, .invokestatic 127, 3), (54, .ireturn, 1), (55, .iload_n 1, 1), (56, .bipush 6, 2), (58, .if_icmp .ge 12, 3), (61, .aload_n 0, 1), (62, .iload_n 2, 1), (63, .iload_n 3, 1), (64, .aload 5, 2), (66, .invokestatic 129, 3), (69, .ireturn, 1), (70, .iload_n 1, 1), (71, .bipush 6, 2), (73, .if_icmp .ne 12, 3), (76, .aload_n 0, 1), (77, .iload_n 2, 1), (78, .iload_n 3, 1), (79, .aload 11, 2), (81, .invokestatic 131, 3), (84, .ireturn, 1), (85, .iload_n 1, 1), (86, .bipush 7, 2), (88, .if_icmp .ne 17, 3), (91, .aload_n 0, 1), (92, .iload_n 2, 1), (93, .iconst 1, 1), (94, .iand, 1), (95, .aload 5, 2), (97, .aload 6, 2), (99, .aload 7, 2), (101, .invokestatic 133, 3), (104, .ireturn, 1), (105, .iload_n 1, 1), (106, .bipush 11, 2), (108, .if_icmp .ge 14, 3), (111, .aload_n 0, 1), (112, .iload_n 2, 1), (113, .iload_n 3, 1), (114, .aload 9, 2), (116, .aload 10, 2), (118, .invokestatic 136, 3), (121, .ireturn, 1), (122, .iload_n 1, 1), (123, .bipush 14, 2), (125, .if_icmp .ge 45, 3), (128, .aload_n 0, 1), (129, .iload_n 2, 1), (130, .iconst 1, 1), (131, .iand, 1), (132, .iload 14, 2), (134, .invokevirtual 139, 3), (137, .iload_n 2, 1), (138, .iconst 1, 1), (139, .iand, 1), (140, .iload 14, 2), (142, .aload 4, 2), (144, .aload 5, 2), (146, .aload 6, 2), (148, .aload 7, 2), (150, .aload 8, 2), (152, .aload 12, 2), (154, .aload 10, 2), (156, .aload 11, 2), (158, .invokestatic 142, 3), (161, .if_icmp .ne 7, 3), (164, .iconst 1, 1), (165, .goto 4, 3), (168, .iconst 0, 1), (169, .ireturn, 1), (170, .aload_n 0, 1), (171, .iload_n 2, 1), (172, .iconst 1, 1), (173, .iand, 1), (174, .iload 14, 2), (176, .invokevirtual 145, 3), (179, .iload_n 2, 1), (180, .iconst 1, 1), (181, .iand, 1), (182, .iload 14, 2), (184, .aload 4, 2), (186, .aload 5, 2), (188, .aload 6, 2), (190, .aload 7, 2), (192, .aload 8, 2), (194, .aload 9, 2), (196, .aload 10, 2), (198, .aload 11, 2), (200, .aload 13, 2)]
set_option maxRecDepth 20000 in
theorem DL_act_0 : Lst YL_act LL_act_0 := by unfold Lst; decide +kernel
def LL_act_1 : LI := [(202, .invokestatic 148, 3), (205, .if_icmp .ne 7, 3), (208, .iconst 1, 1), (209, .goto 4, 3), (212, .iconst 0, 1), (213, .ireturn, 1)]
set_option maxRecDepth 20000 in
theorem DL_act_1 : Lst YL_act LL_act_1 := by unfold Lst; decide +kernel
def LL_law_0 : LI := [(0, .new 56, 3), (3, .dup, 1), (4, .invokespecial 151, 3), (7, .astore_n 1, 1), (8, .bipush 64, 2), (10, .newarray .int, 2), (12, .astore_n 2, 1), (13, .bipush 64, 2), (15, .newarray .int, 2), (17, .astore_n 3, 1), (18, .bipush 64, 2), (20, .newarray .int, 2), (22, .astore 4, 2), (24, .bipush 64, 2), (26, .newarray .int, 2), (28, .astore 5, 2), (30, .bipush 32, 2), (32, .newarray .int, 2), (34, .astore 6, 2), (36, .bipush 64, 2), (38, .newarray .int, 2), (40, .astore 7, 2), (42, .bipush 8, 2), (44, .newarray .int, 2), (46, .astore 8, 2), (48, .iconst 3, 1), (49, .newarray .int, 2), (51, .astore 9, 2), (53, .bipush 64, 2), (55, .newarray .int, 2), (57, .astore 10, 2), (59, .iconst 2, 1), (60, .newarray .long, 2), (62, .astore 11, 2), (64, .iconst 0, 1), (65, .istore 12, 2), (67, .iload 12, 2), (69, .bipush 16, 2), (71, .if_icmp .ge 35, 3), (74, .aload_n 2, 1), (75, .iconst 4, 1), (76, .iload 12, 2), (78, .imul, 1), (79, .bipush 64, 2), (81, .iastore, 1), (82, .aload 4, 2), (84, .iconst 4, 1), (85, .iload 12, 2), (87, .imul, 1), (88, .bipush 64, 2), (90, .iastore, 1), (91, .aload_n 3, 1), (92, .iconst 4, 1), (93, .iload 12, 2), (95, .imul, 1), (96, .iconst 3, 1), (97, .iadd, 1), (98, .iconst (-1), 1), (99, .iastore, 1), (100, .iinc 12 1, 3), (103, .goto (-36), 3), (106, .aload 8, 2), (108, .iconst 1, 1), (109, .iconst 1, 1), (110, .iastore, 1), (111, .aload 9, 2), (113, .iconst 0, 1), (114, .bipush 8, 2), (116, .iastore, 1), (117, .aload 9, 2), (119, .iconst 1, 1), (120, .bipush 8, 2), (122, .iastore, 1), (123, .aload 9, 2), (125, .iconst 2, 1), (126, .iconst 3, 1), (127, .iastore, 1), (128, .aload_n 1, 1), (129, .aload_n 2, 1), (130, .aload_n 3, 1), (131, .aload 4, 2), (133, .aload 5, 2), (135, .aload 6, 2), (137, .aload 7, 2), (139, .aload 8, 2), (141, .aload 9, 2), (143, .aload 11, 2), (145, .invokestatic 152, 3), (148, .ifCond .ne 5, 3), (151, .iconst 0, 1), (152, .ireturn, 1), (153, .iconst 0, 1), (154, .istore 12, 2), (156, .iload 12, 2), (158, .bipush 40, 2), (160, .if_icmp .ge 149, 3), (163, .aload_n 0, 1), (164, .iconst 2, 1), (165, .iload 12, 2), (167, .imul, 1), (168, .invokestatic 156, 3), (171, .ldc 160, 2), (173, .iand, 1), (174, .istore 13, 2), (176, .aload_n 0, 1), (177, .iconst 2, 1), (178, .iload 12, 2), (180, .imul, 1), (181, .iconst 1, 1), (182, .iadd, 1), (183, .invokestatic 156, 3), (186, .ldc 160, 2), (188, .iand, 1), (189, .istore 14, 2), (191, .iload 12, 2), (193, .ifCond .ne 7, 3), (196, .iconst 0, 1), (197, .goto 48, 3), (200, .iload 12, 2), (202, .iconst 4, 1)]
set_option maxRecDepth 20000 in
theorem DL_law_0 : Lst YL_law LL_law_0 := by unfold Lst; decide +kernel
def LL_law_1 : LI := [(203, .if_icmp .ne 8, 3), (206, .bipush 12, 2), (208, .goto 37, 3), (211, .iload 12, 2), (213, .bipush 6, 2), (215, .if_icmp .ne 8, 3), (218, .bipush 9, 2), (220, .goto 25, 3), (223, .iload 12, 2), (225, .bipush 7, 2), (227, .if_icmp .ne 8, 3), (230, .bipush 15, 2), (232, .goto 13, 3), (235, .iload 13, 2), (237, .bipush 13, 2), (239, .ishr, 1), (240, .bipush 18, 2), (242, .invokestatic 96, 3), (245, .istore 15, 2), (247, .aload_n 1, 1), (248, .iload 15, 2), (250, .iload 13, 2), (252, .iload 14, 2), (254, .aload_n 2, 1), (255, .aload_n 3, 1), (256, .aload 4, 2), (258, .aload 5, 2), (260, .aload 6, 2), (262, .aload 7, 2), (264, .aload 8, 2), (266, .aload 9, 2), (268, .aload 10, 2), (270, .aload 11, 2), (272, .invokestatic 161, 3), (275, .ifCond .eq 26, 3), (278, .aload_n 1, 1), (279, .aload_n 2, 1), (280, .aload_n 3, 1), (281, .aload 4, 2), (283, .aload 5, 2), (285, .aload 6, 2), (287, .aload 7, 2), (289, .aload 8, 2), (291, .aload 9, 2), (293, .aload 11, 2), (295, .invokestatic 152, 3), (298, .ifCond .ne 5, 3), (301, .iconst 0, 1), (302, .ireturn, 1), (303, .iinc 12 1, 3), (306, .goto (-150), 3), (309, .aload_n 1, 1), (310, .bipush 12, 2), (312, .invokevirtual 72, 3), (315, .ifCond .le 7, 3), (318, .iconst 1, 1), (319, .goto 4, 3), (322, .iconst 0, 1), (323, .ireturn, 1)]
set_option maxRecDepth 20000 in
theorem DL_law_1 : Lst YL_law LL_law_1 := by unfold Lst; decide +kernel
end
section
def mVi (Y : MI) (n : Nat) : Prop := gw (.instanceMethod (mnm Y)) ∧ gw (.initialized (mnm Y).cls) ∧ gw (.code (mnm Y) (mcd Y) (mml Y) (mrt Y)) ∧ ((mnm Y).cls ≠ "java/lang/invoke/MethodHandle" ∧ (mnm Y).cls ≠ "java/lang/invoke/VarHandle") ∧ (parseMethodDescriptor (mnm Y).desc).map (fun d => d.parameters.length) = some n ∧ plainFor (mnm Y) = true ∧ mhh Y = []
def mVv (Y : MI) (n : Nat) : Prop := mVi Y n ∧ gw (.selects (mnm Y).cls (mnm Y) (mnm Y))
def mVs (Y : MI) (n : Nat) : Prop := gw (.static (mnm Y)) ∧ gw (.initialized (mnm Y).cls) ∧ gw (.code (mnm Y) (mcd Y) (mml Y) (mrt Y)) ∧ ((mnm Y).cls ≠ "java/lang/invoke/MethodHandle" ∧ (mnm Y).cls ≠ "java/lang/invoke/VarHandle") ∧ (parseMethodDescriptor (mnm Y).desc).map (fun d => d.parameters.length) = some n ∧ plainFor (mnm Y) = true ∧ mhh Y = []
def mVx (Y : MI) (n : Nat) : Prop := gw (.static (mnm Y)) ∧ gw (.initialized (mnm Y).cls) ∧ gw (.codeWith (mnm Y) (mcd Y) (mml Y) (mrt Y) (mhh Y)) ∧ ((mnm Y).cls ≠ "java/lang/invoke/MethodHandle" ∧ (mnm Y).cls ≠ "java/lang/invoke/VarHandle") ∧ (parseMethodDescriptor (mnm Y).desc).map (fun d => d.parameters.length) = some n ∧ plainFor (mnm Y) = true
theorem gw_places {ws : List Cond} (ps : List Nat) (h : ws = ps.filterMap (fun i => lw_tbl[i]?)) (hg : ws.all goodWord = true) : ∀ w ∈ ws, gw w := fun w hw => by
  have h1 := List.all_eq_true.mp hg w hw
  rw [h] at hw
  obtain ⟨i, -, hi⟩ := List.mem_filterMap.mp hw
  exact ⟨List.mem_of_getElem? hi, h1⟩
theorem vX0_init : mVi YX0_init 0 := ⟨⟨List.mem_of_getElem? (i := 179) (by decide +kernel), by decide +kernel⟩, ⟨List.mem_of_getElem? (i := 12) (by decide +kernel), by decide +kernel⟩, ⟨List.mem_of_getElem? (i := 180) (by decide +kernel), by decide +kernel⟩, ⟨by decide +kernel, by decide +kernel⟩, by decide +kernel, plainFor_of_name (by decide +kernel), rfl⟩
theorem vX0_begin : mVv YX0_begin 0 := ⟨⟨⟨List.mem_of_getElem? (i := 607) (by decide +kernel), by decide +kernel⟩, ⟨List.mem_of_getElem? (i := 12) (by decide +kernel), by decide +kernel⟩, ⟨List.mem_of_getElem? (i := 609) (by decide +kernel), by decide +kernel⟩, ⟨by decide +kernel, by decide +kernel⟩, by decide +kernel, plainFor_of_name (by decide +kernel), rfl⟩, ⟨List.mem_of_getElem? (i := 608) (by decide +kernel), by decide +kernel⟩⟩
theorem vX0_note : mVv YX0_note 2 := ⟨⟨⟨List.mem_of_getElem? (i := 653) (by decide +kernel), by decide +kernel⟩, ⟨List.mem_of_getElem? (i := 12) (by decide +kernel), by decide +kernel⟩, ⟨List.mem_of_getElem? (i := 655) (by decide +kernel), by decide +kernel⟩, ⟨by decide +kernel, by decide +kernel⟩, by decide +kernel, plainFor_of_name (by decide +kernel), rfl⟩, ⟨List.mem_of_getElem? (i := 654) (by decide +kernel), by decide +kernel⟩⟩
theorem vX0_worstOf : mVv YX0_worstOf 1 := ⟨⟨⟨List.mem_of_getElem? (i := 661) (by decide +kernel), by decide +kernel⟩, ⟨List.mem_of_getElem? (i := 12) (by decide +kernel), by decide +kernel⟩, ⟨List.mem_of_getElem? (i := 663) (by decide +kernel), by decide +kernel⟩, ⟨by decide +kernel, by decide +kernel⟩, by decide +kernel, plainFor_of_name (by decide +kernel), rfl⟩, ⟨List.mem_of_getElem? (i := 662) (by decide +kernel), by decide +kernel⟩⟩
theorem vX1_init : mVi YX1_init 0 := ⟨⟨List.mem_of_getElem? (i := 34) (by decide +kernel), by decide +kernel⟩, ⟨List.mem_of_getElem? (i := 8) (by decide +kernel), by decide +kernel⟩, ⟨List.mem_of_getElem? (i := 35) (by decide +kernel), by decide +kernel⟩, ⟨by decide +kernel, by decide +kernel⟩, by decide +kernel, plainFor_of_name (by decide +kernel), rfl⟩
theorem vX1_wayAt : mVv YX1_wayAt 1 := ⟨⟨⟨List.mem_of_getElem? (i := 351) (by decide +kernel), by decide +kernel⟩, ⟨List.mem_of_getElem? (i := 8) (by decide +kernel), by decide +kernel⟩, ⟨List.mem_of_getElem? (i := 353) (by decide +kernel), by decide +kernel⟩, ⟨by decide +kernel, by decide +kernel⟩, by decide +kernel, plainFor_of_name (by decide +kernel), rfl⟩, ⟨List.mem_of_getElem? (i := 352) (by decide +kernel), by decide +kernel⟩⟩
theorem vX1_copyFrom : mVv YX1_copyFrom 1 := ⟨⟨⟨List.mem_of_getElem? (i := 450) (by decide +kernel), by decide +kernel⟩, ⟨List.mem_of_getElem? (i := 8) (by decide +kernel), by decide +kernel⟩, ⟨List.mem_of_getElem? (i := 452) (by decide +kernel), by decide +kernel⟩, ⟨by decide +kernel, by decide +kernel⟩, by decide +kernel, plainFor_of_name (by decide +kernel), rfl⟩, ⟨List.mem_of_getElem? (i := 451) (by decide +kernel), by decide +kernel⟩⟩
theorem vX1_copyCommonFrom : mVv YX1_copyCommonFrom 1 := ⟨⟨⟨List.mem_of_getElem? (i := 469) (by decide +kernel), by decide +kernel⟩, ⟨List.mem_of_getElem? (i := 8) (by decide +kernel), by decide +kernel⟩, ⟨List.mem_of_getElem? (i := 471) (by decide +kernel), by decide +kernel⟩, ⟨by decide +kernel, by decide +kernel⟩, by decide +kernel, plainFor_of_name (by decide +kernel), rfl⟩, ⟨List.mem_of_getElem? (i := 470) (by decide +kernel), by decide +kernel⟩⟩
theorem vX1_draw : mVv YX1_draw 1 := ⟨⟨⟨List.mem_of_getElem? (i := 615) (by decide +kernel), by decide +kernel⟩, ⟨List.mem_of_getElem? (i := 8) (by decide +kernel), by decide +kernel⟩, ⟨List.mem_of_getElem? (i := 617) (by decide +kernel), by decide +kernel⟩, ⟨by decide +kernel, by decide +kernel⟩, by decide +kernel, plainFor_of_name (by decide +kernel), rfl⟩, ⟨List.mem_of_getElem? (i := 616) (by decide +kernel), by decide +kernel⟩⟩
theorem vX1_drawNoise : mVv YX1_drawNoise 1 := ⟨⟨⟨List.mem_of_getElem? (i := 623) (by decide +kernel), by decide +kernel⟩, ⟨List.mem_of_getElem? (i := 8) (by decide +kernel), by decide +kernel⟩, ⟨List.mem_of_getElem? (i := 625) (by decide +kernel), by decide +kernel⟩, ⟨by decide +kernel, by decide +kernel⟩, by decide +kernel, plainFor_of_name (by decide +kernel), rfl⟩, ⟨List.mem_of_getElem? (i := 624) (by decide +kernel), by decide +kernel⟩⟩
theorem vX1_sendBeats : mVv YX1_sendBeats 2 := ⟨⟨⟨List.mem_of_getElem? (i := 699) (by decide +kernel), by decide +kernel⟩, ⟨List.mem_of_getElem? (i := 8) (by decide +kernel), by decide +kernel⟩, ⟨List.mem_of_getElem? (i := 701) (by decide +kernel), by decide +kernel⟩, ⟨by decide +kernel, by decide +kernel⟩, by decide +kernel, plainFor_of_name (by decide +kernel), rfl⟩, ⟨List.mem_of_getElem? (i := 700) (by decide +kernel), by decide +kernel⟩⟩
theorem vX1_sendSign : mVv YX1_sendSign 2 := ⟨⟨⟨List.mem_of_getElem? (i := 703) (by decide +kernel), by decide +kernel⟩, ⟨List.mem_of_getElem? (i := 8) (by decide +kernel), by decide +kernel⟩, ⟨List.mem_of_getElem? (i := 705) (by decide +kernel), by decide +kernel⟩, ⟨by decide +kernel, by decide +kernel⟩, by decide +kernel, plainFor_of_name (by decide +kernel), rfl⟩, ⟨List.mem_of_getElem? (i := 704) (by decide +kernel), by decide +kernel⟩⟩
theorem vX1_takeLesson : mVv YX1_takeLesson 3 := ⟨⟨⟨List.mem_of_getElem? (i := 603) (by decide +kernel), by decide +kernel⟩, ⟨List.mem_of_getElem? (i := 8) (by decide +kernel), by decide +kernel⟩, ⟨List.mem_of_getElem? (i := 605) (by decide +kernel), by decide +kernel⟩, ⟨by decide +kernel, by decide +kernel⟩, by decide +kernel, plainFor_of_name (by decide +kernel), rfl⟩, ⟨List.mem_of_getElem? (i := 604) (by decide +kernel), by decide +kernel⟩⟩
theorem vX1_learnBeat : mVv YX1_learnBeat 2 := ⟨⟨⟨List.mem_of_getElem? (i := 611) (by decide +kernel), by decide +kernel⟩, ⟨List.mem_of_getElem? (i := 8) (by decide +kernel), by decide +kernel⟩, ⟨List.mem_of_getElem? (i := 613) (by decide +kernel), by decide +kernel⟩, ⟨by decide +kernel, by decide +kernel⟩, by decide +kernel, plainFor_of_name (by decide +kernel), rfl⟩, ⟨List.mem_of_getElem? (i := 612) (by decide +kernel), by decide +kernel⟩⟩
theorem vX2_init : mVi YX2_init 0 := ⟨⟨List.mem_of_getElem? (i := 193) (by decide +kernel), by decide +kernel⟩, ⟨List.mem_of_getElem? (i := 13) (by decide +kernel), by decide +kernel⟩, ⟨List.mem_of_getElem? (i := 194) (by decide +kernel), by decide +kernel⟩, ⟨by decide +kernel, by decide +kernel⟩, by decide +kernel, plainFor_of_name (by decide +kernel), rfl⟩
theorem vX2_next : mVs YX2_next 2 := ⟨⟨List.mem_of_getElem? (i := 554) (by decide +kernel), by decide +kernel⟩, ⟨List.mem_of_getElem? (i := 13) (by decide +kernel), by decide +kernel⟩, ⟨List.mem_of_getElem? (i := 555) (by decide +kernel), by decide +kernel⟩, ⟨by decide +kernel, by decide +kernel⟩, by decide +kernel, plainFor_of_name (by decide +kernel), rfl⟩
theorem vX2_behindDigit : mVs YX2_behindDigit 1 := ⟨⟨List.mem_of_getElem? (i := 557) (by decide +kernel), by decide +kernel⟩, ⟨List.mem_of_getElem? (i := 13) (by decide +kernel), by decide +kernel⟩, ⟨List.mem_of_getElem? (i := 558) (by decide +kernel), by decide +kernel⟩, ⟨by decide +kernel, by decide +kernel⟩, by decide +kernel, plainFor_of_name (by decide +kernel), rfl⟩
theorem vX2_digitOf : mVs YX2_digitOf 1 := ⟨⟨List.mem_of_getElem? (i := 560) (by decide +kernel), by decide +kernel⟩, ⟨List.mem_of_getElem? (i := 13) (by decide +kernel), by decide +kernel⟩, ⟨List.mem_of_getElem? (i := 561) (by decide +kernel), by decide +kernel⟩, ⟨by decide +kernel, by decide +kernel⟩, by decide +kernel, plainFor_of_name (by decide +kernel), rfl⟩
theorem vX2_errorPlace : mVv YX2_errorPlace 0 := ⟨⟨⟨List.mem_of_getElem? (i := 550) (by decide +kernel), by decide +kernel⟩, ⟨List.mem_of_getElem? (i := 13) (by decide +kernel), by decide +kernel⟩, ⟨List.mem_of_getElem? (i := 552) (by decide +kernel), by decide +kernel⟩, ⟨by decide +kernel, by decide +kernel⟩, by decide +kernel, plainFor_of_name (by decide +kernel), rfl⟩, ⟨List.mem_of_getElem? (i := 551) (by decide +kernel), by decide +kernel⟩⟩
theorem vX2_isComplete : mVv YX2_isComplete 0 := ⟨⟨⟨List.mem_of_getElem? (i := 567) (by decide +kernel), by decide +kernel⟩, ⟨List.mem_of_getElem? (i := 13) (by decide +kernel), by decide +kernel⟩, ⟨List.mem_of_getElem? (i := 569) (by decide +kernel), by decide +kernel⟩, ⟨by decide +kernel, by decide +kernel⟩, by decide +kernel, plainFor_of_name (by decide +kernel), rfl⟩, ⟨List.mem_of_getElem? (i := 568) (by decide +kernel), by decide +kernel⟩⟩
theorem vX2_bitsFor : mVv YX2_bitsFor 1 := ⟨⟨⟨List.mem_of_getElem? (i := 572) (by decide +kernel), by decide +kernel⟩, ⟨List.mem_of_getElem? (i := 13) (by decide +kernel), by decide +kernel⟩, ⟨List.mem_of_getElem? (i := 574) (by decide +kernel), by decide +kernel⟩, ⟨by decide +kernel, by decide +kernel⟩, by decide +kernel, plainFor_of_name (by decide +kernel), rfl⟩, ⟨List.mem_of_getElem? (i := 573) (by decide +kernel), by decide +kernel⟩⟩
theorem vX2_putBits : mVv YX2_putBits 1 := ⟨⟨⟨List.mem_of_getElem? (i := 577) (by decide +kernel), by decide +kernel⟩, ⟨List.mem_of_getElem? (i := 13) (by decide +kernel), by decide +kernel⟩, ⟨List.mem_of_getElem? (i := 579) (by decide +kernel), by decide +kernel⟩, ⟨by decide +kernel, by decide +kernel⟩, by decide +kernel, plainFor_of_name (by decide +kernel), rfl⟩, ⟨List.mem_of_getElem? (i := 578) (by decide +kernel), by decide +kernel⟩⟩
theorem vX3_init : mVi YX3_init 0 := ⟨⟨List.mem_of_getElem? (i := 65) (by decide +kernel), by decide +kernel⟩, ⟨List.mem_of_getElem? (i := 11) (by decide +kernel), by decide +kernel⟩, ⟨List.mem_of_getElem? (i := 66) (by decide +kernel), by decide +kernel⟩, ⟨by decide +kernel, by decide +kernel⟩, by decide +kernel, plainFor_of_name (by decide +kernel), rfl⟩
theorem vX3_copyFrom : mVv YX3_copyFrom 1 := ⟨⟨⟨List.mem_of_getElem? (i := 458) (by decide +kernel), by decide +kernel⟩, ⟨List.mem_of_getElem? (i := 11) (by decide +kernel), by decide +kernel⟩, ⟨List.mem_of_getElem? (i := 460) (by decide +kernel), by decide +kernel⟩, ⟨by decide +kernel, by decide +kernel⟩, by decide +kernel, plainFor_of_name (by decide +kernel), rfl⟩, ⟨List.mem_of_getElem? (i := 459) (by decide +kernel), by decide +kernel⟩⟩
theorem vX3_streetNumber : mVv YX3_streetNumber 1 := ⟨⟨⟨List.mem_of_getElem? (i := 357) (by decide +kernel), by decide +kernel⟩, ⟨List.mem_of_getElem? (i := 11) (by decide +kernel), by decide +kernel⟩, ⟨List.mem_of_getElem? (i := 359) (by decide +kernel), by decide +kernel⟩, ⟨by decide +kernel, by decide +kernel⟩, by decide +kernel, plainFor_of_name (by decide +kernel), rfl⟩, ⟨List.mem_of_getElem? (i := 358) (by decide +kernel), by decide +kernel⟩⟩
theorem vX3_setStreetNumber : mVv YX3_setStreetNumber 2 := ⟨⟨⟨List.mem_of_getElem? (i := 474) (by decide +kernel), by decide +kernel⟩, ⟨List.mem_of_getElem? (i := 11) (by decide +kernel), by decide +kernel⟩, ⟨List.mem_of_getElem? (i := 476) (by decide +kernel), by decide +kernel⟩, ⟨by decide +kernel, by decide +kernel⟩, by decide +kernel, plainFor_of_name (by decide +kernel), rfl⟩, ⟨List.mem_of_getElem? (i := 475) (by decide +kernel), by decide +kernel⟩⟩
theorem vX3_accentNumber : mVv YX3_accentNumber 1 := ⟨⟨⟨List.mem_of_getElem? (i := 366) (by decide +kernel), by decide +kernel⟩, ⟨List.mem_of_getElem? (i := 11) (by decide +kernel), by decide +kernel⟩, ⟨List.mem_of_getElem? (i := 368) (by decide +kernel), by decide +kernel⟩, ⟨by decide +kernel, by decide +kernel⟩, by decide +kernel, plainFor_of_name (by decide +kernel), rfl⟩, ⟨List.mem_of_getElem? (i := 367) (by decide +kernel), by decide +kernel⟩⟩
theorem vX3_amplitudeOf : mVv YX3_amplitudeOf 1 := ⟨⟨⟨List.mem_of_getElem? (i := 712) (by decide +kernel), by decide +kernel⟩, ⟨List.mem_of_getElem? (i := 11) (by decide +kernel), by decide +kernel⟩, ⟨List.mem_of_getElem? (i := 714) (by decide +kernel), by decide +kernel⟩, ⟨by decide +kernel, by decide +kernel⟩, by decide +kernel, plainFor_of_name (by decide +kernel), rfl⟩, ⟨List.mem_of_getElem? (i := 713) (by decide +kernel), by decide +kernel⟩⟩
theorem vX3_arriving : mVv YX3_arriving 2 := ⟨⟨⟨List.mem_of_getElem? (i := 627) (by decide +kernel), by decide +kernel⟩, ⟨List.mem_of_getElem? (i := 11) (by decide +kernel), by decide +kernel⟩, ⟨List.mem_of_getElem? (i := 629) (by decide +kernel), by decide +kernel⟩, ⟨by decide +kernel, by decide +kernel⟩, by decide +kernel, plainFor_of_name (by decide +kernel), rfl⟩, ⟨List.mem_of_getElem? (i := 628) (by decide +kernel), by decide +kernel⟩⟩
theorem vX3_expected : mVv YX3_expected 1 := ⟨⟨⟨List.mem_of_getElem? (i := 631) (by decide +kernel), by decide +kernel⟩, ⟨List.mem_of_getElem? (i := 11) (by decide +kernel), by decide +kernel⟩, ⟨List.mem_of_getElem? (i := 633) (by decide +kernel), by decide +kernel⟩, ⟨by decide +kernel, by decide +kernel⟩, by decide +kernel, plainFor_of_name (by decide +kernel), rfl⟩, ⟨List.mem_of_getElem? (i := 632) (by decide +kernel), by decide +kernel⟩⟩
theorem vX3_decide : mVv YX3_decide 1 := ⟨⟨⟨List.mem_of_getElem? (i := 716) (by decide +kernel), by decide +kernel⟩, ⟨List.mem_of_getElem? (i := 11) (by decide +kernel), by decide +kernel⟩, ⟨List.mem_of_getElem? (i := 718) (by decide +kernel), by decide +kernel⟩, ⟨by decide +kernel, by decide +kernel⟩, by decide +kernel, plainFor_of_name (by decide +kernel), rfl⟩, ⟨List.mem_of_getElem? (i := 717) (by decide +kernel), by decide +kernel⟩⟩
theorem vX3_pass : mVv YX3_pass 2 := ⟨⟨⟨List.mem_of_getElem? (i := 645) (by decide +kernel), by decide +kernel⟩, ⟨List.mem_of_getElem? (i := 11) (by decide +kernel), by decide +kernel⟩, ⟨List.mem_of_getElem? (i := 647) (by decide +kernel), by decide +kernel⟩, ⟨by decide +kernel, by decide +kernel⟩, by decide +kernel, plainFor_of_name (by decide +kernel), rfl⟩, ⟨List.mem_of_getElem? (i := 646) (by decide +kernel), by decide +kernel⟩⟩
theorem vX3_knowSignBefore : mVv YX3_knowSignBefore 0 := ⟨⟨⟨List.mem_of_getElem? (i := 649) (by decide +kernel), by decide +kernel⟩, ⟨List.mem_of_getElem? (i := 11) (by decide +kernel), by decide +kernel⟩, ⟨List.mem_of_getElem? (i := 651) (by decide +kernel), by decide +kernel⟩, ⟨by decide +kernel, by decide +kernel⟩, by decide +kernel, plainFor_of_name (by decide +kernel), rfl⟩, ⟨List.mem_of_getElem? (i := 650) (by decide +kernel), by decide +kernel⟩⟩
theorem vX3_countSign : mVv YX3_countSign 1 := ⟨⟨⟨List.mem_of_getElem? (i := 730) (by decide +kernel), by decide +kernel⟩, ⟨List.mem_of_getElem? (i := 11) (by decide +kernel), by decide +kernel⟩, ⟨List.mem_of_getElem? (i := 732) (by decide +kernel), by decide +kernel⟩, ⟨by decide +kernel, by decide +kernel⟩, by decide +kernel, plainFor_of_name (by decide +kernel), rfl⟩, ⟨List.mem_of_getElem? (i := 731) (by decide +kernel), by decide +kernel⟩⟩
theorem vX3_becomeShyAt : mVv YX3_becomeShyAt 1 := ⟨⟨⟨List.mem_of_getElem? (i := 739) (by decide +kernel), by decide +kernel⟩, ⟨List.mem_of_getElem? (i := 11) (by decide +kernel), by decide +kernel⟩, ⟨List.mem_of_getElem? (i := 741) (by decide +kernel), by decide +kernel⟩, ⟨by decide +kernel, by decide +kernel⟩, by decide +kernel, plainFor_of_name (by decide +kernel), rfl⟩, ⟨List.mem_of_getElem? (i := 740) (by decide +kernel), by decide +kernel⟩⟩
theorem vX3_improve : mVv YX3_improve 3 := ⟨⟨⟨List.mem_of_getElem? (i := 635) (by decide +kernel), by decide +kernel⟩, ⟨List.mem_of_getElem? (i := 11) (by decide +kernel), by decide +kernel⟩, ⟨List.mem_of_getElem? (i := 637) (by decide +kernel), by decide +kernel⟩, ⟨by decide +kernel, by decide +kernel⟩, by decide +kernel, plainFor_of_name (by decide +kernel), rfl⟩, ⟨List.mem_of_getElem? (i := 636) (by decide +kernel), by decide +kernel⟩⟩
theorem vX3_step : mVs YX3_step 2 := ⟨⟨List.mem_of_getElem? (i := 639) (by decide +kernel), by decide +kernel⟩, ⟨List.mem_of_getElem? (i := 11) (by decide +kernel), by decide +kernel⟩, ⟨List.mem_of_getElem? (i := 640) (by decide +kernel), by decide +kernel⟩, ⟨by decide +kernel, by decide +kernel⟩, by decide +kernel, plainFor_of_name (by decide +kernel), rfl⟩
theorem vX3_held : mVs YX3_held 3 := ⟨⟨List.mem_of_getElem? (i := 642) (by decide +kernel), by decide +kernel⟩, ⟨List.mem_of_getElem? (i := 11) (by decide +kernel), by decide +kernel⟩, ⟨List.mem_of_getElem? (i := 643) (by decide +kernel), by decide +kernel⟩, ⟨by decide +kernel, by decide +kernel⟩, by decide +kernel, plainFor_of_name (by decide +kernel), rfl⟩
theorem vX3_endLesson : mVv YX3_endLesson 2 := ⟨⟨⟨List.mem_of_getElem? (i := 668) (by decide +kernel), by decide +kernel⟩, ⟨List.mem_of_getElem? (i := 11) (by decide +kernel), by decide +kernel⟩, ⟨List.mem_of_getElem? (i := 670) (by decide +kernel), by decide +kernel⟩, ⟨by decide +kernel, by decide +kernel⟩, by decide +kernel, plainFor_of_name (by decide +kernel), rfl⟩, ⟨List.mem_of_getElem? (i := 669) (by decide +kernel), by decide +kernel⟩⟩
theorem vX3_bitsFor : mVv YX3_bitsFor 2 := ⟨⟨⟨List.mem_of_getElem? (i := 672) (by decide +kernel), by decide +kernel⟩, ⟨List.mem_of_getElem? (i := 11) (by decide +kernel), by decide +kernel⟩, ⟨List.mem_of_getElem? (i := 674) (by decide +kernel), by decide +kernel⟩, ⟨by decide +kernel, by decide +kernel⟩, by decide +kernel, plainFor_of_name (by decide +kernel), rfl⟩, ⟨List.mem_of_getElem? (i := 673) (by decide +kernel), by decide +kernel⟩⟩
theorem vX3_roomWith : mVv YX3_roomWith 1 := ⟨⟨⟨List.mem_of_getElem? (i := 385) (by decide +kernel), by decide +kernel⟩, ⟨List.mem_of_getElem? (i := 11) (by decide +kernel), by decide +kernel⟩, ⟨List.mem_of_getElem? (i := 387) (by decide +kernel), by decide +kernel⟩, ⟨by decide +kernel, by decide +kernel⟩, by decide +kernel, plainFor_of_name (by decide +kernel), rfl⟩, ⟨List.mem_of_getElem? (i := 386) (by decide +kernel), by decide +kernel⟩⟩
theorem vX3_sureBits : mVv YX3_sureBits 0 := ⟨⟨⟨List.mem_of_getElem? (i := 374) (by decide +kernel), by decide +kernel⟩, ⟨List.mem_of_getElem? (i := 11) (by decide +kernel), by decide +kernel⟩, ⟨List.mem_of_getElem? (i := 376) (by decide +kernel), by decide +kernel⟩, ⟨by decide +kernel, by decide +kernel⟩, by decide +kernel, plainFor_of_name (by decide +kernel), rfl⟩, ⟨List.mem_of_getElem? (i := 375) (by decide +kernel), by decide +kernel⟩⟩
theorem vX3_misheardWith : mVv YX3_misheardWith 1 := ⟨⟨⟨List.mem_of_getElem? (i := 378) (by decide +kernel), by decide +kernel⟩, ⟨List.mem_of_getElem? (i := 11) (by decide +kernel), by decide +kernel⟩, ⟨List.mem_of_getElem? (i := 380) (by decide +kernel), by decide +kernel⟩, ⟨by decide +kernel, by decide +kernel⟩, by decide +kernel, plainFor_of_name (by decide +kernel), rfl⟩, ⟨List.mem_of_getElem? (i := 379) (by decide +kernel), by decide +kernel⟩⟩
theorem vX3_loseAccent : mVv YX3_loseAccent 0 := ⟨⟨⟨List.mem_of_getElem? (i := 529) (by decide +kernel), by decide +kernel⟩, ⟨List.mem_of_getElem? (i := 11) (by decide +kernel), by decide +kernel⟩, ⟨List.mem_of_getElem? (i := 531) (by decide +kernel), by decide +kernel⟩, ⟨by decide +kernel, by decide +kernel⟩, by decide +kernel, plainFor_of_name (by decide +kernel), rfl⟩, ⟨List.mem_of_getElem? (i := 530) (by decide +kernel), by decide +kernel⟩⟩
theorem vX4_init : mVi YX4_init 0 := ⟨⟨List.mem_of_getElem? (i := 48) (by decide +kernel), by decide +kernel⟩, ⟨List.mem_of_getElem? (i := 10) (by decide +kernel), by decide +kernel⟩, ⟨List.mem_of_getElem? (i := 49) (by decide +kernel), by decide +kernel⟩, ⟨by decide +kernel, by decide +kernel⟩, by decide +kernel, plainFor_of_name (by decide +kernel), rfl⟩
theorem vX4_copyFrom : mVv YX4_copyFrom 1 := ⟨⟨⟨List.mem_of_getElem? (i := 462) (by decide +kernel), by decide +kernel⟩, ⟨List.mem_of_getElem? (i := 10) (by decide +kernel), by decide +kernel⟩, ⟨List.mem_of_getElem? (i := 464) (by decide +kernel), by decide +kernel⟩, ⟨by decide +kernel, by decide +kernel⟩, by decide +kernel, plainFor_of_name (by decide +kernel), rfl⟩, ⟨List.mem_of_getElem? (i := 463) (by decide +kernel), by decide +kernel⟩⟩
theorem vX4_bitAt : mVv YX4_bitAt 1 := ⟨⟨⟨List.mem_of_getElem? (i := 408) (by decide +kernel), by decide +kernel⟩, ⟨List.mem_of_getElem? (i := 10) (by decide +kernel), by decide +kernel⟩, ⟨List.mem_of_getElem? (i := 410) (by decide +kernel), by decide +kernel⟩, ⟨by decide +kernel, by decide +kernel⟩, by decide +kernel, plainFor_of_name (by decide +kernel), rfl⟩, ⟨List.mem_of_getElem? (i := 409) (by decide +kernel), by decide +kernel⟩⟩
theorem vX4_put : mVv YX4_put 1 := ⟨⟨⟨List.mem_of_getElem? (i := 586) (by decide +kernel), by decide +kernel⟩, ⟨List.mem_of_getElem? (i := 10) (by decide +kernel), by decide +kernel⟩, ⟨List.mem_of_getElem? (i := 588) (by decide +kernel), by decide +kernel⟩, ⟨by decide +kernel, by decide +kernel⟩, by decide +kernel, plainFor_of_name (by decide +kernel), rfl⟩, ⟨List.mem_of_getElem? (i := 587) (by decide +kernel), by decide +kernel⟩⟩
theorem vX4_putDigit : mVv YX4_putDigit 1 := ⟨⟨⟨List.mem_of_getElem? (i := 582) (by decide +kernel), by decide +kernel⟩, ⟨List.mem_of_getElem? (i := 10) (by decide +kernel), by decide +kernel⟩, ⟨List.mem_of_getElem? (i := 584) (by decide +kernel), by decide +kernel⟩, ⟨by decide +kernel, by decide +kernel⟩, by decide +kernel, plainFor_of_name (by decide +kernel), rfl⟩, ⟨List.mem_of_getElem? (i := 583) (by decide +kernel), by decide +kernel⟩⟩
theorem vX4_take : mVv YX4_take 1 := ⟨⟨⟨List.mem_of_getElem? (i := 707) (by decide +kernel), by decide +kernel⟩, ⟨List.mem_of_getElem? (i := 10) (by decide +kernel), by decide +kernel⟩, ⟨List.mem_of_getElem? (i := 709) (by decide +kernel), by decide +kernel⟩, ⟨by decide +kernel, by decide +kernel⟩, by decide +kernel, plainFor_of_name (by decide +kernel), rfl⟩, ⟨List.mem_of_getElem? (i := 708) (by decide +kernel), by decide +kernel⟩⟩
theorem vX5_init : mVi YX5_init 0 := ⟨⟨List.mem_of_getElem? (i := 40) (by decide +kernel), by decide +kernel⟩, ⟨List.mem_of_getElem? (i := 9) (by decide +kernel), by decide +kernel⟩, ⟨List.mem_of_getElem? (i := 41) (by decide +kernel), by decide +kernel⟩, ⟨by decide +kernel, by decide +kernel⟩, by decide +kernel, plainFor_of_name (by decide +kernel), rfl⟩
theorem vX5_copyFrom : mVv YX5_copyFrom 1 := ⟨⟨⟨List.mem_of_getElem? (i := 454) (by decide +kernel), by decide +kernel⟩, ⟨List.mem_of_getElem? (i := 9) (by decide +kernel), by decide +kernel⟩, ⟨List.mem_of_getElem? (i := 456) (by decide +kernel), by decide +kernel⟩, ⟨by decide +kernel, by decide +kernel⟩, by decide +kernel, plainFor_of_name (by decide +kernel), rfl⟩, ⟨List.mem_of_getElem? (i := 455) (by decide +kernel), by decide +kernel⟩⟩
theorem vX5_receive : mVv YX5_receive 3 := ⟨⟨⟨List.mem_of_getElem? (i := 734) (by decide +kernel), by decide +kernel⟩, ⟨List.mem_of_getElem? (i := 9) (by decide +kernel), by decide +kernel⟩, ⟨List.mem_of_getElem? (i := 736) (by decide +kernel), by decide +kernel⟩, ⟨by decide +kernel, by decide +kernel⟩, by decide +kernel, plainFor_of_name (by decide +kernel), rfl⟩, ⟨List.mem_of_getElem? (i := 735) (by decide +kernel), by decide +kernel⟩⟩
theorem vX5_bits : mVv YX5_bits 0 := ⟨⟨⟨List.mem_of_getElem? (i := 230) (by decide +kernel), by decide +kernel⟩, ⟨List.mem_of_getElem? (i := 9) (by decide +kernel), by decide +kernel⟩, ⟨List.mem_of_getElem? (i := 232) (by decide +kernel), by decide +kernel⟩, ⟨by decide +kernel, by decide +kernel⟩, by decide +kernel, plainFor_of_name (by decide +kernel), rfl⟩, ⟨List.mem_of_getElem? (i := 231) (by decide +kernel), by decide +kernel⟩⟩
theorem vX5_shies : mVv YX5_shies 0 := ⟨⟨⟨List.mem_of_getElem? (i := 234) (by decide +kernel), by decide +kernel⟩, ⟨List.mem_of_getElem? (i := 9) (by decide +kernel), by decide +kernel⟩, ⟨List.mem_of_getElem? (i := 236) (by decide +kernel), by decide +kernel⟩, ⟨by decide +kernel, by decide +kernel⟩, by decide +kernel, plainFor_of_name (by decide +kernel), rfl⟩, ⟨List.mem_of_getElem? (i := 235) (by decide +kernel), by decide +kernel⟩⟩
theorem vX5_insulted : mVv YX5_insulted 0 := ⟨⟨⟨List.mem_of_getElem? (i := 238) (by decide +kernel), by decide +kernel⟩, ⟨List.mem_of_getElem? (i := 9) (by decide +kernel), by decide +kernel⟩, ⟨List.mem_of_getElem? (i := 240) (by decide +kernel), by decide +kernel⟩, ⟨by decide +kernel, by decide +kernel⟩, by decide +kernel, plainFor_of_name (by decide +kernel), rfl⟩, ⟨List.mem_of_getElem? (i := 239) (by decide +kernel), by decide +kernel⟩⟩
theorem vX6_init : mVi YX6_init 0 := ⟨⟨List.mem_of_getElem? (i := 26) (by decide +kernel), by decide +kernel⟩, ⟨List.mem_of_getElem? (i := 7) (by decide +kernel), by decide +kernel⟩, ⟨List.mem_of_getElem? (i := 27) (by decide +kernel), by decide +kernel⟩, ⟨by decide +kernel, by decide +kernel⟩, by decide +kernel, plainFor_of_name (by decide +kernel), rfl⟩
theorem vX6_build : mVv YX6_build 4 := ⟨⟨⟨List.mem_of_getElem? (i := 429) (by decide +kernel), by decide +kernel⟩, ⟨List.mem_of_getElem? (i := 7) (by decide +kernel), by decide +kernel⟩, ⟨List.mem_of_getElem? (i := 431) (by decide +kernel), by decide +kernel⟩, ⟨by decide +kernel, by decide +kernel⟩, by decide +kernel, plainFor_of_name (by decide +kernel), rfl⟩, ⟨List.mem_of_getElem? (i := 430) (by decide +kernel), by decide +kernel⟩⟩
theorem vX6_carry : mVv YX6_carry 3 := ⟨⟨⟨List.mem_of_getElem? (i := 481) (by decide +kernel), by decide +kernel⟩, ⟨List.mem_of_getElem? (i := 7) (by decide +kernel), by decide +kernel⟩, ⟨List.mem_of_getElem? (i := 483) (by decide +kernel), by decide +kernel⟩, ⟨by decide +kernel, by decide +kernel⟩, by decide +kernel, plainFor_of_name (by decide +kernel), rfl⟩, ⟨List.mem_of_getElem? (i := 482) (by decide +kernel), by decide +kernel⟩⟩
theorem vX6_insult : mVv YX6_insult 3 := ⟨⟨⟨List.mem_of_getElem? (i := 489) (by decide +kernel), by decide +kernel⟩, ⟨List.mem_of_getElem? (i := 7) (by decide +kernel), by decide +kernel⟩, ⟨List.mem_of_getElem? (i := 491) (by decide +kernel), by decide +kernel⟩, ⟨by decide +kernel, by decide +kernel⟩, by decide +kernel, plainFor_of_name (by decide +kernel), rfl⟩, ⟨List.mem_of_getElem? (i := 490) (by decide +kernel), by decide +kernel⟩⟩
theorem vX6_set : mVv YX6_set 2 := ⟨⟨⟨List.mem_of_getElem? (i := 513) (by decide +kernel), by decide +kernel⟩, ⟨List.mem_of_getElem? (i := 7) (by decide +kernel), by decide +kernel⟩, ⟨List.mem_of_getElem? (i := 515) (by decide +kernel), by decide +kernel⟩, ⟨by decide +kernel, by decide +kernel⟩, by decide +kernel, plainFor_of_name (by decide +kernel), rfl⟩, ⟨List.mem_of_getElem? (i := 514) (by decide +kernel), by decide +kernel⟩⟩
theorem vX6_learn : mVv YX6_learn 2 := ⟨⟨⟨List.mem_of_getElem? (i := 590) (by decide +kernel), by decide +kernel⟩, ⟨List.mem_of_getElem? (i := 7) (by decide +kernel), by decide +kernel⟩, ⟨List.mem_of_getElem? (i := 592) (by decide +kernel), by decide +kernel⟩, ⟨by decide +kernel, by decide +kernel⟩, by decide +kernel, plainFor_of_name (by decide +kernel), rfl⟩, ⟨List.mem_of_getElem? (i := 591) (by decide +kernel), by decide +kernel⟩⟩
theorem vX6_send : mVv YX6_send 2 := ⟨⟨⟨List.mem_of_getElem? (i := 695) (by decide +kernel), by decide +kernel⟩, ⟨List.mem_of_getElem? (i := 7) (by decide +kernel), by decide +kernel⟩, ⟨List.mem_of_getElem? (i := 697) (by decide +kernel), by decide +kernel⟩, ⟨by decide +kernel, by decide +kernel⟩, by decide +kernel, plainFor_of_name (by decide +kernel), rfl⟩, ⟨List.mem_of_getElem? (i := 696) (by decide +kernel), by decide +kernel⟩⟩
theorem vX6_forget : mVv YX6_forget 1 := ⟨⟨⟨List.mem_of_getElem? (i := 525) (by decide +kernel), by decide +kernel⟩, ⟨List.mem_of_getElem? (i := 7) (by decide +kernel), by decide +kernel⟩, ⟨List.mem_of_getElem? (i := 527) (by decide +kernel), by decide +kernel⟩, ⟨by decide +kernel, by decide +kernel⟩, by decide +kernel, plainFor_of_name (by decide +kernel), rfl⟩, ⟨List.mem_of_getElem? (i := 526) (by decide +kernel), by decide +kernel⟩⟩
theorem vX6_append : mVv YX6_append 1 := ⟨⟨⟨List.mem_of_getElem? (i := 540) (by decide +kernel), by decide +kernel⟩, ⟨List.mem_of_getElem? (i := 7) (by decide +kernel), by decide +kernel⟩, ⟨List.mem_of_getElem? (i := 542) (by decide +kernel), by decide +kernel⟩, ⟨by decide +kernel, by decide +kernel⟩, by decide +kernel, plainFor_of_name (by decide +kernel), rfl⟩, ⟨List.mem_of_getElem? (i := 541) (by decide +kernel), by decide +kernel⟩⟩
theorem vX6_clearBuffer : mVv YX6_clearBuffer 0 := ⟨⟨⟨List.mem_of_getElem? (i := 536) (by decide +kernel), by decide +kernel⟩, ⟨List.mem_of_getElem? (i := 7) (by decide +kernel), by decide +kernel⟩, ⟨List.mem_of_getElem? (i := 538) (by decide +kernel), by decide +kernel⟩, ⟨by decide +kernel, by decide +kernel⟩, by decide +kernel, plainFor_of_name (by decide +kernel), rfl⟩, ⟨List.mem_of_getElem? (i := 537) (by decide +kernel), by decide +kernel⟩⟩
theorem vX6_firstError : mVv YX6_firstError 0 := ⟨⟨⟨List.mem_of_getElem? (i := 546) (by decide +kernel), by decide +kernel⟩, ⟨List.mem_of_getElem? (i := 7) (by decide +kernel), by decide +kernel⟩, ⟨List.mem_of_getElem? (i := 548) (by decide +kernel), by decide +kernel⟩, ⟨by decide +kernel, by decide +kernel⟩, by decide +kernel, plainFor_of_name (by decide +kernel), rfl⟩, ⟨List.mem_of_getElem? (i := 547) (by decide +kernel), by decide +kernel⟩⟩
theorem vX6_say : mVv YX6_say 0 := ⟨⟨⟨List.mem_of_getElem? (i := 563) (by decide +kernel), by decide +kernel⟩, ⟨List.mem_of_getElem? (i := 7) (by decide +kernel), by decide +kernel⟩, ⟨List.mem_of_getElem? (i := 565) (by decide +kernel), by decide +kernel⟩, ⟨by decide +kernel, by decide +kernel⟩, by decide +kernel, plainFor_of_name (by decide +kernel), rfl⟩, ⟨List.mem_of_getElem? (i := 564) (by decide +kernel), by decide +kernel⟩⟩
theorem vX6_street : mVv YX6_street 3 := ⟨⟨⟨List.mem_of_getElem? (i := 323) (by decide +kernel), by decide +kernel⟩, ⟨List.mem_of_getElem? (i := 7) (by decide +kernel), by decide +kernel⟩, ⟨List.mem_of_getElem? (i := 325) (by decide +kernel), by decide +kernel⟩, ⟨by decide +kernel, by decide +kernel⟩, by decide +kernel, plainFor_of_name (by decide +kernel), rfl⟩, ⟨List.mem_of_getElem? (i := 324) (by decide +kernel), by decide +kernel⟩⟩
theorem vX6_accent : mVv YX6_accent 3 := ⟨⟨⟨List.mem_of_getElem? (i := 361) (by decide +kernel), by decide +kernel⟩, ⟨List.mem_of_getElem? (i := 7) (by decide +kernel), by decide +kernel⟩, ⟨List.mem_of_getElem? (i := 363) (by decide +kernel), by decide +kernel⟩, ⟨by decide +kernel, by decide +kernel⟩, by decide +kernel, plainFor_of_name (by decide +kernel), rfl⟩, ⟨List.mem_of_getElem? (i := 362) (by decide +kernel), by decide +kernel⟩⟩
theorem vX6_waits : mVv YX6_waits 2 := ⟨⟨⟨List.mem_of_getElem? (i := 403) (by decide +kernel), by decide +kernel⟩, ⟨List.mem_of_getElem? (i := 7) (by decide +kernel), by decide +kernel⟩, ⟨List.mem_of_getElem? (i := 405) (by decide +kernel), by decide +kernel⟩, ⟨by decide +kernel, by decide +kernel⟩, by decide +kernel, plainFor_of_name (by decide +kernel), rfl⟩, ⟨List.mem_of_getElem? (i := 404) (by decide +kernel), by decide +kernel⟩⟩
theorem vX6_had : mVv YX6_had 1 := ⟨⟨⟨List.mem_of_getElem? (i := 412) (by decide +kernel), by decide +kernel⟩, ⟨List.mem_of_getElem? (i := 7) (by decide +kernel), by decide +kernel⟩, ⟨List.mem_of_getElem? (i := 414) (by decide +kernel), by decide +kernel⟩, ⟨by decide +kernel, by decide +kernel⟩, by decide +kernel, plainFor_of_name (by decide +kernel), rfl⟩, ⟨List.mem_of_getElem? (i := 413) (by decide +kernel), by decide +kernel⟩⟩
theorem vX6_count : mVv YX6_count 1 := ⟨⟨⟨List.mem_of_getElem? (i := 226) (by decide +kernel), by decide +kernel⟩, ⟨List.mem_of_getElem? (i := 7) (by decide +kernel), by decide +kernel⟩, ⟨List.mem_of_getElem? (i := 228) (by decide +kernel), by decide +kernel⟩, ⟨by decide +kernel, by decide +kernel⟩, by decide +kernel, plainFor_of_name (by decide +kernel), rfl⟩, ⟨List.mem_of_getElem? (i := 227) (by decide +kernel), by decide +kernel⟩⟩
theorem vX6_setting : mVv YX6_setting 1 := ⟨⟨⟨List.mem_of_getElem? (i := 395) (by decide +kernel), by decide +kernel⟩, ⟨List.mem_of_getElem? (i := 7) (by decide +kernel), by decide +kernel⟩, ⟨List.mem_of_getElem? (i := 397) (by decide +kernel), by decide +kernel⟩, ⟨by decide +kernel, by decide +kernel⟩, by decide +kernel, plainFor_of_name (by decide +kernel), rfl⟩, ⟨List.mem_of_getElem? (i := 396) (by decide +kernel), by decide +kernel⟩⟩
theorem vX6_sure : mVv YX6_sure 2 := ⟨⟨⟨List.mem_of_getElem? (i := 370) (by decide +kernel), by decide +kernel⟩, ⟨List.mem_of_getElem? (i := 7) (by decide +kernel), by decide +kernel⟩, ⟨List.mem_of_getElem? (i := 372) (by decide +kernel), by decide +kernel⟩, ⟨by decide +kernel, by decide +kernel⟩, by decide +kernel, plainFor_of_name (by decide +kernel), rfl⟩, ⟨List.mem_of_getElem? (i := 371) (by decide +kernel), by decide +kernel⟩⟩
theorem vX6_rightShare : mVv YX6_rightShare 1 := ⟨⟨⟨List.mem_of_getElem? (i := 419) (by decide +kernel), by decide +kernel⟩, ⟨List.mem_of_getElem? (i := 7) (by decide +kernel), by decide +kernel⟩, ⟨List.mem_of_getElem? (i := 421) (by decide +kernel), by decide +kernel⟩, ⟨by decide +kernel, by decide +kernel⟩, by decide +kernel, plainFor_of_name (by decide +kernel), rfl⟩, ⟨List.mem_of_getElem? (i := 420) (by decide +kernel), by decide +kernel⟩⟩
theorem vX6_wayOf : mVv YX6_wayOf 1 := ⟨⟨⟨List.mem_of_getElem? (i := 332) (by decide +kernel), by decide +kernel⟩, ⟨List.mem_of_getElem? (i := 7) (by decide +kernel), by decide +kernel⟩, ⟨List.mem_of_getElem? (i := 333) (by decide +kernel), by decide +kernel⟩, ⟨by decide +kernel, by decide +kernel⟩, by decide +kernel, plainFor_of_name (by decide +kernel), rfl⟩, ⟨List.mem_of_getElem? (i := 2) (by decide +kernel), by decide +kernel⟩⟩
theorem vX6_toneOf : mVv YX6_toneOf 2 := ⟨⟨⟨List.mem_of_getElem? (i := 328) (by decide +kernel), by decide +kernel⟩, ⟨List.mem_of_getElem? (i := 7) (by decide +kernel), by decide +kernel⟩, ⟨List.mem_of_getElem? (i := 329) (by decide +kernel), by decide +kernel⟩, ⟨by decide +kernel, by decide +kernel⟩, by decide +kernel, plainFor_of_name (by decide +kernel), rfl⟩, ⟨List.mem_of_getElem? (i := 1) (by decide +kernel), by decide +kernel⟩⟩
theorem vX6_checkStreetNumber : mVs YX6_checkStreetNumber 2 := ⟨⟨List.mem_of_getElem? (i := 433) (by decide +kernel), by decide +kernel⟩, ⟨List.mem_of_getElem? (i := 7) (by decide +kernel), by decide +kernel⟩, ⟨List.mem_of_getElem? (i := 434) (by decide +kernel), by decide +kernel⟩, ⟨by decide +kernel, by decide +kernel⟩, by decide +kernel, plainFor_of_name (by decide +kernel), rfl⟩
theorem vX6_checkSetting : mVs YX6_checkSetting 1 := ⟨⟨List.mem_of_getElem? (i := 399) (by decide +kernel), by decide +kernel⟩, ⟨List.mem_of_getElem? (i := 7) (by decide +kernel), by decide +kernel⟩, ⟨List.mem_of_getElem? (i := 400) (by decide +kernel), by decide +kernel⟩, ⟨by decide +kernel, by decide +kernel⟩, by decide +kernel, plainFor_of_name (by decide +kernel), rfl⟩
theorem vX6_checkBeats : mVs YX6_checkBeats 1 := ⟨⟨List.mem_of_getElem? (i := 594) (by decide +kernel), by decide +kernel⟩, ⟨List.mem_of_getElem? (i := 7) (by decide +kernel), by decide +kernel⟩, ⟨List.mem_of_getElem? (i := 595) (by decide +kernel), by decide +kernel⟩, ⟨by decide +kernel, by decide +kernel⟩, by decide +kernel, plainFor_of_name (by decide +kernel), rfl⟩
theorem vX6_checkBeatsLeft : mVv YX6_checkBeatsLeft 1 := ⟨⟨⟨List.mem_of_getElem? (i := 599) (by decide +kernel), by decide +kernel⟩, ⟨List.mem_of_getElem? (i := 7) (by decide +kernel), by decide +kernel⟩, ⟨List.mem_of_getElem? (i := 600) (by decide +kernel), by decide +kernel⟩, ⟨by decide +kernel, by decide +kernel⟩, by decide +kernel, plainFor_of_name (by decide +kernel), rfl⟩, ⟨List.mem_of_getElem? (i := 5) (by decide +kernel), by decide +kernel⟩⟩
theorem vX6_save : mVv YX6_save 0 := ⟨⟨⟨List.mem_of_getElem? (i := 443) (by decide +kernel), by decide +kernel⟩, ⟨List.mem_of_getElem? (i := 7) (by decide +kernel), by decide +kernel⟩, ⟨List.mem_of_getElem? (i := 444) (by decide +kernel), by decide +kernel⟩, ⟨by decide +kernel, by decide +kernel⟩, by decide +kernel, plainFor_of_name (by decide +kernel), rfl⟩, ⟨List.mem_of_getElem? (i := 3) (by decide +kernel), by decide +kernel⟩⟩
theorem vX6_dropOldest : mVv YX6_dropOldest 0 := ⟨⟨⟨List.mem_of_getElem? (i := 447) (by decide +kernel), by decide +kernel⟩, ⟨List.mem_of_getElem? (i := 7) (by decide +kernel), by decide +kernel⟩, ⟨List.mem_of_getElem? (i := 448) (by decide +kernel), by decide +kernel⟩, ⟨by decide +kernel, by decide +kernel⟩, by decide +kernel, plainFor_of_name (by decide +kernel), rfl⟩, ⟨List.mem_of_getElem? (i := 4) (by decide +kernel), by decide +kernel⟩⟩
theorem vJ6_bitCount_0f7a4 : mVs YJ6_bitCount_0f7a4 1 := ⟨⟨List.mem_of_getElem? (i := 724) (by decide +kernel), by decide +kernel⟩, ⟨List.mem_of_getElem? (i := 22) (by decide +kernel), by decide +kernel⟩, ⟨List.mem_of_getElem? (i := 725) (by decide +kernel), by decide +kernel⟩, ⟨by decide +kernel, by decide +kernel⟩, by decide +kernel, plainFor_of_name (by decide +kernel), rfl⟩
theorem vJ9_floorMod_7cf53 : mVs YJ9_floorMod_7cf53 2 := ⟨⟨List.mem_of_getElem? (i := 657) (by decide +kernel), by decide +kernel⟩, ⟨List.mem_of_getElem? (i := 19) (by decide +kernel), by decide +kernel⟩, ⟨List.mem_of_getElem? (i := 658) (by decide +kernel), by decide +kernel⟩, ⟨by decide +kernel, by decide +kernel⟩, by decide +kernel, by decide +kernel, rfl⟩
theorem vL_cell : mVs YL_cell 2 := ⟨⟨List.mem_of_getElem? (i := 310) (by decide +kernel), by decide +kernel⟩, ⟨List.mem_of_getElem? (i := 6) (by decide +kernel), by decide +kernel⟩, ⟨List.mem_of_getElem? (i := 311) (by decide +kernel), by decide +kernel⟩, ⟨by decide +kernel, by decide +kernel⟩, by decide +kernel, plainFor_of_name (by decide +kernel), rfl⟩
theorem vL_at : mVs YL_at 2 := ⟨⟨List.mem_of_getElem? (i := 314) (by decide +kernel), by decide +kernel⟩, ⟨List.mem_of_getElem? (i := 6) (by decide +kernel), by decide +kernel⟩, ⟨List.mem_of_getElem? (i := 315) (by decide +kernel), by decide +kernel⟩, ⟨by decide +kernel, by decide +kernel⟩, by decide +kernel, plainFor_of_name (by decide +kernel), rfl⟩
theorem vL_draw : mVs YL_draw 2 := ⟨⟨List.mem_of_getElem? (i := 682) (by decide +kernel), by decide +kernel⟩, ⟨List.mem_of_getElem? (i := 6) (by decide +kernel), by decide +kernel⟩, ⟨List.mem_of_getElem? (i := 683) (by decide +kernel), by decide +kernel⟩, ⟨by decide +kernel, by decide +kernel⟩, by decide +kernel, plainFor_of_name (by decide +kernel), rfl⟩
theorem vL_amp : mVs YL_amp 2 := ⟨⟨List.mem_of_getElem? (i := 752) (by decide +kernel), by decide +kernel⟩, ⟨List.mem_of_getElem? (i := 6) (by decide +kernel), by decide +kernel⟩, ⟨List.mem_of_getElem? (i := 753) (by decide +kernel), by decide +kernel⟩, ⟨by decide +kernel, by decide +kernel⟩, by decide +kernel, plainFor_of_name (by decide +kernel), rfl⟩
theorem vL_come : mVs YL_come 5 := ⟨⟨List.mem_of_getElem? (i := 689) (by decide +kernel), by decide +kernel⟩, ⟨List.mem_of_getElem? (i := 6) (by decide +kernel), by decide +kernel⟩, ⟨List.mem_of_getElem? (i := 690) (by decide +kernel), by decide +kernel⟩, ⟨by decide +kernel, by decide +kernel⟩, by decide +kernel, plainFor_of_name (by decide +kernel), rfl⟩
theorem vL_size : mVs YL_size 1 := ⟨⟨List.mem_of_getElem? (i := 392) (by decide +kernel), by decide +kernel⟩, ⟨List.mem_of_getElem? (i := 6) (by decide +kernel), by decide +kernel⟩, ⟨List.mem_of_getElem? (i := 393) (by decide +kernel), by decide +kernel⟩, ⟨by decide +kernel, by decide +kernel⟩, by decide +kernel, plainFor_of_name (by decide +kernel), rfl⟩
theorem vL_held : mVs YL_held 3 := ⟨⟨List.mem_of_getElem? (i := 692) (by decide +kernel), by decide +kernel⟩, ⟨List.mem_of_getElem? (i := 6) (by decide +kernel), by decide +kernel⟩, ⟨List.mem_of_getElem? (i := 693) (by decide +kernel), by decide +kernel⟩, ⟨by decide +kernel, by decide +kernel⟩, by decide +kernel, plainFor_of_name (by decide +kernel), rfl⟩
theorem vL_lesson : mVs YL_lesson 9 := ⟨⟨List.mem_of_getElem? (i := 679) (by decide +kernel), by decide +kernel⟩, ⟨List.mem_of_getElem? (i := 6) (by decide +kernel), by decide +kernel⟩, ⟨List.mem_of_getElem? (i := 680) (by decide +kernel), by decide +kernel⟩, ⟨by decide +kernel, by decide +kernel⟩, by decide +kernel, plainFor_of_name (by decide +kernel), rfl⟩
theorem vL_learn : mVs YL_learn 10 := ⟨⟨List.mem_of_getElem? (i := 676) (by decide +kernel), by decide +kernel⟩, ⟨List.mem_of_getElem? (i := 6) (by decide +kernel), by decide +kernel⟩, ⟨List.mem_of_getElem? (i := 677) (by decide +kernel), by decide +kernel⟩, ⟨by decide +kernel, by decide +kernel⟩, by decide +kernel, plainFor_of_name (by decide +kernel), rfl⟩
theorem vL_next : mVs YL_next 3 := ⟨⟨List.mem_of_getElem? (i := 749) (by decide +kernel), by decide +kernel⟩, ⟨List.mem_of_getElem? (i := 6) (by decide +kernel), by decide +kernel⟩, ⟨List.mem_of_getElem? (i := 750) (by decide +kernel), by decide +kernel⟩, ⟨by decide +kernel, by decide +kernel⟩, by decide +kernel, plainFor_of_name (by decide +kernel), rfl⟩
theorem vL_taken : mVs YL_taken 4 := ⟨⟨List.mem_of_getElem? (i := 755) (by decide +kernel), by decide +kernel⟩, ⟨List.mem_of_getElem? (i := 6) (by decide +kernel), by decide +kernel⟩, ⟨List.mem_of_getElem? (i := 756) (by decide +kernel), by decide +kernel⟩, ⟨by decide +kernel, by decide +kernel⟩, by decide +kernel, plainFor_of_name (by decide +kernel), rfl⟩
theorem vL_sign : mVs YL_sign 9 := ⟨⟨List.mem_of_getElem? (i := 746) (by decide +kernel), by decide +kernel⟩, ⟨List.mem_of_getElem? (i := 6) (by decide +kernel), by decide +kernel⟩, ⟨List.mem_of_getElem? (i := 747) (by decide +kernel), by decide +kernel⟩, ⟨by decide +kernel, by decide +kernel⟩, by decide +kernel, plainFor_of_name (by decide +kernel), rfl⟩
theorem vL_send : mVs YL_send 11 := ⟨⟨List.mem_of_getElem? (i := 743) (by decide +kernel), by decide +kernel⟩, ⟨List.mem_of_getElem? (i := 6) (by decide +kernel), by decide +kernel⟩, ⟨List.mem_of_getElem? (i := 744) (by decide +kernel), by decide +kernel⟩, ⟨by decide +kernel, by decide +kernel⟩, by decide +kernel, plainFor_of_name (by decide +kernel), rfl⟩
theorem vL_sure : mVs YL_sure 3 := ⟨⟨List.mem_of_getElem? (i := 389) (by decide +kernel), by decide +kernel⟩, ⟨List.mem_of_getElem? (i := 6) (by decide +kernel), by decide +kernel⟩, ⟨List.mem_of_getElem? (i := 390) (by decide +kernel), by decide +kernel⟩, ⟨by decide +kernel, by decide +kernel⟩, by decide +kernel, plainFor_of_name (by decide +kernel), rfl⟩
theorem vL_lines : mVs YL_lines 6 := ⟨⟨List.mem_of_getElem? (i := 320) (by decide +kernel), by decide +kernel⟩, ⟨List.mem_of_getElem? (i := 6) (by decide +kernel), by decide +kernel⟩, ⟨List.mem_of_getElem? (i := 321) (by decide +kernel), by decide +kernel⟩, ⟨by decide +kernel, by decide +kernel⟩, by decide +kernel, plainFor_of_name (by decide +kernel), rfl⟩
theorem vL_carried : mVs YL_carried 2 := ⟨⟨List.mem_of_getElem? (i := 416) (by decide +kernel), by decide +kernel⟩, ⟨List.mem_of_getElem? (i := 6) (by decide +kernel), by decide +kernel⟩, ⟨List.mem_of_getElem? (i := 417) (by decide +kernel), by decide +kernel⟩, ⟨by decide +kernel, by decide +kernel⟩, by decide +kernel, plainFor_of_name (by decide +kernel), rfl⟩
theorem vL_told : mVs YL_told 10 := ⟨⟨List.mem_of_getElem? (i := 317) (by decide +kernel), by decide +kernel⟩, ⟨List.mem_of_getElem? (i := 6) (by decide +kernel), by decide +kernel⟩, ⟨List.mem_of_getElem? (i := 318) (by decide +kernel), by decide +kernel⟩, ⟨by decide +kernel, by decide +kernel⟩, by decide +kernel, plainFor_of_name (by decide +kernel), rfl⟩
theorem vL_say : mVs YL_say 5 := ⟨⟨List.mem_of_getElem? (i := 533) (by decide +kernel), by decide +kernel⟩, ⟨List.mem_of_getElem? (i := 6) (by decide +kernel), by decide +kernel⟩, ⟨List.mem_of_getElem? (i := 534) (by decide +kernel), by decide +kernel⟩, ⟨by decide +kernel, by decide +kernel⟩, by decide +kernel, plainFor_of_name (by decide +kernel), rfl⟩
theorem vL_street : mVs YL_street 4 := ⟨⟨List.mem_of_getElem? (i := 426) (by decide +kernel), by decide +kernel⟩, ⟨List.mem_of_getElem? (i := 6) (by decide +kernel), by decide +kernel⟩, ⟨List.mem_of_getElem? (i := 427) (by decide +kernel), by decide +kernel⟩, ⟨by decide +kernel, by decide +kernel⟩, by decide +kernel, plainFor_of_name (by decide +kernel), rfl⟩
theorem vL_insult : mVs YL_insult 4 := ⟨⟨List.mem_of_getElem? (i := 486) (by decide +kernel), by decide +kernel⟩, ⟨List.mem_of_getElem? (i := 6) (by decide +kernel), by decide +kernel⟩, ⟨List.mem_of_getElem? (i := 487) (by decide +kernel), by decide +kernel⟩, ⟨by decide +kernel, by decide +kernel⟩, by decide +kernel, plainFor_of_name (by decide +kernel), rfl⟩
theorem vL_forget : mVs YL_forget 5 := ⟨⟨List.mem_of_getElem? (i := 522) (by decide +kernel), by decide +kernel⟩, ⟨List.mem_of_getElem? (i := 6) (by decide +kernel), by decide +kernel⟩, ⟨List.mem_of_getElem? (i := 523) (by decide +kernel), by decide +kernel⟩, ⟨by decide +kernel, by decide +kernel⟩, by decide +kernel, plainFor_of_name (by decide +kernel), rfl⟩
theorem vL_set : mVs YL_set 4 := ⟨⟨List.mem_of_getElem? (i := 510) (by decide +kernel), by decide +kernel⟩, ⟨List.mem_of_getElem? (i := 6) (by decide +kernel), by decide +kernel⟩, ⟨List.mem_of_getElem? (i := 511) (by decide +kernel), by decide +kernel⟩, ⟨by decide +kernel, by decide +kernel⟩, by decide +kernel, plainFor_of_name (by decide +kernel), rfl⟩
theorem vL_carry : mVs YL_carry 4 := ⟨⟨List.mem_of_getElem? (i := 478) (by decide +kernel), by decide +kernel⟩, ⟨List.mem_of_getElem? (i := 6) (by decide +kernel), by decide +kernel⟩, ⟨List.mem_of_getElem? (i := 479) (by decide +kernel), by decide +kernel⟩, ⟨by decide +kernel, by decide +kernel⟩, by decide +kernel, plainFor_of_name (by decide +kernel), rfl⟩
theorem vL_act : mVs YL_act 14 := ⟨⟨List.mem_of_getElem? (i := 423) (by decide +kernel), by decide +kernel⟩, ⟨List.mem_of_getElem? (i := 6) (by decide +kernel), by decide +kernel⟩, ⟨List.mem_of_getElem? (i := 424) (by decide +kernel), by decide +kernel⟩, ⟨by decide +kernel, by decide +kernel⟩, by decide +kernel, plainFor_of_name (by decide +kernel), rfl⟩
theorem qL_151 : gw (.methodLink RL 151 yX6_init) := ⟨List.mem_of_getElem? (i := 25) (by decide +kernel), by decide +kernel⟩
theorem qX6_3 : gw (.methodLink RX6 3 objectInit) := ⟨List.mem_of_getElem? (i := 28) (by decide +kernel), by decide +kernel⟩
theorem qX1_3 : gw (.methodLink RX1 3 objectInit) := ⟨List.mem_of_getElem? (i := 36) (by decide +kernel), by decide +kernel⟩
theorem qX1_11 : gw (.methodLink RX1 11 yX5_init) := ⟨List.mem_of_getElem? (i := 39) (by decide +kernel), by decide +kernel⟩
theorem qX5_3 : gw (.methodLink RX5 3 objectInit) := ⟨List.mem_of_getElem? (i := 42) (by decide +kernel), by decide +kernel⟩
theorem qX4_3 : gw (.methodLink RX4 3 objectInit) := ⟨List.mem_of_getElem? (i := 50) (by decide +kernel), by decide +kernel⟩
theorem qX3_3 : gw (.methodLink RX3 3 objectInit) := ⟨List.mem_of_getElem? (i := 67) (by decide +kernel), by decide +kernel⟩
theorem qX0_3 : gw (.methodLink RX0 3 objectInit) := ⟨List.mem_of_getElem? (i := 181) (by decide +kernel), by decide +kernel⟩
theorem qX2_3 : gw (.methodLink RX2 3 objectInit) := ⟨List.mem_of_getElem? (i := 195) (by decide +kernel), by decide +kernel⟩
theorem qL_72 : gw (.methodLink RL 72 yX6_count) := ⟨List.mem_of_getElem? (i := 225) (by decide +kernel), by decide +kernel⟩
theorem qX6_108 : gw (.methodLink RX6 108 yX5_bits) := ⟨List.mem_of_getElem? (i := 229) (by decide +kernel), by decide +kernel⟩
theorem qX6_208 : gw (.methodLink RX6 208 yX5_shies) := ⟨List.mem_of_getElem? (i := 233) (by decide +kernel), by decide +kernel⟩
theorem qX6_211 : gw (.methodLink RX6 211 yX5_insulted) := ⟨List.mem_of_getElem? (i := 237) (by decide +kernel), by decide +kernel⟩
theorem qL_156 : gw (.methodLink RL 156 yL_cell) := ⟨List.mem_of_getElem? (i := 309) (by decide +kernel), by decide +kernel⟩
theorem qL_96 : gw (.methodLink RL 96 yL_at) := ⟨List.mem_of_getElem? (i := 313) (by decide +kernel), by decide +kernel⟩
theorem qL_152 : gw (.methodLink RL 152 yL_told) := ⟨List.mem_of_getElem? (i := 316) (by decide +kernel), by decide +kernel⟩
theorem qL_68 : gw (.methodLink RL 68 yL_lines) := ⟨List.mem_of_getElem? (i := 319) (by decide +kernel), by decide +kernel⟩
theorem qL_55 : gw (.methodLink RL 55 yX6_street) := ⟨List.mem_of_getElem? (i := 322) (by decide +kernel), by decide +kernel⟩
theorem qX6_37 : gw (.methodLink RX6 37 yX6_toneOf) := ⟨List.mem_of_getElem? (i := 326) (by decide +kernel), by decide +kernel⟩
theorem qX6_94 : gw (.methodLink RX6 94 yX6_wayOf) := ⟨List.mem_of_getElem? (i := 330) (by decide +kernel), by decide +kernel⟩
theorem qX6_272 : gw (.methodLink RX6 272 yX1_wayAt) := ⟨List.mem_of_getElem? (i := 350) (by decide +kernel), by decide +kernel⟩
theorem qX6_48 : gw (.methodLink RX6 48 yX3_streetNumber) := ⟨List.mem_of_getElem? (i := 356) (by decide +kernel), by decide +kernel⟩
theorem qL_60 : gw (.methodLink RL 60 yX6_accent) := ⟨List.mem_of_getElem? (i := 360) (by decide +kernel), by decide +kernel⟩
theorem qX6_181 : gw (.methodLink RX6 181 yX3_accentNumber) := ⟨List.mem_of_getElem? (i := 365) (by decide +kernel), by decide +kernel⟩
theorem qL_63 : gw (.methodLink RL 63 yX6_sure) := ⟨List.mem_of_getElem? (i := 369) (by decide +kernel), by decide +kernel⟩
theorem qX6_216 : gw (.methodLink RX6 216 yX3_sureBits) := ⟨List.mem_of_getElem? (i := 373) (by decide +kernel), by decide +kernel⟩
theorem qX3_89 : gw (.methodLink RX3 89 yX3_misheardWith) := ⟨List.mem_of_getElem? (i := 377) (by decide +kernel), by decide +kernel⟩
theorem qX3_92 : gw (.methodLink RX3 92 Lib.Math.abs.name) := ⟨List.mem_of_getElem? (i := 381) (by decide +kernel), by decide +kernel⟩
theorem qX3_85 : gw (.methodLink RX3 85 yX3_roomWith) := ⟨List.mem_of_getElem? (i := 384) (by decide +kernel), by decide +kernel⟩
theorem qL_66 : gw (.methodLink RL 66 yL_sure) := ⟨List.mem_of_getElem? (i := 388) (by decide +kernel), by decide +kernel⟩
theorem qL_29 : gw (.methodLink RL 29 yL_size) := ⟨List.mem_of_getElem? (i := 391) (by decide +kernel), by decide +kernel⟩
theorem qL_75 : gw (.methodLink RL 75 yX6_setting) := ⟨List.mem_of_getElem? (i := 394) (by decide +kernel), by decide +kernel⟩
theorem qX6_78 : gw (.methodLink RX6 78 yX6_checkSetting) := ⟨List.mem_of_getElem? (i := 398) (by decide +kernel), by decide +kernel⟩
theorem qL_78 : gw (.methodLink RL 78 yX6_waits) := ⟨List.mem_of_getElem? (i := 402) (by decide +kernel), by decide +kernel⟩
theorem qX6_189 : gw (.methodLink RX6 189 yX4_bitAt) := ⟨List.mem_of_getElem? (i := 407) (by decide +kernel), by decide +kernel⟩
theorem qL_81 : gw (.methodLink RL 81 yX6_had) := ⟨List.mem_of_getElem? (i := 411) (by decide +kernel), by decide +kernel⟩
theorem qL_85 : gw (.methodLink RL 85 yL_carried) := ⟨List.mem_of_getElem? (i := 415) (by decide +kernel), by decide +kernel⟩
theorem qL_88 : gw (.methodLink RL 88 yX6_rightShare) := ⟨List.mem_of_getElem? (i := 418) (by decide +kernel), by decide +kernel⟩
theorem qL_161 : gw (.methodLink RL 161 yL_act) := ⟨List.mem_of_getElem? (i := 422) (by decide +kernel), by decide +kernel⟩
theorem qL_124 : gw (.methodLink RL 124 yL_street) := ⟨List.mem_of_getElem? (i := 425) (by decide +kernel), by decide +kernel⟩
theorem qL_108 : gw (.methodLink RL 108 yX6_build) := ⟨List.mem_of_getElem? (i := 428) (by decide +kernel), by decide +kernel⟩
theorem qX6_41 : gw (.methodLink RX6 41 yX6_checkStreetNumber) := ⟨List.mem_of_getElem? (i := 432) (by decide +kernel), by decide +kernel⟩
theorem qX6_45 : gw (.methodLink RX6 45 yX6_save) := ⟨List.mem_of_getElem? (i := 441) (by decide +kernel), by decide +kernel⟩
theorem qX6_325 : gw (.methodLink RX6 325 yX6_dropOldest) := ⟨List.mem_of_getElem? (i := 445) (by decide +kernel), by decide +kernel⟩
theorem qX6_174 : gw (.methodLink RX6 174 yX1_copyFrom) := ⟨List.mem_of_getElem? (i := 449) (by decide +kernel), by decide +kernel⟩
theorem qX1_29 : gw (.methodLink RX1 29 yX5_copyFrom) := ⟨List.mem_of_getElem? (i := 453) (by decide +kernel), by decide +kernel⟩
theorem qX5_25 : gw (.methodLink RX5 25 yX3_copyFrom) := ⟨List.mem_of_getElem? (i := 457) (by decide +kernel), by decide +kernel⟩
theorem qX5_29 : gw (.methodLink RX5 29 yX4_copyFrom) := ⟨List.mem_of_getElem? (i := 461) (by decide +kernel), by decide +kernel⟩
theorem qX4_15 : gw (.methodLink RX4 15 arraycopyName) := ⟨List.mem_of_getElem? (i := 465) (by decide +kernel), by decide +kernel⟩
theorem qX1_33 : gw (.methodLink RX1 33 yX1_copyCommonFrom) := ⟨List.mem_of_getElem? (i := 468) (by decide +kernel), by decide +kernel⟩
theorem qX1_41 : gw (.methodLink RX1 41 arraycopyName) := ⟨List.mem_of_getElem? (i := 472) (by decide +kernel), by decide +kernel⟩
theorem qX6_54 : gw (.methodLink RX6 54 yX3_setStreetNumber) := ⟨List.mem_of_getElem? (i := 473) (by decide +kernel), by decide +kernel⟩
theorem qL_127 : gw (.methodLink RL 127 yL_carry) := ⟨List.mem_of_getElem? (i := 477) (by decide +kernel), by decide +kernel⟩
theorem qL_121 : gw (.methodLink RL 121 yX6_carry) := ⟨List.mem_of_getElem? (i := 480) (by decide +kernel), by decide +kernel⟩
theorem qL_129 : gw (.methodLink RL 129 yL_insult) := ⟨List.mem_of_getElem? (i := 485) (by decide +kernel), by decide +kernel⟩
theorem qL_112 : gw (.methodLink RL 112 yX6_insult) := ⟨List.mem_of_getElem? (i := 488) (by decide +kernel), by decide +kernel⟩
theorem qL_131 : gw (.methodLink RL 131 yL_set) := ⟨List.mem_of_getElem? (i := 509) (by decide +kernel), by decide +kernel⟩
theorem qL_118 : gw (.methodLink RL 118 yX6_set) := ⟨List.mem_of_getElem? (i := 512) (by decide +kernel), by decide +kernel⟩
theorem qL_133 : gw (.methodLink RL 133 yL_forget) := ⟨List.mem_of_getElem? (i := 521) (by decide +kernel), by decide +kernel⟩
theorem qL_115 : gw (.methodLink RL 115 yX6_forget) := ⟨List.mem_of_getElem? (i := 524) (by decide +kernel), by decide +kernel⟩
theorem qX6_121 : gw (.methodLink RX6 121 yX3_loseAccent) := ⟨List.mem_of_getElem? (i := 528) (by decide +kernel), by decide +kernel⟩
theorem qL_136 : gw (.methodLink RL 136 yL_say) := ⟨List.mem_of_getElem? (i := 532) (by decide +kernel), by decide +kernel⟩
theorem qL_92 : gw (.methodLink RL 92 yX6_clearBuffer) := ⟨List.mem_of_getElem? (i := 535) (by decide +kernel), by decide +kernel⟩
theorem qL_99 : gw (.methodLink RL 99 yX6_append) := ⟨List.mem_of_getElem? (i := 539) (by decide +kernel), by decide +kernel⟩
theorem qL_102 : gw (.methodLink RL 102 yX6_firstError) := ⟨List.mem_of_getElem? (i := 545) (by decide +kernel), by decide +kernel⟩
theorem qX6_135 : gw (.methodLink RX6 135 yX2_errorPlace) := ⟨List.mem_of_getElem? (i := 549) (by decide +kernel), by decide +kernel⟩
theorem qX2_26 : gw (.methodLink RX2 26 yX2_next) := ⟨List.mem_of_getElem? (i := 553) (by decide +kernel), by decide +kernel⟩
theorem qX2_15 : gw (.methodLink RX2 15 yX2_behindDigit) := ⟨List.mem_of_getElem? (i := 556) (by decide +kernel), by decide +kernel⟩
theorem qX2_19 : gw (.methodLink RX2 19 yX2_digitOf) := ⟨List.mem_of_getElem? (i := 559) (by decide +kernel), by decide +kernel⟩
theorem qL_105 : gw (.methodLink RL 105 yX6_say) := ⟨List.mem_of_getElem? (i := 562) (by decide +kernel), by decide +kernel⟩
theorem qX6_138 : gw (.methodLink RX6 138 yX2_isComplete) := ⟨List.mem_of_getElem? (i := 566) (by decide +kernel), by decide +kernel⟩
theorem qX6_144 : gw (.methodLink RX6 144 yX2_bitsFor) := ⟨List.mem_of_getElem? (i := 571) (by decide +kernel), by decide +kernel⟩
theorem qX6_165 : gw (.methodLink RX6 165 yX2_putBits) := ⟨List.mem_of_getElem? (i := 576) (by decide +kernel), by decide +kernel⟩
theorem qX2_30 : gw (.methodLink RX2 30 yX1_wayAt) := ⟨List.mem_of_getElem? (i := 580) (by decide +kernel), by decide +kernel⟩
theorem qX2_42 : gw (.methodLink RX2 42 yX4_putDigit) := ⟨List.mem_of_getElem? (i := 581) (by decide +kernel), by decide +kernel⟩
theorem qX4_28 : gw (.methodLink RX4 28 yX4_put) := ⟨List.mem_of_getElem? (i := 585) (by decide +kernel), by decide +kernel⟩
theorem qL_139 : gw (.methodLink RL 139 yX6_learn) := ⟨List.mem_of_getElem? (i := 589) (by decide +kernel), by decide +kernel⟩
theorem qX6_98 : gw (.methodLink RX6 98 yX6_checkBeats) := ⟨List.mem_of_getElem? (i := 593) (by decide +kernel), by decide +kernel⟩
theorem qX6_101 : gw (.methodLink RX6 101 yX6_checkBeatsLeft) := ⟨List.mem_of_getElem? (i := 597) (by decide +kernel), by decide +kernel⟩
theorem qX6_104 : gw (.methodLink RX6 104 yX1_takeLesson) := ⟨List.mem_of_getElem? (i := 602) (by decide +kernel), by decide +kernel⟩
theorem qX1_121 : gw (.methodLink RX1 121 yX0_begin) := ⟨List.mem_of_getElem? (i := 606) (by decide +kernel), by decide +kernel⟩
theorem qX1_126 : gw (.methodLink RX1 126 yX1_learnBeat) := ⟨List.mem_of_getElem? (i := 610) (by decide +kernel), by decide +kernel⟩
theorem qX1_62 : gw (.methodLink RX1 62 yX1_draw) := ⟨List.mem_of_getElem? (i := 614) (by decide +kernel), by decide +kernel⟩
theorem qX1_93 : gw (.methodLink RX1 93 yX1_drawNoise) := ⟨List.mem_of_getElem? (i := 622) (by decide +kernel), by decide +kernel⟩
theorem qX1_97 : gw (.methodLink RX1 97 yX3_arriving) := ⟨List.mem_of_getElem? (i := 626) (by decide +kernel), by decide +kernel⟩
theorem qX1_136 : gw (.methodLink RX1 136 yX3_expected) := ⟨List.mem_of_getElem? (i := 630) (by decide +kernel), by decide +kernel⟩
theorem qX1_139 : gw (.methodLink RX1 139 yX3_improve) := ⟨List.mem_of_getElem? (i := 634) (by decide +kernel), by decide +kernel⟩
theorem qX3_75 : gw (.methodLink RX3 75 yX3_step) := ⟨List.mem_of_getElem? (i := 638) (by decide +kernel), by decide +kernel⟩
theorem qX3_78 : gw (.methodLink RX3 78 yX3_held) := ⟨List.mem_of_getElem? (i := 641) (by decide +kernel), by decide +kernel⟩
theorem qX1_109 : gw (.methodLink RX1 109 yX3_pass) := ⟨List.mem_of_getElem? (i := 644) (by decide +kernel), by decide +kernel⟩
theorem qX1_142 : gw (.methodLink RX1 142 yX3_knowSignBefore) := ⟨List.mem_of_getElem? (i := 648) (by decide +kernel), by decide +kernel⟩
theorem qX1_145 : gw (.methodLink RX1 145 yX0_note) := ⟨List.mem_of_getElem? (i := 652) (by decide +kernel), by decide +kernel⟩
theorem qX0_19 : gw (.methodLink RX0 19 yJ9_floorMod_7cf53) := ⟨List.mem_of_getElem? (i := 656) (by decide +kernel), by decide +kernel⟩
theorem qX0_25 : gw (.methodLink RX0 25 Lib.Math.abs.name) := ⟨List.mem_of_getElem? (i := 659) (by decide +kernel), by decide +kernel⟩
theorem qX1_130 : gw (.methodLink RX1 130 yX0_worstOf) := ⟨List.mem_of_getElem? (i := 660) (by decide +kernel), by decide +kernel⟩
theorem qX0_29 : gw (.methodLink RX0 29 Lib.Math.max.name) := ⟨List.mem_of_getElem? (i := 664) (by decide +kernel), by decide +kernel⟩
theorem qX1_133 : gw (.methodLink RX1 133 yX3_endLesson) := ⟨List.mem_of_getElem? (i := 667) (by decide +kernel), by decide +kernel⟩
theorem qX3_82 : gw (.methodLink RX3 82 yX3_bitsFor) := ⟨List.mem_of_getElem? (i := 671) (by decide +kernel), by decide +kernel⟩
theorem qL_142 : gw (.methodLink RL 142 yL_learn) := ⟨List.mem_of_getElem? (i := 675) (by decide +kernel), by decide +kernel⟩
theorem qL_33 : gw (.methodLink RL 33 yL_lesson) := ⟨List.mem_of_getElem? (i := 678) (by decide +kernel), by decide +kernel⟩
theorem qL_15 : gw (.methodLink RL 15 yL_draw) := ⟨List.mem_of_getElem? (i := 681) (by decide +kernel), by decide +kernel⟩
theorem qL_21 : gw (.methodLink RL 21 yL_come) := ⟨List.mem_of_getElem? (i := 688) (by decide +kernel), by decide +kernel⟩
theorem qL_25 : gw (.methodLink RL 25 yL_held) := ⟨List.mem_of_getElem? (i := 691) (by decide +kernel), by decide +kernel⟩
theorem qL_145 : gw (.methodLink RL 145 yX6_send) := ⟨List.mem_of_getElem? (i := 694) (by decide +kernel), by decide +kernel⟩
theorem qX6_113 : gw (.methodLink RX6 113 yX1_sendBeats) := ⟨List.mem_of_getElem? (i := 698) (by decide +kernel), by decide +kernel⟩
theorem qX1_70 : gw (.methodLink RX1 70 yX1_sendSign) := ⟨List.mem_of_getElem? (i := 702) (by decide +kernel), by decide +kernel⟩
theorem qX1_85 : gw (.methodLink RX1 85 yX4_take) := ⟨List.mem_of_getElem? (i := 706) (by decide +kernel), by decide +kernel⟩
theorem qX4_32 : gw (.methodLink RX4 32 yX4_bitAt) := ⟨List.mem_of_getElem? (i := 710) (by decide +kernel), by decide +kernel⟩
theorem qX1_90 : gw (.methodLink RX1 90 yX3_amplitudeOf) := ⟨List.mem_of_getElem? (i := 711) (by decide +kernel), by decide +kernel⟩
theorem qX1_101 : gw (.methodLink RX1 101 yX3_decide) := ⟨List.mem_of_getElem? (i := 715) (by decide +kernel), by decide +kernel⟩
theorem qX3_66 : gw (.methodLink RX3 66 Lib.Math.min.name) := ⟨List.mem_of_getElem? (i := 719) (by decide +kernel), by decide +kernel⟩
theorem qX3_72 : gw (.methodLink RX3 72 Lib.Math.max.name) := ⟨List.mem_of_getElem? (i := 722) (by decide +kernel), by decide +kernel⟩
theorem qX1_104 : gw (.methodLink RX1 104 yJ6_bitCount_0f7a4) := ⟨List.mem_of_getElem? (i := 723) (by decide +kernel), by decide +kernel⟩
theorem qX1_113 : gw (.methodLink RX1 113 yX3_countSign) := ⟨List.mem_of_getElem? (i := 729) (by decide +kernel), by decide +kernel⟩
theorem qX1_117 : gw (.methodLink RX1 117 yX5_receive) := ⟨List.mem_of_getElem? (i := 733) (by decide +kernel), by decide +kernel⟩
theorem qX1_74 : gw (.methodLink RX1 74 yX3_becomeShyAt) := ⟨List.mem_of_getElem? (i := 738) (by decide +kernel), by decide +kernel⟩
theorem qL_148 : gw (.methodLink RL 148 yL_send) := ⟨List.mem_of_getElem? (i := 742) (by decide +kernel), by decide +kernel⟩
theorem qL_51 : gw (.methodLink RL 51 yL_sign) := ⟨List.mem_of_getElem? (i := 745) (by decide +kernel), by decide +kernel⟩
theorem qL_41 : gw (.methodLink RL 41 yL_next) := ⟨List.mem_of_getElem? (i := 748) (by decide +kernel), by decide +kernel⟩
theorem qL_37 : gw (.methodLink RL 37 yL_amp) := ⟨List.mem_of_getElem? (i := 751) (by decide +kernel), by decide +kernel⟩
theorem qL_45 : gw (.methodLink RL 45 yL_taken) := ⟨List.mem_of_getElem? (i := 754) (by decide +kernel), by decide +kernel⟩
theorem fX4_9 : gw (.fieldLink RX4 9 (TX4 0).1 (TX4 0).2.1 (TX4 0).2.2.1) := ⟨List.mem_of_getElem? (i := 51) (by decide +kernel), by decide +kernel⟩
theorem fX4_21 : gw (.fieldLink RX4 21 (TX4 1).1 (TX4 1).2.1 (TX4 1).2.2.1) := ⟨List.mem_of_getElem? (i := 52) (by decide +kernel), by decide +kernel⟩
theorem fX4_25 : gw (.fieldLink RX4 25 (TX4 2).1 (TX4 2).2.1 (TX4 2).2.2.1) := ⟨List.mem_of_getElem? (i := 53) (by decide +kernel), by decide +kernel⟩
theorem fX6_155 : gw (.fieldLink RX6 155 (TX4 2).1 (TX4 2).2.1 (TX4 2).2.2.1) := ⟨List.mem_of_getElem? (i := 54) (by decide +kernel), by decide +kernel⟩
theorem fX3_9 : gw (.fieldLink RX3 9 (TX3 0).1 (TX3 0).2.1 (TX3 0).2.2.1) := ⟨List.mem_of_getElem? (i := 68) (by decide +kernel), by decide +kernel⟩
theorem fX3_21 : gw (.fieldLink RX3 21 (TX3 1).1 (TX3 1).2.1 (TX3 1).2.2.1) := ⟨List.mem_of_getElem? (i := 69) (by decide +kernel), by decide +kernel⟩
theorem fX3_24 : gw (.fieldLink RX3 24 (TX3 2).1 (TX3 2).2.1 (TX3 2).2.2.1) := ⟨List.mem_of_getElem? (i := 70) (by decide +kernel), by decide +kernel⟩
theorem fX3_27 : gw (.fieldLink RX3 27 (TX3 3).1 (TX3 3).2.1 (TX3 3).2.2.1) := ⟨List.mem_of_getElem? (i := 71) (by decide +kernel), by decide +kernel⟩
theorem fX1_57 : gw (.fieldLink RX1 57 (TX3 3).1 (TX3 3).2.1 (TX3 3).2.2.1) := ⟨List.mem_of_getElem? (i := 72) (by decide +kernel), by decide +kernel⟩
theorem fX3_30 : gw (.fieldLink RX3 30 (TX3 4).1 (TX3 4).2.1 (TX3 4).2.2.1) := ⟨List.mem_of_getElem? (i := 73) (by decide +kernel), by decide +kernel⟩
theorem fX6_70 : gw (.fieldLink RX6 70 (TX3 4).1 (TX3 4).2.1 (TX3 4).2.2.1) := ⟨List.mem_of_getElem? (i := 74) (by decide +kernel), by decide +kernel⟩
theorem fX5_51 : gw (.fieldLink RX5 51 (TX3 4).1 (TX3 4).2.1 (TX3 4).2.2.1) := ⟨List.mem_of_getElem? (i := 75) (by decide +kernel), by decide +kernel⟩
theorem fX3_33 : gw (.fieldLink RX3 33 (TX3 5).1 (TX3 5).2.1 (TX3 5).2.2.1) := ⟨List.mem_of_getElem? (i := 76) (by decide +kernel), by decide +kernel⟩
theorem fX3_36 : gw (.fieldLink RX3 36 (TX3 6).1 (TX3 6).2.1 (TX3 6).2.2.1) := ⟨List.mem_of_getElem? (i := 77) (by decide +kernel), by decide +kernel⟩
theorem fX3_15 : gw (.fieldLink RX3 15 (TX3 7).1 (TX3 7).2.1 (TX3 7).2.2.1) := ⟨List.mem_of_getElem? (i := 78) (by decide +kernel), by decide +kernel⟩
theorem fX3_39 : gw (.fieldLink RX3 39 (TX3 8).1 (TX3 8).2.1 (TX3 8).2.2.1) := ⟨List.mem_of_getElem? (i := 79) (by decide +kernel), by decide +kernel⟩
theorem fX3_42 : gw (.fieldLink RX3 42 (TX3 9).1 (TX3 9).2.1 (TX3 9).2.2.1) := ⟨List.mem_of_getElem? (i := 80) (by decide +kernel), by decide +kernel⟩
theorem fX3_45 : gw (.fieldLink RX3 45 (TX3 10).1 (TX3 10).2.1 (TX3 10).2.2.1) := ⟨List.mem_of_getElem? (i := 81) (by decide +kernel), by decide +kernel⟩
theorem fX6_64 : gw (.fieldLink RX6 64 (TX3 10).1 (TX3 10).2.1 (TX3 10).2.2.1) := ⟨List.mem_of_getElem? (i := 82) (by decide +kernel), by decide +kernel⟩
theorem fX5_45 : gw (.fieldLink RX5 45 (TX3 10).1 (TX3 10).2.1 (TX3 10).2.2.1) := ⟨List.mem_of_getElem? (i := 83) (by decide +kernel), by decide +kernel⟩
theorem fX1_82 : gw (.fieldLink RX1 82 (TX3 10).1 (TX3 10).2.1 (TX3 10).2.2.1) := ⟨List.mem_of_getElem? (i := 84) (by decide +kernel), by decide +kernel⟩
theorem fX3_18 : gw (.fieldLink RX3 18 (TX3 11).1 (TX3 11).2.1 (TX3 11).2.2.1) := ⟨List.mem_of_getElem? (i := 85) (by decide +kernel), by decide +kernel⟩
theorem fX3_48 : gw (.fieldLink RX3 48 (TX3 12).1 (TX3 12).2.1 (TX3 12).2.2.1) := ⟨List.mem_of_getElem? (i := 86) (by decide +kernel), by decide +kernel⟩
theorem fX3_51 : gw (.fieldLink RX3 51 (TX3 13).1 (TX3 13).2.1 (TX3 13).2.2.1) := ⟨List.mem_of_getElem? (i := 87) (by decide +kernel), by decide +kernel⟩
theorem fX5_48 : gw (.fieldLink RX5 48 (TX3 13).1 (TX3 13).2.1 (TX3 13).2.2.1) := ⟨List.mem_of_getElem? (i := 88) (by decide +kernel), by decide +kernel⟩
theorem fX3_54 : gw (.fieldLink RX3 54 (TX3 14).1 (TX3 14).2.1 (TX3 14).2.2.1) := ⟨List.mem_of_getElem? (i := 89) (by decide +kernel), by decide +kernel⟩
theorem fX3_57 : gw (.fieldLink RX3 57 (TX3 15).1 (TX3 15).2.1 (TX3 15).2.2.1) := ⟨List.mem_of_getElem? (i := 90) (by decide +kernel), by decide +kernel⟩
theorem fX3_60 : gw (.fieldLink RX3 60 (TX3 16).1 (TX3 16).2.1 (TX3 16).2.2.1) := ⟨List.mem_of_getElem? (i := 91) (by decide +kernel), by decide +kernel⟩
theorem fX3_63 : gw (.fieldLink RX3 63 (TX3 17).1 (TX3 17).2.1 (TX3 17).2.2.1) := ⟨List.mem_of_getElem? (i := 92) (by decide +kernel), by decide +kernel⟩
theorem fX5_11 : gw (.fieldLink RX5 11 (TX5 0).1 (TX5 0).2.1 (TX5 0).2.2.1) := ⟨List.mem_of_getElem? (i := 130) (by decide +kernel), by decide +kernel⟩
theorem fX1_66 : gw (.fieldLink RX1 66 (TX5 0).1 (TX5 0).2.1 (TX5 0).2.2.1) := ⟨List.mem_of_getElem? (i := 131) (by decide +kernel), by decide +kernel⟩
theorem fX6_117 : gw (.fieldLink RX6 117 (TX5 0).1 (TX5 0).2.1 (TX5 0).2.2.1) := ⟨List.mem_of_getElem? (i := 132) (by decide +kernel), by decide +kernel⟩
theorem fX5_20 : gw (.fieldLink RX5 20 (TX5 1).1 (TX5 1).2.1 (TX5 1).2.2.1) := ⟨List.mem_of_getElem? (i := 133) (by decide +kernel), by decide +kernel⟩
theorem fX2_36 : gw (.fieldLink RX2 36 (TX5 1).1 (TX5 1).2.1 (TX5 1).2.2.1) := ⟨List.mem_of_getElem? (i := 134) (by decide +kernel), by decide +kernel⟩
theorem fX1_78 : gw (.fieldLink RX1 78 (TX5 1).1 (TX5 1).2.1 (TX5 1).2.2.1) := ⟨List.mem_of_getElem? (i := 135) (by decide +kernel), by decide +kernel⟩
theorem fX6_151 : gw (.fieldLink RX6 151 (TX5 1).1 (TX5 1).2.1 (TX5 1).2.2.1) := ⟨List.mem_of_getElem? (i := 136) (by decide +kernel), by decide +kernel⟩
theorem fX5_32 : gw (.fieldLink RX5 32 (TX5 2).1 (TX5 2).2.1 (TX5 2).2.2.1) := ⟨List.mem_of_getElem? (i := 137) (by decide +kernel), by decide +kernel⟩
theorem fX6_192 : gw (.fieldLink RX6 192 (TX5 2).1 (TX5 2).2.1 (TX5 2).2.2.1) := ⟨List.mem_of_getElem? (i := 138) (by decide +kernel), by decide +kernel⟩
theorem fX5_36 : gw (.fieldLink RX5 36 (TX5 3).1 (TX5 3).2.1 (TX5 3).2.2.1) := ⟨List.mem_of_getElem? (i := 139) (by decide +kernel), by decide +kernel⟩
theorem fX6_202 : gw (.fieldLink RX6 202 (TX5 3).1 (TX5 3).2.1 (TX5 3).2.2.1) := ⟨List.mem_of_getElem? (i := 140) (by decide +kernel), by decide +kernel⟩
theorem fX5_40 : gw (.fieldLink RX5 40 (TX5 4).1 (TX5 4).2.1 (TX5 4).2.2.1) := ⟨List.mem_of_getElem? (i := 141) (by decide +kernel), by decide +kernel⟩
theorem fX6_205 : gw (.fieldLink RX6 205 (TX5 4).1 (TX5 4).2.1 (TX5 4).2.2.1) := ⟨List.mem_of_getElem? (i := 142) (by decide +kernel), by decide +kernel⟩
theorem fX1_12 : gw (.fieldLink RX1 12 (TX1 0).1 (TX1 0).2.1 (TX1 0).2.2.1) := ⟨List.mem_of_getElem? (i := 154) (by decide +kernel), by decide +kernel⟩
theorem fX6_147 : gw (.fieldLink RX6 147 (TX1 0).1 (TX1 0).2.1 (TX1 0).2.2.1) := ⟨List.mem_of_getElem? (i := 155) (by decide +kernel), by decide +kernel⟩
theorem fX1_18 : gw (.fieldLink RX1 18 (TX1 1).1 (TX1 1).2.1 (TX1 1).2.2.1) := ⟨List.mem_of_getElem? (i := 156) (by decide +kernel), by decide +kernel⟩
theorem fX6_160 : gw (.fieldLink RX6 160 (TX1 1).1 (TX1 1).2.1 (TX1 1).2.2.1) := ⟨List.mem_of_getElem? (i := 157) (by decide +kernel), by decide +kernel⟩
theorem fX1_21 : gw (.fieldLink RX1 21 (TX1 2).1 (TX1 2).2.1 (TX1 2).2.2.1) := ⟨List.mem_of_getElem? (i := 158) (by decide +kernel), by decide +kernel⟩
theorem fX6_91 : gw (.fieldLink RX6 91 (TX1 2).1 (TX1 2).2.1 (TX1 2).2.2.1) := ⟨List.mem_of_getElem? (i := 159) (by decide +kernel), by decide +kernel⟩
theorem fX1_25 : gw (.fieldLink RX1 25 (TX1 3).1 (TX1 3).2.1 (TX1 3).2.2.1) := ⟨List.mem_of_getElem? (i := 160) (by decide +kernel), by decide +kernel⟩
theorem fX6_199 : gw (.fieldLink RX6 199 (TX1 3).1 (TX1 3).2.1 (TX1 3).2.2.1) := ⟨List.mem_of_getElem? (i := 161) (by decide +kernel), by decide +kernel⟩
theorem fX1_47 : gw (.fieldLink RX1 47 (TX1 4).1 (TX1 4).2.1 (TX1 4).2.2.1) := ⟨List.mem_of_getElem? (i := 162) (by decide +kernel), by decide +kernel⟩
theorem fX6_196 : gw (.fieldLink RX6 196 (TX1 4).1 (TX1 4).2.1 (TX1 4).2.2.1) := ⟨List.mem_of_getElem? (i := 163) (by decide +kernel), by decide +kernel⟩
theorem fX0_9 : gw (.fieldLink RX0 9 (TX0 0).1 (TX0 0).2.1 (TX0 0).2.2.1) := ⟨List.mem_of_getElem? (i := 182) (by decide +kernel), by decide +kernel⟩
theorem fX0_15 : gw (.fieldLink RX0 15 (TX0 1).1 (TX0 1).2.1 (TX0 1).2.2.1) := ⟨List.mem_of_getElem? (i := 183) (by decide +kernel), by decide +kernel⟩
theorem fX1_148 : gw (.fieldLink RX1 148 (TX0 1).1 (TX0 1).2.1 (TX0 1).2.2.1) := ⟨List.mem_of_getElem? (i := 184) (by decide +kernel), by decide +kernel⟩
theorem fX2_9 : gw (.fieldLink RX2 9 (TX2 0).1 (TX2 0).2.1 (TX2 0).2.2.1) := ⟨List.mem_of_getElem? (i := 196) (by decide +kernel), by decide +kernel⟩
theorem fX6_131 : gw (.fieldLink RX6 131 (TX2 0).1 (TX2 0).2.1 (TX2 0).2.2.1) := ⟨List.mem_of_getElem? (i := 197) (by decide +kernel), by decide +kernel⟩
theorem fX2_22 : gw (.fieldLink RX2 22 (TX2 1).1 (TX2 1).2.1 (TX2 1).2.2.1) := ⟨List.mem_of_getElem? (i := 198) (by decide +kernel), by decide +kernel⟩
theorem fX6_126 : gw (.fieldLink RX6 126 (TX2 1).1 (TX2 1).2.1 (TX2 1).2.2.1) := ⟨List.mem_of_getElem? (i := 199) (by decide +kernel), by decide +kernel⟩
theorem fX6_12 : gw (.fieldLink RX6 12 (TX6 0).1 (TX6 0).2.1 (TX6 0).2.2.1) := ⟨List.mem_of_getElem? (i := 206) (by decide +kernel), by decide +kernel⟩
theorem fX6_16 : gw (.fieldLink RX6 16 (TX6 1).1 (TX6 1).2.1 (TX6 1).2.2.1) := ⟨List.mem_of_getElem? (i := 207) (by decide +kernel), by decide +kernel⟩
theorem fX6_19 : gw (.fieldLink RX6 19 (TX6 2).1 (TX6 2).2.1 (TX6 2).2.2.1) := ⟨List.mem_of_getElem? (i := 208) (by decide +kernel), by decide +kernel⟩
theorem fX6_26 : gw (.fieldLink RX6 26 (TX6 3).1 (TX6 3).2.1 (TX6 3).2.2.1) := ⟨List.mem_of_getElem? (i := 209) (by decide +kernel), by decide +kernel⟩
theorem fX6_33 : gw (.fieldLink RX6 33 (TX6 4).1 (TX6 4).2.1 (TX6 4).2.2.1) := ⟨List.mem_of_getElem? (i := 210) (by decide +kernel), by decide +kernel⟩
theorem fX6_169 : gw (.fieldLink RX6 169 (TX6 5).1 (TX6 5).2.1 (TX6 5).2.2.1) := ⟨List.mem_of_getElem? (i := 211) (by decide +kernel), by decide +kernel⟩
theorem fX6_311 : gw (.fieldLink RX6 311 "AccentModems" "LEAST_STREET_NUMBER" "[I") := ⟨List.mem_of_getElem? (i := 436) (by decide +kernel), by decide +kernel⟩
theorem fX6_314 : gw (.fieldLink RX6 314 "AccentModems" "GREATEST_STREET_NUMBER" "[I") := ⟨List.mem_of_getElem? (i := 438) (by decide +kernel), by decide +kernel⟩
theorem fX6_82 : gw (.fieldLink RX6 82 "AccentModems" "LEAST_SETTING" "[I") := ⟨List.mem_of_getElem? (i := 516) (by decide +kernel), by decide +kernel⟩
theorem fX6_86 : gw (.fieldLink RX6 86 "AccentModems" "GREATEST_SETTING" "[I") := ⟨List.mem_of_getElem? (i := 518) (by decide +kernel), by decide +kernel⟩
theorem inX0 : ∀ w ∈ u_ws RX0 TX0 2, gw w := gw_places [185, 187] (by decide +kernel) (by decide +kernel)
theorem inX1 : ∀ w ∈ u_ws RX1 TX1 5, gw w := gw_places [164, 166, 168, 170, 172] (by decide +kernel) (by decide +kernel)
theorem inX2 : ∀ w ∈ u_ws RX2 TX2 2, gw w := gw_places [200, 202] (by decide +kernel) (by decide +kernel)
theorem inX3 : ∀ w ∈ u_ws RX3 TX3 18, gw w := gw_places [93, 95, 97, 99, 101, 103, 105, 107, 109, 111, 113, 115, 117, 119, 121, 123, 125, 127] (by decide +kernel) (by decide +kernel)
theorem inX4 : ∀ w ∈ u_ws RX4 TX4 3, gw w := gw_places [55, 57, 59] (by decide +kernel) (by decide +kernel)
theorem inX5 : ∀ w ∈ u_ws RX5 TX5 5, gw w := gw_places [143, 145, 147, 149, 151] (by decide +kernel) (by decide +kernel)
theorem inX6 : ∀ w ∈ u_ws RX6 TX6 6, gw w := gw_places [212, 214, 216, 218, 220, 222] (by decide +kernel) (by decide +kernel)
theorem ini_AccentModemsLaw : gw (.initialized "AccentModemsLaw") := ⟨List.mem_of_getElem? (i := 6) (by decide +kernel), by decide +kernel⟩
theorem iniX6 : gw (.initialized RX6) := ⟨List.mem_of_getElem? (i := 7) (by decide +kernel), by decide +kernel⟩
theorem iniX1 : gw (.initialized RX1) := ⟨List.mem_of_getElem? (i := 8) (by decide +kernel), by decide +kernel⟩
theorem iniX5 : gw (.initialized RX5) := ⟨List.mem_of_getElem? (i := 9) (by decide +kernel), by decide +kernel⟩
theorem iniX4 : gw (.initialized RX4) := ⟨List.mem_of_getElem? (i := 10) (by decide +kernel), by decide +kernel⟩
theorem iniX3 : gw (.initialized RX3) := ⟨List.mem_of_getElem? (i := 11) (by decide +kernel), by decide +kernel⟩
theorem iniX0 : gw (.initialized RX0) := ⟨List.mem_of_getElem? (i := 12) (by decide +kernel), by decide +kernel⟩
theorem iniX2 : gw (.initialized RX2) := ⟨List.mem_of_getElem? (i := 13) (by decide +kernel), by decide +kernel⟩
theorem ini_Throwable : gw (.initialized "java/lang/Throwable") := ⟨List.mem_of_getElem? (i := 14) (by decide +kernel), by decide +kernel⟩
theorem ini_Exception : gw (.initialized "java/lang/Exception") := ⟨List.mem_of_getElem? (i := 15) (by decide +kernel), by decide +kernel⟩
theorem ini_RuntimeException : gw (.initialized "java/lang/RuntimeException") := ⟨List.mem_of_getElem? (i := 16) (by decide +kernel), by decide +kernel⟩
theorem ini_IndexOutOfBoundsException : gw (.initialized "java/lang/IndexOutOfBoundsException") := ⟨List.mem_of_getElem? (i := 17) (by decide +kernel), by decide +kernel⟩
theorem ini_IllegalArgumentException : gw (.initialized "java/lang/IllegalArgumentException") := ⟨List.mem_of_getElem? (i := 18) (by decide +kernel), by decide +kernel⟩
theorem ini_Math : gw (.initialized "java/lang/Math") := ⟨List.mem_of_getElem? (i := 19) (by decide +kernel), by decide +kernel⟩
theorem ini_System : gw (.initialized "java/lang/System") := ⟨List.mem_of_getElem? (i := 20) (by decide +kernel), by decide +kernel⟩
theorem ini_IllegalStateException : gw (.initialized "java/lang/IllegalStateException") := ⟨List.mem_of_getElem? (i := 21) (by decide +kernel), by decide +kernel⟩
theorem ini_Integer : gw (.initialized "java/lang/Integer") := ⟨List.mem_of_getElem? (i := 22) (by decide +kernel), by decide +kernel⟩
theorem nL_56 : gw (.classLink RL 56 RX6) := ⟨List.mem_of_getElem? (i := 23) (by decide +kernel), by decide +kernel⟩
theorem insX6 : gw (.instantiable RX6 6) := ⟨List.mem_of_getElem? (i := 24) (by decide +kernel), by decide +kernel⟩
theorem nX6_9 : gw (.classLink RX6 9 RX1) := ⟨List.mem_of_getElem? (i := 31) (by decide +kernel), by decide +kernel⟩
theorem insX1 : gw (.instantiable RX1 5) := ⟨List.mem_of_getElem? (i := 32) (by decide +kernel), by decide +kernel⟩
theorem nX1_9 : gw (.classLink RX1 9 RX5) := ⟨List.mem_of_getElem? (i := 37) (by decide +kernel), by decide +kernel⟩
theorem insX5 : gw (.instantiable RX5 5) := ⟨List.mem_of_getElem? (i := 38) (by decide +kernel), by decide +kernel⟩
theorem nX5_9 : gw (.classLink RX5 9 RX3) := ⟨List.mem_of_getElem? (i := 43) (by decide +kernel), by decide +kernel⟩
theorem nX5_17 : gw (.classLink RX5 17 RX4) := ⟨List.mem_of_getElem? (i := 45) (by decide +kernel), by decide +kernel⟩
theorem insX4 : gw (.instantiable RX4 3) := ⟨List.mem_of_getElem? (i := 46) (by decide +kernel), by decide +kernel⟩
theorem arc_int : gw (.arrayClass .int) := ⟨List.mem_of_getElem? (i := 62) (by decide +kernel), by decide +kernel⟩
theorem insX3 : gw (.instantiable RX3 18) := ⟨List.mem_of_getElem? (i := 63) (by decide +kernel), by decide +kernel⟩
theorem nX6_23 : gw (.classLink RX6 23 RX0) := ⟨List.mem_of_getElem? (i := 176) (by decide +kernel), by decide +kernel⟩
theorem insX0 : gw (.instantiable RX0 2) := ⟨List.mem_of_getElem? (i := 177) (by decide +kernel), by decide +kernel⟩
theorem nX6_30 : gw (.classLink RX6 30 RX2) := ⟨List.mem_of_getElem? (i := 190) (by decide +kernel), by decide +kernel⟩
theorem insX2 : gw (.instantiable RX2 2) := ⟨List.mem_of_getElem? (i := 191) (by decide +kernel), by decide +kernel⟩
theorem arc_char : gw (.arrayClass .char) := ⟨List.mem_of_getElem? (i := 205) (by decide +kernel), by decide +kernel⟩
theorem nX6_57 : gw (.classLink RX6 57 "java/lang/IllegalArgumentException") := ⟨List.mem_of_getElem? (i := 241) (by decide +kernel), by decide +kernel⟩
theorem arc_byte : gw (.arrayClass .byte) := ⟨List.mem_of_getElem? (i := 308) (by decide +kernel), by decide +kernel⟩
theorem kL_7 : gw (.constant RL 7 (1033171367)) := ⟨List.mem_of_getElem? (i := 312) (by decide +kernel), by decide +kernel⟩
theorem nX6_184 : gw (.classLink RX6 184 "java/lang/IndexOutOfBoundsException") := ⟨List.mem_of_getElem? (i := 334) (by decide +kernel), by decide +kernel⟩
theorem nX6_73 : gw (.classLink RX6 73 "java/lang/IllegalStateException") := ⟨List.mem_of_getElem? (i := 493) (by decide +kernel), by decide +kernel⟩
theorem kX1_50 : gw (.constantLong RX1 50 (1103515245)) := ⟨List.mem_of_getElem? (i := 618) (by decide +kernel), by decide +kernel⟩
theorem kX1_52 : gw (.constantLong RX1 52 (12345)) := ⟨List.mem_of_getElem? (i := 619) (by decide +kernel), by decide +kernel⟩
theorem kX1_54 : gw (.constantLong RX1 54 (2147483648)) := ⟨List.mem_of_getElem? (i := 620) (by decide +kernel), by decide +kernel⟩
theorem kX1_56 : gw (.constant RX1 56 (65536)) := ⟨List.mem_of_getElem? (i := 621) (by decide +kernel), by decide +kernel⟩
theorem kL_8 : gw (.constantLong RL 8 (1103515245)) := ⟨List.mem_of_getElem? (i := 684) (by decide +kernel), by decide +kernel⟩
theorem kL_10 : gw (.constantLong RL 10 (12345)) := ⟨List.mem_of_getElem? (i := 685) (by decide +kernel), by decide +kernel⟩
theorem kL_12 : gw (.constantLong RL 12 (2147483648)) := ⟨List.mem_of_getElem? (i := 686) (by decide +kernel), by decide +kernel⟩
theorem kL_14 : gw (.constant RL 14 (65536)) := ⟨List.mem_of_getElem? (i := 687) (by decide +kernel), by decide +kernel⟩
theorem kJ6_265 : gw (.constant RJ6 265 (1431655765)) := ⟨List.mem_of_getElem? (i := 726) (by decide +kernel), by decide +kernel⟩
theorem kJ6_266 : gw (.constant RJ6 266 (858993459)) := ⟨List.mem_of_getElem? (i := 727) (by decide +kernel), by decide +kernel⟩
theorem kJ6_267 : gw (.constant RJ6 267 (252645135)) := ⟨List.mem_of_getElem? (i := 728) (by decide +kernel), by decide +kernel⟩
theorem kX5_43 : gw (.constantLong RX5 43 (1152921504606846975)) := ⟨List.mem_of_getElem? (i := 737) (by decide +kernel), by decide +kernel⟩
theorem kL_49 : gw (.constantLong RL 49 (1152921504606846975)) := ⟨List.mem_of_getElem? (i := 757) (by decide +kernel), by decide +kernel⟩
theorem kL_160 : gw (.constant RL 160 (2147483647)) := ⟨List.mem_of_getElem? (i := 758) (by decide +kernel), by decide +kernel⟩
theorem arc_long : gw (.arrayClass .long) := ⟨List.mem_of_getElem? (i := 759) (by decide +kernel), by decide +kernel⟩
theorem vOi : gw (.instanceMethod objectInit) := ⟨List.mem_of_getElem? (i := 29) (by decide +kernel), by decide +kernel⟩
theorem vOc : gw (.code objectInit ⟨#[0xb1]⟩ 1 none) := ⟨List.mem_of_getElem? (i := 30) (by decide +kernel), by decide +kernel⟩
theorem vMabs : gw (.static Lib.Math.abs.name) ∧ gw (.code Lib.Math.abs.name Lib.Math.abs.code 1 (some .int)) := ⟨⟨List.mem_of_getElem? (i := 382) (by decide +kernel), by decide +kernel⟩, ⟨List.mem_of_getElem? (i := 383) (by decide +kernel), by decide +kernel⟩⟩
theorem vMmax : gw (.static Lib.Math.max.name) ∧ gw (.code Lib.Math.max.name Lib.Math.max.code 2 (some .int)) := ⟨⟨List.mem_of_getElem? (i := 665) (by decide +kernel), by decide +kernel⟩, ⟨List.mem_of_getElem? (i := 666) (by decide +kernel), by decide +kernel⟩⟩
theorem vMmin : gw (.static Lib.Math.min.name) ∧ gw (.code Lib.Math.min.name Lib.Math.min.code 2 (some .int)) := ⟨⟨List.mem_of_getElem? (i := 720) (by decide +kernel), by decide +kernel⟩, ⟨List.mem_of_getElem? (i := 721) (by decide +kernel), by decide +kernel⟩⟩
theorem vAc : gw (.native arraycopyName) ∧ gw (.static arraycopyName) := ⟨⟨List.mem_of_getElem? (i := 467) (by decide +kernel), by decide +kernel⟩, ⟨List.mem_of_getElem? (i := 466) (by decide +kernel), by decide +kernel⟩⟩
set_option maxRecDepth 20000 in
theorem xx_IndexOutOfBoundsException : ∀ w ∈ vx_atS RX6 188 "java/lang/IndexOutOfBoundsException" ["java/lang/RuntimeException", "java/lang/Exception"], goodWord w = true → gw w := by
  have h : ∀ w ∈ (vx_atS RX6 188 "java/lang/IndexOutOfBoundsException" ["java/lang/RuntimeException", "java/lang/Exception"]).filter goodWord, w ∈ lw_tbl := by decide +kernel
  exact fun w hw hg => ⟨h w (List.mem_filter.mpr ⟨hw, hg⟩), hg⟩
theorem xy_IndexOutOfBoundsException : (vx_atS RX6 188 "java/lang/IndexOutOfBoundsException" ["java/lang/RuntimeException", "java/lang/Exception"]).filter (fun w => !goodWord w) = [.declares (Bundle.initS "java/lang/RuntimeException"), .declares (Bundle.initS "java/lang/Exception"), .declares (Bundle.initS "java/lang/Throwable"), .castable "java/lang/IndexOutOfBoundsException" "java/lang/IndexOutOfBoundsException"] := by decide +kernel
set_option maxRecDepth 20000 in
theorem xx_IllegalArgumentException : ∀ w ∈ vx_atS RX6 61 "java/lang/IllegalArgumentException" ["java/lang/RuntimeException", "java/lang/Exception"], goodWord w = true → gw w := by
  have h : ∀ w ∈ (vx_atS RX6 61 "java/lang/IllegalArgumentException" ["java/lang/RuntimeException", "java/lang/Exception"]).filter goodWord, w ∈ lw_tbl := by decide +kernel
  exact fun w hw hg => ⟨h w (List.mem_filter.mpr ⟨hw, hg⟩), hg⟩
theorem xy_IllegalArgumentException : (vx_atS RX6 61 "java/lang/IllegalArgumentException" ["java/lang/RuntimeException", "java/lang/Exception"]).filter (fun w => !goodWord w) = [.declares (Bundle.initS "java/lang/RuntimeException"), .declares (Bundle.initS "java/lang/Exception"), .declares (Bundle.initS "java/lang/Throwable"), .castable "java/lang/IllegalArgumentException" "java/lang/IllegalArgumentException"] := by decide +kernel
set_option maxRecDepth 20000 in
theorem xx_IllegalStateException : ∀ w ∈ vx_atS RX6 77 "java/lang/IllegalStateException" ["java/lang/RuntimeException", "java/lang/Exception"], goodWord w = true → gw w := by
  have h : ∀ w ∈ (vx_atS RX6 77 "java/lang/IllegalStateException" ["java/lang/RuntimeException", "java/lang/Exception"]).filter goodWord, w ∈ lw_tbl := by decide +kernel
  exact fun w hw hg => ⟨h w (List.mem_filter.mpr ⟨hw, hg⟩), hg⟩
theorem xy_IllegalStateException : (vx_atS RX6 77 "java/lang/IllegalStateException" ["java/lang/RuntimeException", "java/lang/Exception"]).filter (fun w => !goodWord w) = [.declares (Bundle.initS "java/lang/RuntimeException"), .declares (Bundle.initS "java/lang/Exception"), .declares (Bundle.initS "java/lang/Throwable"), .castable "java/lang/IllegalStateException" "java/lang/IllegalStateException"] := by decide +kernel
end
section
/-! A LOGIC OVER THE MACHINE, whose heap is a list of cells: 'Ev .. pc lv st ws' says: from the program counter pc, with the locals lv, the operand stack st and the cells ws, the method comes to its end with Pr (or throws, with Px), and makes at most k cells of n slots on the way. -/
abbrev gE : Type := Launch × va_G × (Nat → ClassId) × Nat × (Nat × Nat × (Nat → Int32)) × (Nat → Nat)
abbrev gL (E : gE) : Launch := E.1
abbrev gD (E : gE) : va_G := E.2.1
abbrev gK (E : gE) : Nat → ClassId := E.2.2.1
abbrev gB (E : gE) : Nat := E.2.2.2.1
abbrev gSc (E : gE) : Nat × Nat × (Nat → Int32) := E.2.2.2.2.1
abbrev gT (E : gE) : Nat → Nat := E.2.2.2.2.2
def gA (E : gE) : Nat → Prop := fun q => gB E ≤ q
def gTy (E : gE) : List (ClassId × FieldType) := [(gK E 0, .int), (gK E 1, .long), (gK E 2, .char), (gK E 3, .long), (gK E 4, .object RX3), (gK E 5, .object RX1)]
/-- the four rows of bounds, by number, name, length, contents -/
def gSv (l : List Int32) : Nat → Int32 := fun k => l.getD k 0
def gSt : List (Nat × String × Nat × (Nat → Int32)) := [(0, "LEAST_SETTING", 3, gSv [1, 4, 1]), (1, "GREATEST_SETTING", 3, gSv [64, 40, 50]), (2, "LEAST_STREET_NUMBER", 4, gSv [16, -32, -32, 0]), (3, "GREATEST_STREET_NUMBER", 4, gSv [96, 32, 32, 60])]
def gStr : List (Nat × String) := [(214, "what is not 0 to 12"), (305, "there is no such way"), (307, "there is no such tone"), (177, "what is not 0 to 6"), (179, "what is not 0 to 10"), (321, "beats is not 1 to 100"), (309, "what is not 0 to 3"), (317, "value is out of range"), (59, "bits is not 0 to 4"), (68, "by is not -300 to 300"), (75, "the insult would not be -1000 to 1000"), (319, "there is no such setting"), (89, "value is out of the range of the setting"), (323, "there would be more than 5000 beats"), (124, "code is not 33 to 126"), (129, "the buffer is full"), (142, "the buffer is not a complete row of messages"), (163, "more than 256 bits would wait on a way"), (186, "there are not so many bits")]
def gNest : List (String × Nat × MethodName) := [(RX6, 11, yX1_init), (RX5, 19, yX4_init), (RX5, 24, yX3_init), (RX6, 25, yX0_init), (RX6, 32, yX2_init)]
def xI : String := "java/lang/IndexOutOfBoundsException"
def xA : String := "java/lang/IllegalArgumentException"
def xS : String := "java/lang/IllegalStateException"
def gNc : List (String × String) := [(xA, xI), (xS, xI), (xS, xA)]
def gXn : List String := [xI, xA, xS]
def gXd : List String := ["java/lang/RuntimeException", "java/lang/Exception", "java/lang/Throwable"]
/-- what holds of the tables, the statics, the constants, the script, in every state on the way -/
def WG (E : gE) (U : State) (H : Heap) : Prop :=
  (gL E).stackTraces = false ∧ va_K (gD E) gCl (gTy E) U ∧ (∀ q ∈ gSt, va_Z RX6 q.2.1 "[I" (.ref (gT E q.1)) (gA E) U H ∧ va_T .int (gT E q.1) q.2.2.1 (fun j => .int (q.2.2.2 j)) (gA E) U H ∧ ¬ gA E (gT E q.1)) ∧
  (va_X (gSc E).1 (gSc E).2.1 (gSc E).2.2 U H ∧ ¬ gA E (gSc E).1) ∧ (∀ q ∈ gStr, ∃ a, vk_R RX6 q.1 q.2 a U) ∧
  vx_Zq Bundle.tN "UNASSIGNED_STACK" Bundle.steD (gA E) U H ∧ vx_Zq Bundle.tN "SUPPRESSED_SENTINEL" Bundle.listD (gA E) U H ∧
  (∀ q ∈ gNest, va_Nw (.methodLinkNest q.1 q.2.1 q.2.2 RX6) U) ∧ va_AO RX3 U ∧ va_AO RX1 U ∧ (∀ q ∈ gNc, va_Nc q.1 q.2 U) ∧ (∀ X ∈ gXn, va_Nw (.castable X X) U) ∧ (∀ X ∈ gXd, va_Nw (.declares (Bundle.initS X)) U) ∧ gB E ≤ H.size
theorem va_X_lt {b L : Nat} {xs : Nat → Int32} {U : State} {H : Heap} (h : va_X b L xs U H) : b < H.size := by
  obtain ⟨scr, h1, -⟩ := h
  exact (Array.getElem?_eq_some_iff.mp h1).1
theorem WG_moved {E : gE} {s U : State} {H : Heap} {locs : List Loc} (hW : s.WarmedH U.vm) (hS : va_S (gA E) s.heap H locs) (h : WG E s s.heap) : WG E U H := by
  obtain ⟨h1, h2, h3, h4, h5, h6, h7, h8, h9, h10, h11, h12, h13, h14⟩ := h
  have kq : ∀ a : Nat, a < s.heap.size → ¬ gA E a → H[a]? = s.heap[a]? := hS.2.1
  refine ⟨h1, va_K.moved hW.alike h2, fun q hq => ?_, ?_, fun q hq => ?_, ?_, ?_, fun q hq => va_Nw.warmM hW (h8 q hq), va_AO.moved hW.alike h9, va_AO.moved hW.alike h10, fun q hq => va_Nc.moved hW.alike (h11 q hq), fun X hX => va_Nw.warmC hW (h12 X hX), fun X hX => va_Nw.warmD hW (h13 X hX), Nat.le_trans h14 hS.1⟩
  · obtain ⟨a1, a2, a3⟩ := h3 q hq
    exact ⟨va_Z.moved hW.alike (a1.kept kq), va_T.moved hW.alike (a2.kept kq), a3⟩
  · obtain ⟨a2, a3⟩ := h4
    exact ⟨(va_X.moved hW.alike a2).kept (kq _ (va_X_lt a2) a3), a3⟩
  · obtain ⟨a, ha⟩ := h5 q hq
    exact ⟨a, vk_R.warm hW ha⟩
  · exact vx_Zq.moved hW.alike (h6.kept kq)
  · exact vx_Zq.moved hW.alike (h7.kept kq)
def gP (E : gE) (ws : va_W) (H : Heap) : Prop := va_P (gD E) gCl ws H ∧ va_D (gA E) ws
def gQ (E : gE) (Pr : Option Value → va_W → Prop) : Array Value → State → Outcome → State → Prop := fun _ st oc t => (∃ (v : Option Value) (ws : va_W), oc = .returned v ∧ Pr v ws ∧ gP E ws t.heap) ∧ va_F (gA E) st t
def gXC (E : gE) (Px : String → va_W → Prop) : String → State → State → Prop := fun Ec st t => (∃ ws : va_W, Px Ec ws ∧ gP E ws t.heap) ∧ va_F (gA E) st t
def gPc (E : gE) (av : List Value) (ws : va_W) : Array Value → State → Prop := fun v U => v = av.toArray ∧ WG E U U.heap ∧ gP E ws U.heap
def wsU (Y : MI) : List Cond := Cond.code (mnm Y) (mcd Y) (mml Y) (mrt Y) :: lw_tbl.filter goodWord
def wsW (Y : MI) : List Cond := Cond.codeWith (mnm Y) (mcd Y) (mml Y) (mrt Y) (mhh Y) :: lw_tbl.filter goodWord
def gR (Y : MI) (k n : Nat) : Room := { frames := mdp Y, cells := k, slots := n, locals := 37 * mdp Y }
/-- a method that returns -/
def C0 (E : gE) (Y : MI) (k n : Nat) (av : List Value) (ws : va_W) (Pr : Option Value → va_W → Prop) : Prop := Met (gL E) (mnm Y) (wsU Y) (gR Y k n) (gPc E av ws) (gQ E Pr) k n (gA E)
/-- a method that returns or throws -/
def C1 (E : gE) (Y : MI) (k n : Nat) (av : List Value) (ws : va_W) (Pr : Option Value → va_W → Prop) (Px : String → va_W → Prop) : Prop := vx_Met (gL E) (mnm Y) (wsU Y) (gR Y k n) (gPc E av ws) (gQ E Pr) (gXC E Px) k n (gA E)
/-- a method with handlers, that returns -/
def C2 (E : gE) (Y : MI) (k n : Nat) (av : List Value) (ws : va_W) (Pr : Option Value → va_W → Prop) : Prop := Met (gL E) (mnm Y) (wsW Y) (gR Y k n) (gPc E av ws) (gQ E Pr) k n (gA E)
def Cx (E : gE) (Y : MI) (p : Program) (R : Room) (s : State) (m : MethodId) (args : Array Value) (meth : Method) (c : Code) : Prop :=
  p.tables.exec = Jvm.exec ∧ c.code = mcd Y ∧ meth.sig.returnType = mrt Y ∧ meth.locks = false ∧ c.maxLocals = mml Y ∧ (∀ w, gw w → w.before args s = true) ∧ s.vm.findClass (mnm Y).cls = some m.cls ∧ meth.name = (mnm Y).name ∧ c.exceptionTable.toList = tableOf (mhh Y) ∧ WG E s s.heap ∧ mdp Y ≤ R.frames ∧ 37 * mdp Y ≤ R.locals
def Ev (E : gE) (Y : MI) (Pr : Option Value → va_W → Prop) (Px : String → va_W → Prop) (k n pc : Nat) (lv : List (Nat × Value)) (st : List Value) (ws : va_W) : Prop :=
  ∀ (p : Program) (e : Env) (R : Room) (s : State) (m : MethodId) (args : Array Value) (below : List Frame) (meth : Method) (c : Code) (H : Heap) (locs : List Loc) (cells slots : Nat) (ls : Array Slot),
    Cx E Y p R s m args meth c → lv_has ls (mml Y) lv → va_S (gA E) s.heap H locs → gP E ws H → cells + k ≤ R.cells → slots + n ≤ R.slots →
    W p (gL E) e R s m args below meth c H locs cells slots (vx_MQ below (gQ E Pr) (gXC E Px) args s R.cells R.slots (gA E)) (F0 m pc ls st)
/-- something is thrown over the frame -/
def EvX (E : gE) (Y : MI) (Pr : Option Value → va_W → Prop) (Px : String → va_W → Prop) (k n pc : Nat) (lv : List (Nat × Value)) (Ec : String) (ws : va_W) : Prop :=
  ∀ (p : Program) (e : Env) (R : Room) (s : State) (m : MethodId) (args : Array Value) (below : List Frame) (meth : Method) (c : Code) (H : Heap) (locs : List Loc) (cells slots : Nat) (ls : Array Slot) (rest : List Value) (q : Nat) (ce : Cell),
    Cx E Y p R s m args meth c → lv_has ls (mml Y) lv → va_S (gA E) s.heap H locs → gP E ws H → cells + k ≤ R.cells → slots + n ≤ R.slots → H[q]? = some ce → ce.vm = .none → s.vm.findClass Ec = some ce.cls →
    vx_W p (gL E) e R s m args below meth c H locs cells slots (vx_MQ below (gQ E Pr) (gXC E Px) args s R.cells R.slots (gA E)) (F0 m pc ls rest) q
/-! the instructions that touch neither heap nor tables -/
def lgt : List (Nat × Value) → Nat → Option Value
  | [], _ => none
  | q :: r, i => if q.1 = i then some q.2 else lgt r i
theorem lgt_mem : ∀ (lv : List (Nat × Value)) (i : Nat) (v : Value), lgt lv i = some v → (i, v) ∈ lv
  | [], i, v, h => by simp [lgt] at h
  | q :: r, i, v, h => by
    unfold lgt at h
    by_cases hq : q.1 = i
    · rw [if_pos hq] at h
      cases h
      subst hq
      exact List.mem_cons_self
    · rw [if_neg hq] at h
      exact List.mem_cons_of_mem _ (lgt_mem r i v h)
theorem lgt_at {ls : Array Slot} {nL : Nat} {lv : List (Nat × Value)} {i : Nat} {v : Value} (hl : lv_has ls nL lv) (h : lgt lv i = some v) : ls[i]? = some (.val v) := hl.2.2 _ (lgt_mem lv i v h)
def ls1 (lv : List (Nat × Value)) (i : Nat) (v : Value) : List (Nat × Value) := (i, v) :: lv.filter (fun q => !(q.1 == i) && !(q.1 + 1 == i && q.2.category == 2))
def ls2 (lv : List (Nat × Value)) (i : Nat) (v : Value) : List (Nat × Value) := (i, v) :: lv.filter (fun q => !(q.1 == i) && (!(q.1 == i + 1) && !(q.1 + 1 == i && q.2.category == 2)))
/-- a written number -/
def icst : Int → Int32
  | .ofNat n => Int32.ofNat n
  | .negSucc n => -(Int32.ofNat (n + 1))
theorem icst_eq : ∀ d : Int, Int32.ofInt d = icst d
  | .ofNat n => Int32.ofInt_eq_ofNat
  | .negSucc n => by
    show Int32.ofInt (-((n + 1 : Nat) : Int)) = -(Int32.ofNat (n + 1))
    rw [Int32.ofInt_neg, Int32.ofInt_eq_ofNat]
abbrev sR : Type := Option (List (Nat × Value) × List Value)
def s_int (lv : List (Nat × Value)) (st : List Value) : Option Value → sR
  | some (.int x) => some (lv, .int x :: st)
  | _ => none
def s_ref (lv : List (Nat × Value)) (st : List Value) : Option Value → sR
  | some (.ref x) => some (lv, .ref x :: st)
  | _ => none
def s_long (lv : List (Nat × Value)) (st : List Value) : Option Value → sR
  | some (.long x) => some (lv, .long x :: st)
  | _ => none
def s_dbl (lv : List (Nat × Value)) (st : List Value) : Option Value → sR
  | some (.double x) => some (lv, .double x :: st)
  | _ => none
def st_int (nL : Nat) (lv : List (Nat × Value)) (i : Nat) : List Value → sR
  | .int x :: r => if i < nL then some (ls1 lv i (.int x), r) else none
  | _ => none
def st_ref (nL : Nat) (lv : List (Nat × Value)) (i : Nat) : List Value → sR
  | .ref x :: r => if i < nL then some (ls1 lv i (.ref x), r) else none
  | _ => none
def st_long (nL : Nat) (lv : List (Nat × Value)) (i : Nat) : List Value → sR
  | .long x :: r => if i + 1 < nL then some (ls2 lv i (.long x), r) else none
  | _ => none
def st_dbl (nL : Nat) (lv : List (Nat × Value)) (i : Nat) : List Value → sR
  | .double x :: r => if i + 1 < nL then some (ls2 lv i (.double x), r) else none
  | _ => none
def s_ii (lv : List (Nat × Value)) (f : Int32 → Int32 → Int32) : List Value → sR
  | .int y :: .int x :: r => some (lv, .int (f x y) :: r)
  | _ => none
def s_jj (lv : List (Nat × Value)) (f : Int64 → Int64 → Int64) : List Value → sR
  | .long y :: .long x :: r => some (lv, .long (f x y) :: r)
  | _ => none
def s_i (lv : List (Nat × Value)) (f : Int32 → Value) : List Value → sR
  | .int x :: r => some (lv, f x :: r)
  | _ => none
def s_j (lv : List (Nat × Value)) (f : Int64 → Value) : List Value → sR
  | .long x :: r => some (lv, f x :: r)
  | _ => none
def s_d (lv : List (Nat × Value)) (f : UInt64 → Value) : List Value → sR
  | .double x :: r => some (lv, f x :: r)
  | _ => none
def s_inc (nL : Nat) (lv : List (Nat × Value)) (st : List Value) (i : Nat) (d : Int) : Option Value → sR
  | some (.int x) => if i < nL then some (ls1 lv i (.int (x + icst d)), st) else none
  | _ => none
def s_lsh (lv : List (Nat × Value)) : List Value → sR
  | .int y :: .long x :: r => some (lv, .long (x <<< (y.toInt64 &&& 63)) :: r)
  | _ => none
def s_lcm (lv : List (Nat × Value)) : List Value → sR
  | .long y :: .long x :: r => some (lv, .int (lg_cmp x y) :: r)
  | _ => none
def s_dcm (lv : List (Nat × Value)) (op : CmpOp) : List Value → sR
  | .double y :: .double x :: r => some (lv, .int (Op.cmpValue (FP.dcmp x y) op) :: r)
  | _ => none
def s_dup (lv : List (Nat × Value)) : List Value → sR
  | v :: r => if v.category = 1 then some (lv, v :: v :: r) else none
  | _ => none
def s_dup2 (lv : List (Nat × Value)) : List Value → sR
  | v :: w :: r => if v.category = 1 ∧ w.category = 1 then some (lv, v :: w :: v :: w :: r) else none
  | _ => none
def s_pop (lv : List (Nat × Value)) : List Value → sR
  | v :: r => if v.category = 1 then some (lv, r) else none
  | _ => none
def simA (lv : List (Nat × Value)) (st : List Value) : Instr → sR
  | .iload_n k => s_int lv st (lgt lv k.val)
  | .iload i => s_int lv st (lgt lv i)
  | .aload_n k => s_ref lv st (lgt lv k.val)
  | .aload i => s_ref lv st (lgt lv i)
  | .lload_n k => s_long lv st (lgt lv k.val)
  | .lload i => s_long lv st (lgt lv i)
  | .dload_n k => s_dbl lv st (lgt lv k.val)
  | .dload i => s_dbl lv st (lgt lv i)
  | .iconst d => some (lv, .int (icst d) :: st)
  | .bipush d => if -128 ≤ d ∧ d ≤ 127 then some (lv, .int (icst d) :: st) else none
  | .sipush d => if -32768 ≤ d ∧ d ≤ 32767 then some (lv, .int (icst d) :: st) else none
  | .lconst d => some (lv, .long (Int64.ofNat d.val) :: st)
  | _ => none
def simB (nL : Nat) (lv : List (Nat × Value)) (st : List Value) : Instr → sR
  | .istore_n k => st_int nL lv k.val st
  | .istore i => st_int nL lv i st
  | .astore_n k => st_ref nL lv k.val st
  | .astore i => st_ref nL lv i st
  | .lstore_n k => st_long nL lv k.val st
  | .lstore i => st_long nL lv i st
  | .dstore_n k => st_dbl nL lv k.val st
  | .dstore i => st_dbl nL lv i st
  | .iinc i d => s_inc nL lv st i d (lgt lv i)
  | _ => none
def simC (lv : List (Nat × Value)) (st : List Value) : Instr → sR
  | .iadd => s_ii lv (fun x y => x + y) st
  | .isub => s_ii lv (fun x y => x - y) st
  | .imul => s_ii lv (fun x y => x * y) st
  | .iand => s_ii lv (fun x y => x &&& y) st
  | .ixor => s_ii lv (fun x y => x ^^^ y) st
  | .ishl => s_ii lv (fun x y => x <<< (y &&& 31)) st
  | .ishr => s_ii lv (fun x y => x >>> (y &&& 31)) st
  | .iushr => s_ii lv (fun x y => (x.toUInt32 >>> (y.toUInt32 &&& Int32.toUInt32 31)).toInt32) st
  | .ineg => s_i lv (fun x => .int (-x)) st
  | .ladd => s_jj lv (fun x y => x + y) st
  | .lsub => s_jj lv (fun x y => x - y) st
  | .lmul => s_jj lv (fun x y => x * y) st
  | .land => s_jj lv (fun x y => x &&& y) st
  | .lor => s_jj lv (fun x y => x ||| y) st
  | _ => none
def simD (lv : List (Nat × Value)) (st : List Value) : Instr → sR
  | .lshl => s_lsh lv st
  | .lcmp => s_lcm lv st
  | .dcmp op => s_dcm lv op st
  | .i2l => s_i lv (fun x => .long x.toInt64) st
  | .l2i => s_j lv (fun x => .int x.toInt32) st
  | .i2d => s_i lv (fun x => .double (FP.i2d x)) st
  | .d2l => s_d lv (fun x => .long (FP.d2l x)) st
  | .i2c => s_i lv (fun x => .int (x.toUInt32 % 65536).toInt32) st
  | .dup => s_dup lv st
  | .dup2 => s_dup2 lv st
  | .pop => s_pop lv st
  | _ => none
def sim1 (nL : Nat) (ins : Instr) (lv : List (Nat × Value)) (st : List Value) : sR :=
  match simA lv st ins with
  | some r => some r
  | none => match simB nL lv st ins with
    | some r => some r
    | none => match simC lv st ins with
      | some r => some r
      | none => simD lv st ins
end
section
def slen : Instr → Nat
  | .iload _ => 2
  | .aload _ => 2
  | .lload _ => 2
  | .dload _ => 2
  | .istore _ => 2
  | .astore _ => 2
  | .lstore _ => 2
  | .dstore _ => 2
  | .bipush _ => 2
  | .sipush _ => 3
  | .iinc _ _ => 3
  | _ => 1
theorem s_int_spec {lv lv' : List (Nat × Value)} {st st' : List Value} {o : Option Value} (h : s_int lv st o = some (lv', st')) : ∃ x, o = some (.int x) ∧ lv' = lv ∧ st' = .int x :: st := by
  unfold s_int at h
  split at h
  · cases h; exact ⟨_, rfl, rfl, rfl⟩
  · cases h
theorem s_ref_spec {lv lv' : List (Nat × Value)} {st st' : List Value} {o : Option Value} (h : s_ref lv st o = some (lv', st')) : ∃ x, o = some (.ref x) ∧ lv' = lv ∧ st' = .ref x :: st := by
  unfold s_ref at h
  split at h
  · cases h; exact ⟨_, rfl, rfl, rfl⟩
  · cases h
theorem s_long_spec {lv lv' : List (Nat × Value)} {st st' : List Value} {o : Option Value} (h : s_long lv st o = some (lv', st')) : ∃ x, o = some (.long x) ∧ lv' = lv ∧ st' = .long x :: st := by
  unfold s_long at h
  split at h
  · cases h; exact ⟨_, rfl, rfl, rfl⟩
  · cases h
theorem s_dbl_spec {lv lv' : List (Nat × Value)} {st st' : List Value} {o : Option Value} (h : s_dbl lv st o = some (lv', st')) : ∃ x, o = some (.double x) ∧ lv' = lv ∧ st' = .double x :: st := by
  unfold s_dbl at h
  split at h
  · cases h; exact ⟨_, rfl, rfl, rfl⟩
  · cases h
theorem st_int_spec {nL i : Nat} {lv lv' : List (Nat × Value)} {st st' : List Value} (h : st_int nL lv i st = some (lv', st')) : ∃ x, st = .int x :: st' ∧ lv' = ls1 lv i (.int x) ∧ i < nL := by
  unfold st_int at h
  split at h
  · split at h
    · cases h; exact ⟨_, rfl, rfl, by assumption⟩
    · cases h
  · cases h
theorem st_ref_spec {nL i : Nat} {lv lv' : List (Nat × Value)} {st st' : List Value} (h : st_ref nL lv i st = some (lv', st')) : ∃ x, st = .ref x :: st' ∧ lv' = ls1 lv i (.ref x) ∧ i < nL := by
  unfold st_ref at h
  split at h
  · split at h
    · cases h; exact ⟨_, rfl, rfl, by assumption⟩
    · cases h
  · cases h
theorem st_long_spec {nL i : Nat} {lv lv' : List (Nat × Value)} {st st' : List Value} (h : st_long nL lv i st = some (lv', st')) : ∃ x, st = .long x :: st' ∧ lv' = ls2 lv i (.long x) ∧ i + 1 < nL := by
  unfold st_long at h
  split at h
  · split at h
    · cases h; exact ⟨_, rfl, rfl, by assumption⟩
    · cases h
  · cases h
theorem st_dbl_spec {nL i : Nat} {lv lv' : List (Nat × Value)} {st st' : List Value} (h : st_dbl nL lv i st = some (lv', st')) : ∃ x, st = .double x :: st' ∧ lv' = ls2 lv i (.double x) ∧ i + 1 < nL := by
  unfold st_dbl at h
  split at h
  · split at h
    · cases h; exact ⟨_, rfl, rfl, by assumption⟩
    · cases h
  · cases h
theorem s_ii_spec {lv lv' : List (Nat × Value)} {st st' : List Value} {f : Int32 → Int32 → Int32} (h : s_ii lv f st = some (lv', st')) : ∃ x y r, st = .int y :: .int x :: r ∧ lv' = lv ∧ st' = .int (f x y) :: r := by
  unfold s_ii at h
  split at h
  · cases h; exact ⟨_, _, _, rfl, rfl, rfl⟩
  · cases h
theorem s_jj_spec {lv lv' : List (Nat × Value)} {st st' : List Value} {f : Int64 → Int64 → Int64} (h : s_jj lv f st = some (lv', st')) : ∃ x y r, st = .long y :: .long x :: r ∧ lv' = lv ∧ st' = .long (f x y) :: r := by
  unfold s_jj at h
  split at h
  · cases h; exact ⟨_, _, _, rfl, rfl, rfl⟩
  · cases h
theorem s_i_spec {lv lv' : List (Nat × Value)} {st st' : List Value} {f : Int32 → Value} (h : s_i lv f st = some (lv', st')) : ∃ x r, st = .int x :: r ∧ lv' = lv ∧ st' = f x :: r := by
  unfold s_i at h
  split at h
  · cases h; exact ⟨_, _, rfl, rfl, rfl⟩
  · cases h
theorem s_j_spec {lv lv' : List (Nat × Value)} {st st' : List Value} {f : Int64 → Value} (h : s_j lv f st = some (lv', st')) : ∃ x r, st = .long x :: r ∧ lv' = lv ∧ st' = f x :: r := by
  unfold s_j at h
  split at h
  · cases h; exact ⟨_, _, rfl, rfl, rfl⟩
  · cases h
theorem s_d_spec {lv lv' : List (Nat × Value)} {st st' : List Value} {f : UInt64 → Value} (h : s_d lv f st = some (lv', st')) : ∃ x r, st = .double x :: r ∧ lv' = lv ∧ st' = f x :: r := by
  unfold s_d at h
  split at h
  · cases h; exact ⟨_, _, rfl, rfl, rfl⟩
  · cases h
theorem s_inc_spec {nL i : Nat} {d : Int} {lv lv' : List (Nat × Value)} {st st' : List Value} {o : Option Value} (h : s_inc nL lv st i d o = some (lv', st')) : ∃ x, o = some (.int x) ∧ lv' = ls1 lv i (.int (x + icst d)) ∧ st' = st ∧ i < nL := by
  unfold s_inc at h
  split at h
  · split at h
    · cases h; exact ⟨_, rfl, rfl, rfl, by assumption⟩
    · cases h
  · cases h
section SIM
variable {p : Program} {l : Launch} {e : Env} {R : Room} {s : State} {m : MethodId} {args : Array Value} {below : List Frame} {meth : Method} {c : Code} {H : Heap} {locs : List Loc} {cells slots : Nat} {Q : State → Prop}
variable {cc : ByteArray} {pc nL : Nat} {ls : Array Slot} {lv lv' : List (Nat × Value)} {st st' : List Value} {ins : Instr}
theorem simA_W (hx : p.tables.exec = Jvm.exec) (hb : c.code = cc) (hdg : decode cc pc = .ok (ins, slen ins)) (hl : lv_has ls nL lv) (hs : simA lv st ins = some (lv', st'))
    (kk : ∀ ls', lv_has ls' nL lv' → W p l e R s m args below meth c H locs cells slots Q (F0 m (pc + slen ins) ls' st')) : W p l e R s m args below meth c H locs cells slots Q (F0 m pc ls st) := by
  unfold simA at hs
  split at hs
  · obtain ⟨x, h1, rfl, rfl⟩ := s_int_spec hs
    exact lv_iload_n hx hb hdg rfl (lgt_at hl h1) (kk _ hl)
  · obtain ⟨x, h1, rfl, rfl⟩ := s_int_spec hs
    exact lv_iload hx hb hdg (lgt_at hl h1) (kk _ hl)
  · obtain ⟨x, h1, rfl, rfl⟩ := s_ref_spec hs
    exact lv_aload_n hx hb hdg rfl (lgt_at hl h1) (kk _ hl)
  · obtain ⟨x, h1, rfl, rfl⟩ := s_ref_spec hs
    exact lv_aload hx hb hdg (lgt_at hl h1) (kk _ hl)
  · obtain ⟨x, h1, rfl, rfl⟩ := s_long_spec hs
    exact lv_lload_n hx hb hdg rfl (lgt_at hl h1) (kk _ hl)
  · obtain ⟨x, h1, rfl, rfl⟩ := s_long_spec hs
    exact lv_lload hx hb hdg (lgt_at hl h1) (kk _ hl)
  · obtain ⟨x, h1, rfl, rfl⟩ := s_dbl_spec hs
    exact lv_dload_n hx hb hdg rfl (lgt_at hl h1) (kk _ hl)
  · obtain ⟨x, h1, rfl, rfl⟩ := s_dbl_spec hs
    exact lv_dload hx hb hdg (lgt_at hl h1) (kk _ hl)
  · cases hs
    exact lv_iconst hx hb hdg (icst_eq _) (kk _ hl)
  · split at hs
    · rename_i h
      cases hs
      exact lv_bipush hx hb hdg ((Int8.toInt32_ofInt h.1 h.2).trans (icst_eq _)) (kk _ hl)
    · cases hs
  · split at hs
    · rename_i h
      cases hs
      exact lv_sipush hx hb hdg ((Int16.toInt32_ofInt h.1 h.2).trans (icst_eq _)) (kk _ hl)
    · cases hs
  · cases hs
    exact lv_lconst hx hb hdg rfl (kk _ hl)
  · cases hs
theorem simB_W (hx : p.tables.exec = Jvm.exec) (hb : c.code = cc) (hdg : decode cc pc = .ok (ins, slen ins)) (hl : lv_has ls nL lv) (hs : simB nL lv st ins = some (lv', st'))
    (kk : ∀ ls', lv_has ls' nL lv' → W p l e R s m args below meth c H locs cells slots Q (F0 m (pc + slen ins) ls' st')) : W p l e R s m args below meth c H locs cells slots Q (F0 m pc ls st) := by
  unfold simB at hs
  split at hs
  · obtain ⟨x, rfl, rfl, h1⟩ := st_int_spec hs
    exact lv_istore_n hx hb hdg rfl hl h1 rfl (fun ls' h => kk ls' h)
  · obtain ⟨x, rfl, rfl, h1⟩ := st_int_spec hs
    exact lv_istore hx hb hdg hl h1 rfl (fun ls' h => kk ls' h)
  · obtain ⟨x, rfl, rfl, h1⟩ := st_ref_spec hs
    exact lv_astore_n hx hb hdg rfl hl h1 rfl (fun ls' h => kk ls' h)
  · obtain ⟨x, rfl, rfl, h1⟩ := st_ref_spec hs
    exact lv_astore hx hb hdg hl h1 rfl (fun ls' h => kk ls' h)
  · obtain ⟨x, rfl, rfl, h1⟩ := st_long_spec hs
    exact lv_lstore_n hx hb hdg rfl hl h1 rfl (fun ls' h => kk ls' h)
  · obtain ⟨x, rfl, rfl, h1⟩ := st_long_spec hs
    exact lv_lstore hx hb hdg hl h1 rfl (fun ls' h => kk ls' h)
  · obtain ⟨x, rfl, rfl, h1⟩ := st_dbl_spec hs
    exact lv_dstore_n hx hb hdg rfl hl h1 rfl (fun ls' h => kk ls' h)
  · obtain ⟨x, rfl, rfl, h1⟩ := st_dbl_spec hs
    exact lv_dstore hx hb hdg hl h1 rfl (fun ls' h => kk ls' h)
  · obtain ⟨x, h1, rfl, rfl, h2⟩ := s_inc_spec hs
    obtain ⟨j, hj⟩ := List.getElem?_of_mem (lgt_mem _ _ _ h1)
    exact lv_iinc hx hb hdg hl hj (by rw [icst_eq]) h2 rfl (fun ls' h => kk ls' h)
  · cases hs
theorem simC_W (hx : p.tables.exec = Jvm.exec) (hb : c.code = cc) (hdg : decode cc pc = .ok (ins, slen ins)) (hl : lv_has ls nL lv) (hs : simC lv st ins = some (lv', st'))
    (kk : ∀ ls', lv_has ls' nL lv' → W p l e R s m args below meth c H locs cells slots Q (F0 m (pc + slen ins) ls' st')) : W p l e R s m args below meth c H locs cells slots Q (F0 m pc ls st) := by
  unfold simC at hs
  split at hs
  · obtain ⟨x, y, r, rfl, rfl, rfl⟩ := s_ii_spec hs
    exact lv_iadd hx hb hdg (kk _ hl)
  · obtain ⟨x, y, r, rfl, rfl, rfl⟩ := s_ii_spec hs
    exact lv_isub hx hb hdg (kk _ hl)
  · obtain ⟨x, y, r, rfl, rfl, rfl⟩ := s_ii_spec hs
    exact lv_imul hx hb hdg (kk _ hl)
  · obtain ⟨x, y, r, rfl, rfl, rfl⟩ := s_ii_spec hs
    exact lv_iand hx hb hdg (kk _ hl)
  · obtain ⟨x, y, r, rfl, rfl, rfl⟩ := s_ii_spec hs
    exact lv_ixor hx hb hdg (kk _ hl)
  · obtain ⟨x, y, r, rfl, rfl, rfl⟩ := s_ii_spec hs
    exact lv_ishl hx hb hdg (kk _ hl)
  · obtain ⟨x, y, r, rfl, rfl, rfl⟩ := s_ii_spec hs
    exact lv_ishr hx hb hdg (kk _ hl)
  · obtain ⟨x, y, r, rfl, rfl, rfl⟩ := s_ii_spec hs
    exact lv_iushr hx hb hdg rfl (kk _ hl)
  · obtain ⟨x, r, rfl, rfl, rfl⟩ := s_i_spec hs
    exact lv_ineg hx hb hdg (kk _ hl)
  · obtain ⟨x, y, r, rfl, rfl, rfl⟩ := s_jj_spec hs
    exact lv_ladd hx hb hdg (kk _ hl)
  · obtain ⟨x, y, r, rfl, rfl, rfl⟩ := s_jj_spec hs
    exact lv_lsub hx hb hdg (kk _ hl)
  · obtain ⟨x, y, r, rfl, rfl, rfl⟩ := s_jj_spec hs
    exact lv_lmul hx hb hdg (kk _ hl)
  · obtain ⟨x, y, r, rfl, rfl, rfl⟩ := s_jj_spec hs
    exact lv_land hx hb hdg (kk _ hl)
  · obtain ⟨x, y, r, rfl, rfl, rfl⟩ := s_jj_spec hs
    exact lv_lor hx hb hdg (kk _ hl)
  · cases hs
theorem simD_W (hx : p.tables.exec = Jvm.exec) (hb : c.code = cc) (hdg : decode cc pc = .ok (ins, slen ins)) (hl : lv_has ls nL lv) (hs : simD lv st ins = some (lv', st'))
    (kk : ∀ ls', lv_has ls' nL lv' → W p l e R s m args below meth c H locs cells slots Q (F0 m (pc + slen ins) ls' st')) : W p l e R s m args below meth c H locs cells slots Q (F0 m pc ls st) := by
  unfold simD at hs
  split at hs
  · unfold s_lsh at hs
    split at hs
    · cases hs; exact lv_lshl hx hb hdg rfl (kk _ hl)
    · cases hs
  · unfold s_lcm at hs
    split at hs
    · cases hs; exact W.lcmp hx hb hdg (kk _ hl)
    · cases hs
  · unfold s_dcm at hs
    split at hs
    · cases hs; exact lv_dcmp hx hb hdg (kk _ hl)
    · cases hs
  · obtain ⟨x, r, rfl, rfl, rfl⟩ := s_i_spec hs
    exact lv_i2l hx hb hdg rfl (kk _ hl)
  · obtain ⟨x, r, rfl, rfl, rfl⟩ := s_j_spec hs
    exact lv_l2i hx hb hdg rfl (kk _ hl)
  · obtain ⟨x, r, rfl, rfl, rfl⟩ := s_i_spec hs
    exact lv_i2d hx hb hdg (kk _ hl)
  · obtain ⟨x, r, rfl, rfl, rfl⟩ := s_d_spec hs
    exact lv_d2l hx hb hdg (kk _ hl)
  · obtain ⟨x, r, rfl, rfl, rfl⟩ := s_i_spec hs
    exact lv_i2c hx hb hdg rfl (kk _ hl)
  · unfold s_dup at hs
    split at hs
    · split at hs
      · cases hs; exact lv_dup hx hb hdg (by assumption) (kk _ hl)
      · cases hs
    · cases hs
  · unfold s_dup2 at hs
    split at hs
    · split at hs
      · rename_i h
        cases hs; exact lv_dup2_11 hx hb hdg h.1 h.2 (kk _ hl)
      · cases hs
    · cases hs
  · unfold s_pop at hs
    split at hs
    · split at hs
      · cases hs; exact lv_pop hx hb hdg (by assumption) (kk _ hl)
      · cases hs
    · cases hs
  · cases hs
theorem sim1_W (hx : p.tables.exec = Jvm.exec) (hb : c.code = cc) (hdg : decode cc pc = .ok (ins, slen ins)) (hl : lv_has ls nL lv) (hs : sim1 nL ins lv st = some (lv', st'))
    (kk : ∀ ls', lv_has ls' nL lv' → W p l e R s m args below meth c H locs cells slots Q (F0 m (pc + slen ins) ls' st')) : W p l e R s m args below meth c H locs cells slots Q (F0 m pc ls st) := by
  unfold sim1 at hs
  split at hs
  · rename_i r h
    cases hs
    exact simA_W hx hb hdg hl h kk
  · split at hs
    · rename_i r h
      cases hs
      exact simB_W hx hb hdg hl h kk
    · split at hs
      · rename_i r h
        cases hs
        exact simC_W hx hb hdg hl h kk
      · exact simD_W hx hb hdg hl hs kk
end SIM
/-- n instructions from the i-th row of a listing on -/
def simN (nL : Nat) (L : LI) : Nat → Nat → Nat → List (Nat × Value) → List Value → Option (Nat × List (Nat × Value) × List Value)
  | 0, _, pc, lv, st => some (pc, lv, st)
  | n + 1, i, pc, lv, st => match L[i]? with
    | some q => if q.1 = pc then (if q.2.2 = slen q.2.1 then (match sim1 nL q.2.1 lv st with
      | some r => simN nL L n (i + 1) (pc + slen q.2.1) r.1 r.2
      | none => none) else none) else none
    | none => none
theorem ev_ss {E : gE} {Y : MI} {Pr : Option Value → va_W → Prop} {Px : String → va_W → Prop} {k n : Nat} {ws : va_W} {L : LI} (D : Lst Y L) (N i : Nat) {pc pc' : Nat} {lv lv' : List (Nat × Value)} {st st' : List Value} (hs : simN (mml Y) L N i pc lv st = some (pc', lv', st'))
    (kk : Ev E Y Pr Px k n pc' lv' st' ws) : Ev E Y Pr Px k n pc lv st ws := by
  induction N generalizing i pc lv st with
  | zero =>
    simp only [simN] at hs
    cases hs
    exact kk
  | succ N ih =>
    simp only [simN] at hs
    split at hs
    · rename_i q hq
      split at hs
      · rename_i h1
        split at hs
        · rename_i h2
          split at hs
          · rename_i r hr
            have hk := ih (i + 1) hs
            intro p e R s m args below meth c H locs cells slots ls hC hl hS hP hc hn
            have hd := D q (List.mem_of_getElem? hq)
            rw [h1] at hd
            have hd' : decode (mcd Y) pc = .ok (q.2.1, slen q.2.1) := by rw [hd, ← h2]
            exact sim1_W hC.1 hC.2.1 hd' hl hr (fun ls' hl' => hk p e R s m args below meth c H locs cells slots ls' hC hl' hS hP hc hn)
          · cases hs
        · cases hs
      · cases hs
    · cases hs
end
section
section EVR
variable {E : gE} {Y : MI} {Pr : Option Value → va_W → Prop} {Px : String → va_W → Prop} {k n : Nat} {ws : va_W} {L : LI} {pc : Nat} {lv : List (Nat × Value)} {st : List Value}
theorem ev_ifeq (D : Lst Y L) (i : Nat) {x : Int32} {off : Int} {tgt : Nat} (hi : L[i]? = some (pc, .ifCond .eq off, 3)) (ht : (pc : Int) + off = (tgt : Int))
    (kt : x = 0 → Ev E Y Pr Px k n tgt lv st ws) (kf : ¬ x = 0 → Ev E Y Pr Px k n (pc + 3) lv st ws) : Ev E Y Pr Px k n pc lv (.int x :: st) ws := by
  intro p e R s m args below meth c H locs cells slots ls hC hl hS hP hc hn
  have hd := D _ (List.mem_of_getElem? hi)
  exact lv_if_eq hC.1 hC.2.1 hd ht (fun h => kt h p e R s m args below meth c H locs cells slots ls hC hl hS hP hc hn) (fun h => kf h p e R s m args below meth c H locs cells slots ls hC hl hS hP hc hn)
theorem ev_iceq (D : Lst Y L) (i : Nat) {x y : Int32} {off : Int} {tgt : Nat} (hi : L[i]? = some (pc, .if_icmp .eq off, 3)) (ht : (pc : Int) + off = (tgt : Int))
    (kt : x = y → Ev E Y Pr Px k n tgt lv st ws) (kf : ¬ x = y → Ev E Y Pr Px k n (pc + 3) lv st ws) : Ev E Y Pr Px k n pc lv (.int y :: .int x :: st) ws := by
  intro p e R s m args below meth c H locs cells slots ls hC hl hS hP hc hn
  have hd := D _ (List.mem_of_getElem? hi)
  exact lv_icmp_eq hC.1 hC.2.1 hd ht (fun h => kt h p e R s m args below meth c H locs cells slots ls hC hl hS hP hc hn) (fun h => kf h p e R s m args below meth c H locs cells slots ls hC hl hS hP hc hn)
theorem ev_ifne (D : Lst Y L) (i : Nat) {x : Int32} {off : Int} {tgt : Nat} (hi : L[i]? = some (pc, .ifCond .ne off, 3)) (ht : (pc : Int) + off = (tgt : Int))
    (kt : ¬ x = 0 → Ev E Y Pr Px k n tgt lv st ws) (kf : x = 0 → Ev E Y Pr Px k n (pc + 3) lv st ws) : Ev E Y Pr Px k n pc lv (.int x :: st) ws := by
  intro p e R s m args below meth c H locs cells slots ls hC hl hS hP hc hn
  have hd := D _ (List.mem_of_getElem? hi)
  exact lv_if_ne hC.1 hC.2.1 hd ht (fun h => kt h p e R s m args below meth c H locs cells slots ls hC hl hS hP hc hn) (fun h => kf h p e R s m args below meth c H locs cells slots ls hC hl hS hP hc hn)
theorem ev_icne (D : Lst Y L) (i : Nat) {x y : Int32} {off : Int} {tgt : Nat} (hi : L[i]? = some (pc, .if_icmp .ne off, 3)) (ht : (pc : Int) + off = (tgt : Int))
    (kt : ¬ x = y → Ev E Y Pr Px k n tgt lv st ws) (kf : x = y → Ev E Y Pr Px k n (pc + 3) lv st ws) : Ev E Y Pr Px k n pc lv (.int y :: .int x :: st) ws := by
  intro p e R s m args below meth c H locs cells slots ls hC hl hS hP hc hn
  have hd := D _ (List.mem_of_getElem? hi)
  exact lv_icmp_ne hC.1 hC.2.1 hd ht (fun h => kt h p e R s m args below meth c H locs cells slots ls hC hl hS hP hc hn) (fun h => kf h p e R s m args below meth c H locs cells slots ls hC hl hS hP hc hn)
theorem ev_iflt (D : Lst Y L) (i : Nat) {x : Int32} {off : Int} {tgt : Nat} (hi : L[i]? = some (pc, .ifCond .lt off, 3)) (ht : (pc : Int) + off = (tgt : Int))
    (kt : x < 0 → Ev E Y Pr Px k n tgt lv st ws) (kf : ¬ x < 0 → Ev E Y Pr Px k n (pc + 3) lv st ws) : Ev E Y Pr Px k n pc lv (.int x :: st) ws := by
  intro p e R s m args below meth c H locs cells slots ls hC hl hS hP hc hn
  have hd := D _ (List.mem_of_getElem? hi)
  exact lv_if_lt hC.1 hC.2.1 hd ht (fun h => kt h p e R s m args below meth c H locs cells slots ls hC hl hS hP hc hn) (fun h => kf h p e R s m args below meth c H locs cells slots ls hC hl hS hP hc hn)
theorem ev_iclt (D : Lst Y L) (i : Nat) {x y : Int32} {off : Int} {tgt : Nat} (hi : L[i]? = some (pc, .if_icmp .lt off, 3)) (ht : (pc : Int) + off = (tgt : Int))
    (kt : x < y → Ev E Y Pr Px k n tgt lv st ws) (kf : ¬ x < y → Ev E Y Pr Px k n (pc + 3) lv st ws) : Ev E Y Pr Px k n pc lv (.int y :: .int x :: st) ws := by
  intro p e R s m args below meth c H locs cells slots ls hC hl hS hP hc hn
  have hd := D _ (List.mem_of_getElem? hi)
  exact lv_icmp_lt hC.1 hC.2.1 hd ht (fun h => kt h p e R s m args below meth c H locs cells slots ls hC hl hS hP hc hn) (fun h => kf h p e R s m args below meth c H locs cells slots ls hC hl hS hP hc hn)
theorem ev_ifge (D : Lst Y L) (i : Nat) {x : Int32} {off : Int} {tgt : Nat} (hi : L[i]? = some (pc, .ifCond .ge off, 3)) (ht : (pc : Int) + off = (tgt : Int))
    (kt : 0 ≤ x → Ev E Y Pr Px k n tgt lv st ws) (kf : ¬ 0 ≤ x → Ev E Y Pr Px k n (pc + 3) lv st ws) : Ev E Y Pr Px k n pc lv (.int x :: st) ws := by
  intro p e R s m args below meth c H locs cells slots ls hC hl hS hP hc hn
  have hd := D _ (List.mem_of_getElem? hi)
  exact lv_if_ge hC.1 hC.2.1 hd ht (fun h => kt h p e R s m args below meth c H locs cells slots ls hC hl hS hP hc hn) (fun h => kf h p e R s m args below meth c H locs cells slots ls hC hl hS hP hc hn)
theorem ev_icge (D : Lst Y L) (i : Nat) {x y : Int32} {off : Int} {tgt : Nat} (hi : L[i]? = some (pc, .if_icmp .ge off, 3)) (ht : (pc : Int) + off = (tgt : Int))
    (kt : y ≤ x → Ev E Y Pr Px k n tgt lv st ws) (kf : ¬ y ≤ x → Ev E Y Pr Px k n (pc + 3) lv st ws) : Ev E Y Pr Px k n pc lv (.int y :: .int x :: st) ws := by
  intro p e R s m args below meth c H locs cells slots ls hC hl hS hP hc hn
  have hd := D _ (List.mem_of_getElem? hi)
  exact lv_icmp_ge hC.1 hC.2.1 hd ht (fun h => kt h p e R s m args below meth c H locs cells slots ls hC hl hS hP hc hn) (fun h => kf h p e R s m args below meth c H locs cells slots ls hC hl hS hP hc hn)
theorem ev_ifgt (D : Lst Y L) (i : Nat) {x : Int32} {off : Int} {tgt : Nat} (hi : L[i]? = some (pc, .ifCond .gt off, 3)) (ht : (pc : Int) + off = (tgt : Int))
    (kt : 0 < x → Ev E Y Pr Px k n tgt lv st ws) (kf : ¬ 0 < x → Ev E Y Pr Px k n (pc + 3) lv st ws) : Ev E Y Pr Px k n pc lv (.int x :: st) ws := by
  intro p e R s m args below meth c H locs cells slots ls hC hl hS hP hc hn
  have hd := D _ (List.mem_of_getElem? hi)
  exact lv_if_gt hC.1 hC.2.1 hd ht (fun h => kt h p e R s m args below meth c H locs cells slots ls hC hl hS hP hc hn) (fun h => kf h p e R s m args below meth c H locs cells slots ls hC hl hS hP hc hn)
theorem ev_icgt (D : Lst Y L) (i : Nat) {x y : Int32} {off : Int} {tgt : Nat} (hi : L[i]? = some (pc, .if_icmp .gt off, 3)) (ht : (pc : Int) + off = (tgt : Int))
    (kt : y < x → Ev E Y Pr Px k n tgt lv st ws) (kf : ¬ y < x → Ev E Y Pr Px k n (pc + 3) lv st ws) : Ev E Y Pr Px k n pc lv (.int y :: .int x :: st) ws := by
  intro p e R s m args below meth c H locs cells slots ls hC hl hS hP hc hn
  have hd := D _ (List.mem_of_getElem? hi)
  exact lv_icmp_gt hC.1 hC.2.1 hd ht (fun h => kt h p e R s m args below meth c H locs cells slots ls hC hl hS hP hc hn) (fun h => kf h p e R s m args below meth c H locs cells slots ls hC hl hS hP hc hn)
theorem ev_ifle (D : Lst Y L) (i : Nat) {x : Int32} {off : Int} {tgt : Nat} (hi : L[i]? = some (pc, .ifCond .le off, 3)) (ht : (pc : Int) + off = (tgt : Int))
    (kt : x ≤ 0 → Ev E Y Pr Px k n tgt lv st ws) (kf : ¬ x ≤ 0 → Ev E Y Pr Px k n (pc + 3) lv st ws) : Ev E Y Pr Px k n pc lv (.int x :: st) ws := by
  intro p e R s m args below meth c H locs cells slots ls hC hl hS hP hc hn
  have hd := D _ (List.mem_of_getElem? hi)
  exact lv_if_le hC.1 hC.2.1 hd ht (fun h => kt h p e R s m args below meth c H locs cells slots ls hC hl hS hP hc hn) (fun h => kf h p e R s m args below meth c H locs cells slots ls hC hl hS hP hc hn)
theorem ev_icle (D : Lst Y L) (i : Nat) {x y : Int32} {off : Int} {tgt : Nat} (hi : L[i]? = some (pc, .if_icmp .le off, 3)) (ht : (pc : Int) + off = (tgt : Int))
    (kt : x ≤ y → Ev E Y Pr Px k n tgt lv st ws) (kf : ¬ x ≤ y → Ev E Y Pr Px k n (pc + 3) lv st ws) : Ev E Y Pr Px k n pc lv (.int y :: .int x :: st) ws := by
  intro p e R s m args below meth c H locs cells slots ls hC hl hS hP hc hn
  have hd := D _ (List.mem_of_getElem? hi)
  exact lv_icmp_le hC.1 hC.2.1 hd ht (fun h => kt h p e R s m args below meth c H locs cells slots ls hC hl hS hP hc hn) (fun h => kf h p e R s m args below meth c H locs cells slots ls hC hl hS hP hc hn)
theorem ev_goto (D : Lst Y L) (i : Nat) {off : Int} {tgt : Nat} (hi : L[i]? = some (pc, .goto off, 3)) (ht : (pc : Int) + off = (tgt : Int)) (kt : Ev E Y Pr Px k n tgt lv st ws) : Ev E Y Pr Px k n pc lv st ws := by
  intro p e R s m args below meth c H locs cells slots ls hC hl hS hP hc hn
  have hd := D _ (List.mem_of_getElem? hi)
  exact lv_goto hC.1 hC.2.1 hd ht (kt p e R s m args below meth c H locs cells slots ls hC hl hS hP hc hn)
theorem ev_swin (D : Lst Y L) (i : Nat) {x : Int32} {df lo hh : Int} {offs : Array Int} {len : Nat} {off : Int} {tgt : Nat} (hi : L[i]? = some (pc, .tableswitch df lo hh offs, len)) (h1 : ¬ x.toInt < lo) (h2 : ¬ hh < x.toInt) (ho : offs[(x.toInt - lo).toNat]? = some off) (ht : (pc : Int) + off = (tgt : Int)) (kt : Ev E Y Pr Px k n tgt lv st ws) : Ev E Y Pr Px k n pc lv (.int x :: st) ws := by
  intro p e R s m args below meth c H locs cells slots ls hC hl hS hP hc hn
  have hd := D _ (List.mem_of_getElem? hi)
  exact lv_tableIn hC.1 hC.2.1 hd h1 h2 ho ht (kt p e R s m args below meth c H locs cells slots ls hC hl hS hP hc hn)
theorem ev_swout (D : Lst Y L) (i : Nat) {x : Int32} {df lo hh : Int} {offs : Array Int} {len : Nat} {tgt : Nat} (hi : L[i]? = some (pc, .tableswitch df lo hh offs, len)) (h1 : x.toInt < lo ∨ hh < x.toInt) (ht : (pc : Int) + df = (tgt : Int)) (kt : Ev E Y Pr Px k n tgt lv st ws) : Ev E Y Pr Px k n pc lv (.int x :: st) ws := by
  intro p e R s m args below meth c H locs cells slots ls hC hl hS hP hc hn
  have hd := D _ (List.mem_of_getElem? hi)
  exact lv_tableOut hC.1 hC.2.1 hd h1 ht (kt p e R s m args below meth c H locs cells slots ls hC hl hS hP hc hn)
theorem ev_idiv (D : Lst Y L) (i : Nat) {x y : Int32} (hi : L[i]? = some (pc, .idiv, 1)) (hy : ¬ y = 0) (kt : Ev E Y Pr Px k n (pc + 1) lv (.int (x / y) :: st) ws) : Ev E Y Pr Px k n pc lv (.int y :: .int x :: st) ws := by
  intro p e R s m args below meth c H locs cells slots ls hC hl hS hP hc hn
  have hd := D _ (List.mem_of_getElem? hi)
  exact lv_idiv hC.1 hC.2.1 hd hy (kt p e R s m args below meth c H locs cells slots ls hC hl hS hP hc hn)
theorem ev_irem (D : Lst Y L) (i : Nat) {x y : Int32} (hi : L[i]? = some (pc, .irem, 1)) (hy : ¬ y = 0) (kt : Ev E Y Pr Px k n (pc + 1) lv (.int (x - x / y * y) :: st) ws) : Ev E Y Pr Px k n pc lv (.int y :: .int x :: st) ws := by
  intro p e R s m args below meth c H locs cells slots ls hC hl hS hP hc hn
  have hd := D _ (List.mem_of_getElem? hi)
  exact lv_irem hC.1 hC.2.1 hd hy (kt p e R s m args below meth c H locs cells slots ls hC hl hS hP hc hn)
theorem ev_lrem (D : Lst Y L) (i : Nat) {x y : Int64} (hi : L[i]? = some (pc, .lrem, 1)) (hy : ¬ y = 0) (kt : Ev E Y Pr Px k n (pc + 1) lv (.long (x - x / y * y) :: st) ws) : Ev E Y Pr Px k n pc lv (.long y :: .long x :: st) ws := by
  intro p e R s m args below meth c H locs cells slots ls hC hl hS hP hc hn
  have hd := D _ (List.mem_of_getElem? hi)
  exact lv_lrem hC.1 hC.2.1 hd hy (kt p e R s m args below meth c H locs cells slots ls hC hl hS hP hc hn)
theorem ev_dmul (D : Lst Y L) (i : Nat) {x y : UInt64} (hi : L[i]? = some (pc, .dmul, 1)) (hy : vf_n64 (FP.dmul x y)) (kt : Ev E Y Pr Px k n (pc + 1) lv (.double (FP.dmul x y) :: st) ws) : Ev E Y Pr Px k n pc lv (.double y :: .double x :: st) ws := by
  intro p e R s m args below meth c H locs cells slots ls hC hl hS hP hc hn
  have hd := D _ (List.mem_of_getElem? hi)
  exact lv_dmul hC.1 hC.2.1 hd hy (kt p e R s m args below meth c H locs cells slots ls hC hl hS hP hc hn)
theorem ev_ddiv (D : Lst Y L) (i : Nat) {x y : UInt64} (hi : L[i]? = some (pc, .ddiv, 1)) (hy : vf_n64 (FP.ddiv x y)) (kt : Ev E Y Pr Px k n (pc + 1) lv (.double (FP.ddiv x y) :: st) ws) : Ev E Y Pr Px k n pc lv (.double y :: .double x :: st) ws := by
  intro p e R s m args below meth c H locs cells slots ls hC hl hS hP hc hn
  have hd := D _ (List.mem_of_getElem? hi)
  exact lv_ddiv hC.1 hC.2.1 hd hy (kt p e R s m args below meth c H locs cells slots ls hC hl hS hP hc hn)
theorem ev_dsub (D : Lst Y L) (i : Nat) {x y : UInt64} (hi : L[i]? = some (pc, .dsub, 1)) (hy : vf_n64 (FP.dsub x y)) (kt : Ev E Y Pr Px k n (pc + 1) lv (.double (FP.dsub x y) :: st) ws) : Ev E Y Pr Px k n pc lv (.double y :: .double x :: st) ws := by
  intro p e R s m args below meth c H locs cells slots ls hC hl hS hP hc hn
  have hd := D _ (List.mem_of_getElem? hi)
  exact lv_dsub hC.1 hC.2.1 hd hy (kt p e R s m args below meth c H locs cells slots ls hC hl hS hP hc hn)
theorem ev_dconst0 (D : Lst Y L) (i : Nat) (hi : L[i]? = some (pc, .dconst 0, 1)) (kt : Ev E Y Pr Px k n (pc + 1) lv (.double FP.dconst0 :: st) ws) : Ev E Y Pr Px k n pc lv st ws := by
  intro p e R s m args below meth c H locs cells slots ls hC hl hS hP hc hn
  have hd := D _ (List.mem_of_getElem? hi)
  exact lv_dconst0 hC.1 hC.2.1 hd (kt p e R s m args below meth c H locs cells slots ls hC hl hS hP hc hn)
theorem ev_dconst1 (D : Lst Y L) (i : Nat) (hi : L[i]? = some (pc, .dconst 1, 1)) (kt : Ev E Y Pr Px k n (pc + 1) lv (.double FP.dconst1 :: st) ws) : Ev E Y Pr Px k n pc lv st ws := by
  intro p e R s m args below meth c H locs cells slots ls hC hl hS hP hc hn
  have hd := D _ (List.mem_of_getElem? hi)
  exact lv_dconst1 hC.1 hC.2.1 hd (kt p e R s m args below meth c H locs cells slots ls hC hl hS hP hc hn)
theorem ev_ldc (D : Lst Y L) (i : Nat) {idx : Nat} {v : Int32} (hi : L[i]? = some (pc, .ldc idx, 2)) (hw : gw (.constant (mnm Y).cls idx v)) (kt : Ev E Y Pr Px k n (pc + 2) lv (.int v :: st) ws) : Ev E Y Pr Px k n pc lv st ws := by
  intro p e R s m args below meth c H locs cells slots ls hC hl hS hP hc hn
  have hd := D _ (List.mem_of_getElem? hi)
  exact lv_ldc hC.1 hC.2.1 hC.2.2.2.2.2.2.1 (hC.2.2.2.2.2.1 _ hw) hd (kt p e R s m args below meth c H locs cells slots ls hC hl hS hP hc hn)
theorem ev_ldc2 (D : Lst Y L) (i : Nat) {idx : Nat} {v : Int64} (hi : L[i]? = some (pc, .ldc2_w idx, 3)) (hw : gw (.constantLong (mnm Y).cls idx v)) (kt : Ev E Y Pr Px k n (pc + 3) lv (.long v :: st) ws) : Ev E Y Pr Px k n pc lv st ws := by
  intro p e R s m args below meth c H locs cells slots ls hC hl hS hP hc hn
  have hd := D _ (List.mem_of_getElem? hi)
  exact lv_ldc2 hC.1 hC.2.1 hC.2.2.2.2.2.2.1 (hC.2.2.2.2.2.1 _ hw) hd (kt p e R s m args below meth c H locs cells slots ls hC hl hS hP hc hn)
theorem ev_ldc2d (D : Lst Y L) (i : Nat) {idx : Nat} {v : UInt64} (hi : L[i]? = some (pc, .ldc2_w idx, 3)) (hw : gw (.constantDouble (mnm Y).cls idx v)) (kt : Ev E Y Pr Px k n (pc + 3) lv (.double v :: st) ws) : Ev E Y Pr Px k n pc lv st ws := by
  intro p e R s m args below meth c H locs cells slots ls hC hl hS hP hc hn
  have hd := D _ (List.mem_of_getElem? hi)
  exact lv_ldc2d hC.1 hC.2.1 hC.2.2.2.2.2.2.1 (hC.2.2.2.2.2.1 _ hw) hd (kt p e R s m args below meth c H locs cells slots ls hC hl hS hP hc hn)
/-- a kind of objects, by its number -/
def gcl (ci : Nat) (C : String) (T : u_T) (N : Nat) (ty : Nat → FieldType) : Prop := gCl[ci]? = some (C, T, N) ∧ (∀ w ∈ u_ws C T N, gw w) ∧ (∀ k, k < N → parseFieldDescriptor (T k).2.2.1 = some (ty k)) ∧ (∀ a, a < N → ∀ b, b < N → a ≠ b → (T a).2.1 ≠ (T b).2.1)
theorem GX0 : gcl 0 RX0 TX0 2 tyX0 := ⟨rfl, inX0, tyX0_ok, nmX0⟩
theorem GX1 : gcl 1 RX1 TX1 5 tyX1 := ⟨rfl, inX1, tyX1_ok, nmX1⟩
theorem GX2 : gcl 2 RX2 TX2 2 tyX2 := ⟨rfl, inX2, tyX2_ok, nmX2⟩
theorem GX3 : gcl 3 RX3 TX3 18 tyX3 := ⟨rfl, inX3, tyX3_ok, nmX3⟩
theorem GX4 : gcl 4 RX4 TX4 3 tyX4 := ⟨rfl, inX4, tyX4_ok, nmX4⟩
theorem GX5 : gcl 5 RX5 TX5 5 tyX5 := ⟨rfl, inX5, tyX5_ok, nmX5⟩
theorem GX6 : gcl 6 RX6 TX6 6 tyX6 := ⟨rfl, inX6, tyX6_ok, nmX6⟩
theorem ev_get (D : Lst Y L) (i : Nat) {ci idx a q k0 N : Nat} {C : String} {T : u_T} {ty : Nat → FieldType} {fs : List Value} {v : Value} (G : gcl ci C T N ty) (hi : L[i]? = some (pc, .getfield idx, 3)) (hk : k0 < N) (hf : gw (.fieldLink (mnm Y).cls idx (T k0).1 (T k0).2.1 (T k0).2.2.1)) (he : ws[q]? = some (a, .inr (ci, fs))) (hv : fs[k0]? = some v)
    (kt : Ev E Y Pr Px k n (pc + 3) lv (v :: st) ws) : Ev E Y Pr Px k n pc lv (.ref a :: st) ws := by
  intro p e R s m args below meth c H locs cells slots ls hC hl hS hP hc hn
  have hd := D _ (List.mem_of_getElem? hi)
  exact va_get (D := gD E) hC.1 hC.2.1 (fun w hw => hC.2.2.2.2.2.1 w (G.2.1 w hw)) (fun w h => h) hC.2.2.2.2.2.2.1 hC.2.2.2.2.2.2.2.2.2.1.2.1 hP.1 q he G.1 k0 hk (hC.2.2.2.2.2.1 _ hf) (fun x h => h) hv hd (kt p e R s m args below meth c H locs cells slots ls hC hl hS hP hc hn)
theorem ev_put (D : Lst Y L) (i : Nat) {ci idx a q k0 N : Nat} {C : String} {T : u_T} {ty : Nat → FieldType} {fs fs' : List Value} {v : Value} {ws' : va_W} (G : gcl ci C T N ty) (hi : L[i]? = some (pc, .putfield idx, 3)) (hk : k0 < N) (hf : gw (.fieldLink (mnm Y).cls idx (T k0).1 (T k0).2.1 (T k0).2.2.1)) (hfin : (T k0).2.2.2 = false) (hv : narrow (ty k0) v = v ∧ fits (ty k0) v = true) (he : ws[q]? = some (a, .inr (ci, fs))) (hlen : k0 < fs.length) (hfs : fs.set k0 v = fs') (hws : ws.set q (a, .inr (ci, fs')) = ws')
    (kt : Ev E Y Pr Px k n (pc + 3) lv st ws') : Ev E Y Pr Px k n pc lv (v :: .ref a :: st) ws := by
  intro p e R s m args below meth c H locs cells slots ls hC hl hS hP hc hn
  have hd := D _ (List.mem_of_getElem? hi)
  subst hfs; subst hws
  exact va_put (D := gD E) (A := gA E) hC.1 hC.2.1 (fun w hw => hC.2.2.2.2.2.1 w (G.2.1 w hw)) (fun w h => h) ty G.2.2.1 G.2.2.2 hC.2.2.2.2.2.2.1 hC.2.2.2.2.2.2.2.2.2.1.2.1 hP.1 hP.2 hS q he G.1 k0 hk (hC.2.2.2.2.2.1 _ hf) (fun x h => h) hfin (G.2.2.1 k0 hk) hv.1 hv.2 hlen hd (fun H1 locs1 hP1 hD1 hS1 => kt p e R s m args below meth c H1 locs1 cells slots ls hC hl hS1 ⟨hP1, hD1⟩ hc hn)
theorem ev_putF (D : Lst Y L) (i : Nat) {ci idx a q k0 N : Nat} {C : String} {T : u_T} {ty : Nat → FieldType} {fs fs' : List Value} {v : Value} {ws' : va_W} (G : gcl ci C T N ty) (hi : L[i]? = some (pc, .putfield idx, 3)) (hk : k0 < N) (hf : gw (.fieldLink (mnm Y).cls idx (T k0).1 (T k0).2.1 (T k0).2.2.1)) (hfin : (T k0).2.2.2 = true) (hin : (mnm Y).name = "<init>") (hdc : (T k0).1 = (mnm Y).cls) (hv : narrow (ty k0) v = v ∧ fits (ty k0) v = true) (he : ws[q]? = some (a, .inr (ci, fs))) (hlen : k0 < fs.length) (hfs : fs.set k0 v = fs') (hws : ws.set q (a, .inr (ci, fs')) = ws')
    (kt : Ev E Y Pr Px k n (pc + 3) lv st ws') : Ev E Y Pr Px k n pc lv (v :: .ref a :: st) ws := by
  intro p e R s m args below meth c H locs cells slots ls hC hl hS hP hc hn
  have hd := D _ (List.mem_of_getElem? hi)
  subst hfs; subst hws
  exact va_putF (D := gD E) (A := gA E) hC.1 hC.2.1 (fun w hw => hC.2.2.2.2.2.1 w (G.2.1 w hw)) (fun w h => h) ty G.2.2.1 G.2.2.2 hC.2.2.2.2.2.2.1 hC.2.2.2.2.2.2.2.2.2.1.2.1 hP.1 hP.2 hS q he G.1 k0 hk (hC.2.2.2.2.2.1 _ hf) (fun x h => h) hfin (hC.2.2.2.2.2.2.2.1.trans hin) hdc (G.2.2.1 k0 hk) hv.1 hv.2 hlen hd (fun H1 locs1 hP1 hD1 hS1 => kt p e R s m args below meth c H1 locs1 cells slots ls hC hl hS1 ⟨hP1, hD1⟩ hc hn)
theorem ev_iald (D : Lst Y L) (i : Nat) {a q N : Nat} {f : Nat → Int32} {i0 : Int32} (hi : L[i]? = some (pc, .iaload, 1)) (he : ws[q]? = some (a, .inl (gK E 0, N, .inl f))) (hin : vp_in i0 N) (kt : Ev E Y Pr Px k n (pc + 1) lv (.int (f i0.toNatClampNeg) :: st) ws) : Ev E Y Pr Px k n pc lv (.int i0 :: .ref a :: st) ws := by
  intro p e R s m args below meth c H locs cells slots ls hC hl hS hP hc hn
  have hd := D _ (List.mem_of_getElem? hi)
  exact va_iald (D := gD E) hC.1 hC.2.1 hC.2.2.2.2.2.2.2.2.2.1.2.1 hP.1 q 0 he rfl hin hd (kt p e R s m args below meth c H locs cells slots ls hC hl hS hP hc hn)
theorem ev_iast (D : Lst Y L) (i : Nat) {a q N : Nat} {f : Nat → Int32} {i0 : Int32} {x : Int32} {ws' : va_W} (hi : L[i]? = some (pc, .iastore, 1)) (he : ws[q]? = some (a, .inl (gK E 0, N, .inl f))) (hin : vp_in i0 N) (hws : ws.set q (a, .inl (gK E 0, N, .inl (upd f i0.toNatClampNeg x))) = ws') (kt : Ev E Y Pr Px k n (pc + 1) lv st ws') : Ev E Y Pr Px k n pc lv (.int x :: .int i0 :: .ref a :: st) ws := by
  intro p e R s m args below meth c H locs cells slots ls hC hl hS hP hc hn
  have hd := D _ (List.mem_of_getElem? hi)
  subst hws
  exact va_iast (D := gD E) (A := gA E) hC.1 hC.2.1 hC.2.2.2.2.2.2.2.2.2.1.2.1 hP.1 hP.2 hS q 0 he rfl hin hd (fun H1 locs1 hP1 hD1 hS1 => kt p e R s m args below meth c H1 locs1 cells slots ls hC hl hS1 ⟨hP1, hD1⟩ hc hn)
theorem ev_cald (D : Lst Y L) (i : Nat) {a q N : Nat} {f : Nat → Int32} {i0 : Int32} (hi : L[i]? = some (pc, .caload, 1)) (he : ws[q]? = some (a, .inl (gK E 2, N, .inl f))) (hin : vp_in i0 N) (kt : Ev E Y Pr Px k n (pc + 1) lv (.int (f i0.toNatClampNeg) :: st) ws) : Ev E Y Pr Px k n pc lv (.int i0 :: .ref a :: st) ws := by
  intro p e R s m args below meth c H locs cells slots ls hC hl hS hP hc hn
  have hd := D _ (List.mem_of_getElem? hi)
  exact va_cald (D := gD E) hC.1 hC.2.1 hC.2.2.2.2.2.2.2.2.2.1.2.1 hP.1 q 2 he rfl hin hd (kt p e R s m args below meth c H locs cells slots ls hC hl hS hP hc hn)
theorem ev_cast (D : Lst Y L) (i : Nat) {a q N : Nat} {f : Nat → Int32} {i0 : Int32} {x : Int32} {ws' : va_W} (hi : L[i]? = some (pc, .castore, 1)) (he : ws[q]? = some (a, .inl (gK E 2, N, .inl f))) (hin : vp_in i0 N) (hws : ws.set q (a, .inl (gK E 2, N, .inl (upd f i0.toNatClampNeg (vp_nar .char x)))) = ws') (kt : Ev E Y Pr Px k n (pc + 1) lv st ws') : Ev E Y Pr Px k n pc lv (.int x :: .int i0 :: .ref a :: st) ws := by
  intro p e R s m args below meth c H locs cells slots ls hC hl hS hP hc hn
  have hd := D _ (List.mem_of_getElem? hi)
  subst hws
  exact va_cast (D := gD E) (A := gA E) hC.1 hC.2.1 hC.2.2.2.2.2.2.2.2.2.1.2.1 hP.1 hP.2 hS q 2 he rfl hin hd (fun H1 locs1 hP1 hD1 hS1 => kt p e R s m args below meth c H1 locs1 cells slots ls hC hl hS1 ⟨hP1, hD1⟩ hc hn)
theorem ev_lald (D : Lst Y L) (i : Nat) {a q N : Nat} {f : Nat → Int64} {i0 : Int32} (hi : L[i]? = some (pc, .laload, 1)) (he : ws[q]? = some (a, .inl (gK E 1, N, .inr (.inl f)))) (hin : vp_in i0 N) (kt : Ev E Y Pr Px k n (pc + 1) lv (.long (f i0.toNatClampNeg) :: st) ws) : Ev E Y Pr Px k n pc lv (.int i0 :: .ref a :: st) ws := by
  intro p e R s m args below meth c H locs cells slots ls hC hl hS hP hc hn
  have hd := D _ (List.mem_of_getElem? hi)
  exact va_lald (D := gD E) hC.1 hC.2.1 hC.2.2.2.2.2.2.2.2.2.1.2.1 hP.1 q 1 he rfl hin hd (kt p e R s m args below meth c H locs cells slots ls hC hl hS hP hc hn)
theorem ev_last (D : Lst Y L) (i : Nat) {a q N : Nat} {f : Nat → Int64} {i0 : Int32} {x : Int64} {ws' : va_W} (hi : L[i]? = some (pc, .lastore, 1)) (he : ws[q]? = some (a, .inl (gK E 1, N, .inr (.inl f)))) (hin : vp_in i0 N) (hws : ws.set q (a, .inl (gK E 1, N, .inr (.inl (vp_updL f i0.toNatClampNeg x)))) = ws') (kt : Ev E Y Pr Px k n (pc + 1) lv st ws') : Ev E Y Pr Px k n pc lv (.long x :: .int i0 :: .ref a :: st) ws := by
  intro p e R s m args below meth c H locs cells slots ls hC hl hS hP hc hn
  have hd := D _ (List.mem_of_getElem? hi)
  subst hws
  exact va_last (D := gD E) (A := gA E) hC.1 hC.2.1 hC.2.2.2.2.2.2.2.2.2.1.2.1 hP.1 hP.2 hS q 1 he rfl hin hd (fun H1 locs1 hP1 hD1 hS1 => kt p e R s m args below meth c H1 locs1 cells slots ls hC hl hS1 ⟨hP1, hD1⟩ hc hn)
theorem ev_aald4 (D : Lst Y L) (i : Nat) {a q N b : Nat} {f : Nat → Option Nat} {i0 : Int32} (hi : L[i]? = some (pc, .aaload, 1)) (he : ws[q]? = some (a, .inl (gK E 4, N, .inr (.inr (.inr (.inr f)))))) (hin : vp_in i0 N) (hb : f i0.toNatClampNeg = some b) (kt : Ev E Y Pr Px k n (pc + 1) lv (.ref b :: st) ws) : Ev E Y Pr Px k n pc lv (.int i0 :: .ref a :: st) ws := by
  intro p e R s m args below meth c H locs cells slots ls hC hl hS hP hc hn
  have hd := D _ (List.mem_of_getElem? hi)
  refine va_aldq (D := gD E) (C := RX3) hC.1 hC.2.1 hC.2.2.2.2.2.2.2.2.2.1.2.1 hP.1 q 4 he rfl hin hd ?_
  rw [hb]
  exact kt p e R s m args below meth c H locs cells slots ls hC hl hS hP hc hn
theorem ev_aast4 (D : Lst Y L) (i : Nat) {a q qk N v : Nat} {f : Nat → Option Nat} {vs : List Value} {i0 : Int32} {ws' : va_W} (hi : L[i]? = some (pc, .aastore, 1)) (he : ws[q]? = some (a, .inl (gK E 4, N, .inr (.inr (.inr (.inr f)))))) (hv : ws[qk]? = some (v, .inr (3, vs))) (hin : vp_in i0 N) (hws : ws.set q (a, .inl (gK E 4, N, .inr (.inr (.inr (.inr (va_up f i0.toNatClampNeg (some v))))))) = ws') (kt : Ev E Y Pr Px k n (pc + 1) lv st ws') : Ev E Y Pr Px k n pc lv (.ref v :: .int i0 :: .ref a :: st) ws := by
  intro p e R s m args below meth c H locs cells slots ls hC hl hS hP hc hn
  have hd := D _ (List.mem_of_getElem? hi)
  subst hws
  exact va_astq (D := gD E) (A := gA E) hC.1 hC.2.1 hC.2.2.2.2.2.2.2.2.2.1.2.1 hP.1 hP.2 hS q 4 qk 3 he rfl hv rfl hin hd (fun H1 locs1 hP1 hD1 hS1 => kt p e R s m args below meth c H1 locs1 cells slots ls hC hl hS1 ⟨hP1, hD1⟩ hc hn)
theorem ev_aald5 (D : Lst Y L) (i : Nat) {a q N b : Nat} {f : Nat → Option Nat} {i0 : Int32} (hi : L[i]? = some (pc, .aaload, 1)) (he : ws[q]? = some (a, .inl (gK E 5, N, .inr (.inr (.inr (.inr f)))))) (hin : vp_in i0 N) (hb : f i0.toNatClampNeg = some b) (kt : Ev E Y Pr Px k n (pc + 1) lv (.ref b :: st) ws) : Ev E Y Pr Px k n pc lv (.int i0 :: .ref a :: st) ws := by
  intro p e R s m args below meth c H locs cells slots ls hC hl hS hP hc hn
  have hd := D _ (List.mem_of_getElem? hi)
  refine va_aldq (D := gD E) (C := RX1) hC.1 hC.2.1 hC.2.2.2.2.2.2.2.2.2.1.2.1 hP.1 q 5 he rfl hin hd ?_
  rw [hb]
  exact kt p e R s m args below meth c H locs cells slots ls hC hl hS hP hc hn
theorem ev_aast5 (D : Lst Y L) (i : Nat) {a q qk N v : Nat} {f : Nat → Option Nat} {vs : List Value} {i0 : Int32} {ws' : va_W} (hi : L[i]? = some (pc, .aastore, 1)) (he : ws[q]? = some (a, .inl (gK E 5, N, .inr (.inr (.inr (.inr f)))))) (hv : ws[qk]? = some (v, .inr (1, vs))) (hin : vp_in i0 N) (hws : ws.set q (a, .inl (gK E 5, N, .inr (.inr (.inr (.inr (va_up f i0.toNatClampNeg (some v))))))) = ws') (kt : Ev E Y Pr Px k n (pc + 1) lv st ws') : Ev E Y Pr Px k n pc lv (.ref v :: .int i0 :: .ref a :: st) ws := by
  intro p e R s m args below meth c H locs cells slots ls hC hl hS hP hc hn
  have hd := D _ (List.mem_of_getElem? hi)
  subst hws
  exact va_astq (D := gD E) (A := gA E) hC.1 hC.2.1 hC.2.2.2.2.2.2.2.2.2.1.2.1 hP.1 hP.2 hS q 5 qk 1 he rfl hv rfl hin hd (fun H1 locs1 hP1 hD1 hS1 => kt p e R s m args below meth c H1 locs1 cells slots ls hC hl hS1 ⟨hP1, hD1⟩ hc hn)
/-- the script, read alone -/
theorem ev_sld (D : Lst Y L) (i : Nat) {i0 : Int32} (hi : L[i]? = some (pc, .iaload, 1)) (hin : vp_in i0 (gSc E).2.1) (kt : Ev E Y Pr Px k n (pc + 1) lv (.int ((gSc E).2.2 i0.toNatClampNeg) :: st) ws) : Ev E Y Pr Px k n pc lv (.int i0 :: .ref (gSc E).1 :: st) ws := by
  intro p e R s m args below meth c H locs cells slots ls hC hl hS hP hc hn
  have hd := D _ (List.mem_of_getElem? hi)
  have h4 := hC.2.2.2.2.2.2.2.2.2.1.2.2.2.1
  exact va_sld hC.1 hC.2.1 h4.1 (va_X_lt h4.1) h4.2 hS hin hd (kt p e R s m args below meth c H locs cells slots ls hC hl hS hP hc hn)
theorem ev_slen (D : Lst Y L) (i : Nat) (hi : L[i]? = some (pc, .arraylength, 1)) (kt : Ev E Y Pr Px k n (pc + 1) lv (.int (Int32.ofNat (gSc E).2.1) :: st) ws) : Ev E Y Pr Px k n pc lv (.ref (gSc E).1 :: st) ws := by
  intro p e R s m args below meth c H locs cells slots ls hC hl hS hP hc hn
  have hd := D _ (List.mem_of_getElem? hi)
  have h4 := hC.2.2.2.2.2.2.2.2.2.1.2.2.2.1
  exact va_slen hC.1 hC.2.1 h4.1 (va_X_lt h4.1) h4.2 hS hd (kt p e R s m args below meth c H locs cells slots ls hC hl hS hP hc hn)
theorem ev_gets (D : Lst Y L) (i : Nat) {j : Nat} {idx : Nat} {q : Nat × String × Nat × (Nat → Int32)} (hi : L[i]? = some (pc, .getstatic idx, 3)) (hq : gSt[j]? = some q) (hf : gw (.fieldLink (mnm Y).cls idx RX6 q.2.1 "[I")) (kt : Ev E Y Pr Px k n (pc + 3) lv (.ref (gT E q.1) :: st) ws) : Ev E Y Pr Px k n pc lv st ws := by
  intro p e R s m args below meth c H locs cells slots ls hC hl hS hP hc hn
  have hd := D _ (List.mem_of_getElem? hi)
  have h3 := hC.2.2.2.2.2.2.2.2.2.1.2.2.1 q (List.mem_of_getElem? hq)
  exact va_gets hC.1 hC.2.1 h3.1 hS hC.2.2.2.2.2.2.1 (hC.2.2.2.2.2.1 _ hf) (fun x h => h) hd (kt p e R s m args below meth c H locs cells slots ls hC hl hS hP hc hn)
theorem ev_gsld (D : Lst Y L) (i : Nat) {j : Nat} {i0 : Int32} {q : Nat × String × Nat × (Nat → Int32)} (hi : L[i]? = some (pc, .iaload, 1)) (hq : gSt[j]? = some q) (hin : vp_in i0 q.2.2.1) (kt : Ev E Y Pr Px k n (pc + 1) lv (.int (q.2.2.2 i0.toNatClampNeg) :: st) ws) : Ev E Y Pr Px k n pc lv (.int i0 :: .ref (gT E q.1) :: st) ws := by
  intro p e R s m args below meth c H locs cells slots ls hC hl hS hP hc hn
  have hd := D _ (List.mem_of_getElem? hi)
  have h3 := (hC.2.2.2.2.2.2.2.2.2.1.2.2.1 q (List.mem_of_getElem? hq)).2
  exact va_ti hC.1 hC.2.1 h3.1 hS hin rfl hd (kt p e R s m args below meth c H locs cells slots ls hC hl hS hP hc hn)
theorem ev_iret (D : Lst Y L) (i : Nat) {v : Int32} (hi : L[i]? = some (pc, .ireturn, 1)) (ht : mrt Y = some .int) (hr : Pr (some (.int v)) ws) : Ev E Y Pr Px k n pc lv [.int v] ws := by
  intro p e R s m args below meth c H locs cells slots ls hC hl hS hP hc hn
  have hd := D _ (List.mem_of_getElem? hi)
  have hQ : ∀ t : State, t.heap = H → s.WarmedH t.vm → gQ E Pr args s (.returned (some (.int v))) t := fun t ht _ => ⟨⟨_, ws, rfl, hr, by rw [ht]; exact hP⟩, hS.F ht⟩
  refine vx_ret (W.widen (k := R.cells) (n := R.slots) (by omega) (by omega) ?_)
  exact W.iret hC.1 hC.2.1 (hC.2.2.1.trans ht) hQ hS.2.2 hd hC.2.2.2.1
theorem ev_zret (D : Lst Y L) (i : Nat) {v : Int32} {ty : FieldType} (hi : L[i]? = some (pc, .ireturn, 1)) (ht : mrt Y = some ty) (hnw : narrow ty (.int v) = .int v) (hr : Pr (some (.int v)) ws) : Ev E Y Pr Px k n pc lv [.int v] ws := by
  intro p e R s m args below meth c H locs cells slots ls hC hl hS hP hc hn
  have hd := D _ (List.mem_of_getElem? hi)
  have hQ : ∀ t : State, t.heap = H → s.WarmedH t.vm → gQ E Pr args s (.returned (some (.int v))) t := fun t ht _ => ⟨⟨_, ws, rfl, hr, by rw [ht]; exact hP⟩, hS.F ht⟩
  refine vx_ret (W.widen (k := R.cells) (n := R.slots) (by omega) (by omega) ?_)
  exact W.zret hC.1 hC.2.1 (hC.2.2.1.trans ht) hnw hQ hS.2.2 hd hC.2.2.2.1
theorem ev_lret (D : Lst Y L) (i : Nat) {v : Int64} (hi : L[i]? = some (pc, .lreturn, 1)) (ht : mrt Y = some .long) (hr : Pr (some (.long v)) ws) : Ev E Y Pr Px k n pc lv [.long v] ws := by
  intro p e R s m args below meth c H locs cells slots ls hC hl hS hP hc hn
  have hd := D _ (List.mem_of_getElem? hi)
  have hQ : ∀ t : State, t.heap = H → s.WarmedH t.vm → gQ E Pr args s (.returned (some (.long v))) t := fun t ht _ => ⟨⟨_, ws, rfl, hr, by rw [ht]; exact hP⟩, hS.F ht⟩
  refine vx_ret (W.widen (k := R.cells) (n := R.slots) (by omega) (by omega) ?_)
  exact W.lret hC.1 hC.2.1 (hC.2.2.1.trans ht) hQ hS.2.2 hd hC.2.2.2.1
theorem ev_dret (D : Lst Y L) (i : Nat) {v : UInt64} (hi : L[i]? = some (pc, .dreturn, 1)) (ht : mrt Y = some .double) (hr : Pr (some (.double v)) ws) : Ev E Y Pr Px k n pc lv [.double v] ws := by
  intro p e R s m args below meth c H locs cells slots ls hC hl hS hP hc hn
  have hd := D _ (List.mem_of_getElem? hi)
  have hQ : ∀ t : State, t.heap = H → s.WarmedH t.vm → gQ E Pr args s (.returned (some (.double v))) t := fun t ht _ => ⟨⟨_, ws, rfl, hr, by rw [ht]; exact hP⟩, hS.F ht⟩
  refine vx_ret (W.widen (k := R.cells) (n := R.slots) (by omega) (by omega) ?_)
  exact W.dret hC.1 hC.2.1 (hC.2.2.1.trans ht) hQ hS.2.2 hd hC.2.2.2.1
theorem ev_aret (D : Lst Y L) (i : Nat) {a : Nat} {C : String} (hi : L[i]? = some (pc, .areturn, 1)) (ht : mrt Y = some (.object C)) (hr : Pr (some (.ref a)) ws) : Ev E Y Pr Px k n pc lv [.ref a] ws := by
  intro p e R s m args below meth c H locs cells slots ls hC hl hS hP hc hn
  have hd := D _ (List.mem_of_getElem? hi)
  have hQ : ∀ t : State, t.heap = H → s.WarmedH t.vm → gQ E Pr args s (.returned (some (.ref a))) t := fun t ht _ => ⟨⟨_, ws, rfl, hr, by rw [ht]; exact hP⟩, hS.F ht⟩
  refine vx_ret (W.widen (k := R.cells) (n := R.slots) (by omega) (by omega) ?_)
  exact W.aret hC.1 hC.2.1 (hC.2.2.1.trans ht) (Or.inl ⟨_, rfl⟩) (Or.inr ⟨_, rfl⟩) hQ hS.2.2 hd hC.2.2.2.1
theorem ev_vret (D : Lst Y L) (i : Nat) (hi : L[i]? = some (pc, .return_, 1)) (ht : mrt Y = none) (hr : Pr none ws) : Ev E Y Pr Px k n pc lv [] ws := by
  intro p e R s m args below meth c H locs cells slots ls hC hl hS hP hc hn
  have hd := D _ (List.mem_of_getElem? hi)
  have hQ : ∀ t : State, t.heap = H → s.WarmedH t.vm → gQ E Pr args s (.returned none) t := fun t ht _ => ⟨⟨_, ws, rfl, hr, by rw [ht]; exact hP⟩, hS.F ht⟩
  refine vx_ret (W.widen (k := R.cells) (n := R.slots) (by omega) (by omega) ?_)
  exact W.vret hC.1 hC.2.1 (hC.2.2.1.trans ht) hQ hS.2.2 hd hC.2.2.2.1
theorem ev_room {k2 n2 : Nat} (h1 : k2 ≤ k) (h2 : n2 ≤ n) (kt : Ev E Y Pr Px k2 n2 pc lv st ws) : Ev E Y Pr Px k n pc lv st ws := by
  intro p e R s m args below meth c H locs cells slots ls hC hl hS hP hc hn
  exact kt p e R s m args below meth c H locs cells slots ls hC hl hS hP (by omega) (by omega)
theorem ev_lv {lv2 : List (Nat × Value)} (hs : ∀ q ∈ lv2, q ∈ lv) (kt : Ev E Y Pr Px k n pc lv2 st ws) : Ev E Y Pr Px k n pc lv st ws := by
  intro p e R s m args below meth c H locs cells slots ls hC hl hS hP hc hn
  exact kt p e R s m args below meth c H locs cells slots ls hC ⟨hl.1, hl.2.1, fun q hq => hl.2.2 q (hs q hq)⟩ hS hP hc hn
end EVR
end
section
theorem WG_base {E : gE} {U : State} {H : Heap} (h : WG E U H) : gB E ≤ H.size := h.2.2.2.2.2.2.2.2.2.2.2.2.2
theorem WG_K {E : gE} {U : State} {H : Heap} (h : WG E U H) : va_K (gD E) gCl (gTy E) U := h.2.1
theorem gPc_blind {E : gE} {av : List Value} {ws : va_W} : FrameBlind (gPc E av ws) := by
  intro a U g mk h
  obtain ⟨h1, h2, h3⟩ := h
  exact ⟨h1, WG_moved (s := U) (U := U.calling g mk a) (locs := []) (State.WarmedH.refl U) va_S.rf h2, h3⟩
section EVN
variable {E : gE} {Y : MI} {Pr : Option Value → va_W → Prop} {Px : String → va_W → Prop} {k n : Nat} {ws : va_W} {L : LI} {pc : Nat} {lv : List (Nat × Value)} {st : List Value}
theorem ev_new (D : Lst Y L) (i : Nat) {ci idx N : Nat} {C : String} {T : u_T} {ty : Nat → FieldType} {fs : List Value} (G : gcl ci C T N ty) (hi : L[i]? = some (pc, .new idx, 3)) (hcl : gw (.classLink (mnm Y).cls idx C)) (hins : gw (.instantiable C N)) (hini : gw (.initialized C)) (hfs : ∀ j, j < N → defaultValue (ty j) = vp_V fs j)
    (kt : ∀ a : Nat, Ev E Y Pr Px k n (pc + 3) lv (.ref a :: st) (ws ++ [(a, .inr (ci, fs))])) : Ev E Y Pr Px (k + 1) (n + N) pc lv st ws := by
  intro p e R s m args below meth c H locs cells slots ls hC hl hS hP hc hn
  have hd := D _ (List.mem_of_getElem? hi)
  have hWG := hC.2.2.2.2.2.2.2.2.2.1
  exact va_new (D := gD E) (A := gA E) hC.1 hC.2.1 (fun w hw => hC.2.2.2.2.2.1 w (G.2.1 w hw)) (fun w h => h) ty G.2.2.1 hC.2.2.2.2.2.2.1 (hC.2.2.2.2.2.1 _ hcl) (hC.2.2.2.2.2.1 _ hins) (hC.2.2.2.2.2.1 _ hini) (WG_K hWG) hP.1 hP.2 hS (fun q hq => Nat.le_trans (WG_base hWG) hq) G.1 hfs (by omega) (by omega) hd
    (fun q H1 hP1 hD1 hS1 => kt q p e R s m args below meth c H1 locs (cells + 1) (slots + N) ls hC hl hS1 ⟨hP1, hD1⟩ (by omega) (by omega))
theorem ev_newa (D : Lst Y L) (i : Nat) {t0 N : Nat} {aty : ArrayType} {ty : FieldType} {z : Int32} {a0 : vp_A} (hi : L[i]? = some (pc, .newarray aty, 2)) (hty : newarray.typeOf aty = ty) (harr : gw (.arrayClass ty)) (ht : (gTy E)[t0]? = some (gK E t0, ty)) (hob : ∀ (U : State) (cA : ClassId), va_RA U cA ty → U.vm.findClass ("[" ++ ty.toString) = some cA)
    (ha : ∀ cA : ClassId, vp_cell cA a0 = arrV cA N (fun _ => defaultValue ty)) (hz : ¬ z < 0) (hN : z.toNatClampNeg = N) (hbytes : N * componentBytes ty ≤ 536870912)
    (kt : ∀ a : Nat, Ev E Y Pr Px k n (pc + 2) lv (.ref a :: st) (ws ++ [(a, .inl (gK E t0, a0))])) : Ev E Y Pr Px (k + 1) (n + N) pc lv (.int z :: st) ws := by
  intro p e R s m args below meth c H locs cells slots ls hC hl hS hP hc hn
  have hd := D _ (List.mem_of_getElem? hi)
  have hWG := hC.2.2.2.2.2.2.2.2.2.1
  have hK := WG_K hWG
  subst hty
  refine va_newa (D := gD E) (A := gA E) hC.1 hC.2.1 (hC.2.2.2.2.2.1 _ harr) rfl hK hP.1 hP.2 hS (fun q hq => Nat.le_trans (WG_base hWG) hq) ha hz hN hbytes (by omega) (by omega) hd (fun q cA H1 hK1 hP1 hD1 hS1 => ?_)
  have e1 := hob s cA (hK1.2 6 (cA, _) rfl).2
  have e2 := hob s (gK E t0) (hK.2 t0 _ ht).2
  have e3 : cA = gK E t0 := Option.some.inj (e1.symm.trans e2)
  subst e3
  exact kt q p e R s m args below meth c H1 locs (cells + 1) (slots + N) ls hC hl hS1 ⟨hP1, hD1⟩ (by omega) (by omega)
theorem ev_anew (D : Lst Y L) (i : Nat) {t0 N idx : Nat} {C : String} {z : Int32} (hi : L[i]? = some (pc, .anewarray idx, 3)) (hcl : gw (.classLink (mnm Y).cls idx C)) (hC0 : C = RX3 ∨ C = RX1) (ht : (gTy E)[t0]? = some (gK E t0, .object C)) (hz : ¬ z < 0) (hN : z.toNatClampNeg = N) (hbytes : N * 4 ≤ 536870912)
    (kt : ∀ a : Nat, Ev E Y Pr Px k n (pc + 3) lv (.ref a :: st) (ws ++ [(a, .inl (gK E t0, N, .inr (.inr (.inr (.inr (fun _ => none))))))])) : Ev E Y Pr Px (k + 1) (n + N) pc lv (.int z :: st) ws := by
  intro p e R s m args below meth c H locs cells slots ls hC hl hS hP hc hn
  have hd := D _ (List.mem_of_getElem? hi)
  have hWG := hC.2.2.2.2.2.2.2.2.2.1
  have hK := WG_K hWG
  have hO : va_AO C s := by
    rcases hC0 with rfl | rfl
    · exact hWG.2.2.2.2.2.2.2.2.1
    · exact hWG.2.2.2.2.2.2.2.2.2.1
  refine va_newq (D := gD E) (A := gA E) hC.1 hC.2.1 hC.2.2.2.2.2.2.1 (hC.2.2.2.2.2.1 _ hcl) hO hK hP.1 hP.2 hS (fun q hq => Nat.le_trans (WG_base hWG) hq) hz hN hbytes (by omega) (by omega) hd (fun q cA H1 hK1 hP1 hD1 hS1 => ?_)
  obtain ⟨k1, c1, -, -, -, e1⟩ := (hK1.2 6 (cA, .object C) rfl).2
  obtain ⟨k2, c2, -, -, -, e2⟩ := (hK.2 t0 _ ht).2
  have e3 : cA = gK E t0 := Option.some.inj (e1.symm.trans e2)
  subst e3
  exact kt q p e R s m args below meth c H1 locs (cells + 1) (slots + N) ls hC hl hS1 ⟨hP1, hD1⟩ (by omega) (by omega)
theorem ev_objI (D : Lst Y L) (i : Nat) {a idx : Nat} (hi : L[i]? = some (pc, .invokespecial idx, 3)) (hq : gw (.methodLink (mnm Y).cls idx objectInit)) (hdp : 1 ≤ mdp Y) (hcat : (st.map fun v => v.category).sum ≤ 8) (kt : Ev E Y Pr Px k n (pc + 3) lv st ws) : Ev E Y Pr Px k n pc lv (.ref a :: st) ws := by
  intro p e R s m args below meth c H locs cells slots ls hC hl hS hP hc hn
  have hd := D _ (List.mem_of_getElem? hi)
  obtain ⟨hf1, hf2⟩ := hC.2.2.2.2.2.2.2.2.2.2
  exact W.objInit hC.1 hC.2.1 hC.2.2.2.2.2.2.1 (hC.2.2.2.2.2.1 _ hq) (hC.2.2.2.2.2.1 _ vOi) (hC.2.2.2.2.2.1 _ vOc) rfl (hl.1.trans hC.2.2.2.2.1.symm) rfl hd (by omega) (by show 2 * 0 + _ + 12 ≤ _; omega) (kt p e R s m args below meth c H locs cells slots ls hC hl hS hP hc hn)
theorem ev_abs (D : Lst Y L) (i : Nat) {idx : Nat} {x : Int32} (hi : L[i]? = some (pc, .invokestatic idx, 3)) (hq : gw (.methodLink (mnm Y).cls idx Lib.Math.abs.name)) (hdp : 1 ≤ mdp Y) (hcat : (st.map fun v => v.category).sum ≤ 8) (kt : Ev E Y Pr Px k n (pc + 3) lv (.int (if 0 ≤ x then x else 0 - x) :: st) ws) : Ev E Y Pr Px k n pc lv (.int x :: st) ws := by
  intro p e R s m args below meth c H locs cells slots ls hC hl hS hP hc hn
  have hd := D _ (List.mem_of_getElem? hi)
  obtain ⟨hf1, hf2⟩ := hC.2.2.2.2.2.2.2.2.2.2
  exact va_mabs hC.1 hC.2.1 (hC.2.2.2.2.1.trans hl.1.symm) hC.2.2.2.2.2.2.1 (hC.2.2.2.2.2.1 _ hq) (hC.2.2.2.2.2.1 _ vMabs.1) (hC.2.2.2.2.2.1 _ ini_Math) (hC.2.2.2.2.2.1 _ vMabs.2) (by omega) (by omega) (by omega) (by omega) hd (kt p e R s m args below meth c H locs cells slots ls hC hl hS hP hc hn)
theorem ev_max (D : Lst Y L) (i : Nat) {idx : Nat} {x y : Int32} (hi : L[i]? = some (pc, .invokestatic idx, 3)) (hq : gw (.methodLink (mnm Y).cls idx Lib.Math.max.name)) (hdp : 1 ≤ mdp Y) (hcat : (st.map fun v => v.category).sum ≤ 8) (kt : Ev E Y Pr Px k n (pc + 3) lv (.int (if x < y then y else x) :: st) ws) : Ev E Y Pr Px k n pc lv (.int y :: .int x :: st) ws := by
  intro p e R s m args below meth c H locs cells slots ls hC hl hS hP hc hn
  have hd := D _ (List.mem_of_getElem? hi)
  obtain ⟨hf1, hf2⟩ := hC.2.2.2.2.2.2.2.2.2.2
  exact va_mmax hC.1 hC.2.1 (hC.2.2.2.2.1.trans hl.1.symm) hC.2.2.2.2.2.2.1 (hC.2.2.2.2.2.1 _ hq) (hC.2.2.2.2.2.1 _ vMmax.1) (hC.2.2.2.2.2.1 _ ini_Math) (hC.2.2.2.2.2.1 _ vMmax.2) (by omega) (by omega) (by omega) (by omega) hd (kt p e R s m args below meth c H locs cells slots ls hC hl hS hP hc hn)
theorem ev_min (D : Lst Y L) (i : Nat) {idx : Nat} {x y : Int32} (hi : L[i]? = some (pc, .invokestatic idx, 3)) (hq : gw (.methodLink (mnm Y).cls idx Lib.Math.min.name)) (hdp : 1 ≤ mdp Y) (hcat : (st.map fun v => v.category).sum ≤ 8) (kt : Ev E Y Pr Px k n (pc + 3) lv (.int (if y < x then y else x) :: st) ws) : Ev E Y Pr Px k n pc lv (.int y :: .int x :: st) ws := by
  intro p e R s m args below meth c H locs cells slots ls hC hl hS hP hc hn
  have hd := D _ (List.mem_of_getElem? hi)
  obtain ⟨hf1, hf2⟩ := hC.2.2.2.2.2.2.2.2.2.2
  exact va_mmin hC.1 hC.2.1 (hC.2.2.2.2.1.trans hl.1.symm) hC.2.2.2.2.2.2.1 (hC.2.2.2.2.2.1 _ hq) (hC.2.2.2.2.2.1 _ vMmin.1) (hC.2.2.2.2.2.1 _ ini_Math) (hC.2.2.2.2.2.1 _ vMmin.2) (by omega) (by omega) (by omega) (by omega) hd (kt p e R s m args below meth c H locs cells slots ls hC hl hS hP hc hn)
theorem ev_bits (D : Lst Y L) (i : Nat) {idx : Nat} {b : UInt64} (hi : L[i]? = some (pc, .invokestatic idx, 3)) (hq : gw (.methodLink (mnm Y).cls idx ⟨"java/lang/Double", "doubleToRawLongBits", "(D)J"⟩)) (hdp : 1 ≤ mdp Y) (hcat : (st.map fun v => v.category).sum ≤ 8) (kt : Ev E Y Pr Px k n (pc + 3) lv (.long b.toInt64 :: st) ws) : Ev E Y Pr Px k n pc lv (.double b :: st) ws := by
  intro p e R s m args below meth c H locs cells slots ls hC hl hS hP hc hn
  have hd := D _ (List.mem_of_getElem? hi)
  obtain ⟨hf1, hf2⟩ := hC.2.2.2.2.2.2.2.2.2.2
  exact vn_d2l hC.1 hC.2.1 (hC.2.2.2.2.1.trans hl.1.symm) hC.2.2.2.2.2.2.1 (hC.2.2.2.2.2.1 _ hq) (hC.2.2.2.2.2.1 _ vDr.1) (hC.2.2.2.2.2.1 _ vDr.2) (hC.2.2.2.2.2.1 _ ini_Double) (by omega) (by omega) hd (kt p e R s m args below meth c H locs cells slots ls hC hl hS hP hc hn)
theorem ev_copy (D : Lst Y L) (i : Nat) {idx a a0 q0 q1 n0 n1 : Nat} {f g : Nat → Int32} {sp dp z : Int32} {ws' : va_W} (hi : L[i]? = some (pc, .invokestatic idx, 3)) (hq : gw (.methodLink (mnm Y).cls idx arraycopyName)) (hdp : 1 ≤ mdp Y) (hcat : (st.map fun v => v.category).sum ≤ 8)
    (ha0 : ws[q0]? = some (a0, .inl (gK E 0, n0, .inl f))) (ha1 : ws[q1]? = some (a, .inl (gK E 0, n1, .inl g))) (h1 : ¬ sp < 0) (h2 : ¬ dp < 0) (h3 : ¬ z < 0) (h4 : sp.toNatClampNeg + z.toNatClampNeg ≤ n0) (h5 : dp.toNatClampNeg + z.toNatClampNeg ≤ n1)
    (hws : ws.set q1 (a, .inl (gK E 0, n1, .inl (va_cpy f g sp.toNatClampNeg dp.toNatClampNeg z.toNatClampNeg))) = ws')
    (kt : Ev E Y Pr Px k n (pc + 3) lv st ws') : Ev E Y Pr Px k n pc lv (.int z :: .int dp :: .ref a :: .int sp :: .ref a0 :: st) ws := by
  intro p e R s m args below meth c H locs cells slots ls hC hl hS hP hc hn
  have hd := D _ (List.mem_of_getElem? hi)
  subst hws
  obtain ⟨hf1, hf2⟩ := hC.2.2.2.2.2.2.2.2.2.2
  have hnf : nativeFrameWords "java/lang/System" "arraycopy" 5 ≤ 18 := by decide
  exact va_copyi (D := gD E) (A := gA E) hC.1 hC.2.1 (hC.2.2.2.2.1.trans hl.1.symm) hC.2.2.2.2.2.2.1 (hC.2.2.2.2.2.1 _ hq) (hC.2.2.2.2.2.1 _ vAc.1) (hC.2.2.2.2.2.1 _ vAc.2) (hC.2.2.2.2.2.1 _ ini_System) (WG_K hC.2.2.2.2.2.2.2.2.2.1) hP.1 hP.2 hS q0 q1 0 0 ha0 ha1 rfl rfl rfl h1 h2 h3 h4 h5 (fun _ _ => rfl) (by omega) (by omega) hd
    (fun H1 locs1 hP1 hD1 hS1 => kt p e R s m args below meth c H1 locs1 cells slots ls hC hl hS1 ⟨hP1, hD1⟩ hc hn)
end EVN
section EVC
variable {p : Program} {e : Env} {R : Room} {s : State} {m : MethodId} {args : Array Value} {below : List Frame} {meth : Method} {c : Code} {H : Heap} {locs : List Loc} {cells slots : Nat} {Q : State → Prop} {E : gE} {pc k1 n1 : Nat} {ls : Array Slot} {stk rest : List Value} {a : Array Value} {Pr2 : Option Value → va_W → Prop} {Px2 : String → va_W → Prop}
theorem run_W (hr : va_Run p (gL E) e R s m args below meth c H locs cells slots k1 n1 (F0 m pc ls stk) rest (gQ E Pr2 a) (gA E)) (hS : va_S (gA E) s.heap H locs)
    (kk : ∀ (v : Option Value) (ws' : va_W) (H1 : Heap) (locs1 : List Loc), Pr2 v ws' → gP E ws' H1 → va_S (gA E) s.heap H1 locs1 → W p (gL E) e R s m args below meth c H1 locs1 (cells + k1) (slots + n1) Q (F0 m (pc + 3) ls (v.toList ++ rest))) :
    W p (gL E) e R s m args below meth c H locs cells slots Q (F0 m pc ls stk) := by
  intro T hT X
  obtain ⟨v, st₀, t, T', L, h0, X', hL, e1, e2, ⟨⟨v2, ws', hv, hp, hb⟩, hz, hk⟩, st⟩ := hr T hT X
  cases hv
  rw [h0] at hz hk
  have S' : va_S (gA E) s.heap T'.heap (locs ++ L) := ⟨Nat.le_trans hS.1 (by rw [e1]; exact hz), fun q h1 h2 => by rw [e1, hk q (Nat.lt_of_lt_of_le h1 hS.1) h2]; exact hS.2.1 q h1 h2, fun q hq => by
    rcases List.mem_append.mp hq with h | h
    · exact hS.2.2 q h
    · exact hL q h⟩
  obtain ⟨t2, a1, b1⟩ := kk v ws' T'.heap (locs ++ L) hp (by rw [e1]; exact hb) S' T' rfl X'
  exact ⟨t2, st t2 a1, b1⟩
theorem run_X (hr : vx_Run p (gL E) e R s m args below meth c H locs cells slots k1 n1 (F0 m pc ls stk) rest (gQ E Pr2 a) (gXC E Px2) (gA E)) (hS : va_S (gA E) s.heap H locs)
    (kx : ∀ (Ec : String) (ws' : va_W) (q : Nat) (ce : Cell) (H1 : Heap) (locs1 : List Loc), Px2 Ec ws' → gP E ws' H1 → va_S (gA E) s.heap H1 locs1 → H1[q]? = some ce → ce.vm = .none → s.vm.findClass Ec = some ce.cls → vx_W p (gL E) e R s m args below meth c H1 locs1 (cells + k1) (slots + n1) Q (F0 m pc ls rest) q)
    (kk : ∀ (v : Option Value) (ws' : va_W) (H1 : Heap) (locs1 : List Loc), Pr2 v ws' → gP E ws' H1 → va_S (gA E) s.heap H1 locs1 → W p (gL E) e R s m args below meth c H1 locs1 (cells + k1) (slots + n1) Q (F0 m (pc + 3) ls (v.toList ++ rest))) :
    W p (gL E) e R s m args below meth c H locs cells slots Q (F0 m pc ls stk) := by
  intro T hT X
  rcases hr T hT X with ⟨v, st₀, t, T', L, h0, X', hL, e1, e2, ⟨⟨v2, ws', hv, hp, hb⟩, hz, hk⟩, st⟩ | ⟨q, st₀, t, T', L, Ec, ce, h0, X', hL, e1, e2, ⟨⟨ws', hp, hb⟩, hz, hk⟩, hce, hcv, hcl, st⟩
  · cases hv
    rw [h0] at hz hk
    have S' : va_S (gA E) s.heap T'.heap (locs ++ L) := ⟨Nat.le_trans hS.1 (by rw [e1]; exact hz), fun q h1 h2 => by rw [e1, hk q (Nat.lt_of_lt_of_le h1 hS.1) h2]; exact hS.2.1 q h1 h2, fun q hq => by
      rcases List.mem_append.mp hq with h | h
      · exact hS.2.2 q h
      · exact hL q h⟩
    obtain ⟨t2, a1, b1⟩ := kk v ws' T'.heap (locs ++ L) hp (by rw [e1]; exact hb) S' T' rfl X'
    exact ⟨t2, st t2 a1, b1⟩
  · rw [h0] at hz hk
    have S' : va_S (gA E) s.heap T'.heap (locs ++ L) := ⟨Nat.le_trans hS.1 (by rw [e1]; exact hz), fun q h1 h2 => by rw [e1, hk q (Nat.lt_of_lt_of_le h1 hS.1) h2]; exact hS.2.1 q h1 h2, fun q hq => by
      rcases List.mem_append.mp hq with h | h
      · exact hS.2.2 q h
      · exact hL q h⟩
    obtain ⟨t2, a1, b1⟩ := kx Ec ws' q ce T'.heap (locs ++ L) hp (by rw [e1]; exact hb) S' (by rw [e1]; exact hce) hcv hcl T' rfl X'
    exact ⟨t2, st.trans a1, b1⟩
end EVC
theorem par_len {d : String} {np : Nat} (h : (parseMethodDescriptor d).map (fun d => d.parameters.length) = some np) : ∀ sig, parseMethodDescriptor d = some sig → np = sig.parameters.length := by
  intro sig hs
  rw [hs] at h
  exact (Option.some.inj h).symm
theorem wsU_warm {Y : MI} {args : Array Value} {s : State} (hc : gw (.code (mnm Y) (mcd Y) (mml Y) (mrt Y))) (hts : ∀ w, gw w → w.before args s = true) : ∀ w ∈ wsU Y, ∀ (a' : Array Value) (U : State), s.WarmedH U.vm → w.before a' U = true := by
  intro w hw a' U hW
  have hg : gw w := by
    rcases List.mem_cons.mp hw with h | h
    · rw [h]; exact hc
    · exact ⟨(List.mem_filter.mp h).1, (List.mem_filter.mp h).2⟩
  exact word_at hW (good_of_word hg.2) (hts w hg)
theorem wsW_warm {Y : MI} {args : Array Value} {s : State} (hc : gw (.codeWith (mnm Y) (mcd Y) (mml Y) (mrt Y) (mhh Y))) (hts : ∀ w, gw w → w.before args s = true) : ∀ w ∈ wsW Y, ∀ (a' : Array Value) (U : State), s.WarmedH U.vm → w.before a' U = true := by
  intro w hw a' U hW
  have hg : gw w := by
    rcases List.mem_cons.mp hw with h | h
    · rw [h]; exact hc
    · exact ⟨(List.mem_filter.mp h).1, (List.mem_filter.mp h).2⟩
  exact word_at hW (good_of_word hg.2) (hts w hg)
section EVM
variable {E : gE} {Y Y2 : MI} {Pr Pr2 : Option Value → va_W → Prop} {Px Px2 : String → va_W → Prop} {k n k1 n1 k2 n2 np : Nat} {ws : va_W} {L : LI} {pc : Nat} {lv : List (Nat × Value)} {st stk As : List Value}
/-- a call of a virtual method that returns -/
theorem ev_callV (D : Lst Y L) (i : Nat) {idx b q ci N : Nat} {T : u_T} {fs : List Value} (hv : mVv Y2 np) (hi : L[i]? = some (pc, .invokevirtual idx, 3)) (hl : gw (.methodLink (mnm Y).cls idx (mnm Y2))) (hdp : mdp Y2 + 1 ≤ mdp Y) (hml : mml Y2 ≤ 18) (he : ws[q]? = some (b, .inr (ci, fs))) (hcl : gCl[ci]? = some ((mnm Y2).cls, T, N)) (hAs : As.length = np) (hcat : (st.map fun v => v.category).sum ≤ 8) (hst : stk = As.reverse ++ .ref b :: st)
    (hk : k1 + k2 ≤ k) (hn2 : n1 + n2 ≤ n) (hM : C0 E Y2 k1 n1 (.ref b :: As) ws Pr2) (kt : ∀ (v : Option Value) (ws' : va_W), Pr2 v ws' → Ev E Y Pr Px k2 n2 (pc + 3) lv (v.toList ++ st) ws') : Ev E Y Pr Px k n pc lv stk ws := by
  intro p e R s m args below meth c H locs cells slots ls hC hlv hS hP hc hn
  have hd := D _ (List.mem_of_getElem? hi)
  obtain ⟨hx, hb, hr, hlk, hmx, hts, hown, hnm, htb, hWG, hf1, hf2⟩ := id hC
  obtain ⟨⟨v1, v2, v3, v4, v5, v6⟩, v7⟩ := hv
  refine run_W (va_runV (C := (mnm Y2).cls) (As := As) (rest := st) ⟨hx, hb, hmx, hown, fun w h => absurd h (List.not_mem_nil (a := w))⟩ hM ⟨⟨rfl, rfl, by show mdp Y2 + 1 ≤ _; omega, by show 8 + (mml Y2 + 11) + 37 * mdp Y2 ≤ _; omega, wsU_warm v3 hts, List.mem_cons_self, hts _ v3, hts _ v2, v4, par_len v5, hts _ hl⟩, hts _ v1, hts _ v7⟩ ⟨gPc_blind, va_recv (WG_K hWG) hP.1 hcl he, fun U hU hW => ⟨rfl, by rw [hU]; exact WG_moved hW hS hWG, by rw [hU]; exact hP⟩⟩ rfl hAs hlv.1 hst (by show 2 * 0 + _ ≤ 8; omega) hd ⟨by omega, by omega⟩) hS (fun v ws' H1 locs1 hp hP1 hS1 => ?_)
  exact kt v ws' hp p e R s m args below meth c H1 locs1 (cells + k1) (slots + n1) ls hC hlv hS1 hP1 (by omega) (by omega)
theorem ev_callVx (D : Lst Y L) (i : Nat) {idx b q ci N : Nat} {T : u_T} {fs : List Value} (hv : mVv Y2 np) (hi : L[i]? = some (pc, .invokevirtual idx, 3)) (hl : gw (.methodLink (mnm Y).cls idx (mnm Y2))) (hdp : mdp Y2 + 1 ≤ mdp Y) (hml : mml Y2 ≤ 18) (he : ws[q]? = some (b, .inr (ci, fs))) (hcl : gCl[ci]? = some ((mnm Y2).cls, T, N)) (hAs : As.length = np) (hcat : (st.map fun v => v.category).sum ≤ 8) (hst : stk = As.reverse ++ .ref b :: st)
    (hk : k1 + k2 ≤ k) (hn2 : n1 + n2 ≤ n) (hM : C1 E Y2 k1 n1 (.ref b :: As) ws Pr2 Px2) (kx : ∀ (Ec : String) (ws' : va_W), Px2 Ec ws' → EvX E Y Pr Px k2 n2 pc lv Ec ws') (kt : ∀ (v : Option Value) (ws' : va_W), Pr2 v ws' → Ev E Y Pr Px k2 n2 (pc + 3) lv (v.toList ++ st) ws') : Ev E Y Pr Px k n pc lv stk ws := by
  intro p e R s m args below meth c H locs cells slots ls hC hlv hS hP hc hn
  have hd := D _ (List.mem_of_getElem? hi)
  obtain ⟨hx, hb, hr, hlk, hmx, hts, hown, hnm, htb, hWG, hf1, hf2⟩ := id hC
  obtain ⟨⟨v1, v2, v3, v4, v5, v6⟩, v7⟩ := hv
  refine run_X (vx_runV (C := (mnm Y2).cls) (As := As) (rest := st) ⟨hx, hb, hmx, hown, fun w h => absurd h (List.not_mem_nil (a := w))⟩ hM ⟨⟨rfl, rfl, by show mdp Y2 + 1 ≤ _; omega, by show 8 + (mml Y2 + 11) + 37 * mdp Y2 ≤ _; omega, wsU_warm v3 hts, List.mem_cons_self, hts _ v3, hts _ v2, v4, par_len v5, hts _ hl⟩, hts _ v1, hts _ v7⟩ ⟨gPc_blind, va_recv (WG_K hWG) hP.1 hcl he, fun U hU hW => ⟨rfl, by rw [hU]; exact WG_moved hW hS hWG, by rw [hU]; exact hP⟩⟩ rfl hAs hlv.1 hst (by show 2 * 0 + _ ≤ 8; omega) hd ⟨by omega, by omega⟩) hS (fun Ec ws' q9 ce H1 locs1 hp hP1 hS1 hce hcv hcc => ?_) (fun v ws' H1 locs1 hp hP1 hS1 => ?_)
  · exact kx Ec ws' hp p e R s m args below meth c H1 locs1 (cells + k1) (slots + n1) ls st q9 ce hC hlv hS1 hP1 (by omega) (by omega) hce hcv hcc
  · exact kt v ws' hp p e R s m args below meth c H1 locs1 (cells + k1) (slots + n1) ls hC hlv hS1 hP1 (by omega) (by omega)
/-- a call of a static method that returns -/
theorem ev_callS (D : Lst Y L) (i : Nat) {idx : Nat} (hv : mVs Y2 np) (hi : L[i]? = some (pc, .invokestatic idx, 3)) (hl : gw (.methodLink (mnm Y).cls idx (mnm Y2))) (hdp : mdp Y2 + 1 ≤ mdp Y) (hml : mml Y2 ≤ 18) (hAs : As.length = np) (hcat : (st.map fun v => v.category).sum ≤ 8) (hst : stk = As.reverse ++ st)
    (hk : k1 + k2 ≤ k) (hn2 : n1 + n2 ≤ n) (hM : C0 E Y2 k1 n1 As ws Pr2) (kt : ∀ (v : Option Value) (ws' : va_W), Pr2 v ws' → Ev E Y Pr Px k2 n2 (pc + 3) lv (v.toList ++ st) ws') : Ev E Y Pr Px k n pc lv stk ws := by
  intro p e R s m args below meth c H locs cells slots ls hC hlv hS hP hc hn
  have hd := D _ (List.mem_of_getElem? hi)
  obtain ⟨hx, hb, hr, hlk, hmx, hts, hown, hnm, htb, hWG, hf1, hf2⟩ := id hC
  obtain ⟨v1, v2, v3, v4, v5, v6⟩ := hv
  refine run_W (va_runS (As := As) (rest := st) ⟨hx, hb, hmx, hown, fun w h => absurd h (List.not_mem_nil (a := w))⟩ hM ⟨⟨rfl, rfl, by show mdp Y2 + 1 ≤ _; omega, by show 8 + (mml Y2 + 11) + 37 * mdp Y2 ≤ _; omega, wsU_warm v3 hts, List.mem_cons_self, hts _ v3, hts _ v2, v4, par_len v5, hts _ hl⟩, hts _ v1⟩ ⟨gPc_blind, fun U hU hW => ⟨rfl, by rw [hU]; exact WG_moved hW hS hWG, by rw [hU]; exact hP⟩⟩ rfl hAs hlv.1 hst (by show 2 * 0 + _ ≤ 8; omega) hd ⟨by omega, by omega⟩) hS (fun v ws' H1 locs1 hp hP1 hS1 => ?_)
  exact kt v ws' hp p e R s m args below meth c H1 locs1 (cells + k1) (slots + n1) ls hC hlv hS1 hP1 (by omega) (by omega)
theorem ev_callSx (D : Lst Y L) (i : Nat) {idx : Nat} (hv : mVs Y2 np) (hi : L[i]? = some (pc, .invokestatic idx, 3)) (hl : gw (.methodLink (mnm Y).cls idx (mnm Y2))) (hdp : mdp Y2 + 1 ≤ mdp Y) (hml : mml Y2 ≤ 18) (hAs : As.length = np) (hcat : (st.map fun v => v.category).sum ≤ 8) (hst : stk = As.reverse ++ st)
    (hk : k1 + k2 ≤ k) (hn2 : n1 + n2 ≤ n) (hM : C1 E Y2 k1 n1 As ws Pr2 Px2) (kx : ∀ (Ec : String) (ws' : va_W), Px2 Ec ws' → EvX E Y Pr Px k2 n2 pc lv Ec ws') (kt : ∀ (v : Option Value) (ws' : va_W), Pr2 v ws' → Ev E Y Pr Px k2 n2 (pc + 3) lv (v.toList ++ st) ws') : Ev E Y Pr Px k n pc lv stk ws := by
  intro p e R s m args below meth c H locs cells slots ls hC hlv hS hP hc hn
  have hd := D _ (List.mem_of_getElem? hi)
  obtain ⟨hx, hb, hr, hlk, hmx, hts, hown, hnm, htb, hWG, hf1, hf2⟩ := id hC
  obtain ⟨v1, v2, v3, v4, v5, v6⟩ := hv
  refine run_X (vx_runS (As := As) (rest := st) ⟨hx, hb, hmx, hown, fun w h => absurd h (List.not_mem_nil (a := w))⟩ hM ⟨⟨rfl, rfl, by show mdp Y2 + 1 ≤ _; omega, by show 8 + (mml Y2 + 11) + 37 * mdp Y2 ≤ _; omega, wsU_warm v3 hts, List.mem_cons_self, hts _ v3, hts _ v2, v4, par_len v5, hts _ hl⟩, hts _ v1⟩ ⟨gPc_blind, fun U hU hW => ⟨rfl, by rw [hU]; exact WG_moved hW hS hWG, by rw [hU]; exact hP⟩⟩ rfl hAs hlv.1 hst (by show 2 * 0 + _ ≤ 8; omega) hd ⟨by omega, by omega⟩) hS (fun Ec ws' q9 ce H1 locs1 hp hP1 hS1 hce hcv hcc => ?_) (fun v ws' H1 locs1 hp hP1 hS1 => ?_)
  · exact kx Ec ws' hp p e R s m args below meth c H1 locs1 (cells + k1) (slots + n1) ls st q9 ce hC hlv hS1 hP1 (by omega) (by omega) hce hcv hcc
  · exact kt v ws' hp p e R s m args below meth c H1 locs1 (cells + k1) (slots + n1) ls hC hlv hS1 hP1 (by omega) (by omega)
/-- a constructor of the package -/
theorem ev_callI (D : Lst Y L) (i : Nat) {idx b : Nat} (hv : mVi Y2 np) (hin : (mnm Y2).name = "<init>") (hrt : mrt Y2 = none) (hi : L[i]? = some (pc, .invokespecial idx, 3)) (hl : gw (.methodLink (mnm Y).cls idx (mnm Y2))) (hdp : mdp Y2 + 1 ≤ mdp Y) (hml : mml Y2 ≤ 18) (hAs : As.length = np) (hcat : (st.map fun v => v.category).sum ≤ 8) (hst : stk = As.reverse ++ .ref b :: st)
    (hk : k1 + k2 ≤ k) (hn2 : n1 + n2 ≤ n) (hM : C0 E Y2 k1 n1 (.ref b :: As) ws Pr2) (kt : ∀ (v : Option Value) (ws' : va_W), Pr2 v ws' → Ev E Y Pr Px k2 n2 (pc + 3) lv (v.toList ++ st) ws') : Ev E Y Pr Px k n pc lv stk ws := by
  intro p e R s m args below meth c H locs cells slots ls hC hlv hS hP hc hn
  have hd := D _ (List.mem_of_getElem? hi)
  obtain ⟨hx, hb, hr, hlk, hmx, hts, hown, hnm, htb, hWG, hf1, hf2⟩ := id hC
  obtain ⟨v1, v2, v3, v4, v5, v6⟩ := hv
  have v3' : gw (.code (mnm Y2) (mcd Y2) (mml Y2) none) := by rw [hrt] at v3; exact v3
  have hcm : Cond.code (mnm Y2) (mcd Y2) (mml Y2) none ∈ wsU Y2 := by unfold wsU; rw [hrt]; exact List.mem_cons_self
  refine run_W (va_runI (As := As) (rest := st) ⟨hx, hb, hmx, hown, fun w h => absurd h (List.not_mem_nil (a := w))⟩ hM ⟨⟨rfl, rfl, by show mdp Y2 + 1 ≤ _; omega, by show 8 + (mml Y2 + 11) + 37 * mdp Y2 ≤ _; omega, wsU_warm v3 hts, hcm, hts _ v3', hts _ v2, v4, par_len v5, hts _ hl⟩, hin, hts _ v1⟩ ⟨gPc_blind, fun U hU hW => ⟨rfl, by rw [hU]; exact WG_moved hW hS hWG, by rw [hU]; exact hP⟩⟩ rfl hAs hlv.1 hst (by show 2 * 0 + _ ≤ 8; omega) hd ⟨by omega, by omega⟩) hS (fun v ws' H1 locs1 hp hP1 hS1 => ?_)
  exact kt v ws' hp p e R s m args below meth c H1 locs1 (cells + k1) (slots + n1) ls hC hlv hS1 hP1 (by omega) (by omega)
/-- a constructor of a nest mate -/
theorem ev_callIN (D : Lst Y L) (i : Nat) {idx b : Nat} (hv : mVi Y2 np) (hin : (mnm Y2).name = "<init>") (hrt : mrt Y2 = none) (hi : L[i]? = some (pc, .invokespecial idx, 3)) (hl : ((mnm Y).cls, idx, mnm Y2) ∈ gNest) (hdp : mdp Y2 + 1 ≤ mdp Y) (hml : mml Y2 ≤ 18) (hAs : As.length = np) (hcat : (st.map fun v => v.category).sum ≤ 8) (hst : stk = As.reverse ++ .ref b :: st)
    (hk : k1 + k2 ≤ k) (hn2 : n1 + n2 ≤ n) (hM : C0 E Y2 k1 n1 (.ref b :: As) ws Pr2) (kt : ∀ (v : Option Value) (ws' : va_W), Pr2 v ws' → Ev E Y Pr Px k2 n2 (pc + 3) lv (v.toList ++ st) ws') : Ev E Y Pr Px k n pc lv stk ws := by
  intro p e R s m args below meth c H locs cells slots ls hC hlv hS hP hc hn
  have hd := D _ (List.mem_of_getElem? hi)
  obtain ⟨hx, hb, hr, hlk, hmx, hts, hown, hnm, htb, hWG, hf1, hf2⟩ := id hC
  obtain ⟨v1, v2, v3, v4, v5, v6⟩ := hv
  have v3' : gw (.code (mnm Y2) (mcd Y2) (mml Y2) none) := by rw [hrt] at v3; exact v3
  have hcm : Cond.code (mnm Y2) (mcd Y2) (mml Y2) none ∈ wsU Y2 := by unfold wsU; rw [hrt]; exact List.mem_cons_self
  have hnw := hWG.2.2.2.2.2.2.2.1 _ hl
  refine run_W (va_runIN (host := RX6) (As := As) (rest := st) ⟨hx, hb, hmx, hown, fun w h => absurd h (List.not_mem_nil (a := w))⟩ hM ⟨⟨⟨rfl, rfl, by show mdp Y2 + 1 ≤ _; omega, by show 8 + (mml Y2 + 11) + 37 * mdp Y2 ≤ _; omega, wsU_warm v3 hts, hcm⟩, hts _ v3', hts _ v2, v4, par_len v5, va_Nw.use rfl hnw⟩, hin, hts _ v1⟩ ⟨gPc_blind, fun U hU hW => ⟨rfl, by rw [hU]; exact WG_moved hW hS hWG, by rw [hU]; exact hP⟩⟩ rfl hAs hlv.1 hst (by show 2 * 0 + _ ≤ 8; omega) hd ⟨by omega, by omega⟩) hS (fun v ws' H1 locs1 hp hP1 hS1 => ?_)
  exact kt v ws' hp p e R s m args below meth c H1 locs1 (cells + k1) (slots + n1) ls hC hlv hS1 hP1 (by omega) (by omega)
/-- a static method with handlers, that returns -/
theorem ev_callSW (D : Lst Y L) (i : Nat) {idx : Nat} (hv : mVx Y2 np) (hi : L[i]? = some (pc, .invokestatic idx, 3)) (hl : gw (.methodLink (mnm Y).cls idx (mnm Y2))) (hdp : mdp Y2 + 1 ≤ mdp Y) (hml : mml Y2 ≤ 18) (hAs : As.length = np) (hcat : (st.map fun v => v.category).sum ≤ 8) (hst : stk = As.reverse ++ st)
    (hk : k1 + k2 ≤ k) (hn2 : n1 + n2 ≤ n) (hM : C2 E Y2 k1 n1 As ws Pr2) (kt : ∀ (v : Option Value) (ws' : va_W), Pr2 v ws' → Ev E Y Pr Px k2 n2 (pc + 3) lv (v.toList ++ st) ws') : Ev E Y Pr Px k n pc lv stk ws := by
  intro p e R s m args below meth c H locs cells slots ls hC hlv hS hP hc hn
  have hd := D _ (List.mem_of_getElem? hi)
  obtain ⟨hx, hb, hr, hlk, hmx, hts, hown, hnm, htb, hWG, hf1, hf2⟩ := id hC
  obtain ⟨v1, v2, v3, v4, v5, v6⟩ := hv
  refine run_W (vx_runSW (As := As) (rest := st) ⟨hx, hb, hmx, hown, fun w h => absurd h (List.not_mem_nil (a := w))⟩ hM ⟨⟨rfl, rfl, by show mdp Y2 + 1 ≤ _; omega, by show 8 + (mml Y2 + 11) + 37 * mdp Y2 ≤ _; omega, wsW_warm v3 hts, List.mem_cons_self⟩, hts _ v3, hts _ v2, v4, par_len v5, hts _ hl, hts _ v1⟩ ⟨gPc_blind, fun U hU hW => ⟨rfl, by rw [hU]; exact WG_moved hW hS hWG, by rw [hU]; exact hP⟩⟩ rfl hAs hlv.1 hst (by show 2 * 0 + _ ≤ 8; omega) hd ⟨by omega, by omega⟩) hS (fun v ws' H1 locs1 hp hP1 hS1 => ?_)
  exact kt v ws' hp p e R s m args below meth c H1 locs1 (cells + k1) (slots + n1) ls hC hlv hS1 hP1 (by omega) (by omega)
/-- thrown over the frame of a method without handlers: on to the caller -/
theorem evx_out {Ec : String} (hh : mhh Y = []) (hx : Px Ec ws) : EvX E Y Pr Px k n pc lv Ec ws := by
  intro p e R s m args below meth c H locs cells slots ls rest q ce hC hlv hS hP hc hn hce hcv hcl
  obtain ⟨hxx, hb, hr, hlk, hmx, hts, hown, hnm, htb, hWG, hf1, hf2⟩ := id hC
  refine vx_out (fun x hxm => ?_) hlk hce hcv hcl (fun t ht _ => ⟨⟨ws, hx, by rw [ht]; exact hP⟩, hS.F ht⟩) hS.2.2 (by omega) (by omega)
  rw [htb, hh] at hxm
  cases hxm
/-- .. of a method whose table takes it -/
theorem evx_catch {Ec : String} (pre : List ExceptionTableEntry) (x : ExceptionTableEntry) (suf : List ExceptionTableEntry) (hsplit : tableOf (mhh Y) = pre ++ x :: suf) (hpass : ∀ z ∈ pre, z.catchType ≠ 0 ∧ ∃ nm : String, gw (.classLink (mnm Y).cls z.catchType nm) ∧ (Ec, nm) ∈ gNc) (hcov : covers x pc = true) (h0 : x.catchType ≠ 0) (hlink : gw (.classLink (mnm Y).cls x.catchType Ec)) (hX : Ec ∈ gXn)
    (kt : ∀ q : Nat, Ev E Y Pr Px k n x.handlerPc lv [.ref q] ws) : EvX E Y Pr Px k n pc lv Ec ws := by
  intro p e R s m args below meth c H locs cells slots ls rest q ce hC hlv hS hP hc hn hce hcv hcl
  obtain ⟨hxx, hb, hr, hlk, hmx, hts, hown, hnm, htb, hWG, hf1, hf2⟩ := id hC
  refine vx_catch hown pre x suf (htb.trans hsplit) (fun z hz => ?_) hcov h0 (hts _ hlink) (va_Nw.use rfl (hWG.2.2.2.2.2.2.2.2.2.2.2.1 Ec hX)) hce hcv hcl (kt q p e R s m args below meth c H locs cells slots ls hC hlv hS hP hc hn)
  obtain ⟨z1, nm, z2, z3⟩ := hpass z hz
  exact Or.inr ⟨z1, nm, hts _ z2, hWG.2.2.2.2.2.2.2.2.2.2.1 _ z3⟩
end EVM
end
section
/-- an exception that the program throws: its name, its constructor's place in the pool -/
def gXb (X : String) (ic : Nat) : Prop := Bundle.fit X = true ∧ gw (.initialized X) ∧ (∀ w ∈ vx_atS RX6 ic X ["java/lang/RuntimeException", "java/lang/Exception"], goodWord w = true → gw w) ∧ (vx_atS RX6 ic X ["java/lang/RuntimeException", "java/lang/Exception"]).filter (fun w => !goodWord w) = [.declares (Bundle.initS "java/lang/RuntimeException"), .declares (Bundle.initS "java/lang/Exception"), .declares (Bundle.initS "java/lang/Throwable"), .castable X X] ∧ (∀ w ∈ vx_atS RX6 ic X ["java/lang/RuntimeException", "java/lang/Exception"], vx_ot w = true) ∧ X ∈ gXn
theorem gX_names : ∀ n ∈ ["java/lang/RuntimeException", "java/lang/Exception"], Bundle.fit n = true := by decide +kernel
theorem XbI : gXb xI 188 := ⟨by decide +kernel, ini_IndexOutOfBoundsException, xx_IndexOutOfBoundsException, xy_IndexOutOfBoundsException, by decide +kernel, by decide +kernel⟩
theorem XbA : gXb xA 61 := ⟨by decide +kernel, ini_IllegalArgumentException, xx_IllegalArgumentException, xy_IllegalArgumentException, by decide +kernel, by decide +kernel⟩
theorem XbS : gXb xS 77 := ⟨by decide +kernel, ini_IllegalStateException, xx_IllegalStateException, xy_IllegalStateException, by decide +kernel, by decide +kernel⟩
theorem gX_hat {E : gE} {s : State} {args : Array Value} {H : Heap} {X : String} {ic : Nat} (hb : gXb X ic) (hts : ∀ w, gw w → w.before args s = true) (hWG : WG E s H) : ∀ w ∈ vx_atS RX6 ic X ["java/lang/RuntimeException", "java/lang/Exception"], w.before args s = true := by
  intro w hw
  by_cases hg : goodWord w = true
  · exact hts w (hb.2.2.1 w hw hg)
  · have hm : w ∈ (vx_atS RX6 ic X ["java/lang/RuntimeException", "java/lang/Exception"]).filter (fun w => !goodWord w) := List.mem_filter.mpr ⟨hw, by simp [hg]⟩
    rw [hb.2.2.2.1] at hm
    have hd := hWG.2.2.2.2.2.2.2.2.2.2.2.2.1
    have hcs := hWG.2.2.2.2.2.2.2.2.2.2.2.1 X hb.2.2.2.2.2
    rcases List.mem_cons.mp hm with rfl | hm
    · exact va_Nw.use rfl (hd _ (by decide +kernel))
    rcases List.mem_cons.mp hm with rfl | hm
    · exact va_Nw.use rfl (hd _ (by decide +kernel))
    rcases List.mem_cons.mp hm with rfl | hm
    · exact va_Nw.use rfl (hd _ (by decide +kernel))
    rcases List.mem_cons.mp hm with rfl | hm
    · exact va_Nw.use rfl hcs
    · exact absurd hm List.not_mem_nil
theorem gX_good {X : String} {ic ik : Nat} (hb : gXb X ic) : ∀ w ∈ Cond.classLink RX6 ik X :: Cond.initialized X :: vx_atS RX6 ic X ["java/lang/RuntimeException", "java/lang/Exception"], vx_ot w = true := by
  intro w hw
  cases hw with
  | head => rfl
  | tail _ hw =>
    cases hw with
    | head => rfl
    | tail _ hw => exact hb.2.2.2.2.1 w hw
section EVT
variable {E : gE} {Y : MI} {Pr : Option Value → va_W → Prop} {Px : String → va_W → Prop} {k n : Nat} {ws : va_W} {L : LI} {pc : Nat} {lv : List (Nat × Value)} {st : List Value}
/-- new; dup; ldc; invokespecial; athrow -/
theorem ev_throw (D : Lst Y L) (i : Nat) {X tx : String} {ik ks ic : Nat} (hb : gXb X ic) (hown : (mnm Y).cls = RX6) (hh : mhh Y = []) (hk : gw (.classLink RX6 ik X)) (hs : (ks, tx) ∈ gStr)
    (i0 : L[i]? = some (pc, .new ik, 3)) (i1 : L[i + 1]? = some (pc + 3, .dup, 1)) (i2 : L[i + 2]? = some (pc + 4, .ldc ks, 2)) (i3 : L[i + 3]? = some (pc + 6, .invokespecial ic, 3)) (i4 : L[i + 4]? = some (pc + 9, .athrow, 1))
    (hdp : 6 ≤ mdp Y) (hcat : (st.map fun v => v.category).sum ≤ 8) (h1 : 1 ≤ k) (h2 : 6 ≤ n) (hx : Px X ws) : Ev E Y Pr Px k n pc lv st ws := by
  intro p e R s m args below meth c H locs cells slots ls hC hl hS hP hc hn
  obtain ⟨hxx, hbb, hr, hlk, hmx, hts, hfc, hnm, htb, hWG, hf1, hf2⟩ := id hC
  obtain ⟨sa, hsa⟩ := hWG.2.2.2.2.1 _ hs
  have d0 := D _ (List.mem_of_getElem? i0)
  have d1 := D _ (List.mem_of_getElem? i1)
  have d2 := D _ (List.mem_of_getElem? i2)
  have d3 := D _ (List.mem_of_getElem? i3)
  have d4 := D _ (List.mem_of_getElem? i4)
  have hfc' : s.vm.findClass RX6 = some m.cls := by rw [← hown]; exact hfc
  have hat := gX_hat hb hts hWG
  have hgd := gX_good (ik := ik) hb
  have hout : ∀ x ∈ c.exceptionTable.toList, covers x (pc + 9) = false := by
    intro x hxm
    rw [htb, hh] at hxm
    cases hxm
  have hend : ∀ t : State, s.vm.Alike t.vm → H.size ≤ t.heap.size → (∀ q : Nat, q < H.size → t.heap[q]? = H[q]?) → gXC E Px X s t := by
    intro t hal hz ho
    refine ⟨⟨ws, hx, ⟨hP.1.kept (fun k q hk => ho q.1 (hP.1 k q hk).lt), hP.2⟩⟩, Nat.le_trans hS.1 hz, fun q h1 h2 => ?_⟩
    rw [ho q (Nat.lt_of_lt_of_le h1 hS.1)]
    exact hS.2.1 q h1 h2
  have e1 : (["java/lang/RuntimeException", "java/lang/Exception"] : List String).length + 3 < R.frames := by show 2 + 3 < _; omega
  have e2 : (st.map fun v => v.category).sum + (13 * ((["java/lang/RuntimeException", "java/lang/Exception"] : List String).length + 1) + 43) ≤ R.locals := by show _ + (13 * (2 + 1) + 43) ≤ _; omega
  exact vx_throwS (A := gA E) (own := RX6) (names := ["java/lang/RuntimeException", "java/lang/Exception"]) hxx hbb hWG.1 hfc' hb.1 gX_names (hts _ hk) (hts _ hb.2.1) hsa hat hgd hWG.2.2.2.2.2.1 hWG.2.2.2.2.2.2.1 hS (hl.1.trans hmx.symm) d0 d1 d2 d3 d4 hout e1 e2 (by omega) (by omega) hlk hend hS.2.2 (by omega) (by omega)
theorem ev_throwW (D : Lst Y L) (i : Nat) {X tx : String} {ik ks ic : Nat} (hb : gXb X ic) (hown : (mnm Y).cls = RX6) (hh : mhh Y = []) (hk : gw (.classLink RX6 ik X)) (hs : (ks, tx) ∈ gStr)
    (i0 : L[i]? = some (pc, .new ik, 3)) (i1 : L[i + 1]? = some (pc + 3, .dup, 1)) (i2 : L[i + 2]? = some (pc + 4, .ldc_w ks, 3)) (i3 : L[i + 3]? = some (pc + 7, .invokespecial ic, 3)) (i4 : L[i + 4]? = some (pc + 10, .athrow, 1))
    (hdp : 6 ≤ mdp Y) (hcat : (st.map fun v => v.category).sum ≤ 8) (h1 : 1 ≤ k) (h2 : 6 ≤ n) (hx : Px X ws) : Ev E Y Pr Px k n pc lv st ws := by
  intro p e R s m args below meth c H locs cells slots ls hC hl hS hP hc hn
  obtain ⟨hxx, hbb, hr, hlk, hmx, hts, hfc, hnm, htb, hWG, hf1, hf2⟩ := id hC
  obtain ⟨sa, hsa⟩ := hWG.2.2.2.2.1 _ hs
  have d0 := D _ (List.mem_of_getElem? i0)
  have d1 := D _ (List.mem_of_getElem? i1)
  have d2 := D _ (List.mem_of_getElem? i2)
  have d3 := D _ (List.mem_of_getElem? i3)
  have d4 := D _ (List.mem_of_getElem? i4)
  have hfc' : s.vm.findClass RX6 = some m.cls := by rw [← hown]; exact hfc
  have hat := gX_hat hb hts hWG
  have hgd := gX_good (ik := ik) hb
  have hout : ∀ x ∈ c.exceptionTable.toList, covers x (pc + 10) = false := by
    intro x hxm
    rw [htb, hh] at hxm
    cases hxm
  have hend : ∀ t : State, s.vm.Alike t.vm → H.size ≤ t.heap.size → (∀ q : Nat, q < H.size → t.heap[q]? = H[q]?) → gXC E Px X s t := by
    intro t hal hz ho
    refine ⟨⟨ws, hx, ⟨hP.1.kept (fun k q hk => ho q.1 (hP.1 k q hk).lt), hP.2⟩⟩, Nat.le_trans hS.1 hz, fun q h1 h2 => ?_⟩
    rw [ho q (Nat.lt_of_lt_of_le h1 hS.1)]
    exact hS.2.1 q h1 h2
  have e1 : (["java/lang/RuntimeException", "java/lang/Exception"] : List String).length + 3 < R.frames := by show 2 + 3 < _; omega
  have e2 : (st.map fun v => v.category).sum + (13 * ((["java/lang/RuntimeException", "java/lang/Exception"] : List String).length + 1) + 43) ≤ R.locals := by show _ + (13 * (2 + 1) + 43) ≤ _; omega
  exact vx_throwSW (A := gA E) (own := RX6) (names := ["java/lang/RuntimeException", "java/lang/Exception"]) hxx hbb hWG.1 hfc' hb.1 gX_names (hts _ hk) (hts _ hb.2.1) hsa hat hgd hWG.2.2.2.2.2.1 hWG.2.2.2.2.2.2.1 hS (hl.1.trans hmx.symm) d0 d1 d2 d3 d4 hout e1 e2 (by omega) (by omega) hlk hend hS.2.2 (by omega) (by omega)
end EVT
section EVO
variable {E : gE} {Y : MI} {Pr : Option Value → va_W → Prop} {Px : String → va_W → Prop} {k n : Nat} {ws : va_W} {av : List Value}
theorem ctx_of {p : Program} {e : Env} {s s₁ : State} {m : MethodId} {args : Array Value} {below : List Frame} {meth : Method} {c : Code} {W0 : List Cond} {rm : Room}
    (B : BodyLoose p (gL E) (mnm Y) (headSpec W0 rm) (mcd Y) (mml Y) (mrt Y) e s m args below meth c s₁) (hml : c.maxLocals = mml Y) (hts : ∀ w, gw w → w.before args s = true) (htb : c.exceptionTable.toList = tableOf (mhh Y)) (hWG : WG E s s.heap) : Cx E Y p (gR Y k n) s m args meth c :=
  ⟨B.exec, B.bytes, B.returns, B.notSynchronized, hml, hts, findClass_of_methodNamed B.named, (name_of_methodNamed B.named B.method).1, htb, hWG, Nat.le_refl _, Nat.le_refl _⟩
theorem c1_of (hp : plainFor (mnm Y) = true) (hh : mhh Y = []) (hl : (lg_sl av).length ≤ mml Y) (kk : Ev E Y Pr Px k n 0 (lv_args 0 av) [] ws) : C1 E Y k n av ws Pr Px := by
  refine MetFree.of_bodySF (code := mcd Y) (maxLocals := mml Y) (ret := mrt Y) hp ?_ ?_
  · intro args s m h hn
    obtain ⟨meth, c, h1, h2, h3, h4, h5, h6, -, -⟩ := Cond.code_spec hn (atoms_spec (ws := wsU Y) h _ List.mem_cons_self)
    exact ⟨meth, c, h1, h2, h3, h4, h5, h6⟩
  · intro p e s m args below meth c s₁ B hml hP _
    have hh0 : s₁.heap = s.heap := by rw [B.state]; rfl
    have ht : c.exceptionTable.toList = tableOf (mhh Y) := by
      obtain ⟨meth9, c9, h1, h2, -, -, -, -, h7, -⟩ := Cond.code_spec B.named (atoms_spec (ws := wsU Y) B.pre _ List.mem_cons_self)
      cases Option.some.inj (h1.symm.trans B.method)
      cases Option.some.inj (h2.symm.trans (Stand.of_body B).code)
      rw [hh, Array.isEmpty_iff.mp h7]
      rfl
    obtain ⟨rfl, hWG, hg⟩ := hP
    have hts0 := atoms_spec (ws := wsU Y) B.pre
    have hts : ∀ w, gw w → w.before av.toArray s = true := fun w hw => hts0 w (List.mem_cons_of_mem _ (List.mem_filter.mpr ⟨hw.1, hw.2⟩))
    have W1 := kk p e (gR Y k n) s m av.toArray below meth c s.heap [] 0 0 _ (ctx_of B hml hts ht hWG) (lv_entry av hl) va_S.rf hg (by show 0 + k ≤ k; omega) (by show 0 + n ≤ n; omega)
    rw [← lg_entry_eq] at W1
    obtain ⟨t, a1, o, b1, b2, b3⟩ := W1 s₁ hh0 (Stand.of_body B)
    exact ⟨t, o, a1, b1, b2, b3⟩
theorem c0_of (hp : plainFor (mnm Y) = true) (hh : mhh Y = []) (hl : (lg_sl av).length ≤ mml Y) (kk : Ev E Y Pr (fun _ _ => False) k n 0 (lv_args 0 av) [] ws) : C0 E Y k n av ws Pr := by
  unfold C0 Met
  refine MetFree.of_bodySF (code := mcd Y) (maxLocals := mml Y) (ret := mrt Y) hp ?_ ?_
  · intro args s m h hn
    obtain ⟨meth, c, h1, h2, h3, h4, h5, h6, -, -⟩ := Cond.code_spec hn (atoms_spec (ws := wsU Y) h _ List.mem_cons_self)
    exact ⟨meth, c, h1, h2, h3, h4, h5, h6⟩
  · intro p e s m args below meth c s₁ B hml hP _
    have hh0 : s₁.heap = s.heap := by rw [B.state]; rfl
    have ht : c.exceptionTable.toList = tableOf (mhh Y) := by
      obtain ⟨meth9, c9, h1, h2, -, -, -, -, h7, -⟩ := Cond.code_spec B.named (atoms_spec (ws := wsU Y) B.pre _ List.mem_cons_self)
      cases Option.some.inj (h1.symm.trans B.method)
      cases Option.some.inj (h2.symm.trans (Stand.of_body B).code)
      rw [hh, Array.isEmpty_iff.mp h7]
      rfl
    obtain ⟨rfl, hWG, hg⟩ := hP
    have hts0 := atoms_spec (ws := wsU Y) B.pre
    have hts : ∀ w, gw w → w.before av.toArray s = true := fun w hw => hts0 w (List.mem_cons_of_mem _ (List.mem_filter.mpr ⟨hw.1, hw.2⟩))
    have W1 := kk p e (gR Y k n) s m av.toArray below meth c s.heap [] 0 0 _ (ctx_of B hml hts ht hWG) (lv_entry av hl) va_S.rf hg (by show 0 + k ≤ k; omega) (by show 0 + n ≤ n; omega)
    rw [← lg_entry_eq] at W1
    obtain ⟨t, a1, o, b1, b2, b3⟩ := W1 s₁ hh0 (Stand.of_body B)
    rcases b3 with b3 | ⟨q, -, Ec, ce, L9, ⟨⟨ws9, h9, -⟩, -⟩, -⟩
    · exact ⟨t, o, a1, b1, b2, b3⟩
    · exact h9.elim
theorem c2_of (hp : plainFor (mnm Y) = true) (hl : (lg_sl av).length ≤ mml Y) (kk : Ev E Y Pr (fun _ _ => False) k n 0 (lv_args 0 av) [] ws) : C2 E Y k n av ws Pr := by
  unfold C2 Met
  refine MetFree.of_bodySF (code := mcd Y) (maxLocals := mml Y) (ret := mrt Y) hp ?_ ?_
  · intro args s m h hn
    obtain ⟨m9, meth, c, hn9, h1, h2, h3, h4, -, h5, h6, -⟩ := Cond.codeWith_spec (atoms_spec (ws := wsW Y) h _ List.mem_cons_self)
    cases hn.symm.trans hn9
    exact ⟨meth, c, h1, h2, h3, h4, h5, h6⟩
  · intro p e s m args below meth c s₁ B hml hP _
    have hh0 : s₁.heap = s.heap := by rw [B.state]; rfl
    have ht : c.exceptionTable.toList = tableOf (mhh Y) := vx_table (x := mnm Y) B (atoms_spec (ws := wsW Y) B.pre _ List.mem_cons_self)
    obtain ⟨rfl, hWG, hg⟩ := hP
    have hts0 := atoms_spec (ws := wsW Y) B.pre
    have hts : ∀ w, gw w → w.before av.toArray s = true := fun w hw => hts0 w (List.mem_cons_of_mem _ (List.mem_filter.mpr ⟨hw.1, hw.2⟩))
    have W1 := kk p e (gR Y k n) s m av.toArray below meth c s.heap [] 0 0 _ (ctx_of B hml hts ht hWG) (lv_entry av hl) va_S.rf hg (by show 0 + k ≤ k; omega) (by show 0 + n ≤ n; omega)
    rw [← lg_entry_eq] at W1
    obtain ⟨t, a1, o, b1, b2, b3⟩ := W1 s₁ hh0 (Stand.of_body B)
    rcases b3 with b3 | ⟨q, -, Ec, ce, L9, ⟨⟨ws9, h9, -⟩, -⟩, -⟩
    · exact ⟨t, o, a1, b1, b2, b3⟩
    · exact h9.elim
end EVO
end
section
theorem wset_get {ws : va_W} {q a : Nat} {e e2 : va_E} (h : ws[q]? = some (a, e)) : (ws.set q (a, e2))[q]? = some (a, e2) := List.getElem?_set_self (List.getElem?_eq_some_iff.mp h).1
theorem wset_set {ws : va_W} {q : Nat} {x y : Nat × va_E} : (ws.set q x).set q y = ws.set q y := List.set_set ..
/-- kinds of cells: which object, how long a row -/
def ek : va_E → Nat
  | .inr o => o.1
  | .inl (_, n, .inl _) => 1000 + n
  | .inl (_, n, .inr (.inl _)) => 10000 + n
  | .inl (_, n, .inr (.inr (.inl _))) => 20000 + n
  | .inl (_, n, .inr (.inr (.inr (.inl _)))) => 30000 + n
  | .inl (_, n, .inr (.inr (.inr (.inr _)))) => 40000 + n
theorem ek_ne {ws : va_W} {q q' a a' : Nat} {e e' : va_E} (h' : ws[q']? = some (a', e')) (h : ws[q]? = some (a, e)) (hk : Nat.beq (ek e) (ek e') = false) : q ≠ q' := by
  intro hq
  subst hq
  rw [h] at h'
  cases h'
  rw [Nat.beq_refl] at hk
  cases hk
theorem wset_o {ws : va_W} {q q' a a' : Nat} {x : Nat × va_E} {e e' : va_E} (h' : ws[q']? = some (a', e')) (h : ws[q]? = some (a, e)) (hk : Nat.beq (ek e) (ek e') = false) : (ws.set q x)[q']? = some (a', e') := by
  rw [List.getElem?_set_ne (ek_ne h' h hk)]
  exact h'
theorem wset_n {ws : va_W} {q q' : Nat} {x : Nat × va_E} {r : Nat × va_E} (h' : ws[q']? = some r) (hq : q ≠ q') : (ws.set q x)[q']? = some r := by
  rw [List.getElem?_set_ne hq]
  exact h'
theorem wset_sw {ws : va_W} {q q' a a' : Nat} {x y : Nat × va_E} {e e' : va_E} (h' : ws[q']? = some (a', e')) (h : ws[q]? = some (a, e)) (hk : Nat.beq (ek e) (ek e') = false) : ((ws.set q x).set q' y) = ((ws.set q' y).set q x) := List.set_comm _ _ (ek_ne h' h hk)
theorem wset_id {ws : va_W} {q : Nat} {x : Nat × va_E} (h : ws[q]? = some x) : ws.set q x = ws := by
  apply List.ext_getElem?
  intro i
  by_cases hi : q = i
  · subst hi
    rw [List.getElem?_set_self (List.getElem?_eq_some_iff.mp h).1, h]
  · rw [List.getElem?_set_ne hi]
/-- a method that returns this, and leaves that -/
def CD (E : gE) (Y : MI) (k n : Nat) (av : List Value) (ws : va_W) (v : Option Value) (ws' : va_W) : Prop := C0 E Y k n av ws (fun v2 w2 => v2 = v ∧ w2 = ws')
abbrev vcons (v : Option Value) (st : List Value) : List Value := match v with
  | some x => x :: st
  | none => st
theorem vcons_eq (v : Option Value) (st : List Value) : v.toList ++ st = vcons v st := by cases v <;> rfl
abbrev nX : String → va_W → Prop := fun _ _ => False
theorem mVv_p {Y : MI} {n : Nat} (h : mVv Y n) : plainFor (mnm Y) = true := h.1.2.2.2.2.2.1
theorem mVv_h {Y : MI} {n : Nat} (h : mVv Y n) : mhh Y = [] := h.1.2.2.2.2.2.2
theorem mVs_p {Y : MI} {n : Nat} (h : mVs Y n) : plainFor (mnm Y) = true := h.2.2.2.2.2.1
theorem mVs_h {Y : MI} {n : Nat} (h : mVs Y n) : mhh Y = [] := h.2.2.2.2.2.2
theorem mVi_p {Y : MI} {n : Nat} (h : mVi Y n) : plainFor (mnm Y) = true := h.2.2.2.2.2.1
theorem mVi_h {Y : MI} {n : Nat} (h : mVi Y n) : mhh Y = [] := h.2.2.2.2.2.2
theorem mVx_p {Y : MI} {n : Nat} (h : mVx Y n) : plainFor (mnm Y) = true := h.2.2.2.2.2
section KIT
variable {E : gE} {Y Y2 : MI} {Pr Pr2 : Option Value → va_W → Prop} {Px Px2 : String → va_W → Prop} {k n k1 n1 k2 n2 np : Nat} {ws ws' : va_W} {L : LI} {pc : Nat} {lv lv0 : List (Nat × Value)} {st stk As av : List Value} {v' : Option Value}
theorem cdV (h : mVv Y np) (hl : (lg_sl av).length ≤ mml Y) (hv : lv_args 0 av = lv0) (kk : Ev E Y (fun v2 w2 => v2 = v' ∧ w2 = ws') nX k n 0 lv0 [] ws) : CD E Y k n av ws v' ws' := by
  subst hv
  exact c0_of (mVv_p h) (mVv_h h) hl kk
theorem cdS (h : mVs Y np) (hl : (lg_sl av).length ≤ mml Y) (hv : lv_args 0 av = lv0) (kk : Ev E Y (fun v2 w2 => v2 = v' ∧ w2 = ws') nX k n 0 lv0 [] ws) : CD E Y k n av ws v' ws' := by
  subst hv
  exact c0_of (mVs_p h) (mVs_h h) hl kk
theorem cdI (h : mVi Y np) (hl : (lg_sl av).length ≤ mml Y) (hv : lv_args 0 av = lv0) (kk : Ev E Y (fun v2 w2 => v2 = v' ∧ w2 = ws') nX k n 0 lv0 [] ws) : CD E Y k n av ws v' ws' := by
  subst hv
  exact c0_of (mVi_p h) (mVi_h h) hl kk
theorem c0V (h : mVv Y np) (hl : (lg_sl av).length ≤ mml Y) (hv : lv_args 0 av = lv0) (kk : Ev E Y Pr nX k n 0 lv0 [] ws) : C0 E Y k n av ws Pr := by
  subst hv
  exact c0_of (mVv_p h) (mVv_h h) hl kk
theorem c0S (h : mVs Y np) (hl : (lg_sl av).length ≤ mml Y) (hv : lv_args 0 av = lv0) (kk : Ev E Y Pr nX k n 0 lv0 [] ws) : C0 E Y k n av ws Pr := by
  subst hv
  exact c0_of (mVs_p h) (mVs_h h) hl kk
theorem c0I (h : mVi Y np) (hl : (lg_sl av).length ≤ mml Y) (hv : lv_args 0 av = lv0) (kk : Ev E Y Pr nX k n 0 lv0 [] ws) : C0 E Y k n av ws Pr := by
  subst hv
  exact c0_of (mVi_p h) (mVi_h h) hl kk
theorem c1V (h : mVv Y np) (hl : (lg_sl av).length ≤ mml Y) (hv : lv_args 0 av = lv0) (kk : Ev E Y Pr Px k n 0 lv0 [] ws) : C1 E Y k n av ws Pr Px := by
  subst hv
  exact c1_of (mVv_p h) (mVv_h h) hl kk
theorem c1S (h : mVs Y np) (hl : (lg_sl av).length ≤ mml Y) (hv : lv_args 0 av = lv0) (kk : Ev E Y Pr Px k n 0 lv0 [] ws) : C1 E Y k n av ws Pr Px := by
  subst hv
  exact c1_of (mVs_p h) (mVs_h h) hl kk
theorem c2X (h : mVx Y np) (hl : (lg_sl av).length ≤ mml Y) (hv : lv_args 0 av = lv0) (kk : Ev E Y Pr nX k n 0 lv0 [] ws) : C2 E Y k n av ws Pr := by
  subst hv
  exact c2_of (mVx_p h) hl kk
/-- calls, the contract first -/
theorem ev_cV (D : Lst Y L) (i : Nat) {idx b q ci N : Nat} {T : u_T} {fs : List Value} (hM : CD E Y2 0 0 (.ref b :: As) ws v' ws') (hv : mVv Y2 np) (hi : L[i]? = some (pc, .invokevirtual idx, 3)) (hl : gw (.methodLink (mnm Y).cls idx (mnm Y2))) (hst : stk = As.reverse ++ .ref b :: st) (he : ws[q]? = some (b, .inr (ci, fs))) (hcl : gCl[ci]? = some ((mnm Y2).cls, T, N)) (hd : mdp Y2 + 1 ≤ mdp Y ∧ mml Y2 ≤ 18 ∧ As.length = np ∧ (st.map fun v => v.category).sum ≤ 8)
    (kt : Ev E Y Pr Px k n (pc + 3) lv (vcons v' st) ws') : Ev E Y Pr Px k n pc lv stk ws :=
  ev_callV D i hv hi hl hd.1 hd.2.1 he hcl hd.2.2.1 hd.2.2.2 hst (k1 := 0) (k2 := k) (n1 := 0) (n2 := n) (Nat.le_of_eq (Nat.zero_add k)) (Nat.le_of_eq (Nat.zero_add n)) hM (fun v w h => by rw [h.1, h.2, vcons_eq]; exact kt)
theorem ev_cS (D : Lst Y L) (i : Nat) {idx : Nat} (hM : CD E Y2 0 0 As ws v' ws') (hv : mVs Y2 np) (hi : L[i]? = some (pc, .invokestatic idx, 3)) (hl : gw (.methodLink (mnm Y).cls idx (mnm Y2))) (hst : stk = As.reverse ++ st) (hd : mdp Y2 + 1 ≤ mdp Y ∧ mml Y2 ≤ 18 ∧ As.length = np ∧ (st.map fun v => v.category).sum ≤ 8)
    (kt : Ev E Y Pr Px k n (pc + 3) lv (vcons v' st) ws') : Ev E Y Pr Px k n pc lv stk ws :=
  ev_callS D i hv hi hl hd.1 hd.2.1 hd.2.2.1 hd.2.2.2 hst (k1 := 0) (k2 := k) (n1 := 0) (n2 := n) (Nat.le_of_eq (Nat.zero_add k)) (Nat.le_of_eq (Nat.zero_add n)) hM (fun v w h => by rw [h.1, h.2, vcons_eq]; exact kt)
theorem ev_rV (D : Lst Y L) (i : Nat) {idx b q ci N : Nat} {T : u_T} {fs : List Value} (hM : C0 E Y2 0 0 (.ref b :: As) ws Pr2) (hv : mVv Y2 np) (hi : L[i]? = some (pc, .invokevirtual idx, 3)) (hl : gw (.methodLink (mnm Y).cls idx (mnm Y2))) (hst : stk = As.reverse ++ .ref b :: st) (he : ws[q]? = some (b, .inr (ci, fs))) (hcl : gCl[ci]? = some ((mnm Y2).cls, T, N)) (hd : mdp Y2 + 1 ≤ mdp Y ∧ mml Y2 ≤ 18 ∧ As.length = np ∧ (st.map fun v => v.category).sum ≤ 8)
    (kt : ∀ (v : Option Value) (w : va_W), Pr2 v w → Ev E Y Pr Px k n (pc + 3) lv (vcons v st) w) : Ev E Y Pr Px k n pc lv stk ws :=
  ev_callV D i hv hi hl hd.1 hd.2.1 he hcl hd.2.2.1 hd.2.2.2 hst (k1 := 0) (k2 := k) (n1 := 0) (n2 := n) (Nat.le_of_eq (Nat.zero_add k)) (Nat.le_of_eq (Nat.zero_add n)) hM (fun v w h => by rw [vcons_eq]; exact kt v w h)
theorem ev_rS (D : Lst Y L) (i : Nat) {idx : Nat} (hM : C0 E Y2 0 0 As ws Pr2) (hv : mVs Y2 np) (hi : L[i]? = some (pc, .invokestatic idx, 3)) (hl : gw (.methodLink (mnm Y).cls idx (mnm Y2))) (hst : stk = As.reverse ++ st) (hd : mdp Y2 + 1 ≤ mdp Y ∧ mml Y2 ≤ 18 ∧ As.length = np ∧ (st.map fun v => v.category).sum ≤ 8)
    (kt : ∀ (v : Option Value) (w : va_W), Pr2 v w → Ev E Y Pr Px k n (pc + 3) lv (vcons v st) w) : Ev E Y Pr Px k n pc lv stk ws :=
  ev_callS D i hv hi hl hd.1 hd.2.1 hd.2.2.1 hd.2.2.2 hst (k1 := 0) (k2 := k) (n1 := 0) (n2 := n) (Nat.le_of_eq (Nat.zero_add k)) (Nat.le_of_eq (Nat.zero_add n)) hM (fun v w h => by rw [vcons_eq]; exact kt v w h)
end KIT
theorem hd_of {a b c e f g : Nat} (h : Nat.ble (a + 1) b = true) (h2 : Nat.ble c 18 = true) (h3 : e = f) (h4 : Nat.ble g 8 = true) : a + 1 ≤ b ∧ c ≤ 18 ∧ e = f ∧ g ≤ 8 := ⟨Nat.le_of_ble_eq_true h, Nat.le_of_ble_eq_true h2, h3, Nat.le_of_ble_eq_true h4⟩
/-- a tone, by its eighteen numbers -/
abbrev TF : Type := Nat → Int32
abbrev toneL (f : TF) : List Value := [.int (f 0), .int (f 1), .int (f 2), .int (f 3), .int (f 4), .int (f 5), .int (f 6), .int (f 7), .int (f 8), .int (f 9), .int (f 10), .int (f 11), .int (f 12), .int (f 13), .int (f 14), .int (f 15), .int (f 16), .int (f 17)]
abbrev toneC (f : TF) : va_E := .inr (3, toneL f)
end
section
theorem vI {x y : Int32} (h : y = x) : some (Value.int x) = some (Value.int y) := by rw [h]
theorem cd_hs {E : gE} {Y : MI} {k n : Nat} {av : List Value} {ws ws1 ws2 : va_W} {v : Option Value} (h : CD E Y k n av ws v ws1) (e : ws1 = ws2) : CD E Y k n av ws v ws2 := e ▸ h
theorem tset {ws : va_W} {q a : Nat} {g g2 : TF} {x : va_E} (h : g2 = g) (hx : x = toneC g) : ws.set q (a, x) = ws.set q (a, toneC g2) := by rw [h, hx]
theorem tset0 {ws : va_W} {q a : Nat} {f g2 : TF} (h0 : ws[q]? = some (a, toneC f)) (h : g2 = f) : ws = ws.set q (a, toneC g2) := by rw [h, wset_id h0]
def arrP (f : TF) (amp ns : Int32) : Int32 := (f 0 * amp + f 1 * f 5 + f 2 * f 6) / 64 + ns + f 4
def expP (f : TF) (amp : Int32) : Int32 := (f 7 * amp + f 8 * f 5 + f 9 * f 6) / 64
def ampP (b v : Int32) : Int32 := ((2 : Int32) * v + 1 - ((1 : Int32) <<< (b &&& 31))) * ((256 : Int32) >>> (b &&& 31))
def passP (f : TF) (amp tk : Int32) : TF := upd (upd (upd (upd (upd f 4 0) 6 (f 5)) 5 amp) 17 (f 16)) 16 tk
def knowP (f : TF) : TF := upd f 17 (f 6)
def loseP (f : TF) : TF := upd (upd (upd (upd (upd (upd f 7 64) 8 0) 9 0) 10 0) 11 (-1)) 12 0
def heldP (v lo hi : Int32) : Int32 := if lo ≤ v then (if v ≤ hi then v else hi) else lo
def stepP (pr p : Int32) : Int32 := pr / ((128 : Int32) * p)
def roomP (g m : Int32) : Int32 := ((256 : Int32) >>> (m &&& 31)) * g / 64
def decP (f : TF) (r : Int32) : Int32 :=
  let sg := ((r - (f 8 * f 16 + f 9 * f 17) / 64) * 64 / f 7 + 256 - 1) >>> (((9 : Int32) - f 10) &&& 31)
  let top := ((1 : Int32) <<< (f 10 &&& 31)) - 1
  let y := if top < sg then top else sg
  if 0 < y then y else 0
def impP (f : TF) (err amp p : Int32) : TF := upd (upd (upd f 7 (heldP (f 7 + stepP (err * amp) p) 8 128)) 8 (heldP (f 8 + stepP (err * f 5) p) (-48) 48)) 9 (heldP (f 9 + stepP (err * f 6) p) (-48) 48)
def bfP (g d : Int32) : Int32 := if roomP g 4 ≤ d then (if roomP g 3 ≤ d then (if roomP g 2 ≤ d then (if roomP g 1 ≤ d then 0 else 1) else 2) else 3) else 4
def endP (f : TF) (wo mg : Int32) : TF := upd (upd (upd f 11 wo) 10 (bfP (f 7) (wo * mg / 4))) 12 0
def absP (x : Int32) : Int32 := if 0 ≤ x then x else 0 - x
def misP (f : TF) (m : Int32) : Int32 := (absP (f 0 - f 7) * ((256 : Int32) - ((256 : Int32) >>> (m &&& 31))) + (absP (f 1 - f 8) + absP (f 2 - f 9)) * 256) / 64
def surP (f : TF) : Int32 := if roomP (f 7) 4 ≤ misP f 4 + f 3 + 4 then (if roomP (f 7) 3 ≤ misP f 3 + f 3 + 4 then (if roomP (f 7) 2 ≤ misP f 2 + f 3 + 4 then (if roomP (f 7) 1 ≤ misP f 1 + f 3 + 4 then 0 else 1) else 2) else 3) else 4
def cntP (f : TF) (b : Int32) : TF := if f 10 ≤ 0 then (if b = 0 then f else upd (upd f 15 (f 15 + 1)) 12 (f 12 + 1)) else (if b = 0 then upd f 14 (f 14 + 1) else upd (upd (upd f 14 (f 14 + 1)) 15 (f 15 + 1)) 12 (f 12 + 1))
def shyP (f : TF) (n : Int32) : TF := if f 10 ≤ 0 then f else if f 12 < n then f else upd (upd (upd f 10 (f 10 - 1)) 13 (f 13 + 1)) 12 0
set_option maxRecDepth 100000 in
set_option maxHeartbeats 4000000 in
theorem m_X3_arriving {E : gE} {ws : va_W} {q a : Nat} {f : TF} {amp ns : Int32} (h : ws[q]? = some (a, toneC f)) : CD E YX3_arriving 0 0 [.ref a, .int amp, .int ns] ws (some (.int (arrP f amp ns))) ws := by
  refine cdV vX3_arriving (Nat.le_of_ble_eq_true rfl) (lv0 := [(0, .ref a), (1, .int amp), (2, .int ns)]) rfl ?_
  refine ev_ss DX3_arriving 1 0 (pc' := 1) (lv' := [(0, .ref _), (1, .int _), (2, .int _)]) (st' := [.ref _]) rfl ?_
  refine ev_get DX3_arriving 1 GX3 rfl (k0 := 0) (Nat.le_of_ble_eq_true rfl) fX3_9 h rfl ?_
  refine ev_ss DX3_arriving 3 2 (pc' := 7) (lv' := [(0, .ref _), (1, .int _), (2, .int _)]) (st' := [.ref _, .int _]) rfl ?_
  refine ev_get DX3_arriving 5 GX3 rfl (k0 := 1) (Nat.le_of_ble_eq_true rfl) fX3_21 h rfl ?_
  refine ev_ss DX3_arriving 1 6 (pc' := 11) (lv' := [(0, .ref _), (1, .int _), (2, .int _)]) (st' := [.ref _, .int _, .int _]) rfl ?_
  refine ev_get DX3_arriving 7 GX3 rfl (k0 := 5) (Nat.le_of_ble_eq_true rfl) fX3_33 h rfl ?_
  refine ev_ss DX3_arriving 3 8 (pc' := 17) (lv' := [(0, .ref _), (1, .int _), (2, .int _)]) (st' := [.ref _, .int _]) rfl ?_
  refine ev_get DX3_arriving 11 GX3 rfl (k0 := 2) (Nat.le_of_ble_eq_true rfl) fX3_24 h rfl ?_
  refine ev_ss DX3_arriving 1 12 (pc' := 21) (lv' := [(0, .ref _), (1, .int _), (2, .int _)]) (st' := [.ref _, .int _, .int _]) rfl ?_
  refine ev_get DX3_arriving 13 GX3 rfl (k0 := 6) (Nat.le_of_ble_eq_true rfl) fX3_36 h rfl ?_
  refine ev_ss DX3_arriving 3 14 (pc' := 28) (lv' := [(0, .ref _), (1, .int _), (2, .int _)]) (st' := [.int 64, .int _]) rfl ?_
  refine ev_idiv DX3_arriving 17 rfl (by decide) ?_
  refine ev_ss DX3_arriving 3 18 (pc' := 32) (lv' := [(0, .ref _), (1, .int _), (2, .int _)]) (st' := [.ref _, .int _]) rfl ?_
  refine ev_get DX3_arriving 21 GX3 rfl (k0 := 4) (Nat.le_of_ble_eq_true rfl) fX3_30 h rfl ?_
  refine ev_ss DX3_arriving 1 22 (pc' := 36) (lv' := [(0, .ref _), (1, .int _), (2, .int _)]) (st' := [.int _]) rfl ?_
  exact ev_iret DX3_arriving 23 rfl rfl ⟨rfl, rfl⟩
set_option maxRecDepth 100000 in
set_option maxHeartbeats 4000000 in
theorem m_X3_expected {E : gE} {ws : va_W} {q a : Nat} {f : TF} {amp : Int32} (h : ws[q]? = some (a, toneC f)) : CD E YX3_expected 0 0 [.ref a, .int amp] ws (some (.int (expP f amp))) ws := by
  refine cdV vX3_expected (Nat.le_of_ble_eq_true rfl) (lv0 := [(0, .ref a), (1, .int amp)]) rfl ?_
  refine ev_ss DX3_expected 1 0 (pc' := 1) (lv' := [(0, .ref _), (1, .int _)]) (st' := [.ref _]) rfl ?_
  refine ev_get DX3_expected 1 GX3 rfl (k0 := 7) (Nat.le_of_ble_eq_true rfl) fX3_15 h rfl ?_
  refine ev_ss DX3_expected 3 2 (pc' := 7) (lv' := [(0, .ref _), (1, .int _)]) (st' := [.ref _, .int _]) rfl ?_
  refine ev_get DX3_expected 5 GX3 rfl (k0 := 8) (Nat.le_of_ble_eq_true rfl) fX3_39 h rfl ?_
  refine ev_ss DX3_expected 1 6 (pc' := 11) (lv' := [(0, .ref _), (1, .int _)]) (st' := [.ref _, .int _, .int _]) rfl ?_
  refine ev_get DX3_expected 7 GX3 rfl (k0 := 5) (Nat.le_of_ble_eq_true rfl) fX3_33 h rfl ?_
  refine ev_ss DX3_expected 3 8 (pc' := 17) (lv' := [(0, .ref _), (1, .int _)]) (st' := [.ref _, .int _]) rfl ?_
  refine ev_get DX3_expected 11 GX3 rfl (k0 := 9) (Nat.le_of_ble_eq_true rfl) fX3_42 h rfl ?_
  refine ev_ss DX3_expected 1 12 (pc' := 21) (lv' := [(0, .ref _), (1, .int _)]) (st' := [.ref _, .int _, .int _]) rfl ?_
  refine ev_get DX3_expected 13 GX3 rfl (k0 := 6) (Nat.le_of_ble_eq_true rfl) fX3_36 h rfl ?_
  refine ev_ss DX3_expected 3 14 (pc' := 28) (lv' := [(0, .ref _), (1, .int _)]) (st' := [.int 64, .int _]) rfl ?_
  refine ev_idiv DX3_expected 17 rfl (by decide) ?_
  exact ev_iret DX3_expected 18 rfl rfl ⟨rfl, rfl⟩
set_option maxRecDepth 100000 in
set_option maxHeartbeats 4000000 in
theorem m_X3_amplitudeOf {E : gE} {ws : va_W} {q a : Nat} {f : TF} {v : Int32} (h : ws[q]? = some (a, toneC f)) : CD E YX3_amplitudeOf 0 0 [.ref a, .int v] ws (some (.int (ampP (f 10) v))) ws := by
  refine cdV vX3_amplitudeOf (Nat.le_of_ble_eq_true rfl) (lv0 := [(0, .ref a), (1, .int v)]) rfl ?_
  refine ev_ss DX3_amplitudeOf 7 0 (pc' := 7) (lv' := [(0, .ref _), (1, .int _)]) (st' := [.ref _, .int 1, .int _]) rfl ?_
  refine ev_get DX3_amplitudeOf 7 GX3 rfl (k0 := 10) (Nat.le_of_ble_eq_true rfl) fX3_45 h rfl ?_
  refine ev_ss DX3_amplitudeOf 4 8 (pc' := 16) (lv' := [(0, .ref _), (1, .int _)]) (st' := [.ref _, .int 256, .int _]) rfl ?_
  refine ev_get DX3_amplitudeOf 12 GX3 rfl (k0 := 10) (Nat.le_of_ble_eq_true rfl) fX3_45 h rfl ?_
  refine ev_ss DX3_amplitudeOf 2 13 (pc' := 21) (lv' := [(0, .ref _), (1, .int _)]) (st' := [.int _]) rfl ?_
  exact ev_iret DX3_amplitudeOf 15 rfl rfl ⟨rfl, rfl⟩
set_option maxRecDepth 100000 in
set_option maxHeartbeats 4000000 in
theorem m_X3_pass {E : gE} {ws : va_W} {q a : Nat} {f : TF} {x y : Int32} (h : ws[q]? = some (a, toneC f)) : CD E YX3_pass 0 0 [.ref a, .int x, .int y] ws none (ws.set q (a, toneC (passP f x y))) := by
  refine cdV vX3_pass (Nat.le_of_ble_eq_true rfl) (lv0 := [(0, .ref a), (1, .int x), (2, .int y)]) rfl ?_
  refine ev_ss DX3_pass 2 0 (pc' := 2) (lv' := [(0, .ref _), (1, .int _), (2, .int _)]) (st' := [.int 0, .ref _]) rfl ?_
  refine ev_put (fs' := [_, _, _, _, _, _, _, _, _, _, _, _, _, _, _, _, _, _]) DX3_pass 2 GX3 rfl (k0 := 4) (Nat.le_of_ble_eq_true rfl) fX3_30 rfl ⟨rfl, rfl⟩ h (Nat.le_of_ble_eq_true rfl) rfl rfl ?_
  refine ev_ss DX3_pass 2 3 (pc' := 7) (lv' := [(0, .ref _), (1, .int _), (2, .int _)]) (st' := [.ref _, .ref _]) rfl ?_
  refine ev_get DX3_pass 5 GX3 rfl (k0 := 5) (Nat.le_of_ble_eq_true rfl) fX3_33 (wset_get h) rfl ?_
  refine ev_put (fs' := [_, _, _, _, _, _, _, _, _, _, _, _, _, _, _, _, _, _]) DX3_pass 6 GX3 rfl (k0 := 6) (Nat.le_of_ble_eq_true rfl) fX3_36 rfl ⟨rfl, rfl⟩ (wset_get h) (Nat.le_of_ble_eq_true rfl) rfl wset_set ?_
  refine ev_ss DX3_pass 2 7 (pc' := 15) (lv' := [(0, .ref _), (1, .int _), (2, .int _)]) (st' := [.int _, .ref _]) rfl ?_
  refine ev_put (fs' := [_, _, _, _, _, _, _, _, _, _, _, _, _, _, _, _, _, _]) DX3_pass 9 GX3 rfl (k0 := 5) (Nat.le_of_ble_eq_true rfl) fX3_33 rfl ⟨rfl, rfl⟩ (wset_get h) (Nat.le_of_ble_eq_true rfl) rfl wset_set ?_
  refine ev_ss DX3_pass 2 10 (pc' := 20) (lv' := [(0, .ref _), (1, .int _), (2, .int _)]) (st' := [.ref _, .ref _]) rfl ?_
  refine ev_get DX3_pass 12 GX3 rfl (k0 := 16) (Nat.le_of_ble_eq_true rfl) fX3_60 (wset_get h) rfl ?_
  refine ev_put (fs' := [_, _, _, _, _, _, _, _, _, _, _, _, _, _, _, _, _, _]) DX3_pass 13 GX3 rfl (k0 := 17) (Nat.le_of_ble_eq_true rfl) fX3_63 rfl ⟨rfl, rfl⟩ (wset_get h) (Nat.le_of_ble_eq_true rfl) rfl wset_set ?_
  refine ev_ss DX3_pass 2 14 (pc' := 28) (lv' := [(0, .ref _), (1, .int _), (2, .int _)]) (st' := [.int _, .ref _]) rfl ?_
  refine ev_put (fs' := [_, _, _, _, _, _, _, _, _, _, _, _, _, _, _, _, _, _]) DX3_pass 16 GX3 rfl (k0 := 16) (Nat.le_of_ble_eq_true rfl) fX3_60 rfl ⟨rfl, rfl⟩ (wset_get h) (Nat.le_of_ble_eq_true rfl) rfl wset_set ?_
  exact ev_vret DX3_pass 17 rfl rfl ⟨rfl, rfl⟩
set_option maxRecDepth 100000 in
set_option maxHeartbeats 4000000 in
theorem m_X3_knowSignBefore {E : gE} {ws : va_W} {q a : Nat} {f : TF} (h : ws[q]? = some (a, toneC f)) : CD E YX3_knowSignBefore 0 0 [.ref a] ws none (ws.set q (a, toneC (knowP f))) := by
  refine cdV vX3_knowSignBefore (Nat.le_of_ble_eq_true rfl) (lv0 := [(0, .ref a)]) rfl ?_
  refine ev_ss DX3_knowSignBefore 2 0 (pc' := 2) (lv' := [(0, .ref _)]) (st' := [.ref _, .ref _]) rfl ?_
  refine ev_get DX3_knowSignBefore 2 GX3 rfl (k0 := 6) (Nat.le_of_ble_eq_true rfl) fX3_36 h rfl ?_
  refine ev_put (fs' := [_, _, _, _, _, _, _, _, _, _, _, _, _, _, _, _, _, _]) DX3_knowSignBefore 3 GX3 rfl (k0 := 17) (Nat.le_of_ble_eq_true rfl) fX3_63 rfl ⟨rfl, rfl⟩ h (Nat.le_of_ble_eq_true rfl) rfl rfl ?_
  exact ev_vret DX3_knowSignBefore 4 rfl rfl ⟨rfl, rfl⟩
set_option maxRecDepth 100000 in
set_option maxHeartbeats 4000000 in
theorem m_X3_loseAccent {E : gE} {ws : va_W} {q a : Nat} {f : TF} (h : ws[q]? = some (a, toneC f)) : CD E YX3_loseAccent 0 0 [.ref a] ws none (ws.set q (a, toneC (loseP f))) := by
  refine cdV vX3_loseAccent (Nat.le_of_ble_eq_true rfl) (lv0 := [(0, .ref a)]) rfl ?_
  refine ev_ss DX3_loseAccent 2 0 (pc' := 3) (lv' := [(0, .ref _)]) (st' := [.int 64, .ref _]) rfl ?_
  refine ev_put (fs' := [_, _, _, _, _, _, _, _, _, _, _, _, _, _, _, _, _, _]) DX3_loseAccent 2 GX3 rfl (k0 := 7) (Nat.le_of_ble_eq_true rfl) fX3_15 rfl ⟨rfl, rfl⟩ h (Nat.le_of_ble_eq_true rfl) rfl rfl ?_
  refine ev_ss DX3_loseAccent 2 3 (pc' := 8) (lv' := [(0, .ref _)]) (st' := [.int 0, .ref _]) rfl ?_
  refine ev_put (fs' := [_, _, _, _, _, _, _, _, _, _, _, _, _, _, _, _, _, _]) DX3_loseAccent 5 GX3 rfl (k0 := 8) (Nat.le_of_ble_eq_true rfl) fX3_39 rfl ⟨rfl, rfl⟩ (wset_get h) (Nat.le_of_ble_eq_true rfl) rfl wset_set ?_
  refine ev_ss DX3_loseAccent 2 6 (pc' := 13) (lv' := [(0, .ref _)]) (st' := [.int 0, .ref _]) rfl ?_
  refine ev_put (fs' := [_, _, _, _, _, _, _, _, _, _, _, _, _, _, _, _, _, _]) DX3_loseAccent 8 GX3 rfl (k0 := 9) (Nat.le_of_ble_eq_true rfl) fX3_42 rfl ⟨rfl, rfl⟩ (wset_get h) (Nat.le_of_ble_eq_true rfl) rfl wset_set ?_
  refine ev_ss DX3_loseAccent 2 9 (pc' := 18) (lv' := [(0, .ref _)]) (st' := [.int 0, .ref _]) rfl ?_
  refine ev_put (fs' := [_, _, _, _, _, _, _, _, _, _, _, _, _, _, _, _, _, _]) DX3_loseAccent 11 GX3 rfl (k0 := 10) (Nat.le_of_ble_eq_true rfl) fX3_45 rfl ⟨rfl, rfl⟩ (wset_get h) (Nat.le_of_ble_eq_true rfl) rfl wset_set ?_
  refine ev_ss DX3_loseAccent 2 12 (pc' := 23) (lv' := [(0, .ref _)]) (st' := [.int (-1), .ref _]) rfl ?_
  refine ev_put (fs' := [_, _, _, _, _, _, _, _, _, _, _, _, _, _, _, _, _, _]) DX3_loseAccent 14 GX3 rfl (k0 := 11) (Nat.le_of_ble_eq_true rfl) fX3_18 rfl ⟨rfl, rfl⟩ (wset_get h) (Nat.le_of_ble_eq_true rfl) rfl wset_set ?_
  refine ev_ss DX3_loseAccent 2 15 (pc' := 28) (lv' := [(0, .ref _)]) (st' := [.int 0, .ref _]) rfl ?_
  refine ev_put (fs' := [_, _, _, _, _, _, _, _, _, _, _, _, _, _, _, _, _, _]) DX3_loseAccent 17 GX3 rfl (k0 := 12) (Nat.le_of_ble_eq_true rfl) fX3_48 rfl ⟨rfl, rfl⟩ (wset_get h) (Nat.le_of_ble_eq_true rfl) rfl wset_set ?_
  exact ev_vret DX3_loseAccent 18 rfl rfl ⟨rfl, rfl⟩
set_option maxRecDepth 100000 in
set_option maxHeartbeats 4000000 in
theorem m_X3_held {E : gE} {ws : va_W} {v lo hi : Int32}  : CD E YX3_held 0 0 [.int v, .int lo, .int hi] ws (some (.int (heldP v lo hi))) ws := by
  refine cdS vX3_held (Nat.le_of_ble_eq_true rfl) (lv0 := [(0, .int v), (1, .int lo), (2, .int hi)]) rfl ?_
  refine ev_ss DX3_held 2 0 (pc' := 2) (lv' := [(0, .int _), (1, .int _), (2, .int _)]) (st' := [.int _, .int _]) rfl ?_
  refine ev_icge DX3_held 2 rfl (tgt := 7) (by decide) (fun c_1 => ?_) (fun c_1 => ?_)
  · refine ev_ss DX3_held 2 5 (pc' := 9) (lv' := [(0, .int _), (1, .int _), (2, .int _)]) (st' := [.int _, .int _]) rfl ?_
    refine ev_icle DX3_held 7 rfl (tgt := 16) (by decide) (fun c_2 => ?_) (fun c_2 => ?_)
    · refine ev_ss DX3_held 1 10 (pc' := 17) (lv' := [(0, .int _), (1, .int _), (2, .int _)]) (st' := [.int _]) rfl ?_
      exact ev_iret DX3_held 11 rfl rfl ⟨vI ((if_pos c_1).trans (if_pos c_2)), rfl⟩
    · refine ev_ss DX3_held 1 8 (pc' := 13) (lv' := [(0, .int _), (1, .int _), (2, .int _)]) (st' := [.int _]) rfl ?_
      refine ev_goto DX3_held 9 rfl (tgt := 17) (by decide) ?_
      exact ev_iret DX3_held 11 rfl rfl ⟨vI ((if_pos c_1).trans (if_neg c_2)), rfl⟩
  · refine ev_ss DX3_held 1 3 (pc' := 6) (lv' := [(0, .int _), (1, .int _), (2, .int _)]) (st' := [.int _]) rfl ?_
    exact ev_iret DX3_held 4 rfl rfl ⟨vI (if_neg c_1), rfl⟩
set_option maxRecDepth 100000 in
set_option maxHeartbeats 4000000 in
theorem m_X3_roomWith {E : gE} {ws : va_W} {q a : Nat} {f : TF} {m : Int32} (h : ws[q]? = some (a, toneC f)) : CD E YX3_roomWith 0 0 [.ref a, .int m] ws (some (.int (roomP (f 7) m))) ws := by
  refine cdV vX3_roomWith (Nat.le_of_ble_eq_true rfl) (lv0 := [(0, .ref a), (1, .int m)]) rfl ?_
  refine ev_ss DX3_roomWith 4 0 (pc' := 6) (lv' := [(0, .ref _), (1, .int _)]) (st' := [.ref _, .int _]) rfl ?_
  refine ev_get DX3_roomWith 4 GX3 rfl (k0 := 7) (Nat.le_of_ble_eq_true rfl) fX3_15 h rfl ?_
  refine ev_ss DX3_roomWith 2 5 (pc' := 12) (lv' := [(0, .ref _), (1, .int _)]) (st' := [.int 64, .int _]) rfl ?_
  refine ev_idiv DX3_roomWith 7 rfl (by decide) ?_
  exact ev_iret DX3_roomWith 8 rfl rfl ⟨rfl, rfl⟩
set_option maxRecDepth 100000 in
set_option maxHeartbeats 4000000 in
theorem m_X3_decide {E : gE} {ws : va_W} {q a : Nat} {f : TF} {r : Int32} (h : ws[q]? = some (a, toneC f)) (hg : ¬ f 7 ≤ 0) : CD E YX3_decide 0 0 [.ref a, .int r] ws (some (.int (decP f r))) ws := by
  refine cdV vX3_decide (Nat.le_of_ble_eq_true rfl) (lv0 := [(0, .ref a), (1, .int r)]) rfl ?_
  refine ev_ss DX3_decide 2 0 (pc' := 2) (lv' := [(0, .ref _), (1, .int _)]) (st' := [.ref _, .int _]) rfl ?_
  refine ev_get DX3_decide 2 GX3 rfl (k0 := 8) (Nat.le_of_ble_eq_true rfl) fX3_39 h rfl ?_
  refine ev_ss DX3_decide 1 3 (pc' := 6) (lv' := [(0, .ref _), (1, .int _)]) (st' := [.ref _, .int _, .int _]) rfl ?_
  refine ev_get DX3_decide 4 GX3 rfl (k0 := 16) (Nat.le_of_ble_eq_true rfl) fX3_60 h rfl ?_
  refine ev_ss DX3_decide 2 5 (pc' := 11) (lv' := [(0, .ref _), (1, .int _)]) (st' := [.ref _, .int _, .int _]) rfl ?_
  refine ev_get DX3_decide 7 GX3 rfl (k0 := 9) (Nat.le_of_ble_eq_true rfl) fX3_42 h rfl ?_
  refine ev_ss DX3_decide 1 8 (pc' := 15) (lv' := [(0, .ref _), (1, .int _)]) (st' := [.ref _, .int _, .int _, .int _]) rfl ?_
  refine ev_get DX3_decide 9 GX3 rfl (k0 := 17) (Nat.le_of_ble_eq_true rfl) fX3_63 h rfl ?_
  refine ev_ss DX3_decide 3 10 (pc' := 22) (lv' := [(0, .ref _), (1, .int _)]) (st' := [.int 64, .int _, .int _]) rfl ?_
  refine ev_idiv DX3_decide 13 rfl (by decide) ?_
  refine ev_ss DX3_decide 3 14 (pc' := 26) (lv' := [(2, .int _), (0, .ref _), (1, .int _)]) (st' := [.ref _]) rfl ?_
  refine ev_get DX3_decide 17 GX3 rfl (k0 := 7) (Nat.le_of_ble_eq_true rfl) fX3_15 h rfl ?_
  refine ev_ifle DX3_decide 18 rfl (tgt := 44) (by decide) (fun h => absurd h hg) (fun _ => ?_)
  refine ev_ss DX3_decide 4 19 (pc' := 37) (lv' := [(2, .int _), (0, .ref _), (1, .int _)]) (st' := [.ref _, .int _]) rfl ?_
  refine ev_get DX3_decide 23 GX3 rfl (k0 := 7) (Nat.le_of_ble_eq_true rfl) fX3_15 h rfl ?_
  refine ev_idiv DX3_decide 24 rfl (fun e => hg (by rw [e]; decide)) ?_
  refine ev_goto DX3_decide 25 rfl (tgt := 45) (by decide) ?_
  refine ev_ss DX3_decide 8 27 (pc' := 56) (lv' := [(3, .int _), (2, .int _), (0, .ref _), (1, .int _)]) (st' := [.ref _, .int 9, .int _]) rfl ?_
  refine ev_get DX3_decide 35 GX3 rfl (k0 := 10) (Nat.le_of_ble_eq_true rfl) fX3_45 h rfl ?_
  refine ev_ss DX3_decide 7 36 (pc' := 68) (lv' := [(4, .int _), (3, .int _), (2, .int _), (0, .ref _), (1, .int _)]) (st' := [.ref _, .int 1, .int _, .int 0]) rfl ?_
  refine ev_get DX3_decide 43 GX3 rfl (k0 := 10) (Nat.le_of_ble_eq_true rfl) fX3_45 h rfl ?_
  refine ev_ss DX3_decide 3 44 (pc' := 74) (lv' := [(4, .int _), (3, .int _), (2, .int _), (0, .ref _), (1, .int _)]) (st' := [.int _, .int _, .int 0]) rfl ?_
  refine ev_min DX3_decide 47 rfl qX3_66 (Nat.le_of_ble_eq_true rfl) (Nat.le_of_ble_eq_true rfl) ?_
  refine ev_max DX3_decide 48 rfl qX3_72 (Nat.le_of_ble_eq_true rfl) (Nat.le_of_ble_eq_true rfl) ?_
  exact ev_iret DX3_decide 49 rfl rfl ⟨rfl, rfl⟩
set_option maxRecDepth 100000 in
set_option maxHeartbeats 4000000 in
theorem m_X3_step {E : gE} {ws : va_W} {pr p : Int32} (hp : ¬ p ≤ 0) (hp2 : ¬ (128 : Int32) * p = 0) : CD E YX3_step 0 0 [.int pr, .int p] ws (some (.int (stepP pr p))) ws := by
  refine cdS vX3_step (Nat.le_of_ble_eq_true rfl) (lv0 := [(0, .int pr), (1, .int p)]) rfl ?_
  refine ev_ss DX3_step 1 0 (pc' := 1) (lv' := [(0, .int _), (1, .int _)]) (st' := [.int _]) rfl ?_
  refine ev_ifle DX3_step 1 rfl (tgt := 14) (by decide) (fun h => absurd h hp) (fun _ => ?_)
  refine ev_ss DX3_step 4 2 (pc' := 10) (lv' := [(0, .int _), (1, .int _)]) (st' := [.int _, .int _]) rfl ?_
  refine ev_idiv DX3_step 6 rfl hp2 ?_
  refine ev_goto DX3_step 7 rfl (tgt := 15) (by decide) ?_
  exact ev_iret DX3_step 9 rfl rfl ⟨rfl, rfl⟩
set_option maxRecDepth 100000 in
set_option maxHeartbeats 4000000 in
theorem m_X3_improve {E : gE} {ws : va_W} {q a : Nat} {f : TF} {er amp p : Int32} (h : ws[q]? = some (a, toneC f)) (hp : ¬ p ≤ 0) (hp2 : ¬ (128 : Int32) * p = 0) : CD E YX3_improve 0 0 [.ref a, .int er, .int amp, .int p] ws none (ws.set q (a, toneC (impP f er amp p))) := by
  refine cdV vX3_improve (Nat.le_of_ble_eq_true rfl) (lv0 := [(0, .ref a), (1, .int er), (2, .int amp), (3, .int p)]) rfl ?_
  refine ev_ss DX3_improve 2 0 (pc' := 2) (lv' := [(0, .ref _), (1, .int _), (2, .int _), (3, .int _)]) (st' := [.ref _, .ref _]) rfl ?_
  refine ev_get DX3_improve 2 GX3 rfl (k0 := 7) (Nat.le_of_ble_eq_true rfl) fX3_15 h rfl ?_
  refine ev_ss DX3_improve 4 3 (pc' := 9) (lv' := [(0, .ref _), (1, .int _), (2, .int _), (3, .int _)]) (st' := [.int _, .int _, .int _, .ref _]) rfl ?_
  refine ev_cS DX3_improve 7 (m_X3_step hp hp2) vX3_step rfl qX3_75 rfl (hd_of rfl rfl rfl rfl) ?_
  refine ev_ss DX3_improve 3 8 (pc' := 18) (lv' := [(0, .ref _), (1, .int _), (2, .int _), (3, .int _)]) (st' := [.int 128, .int 8, .int _, .ref _]) rfl ?_
  refine ev_cS DX3_improve 11 m_X3_held vX3_held rfl qX3_78 rfl (hd_of rfl rfl rfl rfl) ?_
  refine ev_put (fs' := [_, _, _, _, _, _, _, _, _, _, _, _, _, _, _, _, _, _]) DX3_improve 12 GX3 rfl (k0 := 7) (Nat.le_of_ble_eq_true rfl) fX3_15 rfl ⟨rfl, rfl⟩ h (Nat.le_of_ble_eq_true rfl) rfl rfl ?_
  refine ev_ss DX3_improve 2 13 (pc' := 26) (lv' := [(0, .ref _), (1, .int _), (2, .int _), (3, .int _)]) (st' := [.ref _, .ref _]) rfl ?_
  refine ev_get DX3_improve 15 GX3 rfl (k0 := 8) (Nat.le_of_ble_eq_true rfl) fX3_39 (wset_get h) rfl ?_
  refine ev_ss DX3_improve 2 16 (pc' := 31) (lv' := [(0, .ref _), (1, .int _), (2, .int _), (3, .int _)]) (st' := [.ref _, .int _, .int _, .ref _]) rfl ?_
  refine ev_get DX3_improve 18 GX3 rfl (k0 := 5) (Nat.le_of_ble_eq_true rfl) fX3_33 (wset_get h) rfl ?_
  refine ev_ss DX3_improve 2 19 (pc' := 36) (lv' := [(0, .ref _), (1, .int _), (2, .int _), (3, .int _)]) (st' := [.int _, .int _, .int _, .ref _]) rfl ?_
  refine ev_cS DX3_improve 21 (m_X3_step hp hp2) vX3_step rfl qX3_75 rfl (hd_of rfl rfl rfl rfl) ?_
  refine ev_ss DX3_improve 3 22 (pc' := 44) (lv' := [(0, .ref _), (1, .int _), (2, .int _), (3, .int _)]) (st' := [.int 48, .int (-48), .int _, .ref _]) rfl ?_
  refine ev_cS DX3_improve 25 m_X3_held vX3_held rfl qX3_78 rfl (hd_of rfl rfl rfl rfl) ?_
  refine ev_put (fs' := [_, _, _, _, _, _, _, _, _, _, _, _, _, _, _, _, _, _]) DX3_improve 26 GX3 rfl (k0 := 8) (Nat.le_of_ble_eq_true rfl) fX3_39 rfl ⟨rfl, rfl⟩ (wset_get h) (Nat.le_of_ble_eq_true rfl) rfl wset_set ?_
  refine ev_ss DX3_improve 2 27 (pc' := 52) (lv' := [(0, .ref _), (1, .int _), (2, .int _), (3, .int _)]) (st' := [.ref _, .ref _]) rfl ?_
  refine ev_get DX3_improve 29 GX3 rfl (k0 := 9) (Nat.le_of_ble_eq_true rfl) fX3_42 (wset_get h) rfl ?_
  refine ev_ss DX3_improve 2 30 (pc' := 57) (lv' := [(0, .ref _), (1, .int _), (2, .int _), (3, .int _)]) (st' := [.ref _, .int _, .int _, .ref _]) rfl ?_
  refine ev_get DX3_improve 32 GX3 rfl (k0 := 6) (Nat.le_of_ble_eq_true rfl) fX3_36 (wset_get h) rfl ?_
  refine ev_ss DX3_improve 2 33 (pc' := 62) (lv' := [(0, .ref _), (1, .int _), (2, .int _), (3, .int _)]) (st' := [.int _, .int _, .int _, .ref _]) rfl ?_
  refine ev_cS DX3_improve 35 (m_X3_step hp hp2) vX3_step rfl qX3_75 rfl (hd_of rfl rfl rfl rfl) ?_
  refine ev_ss DX3_improve 3 36 (pc' := 70) (lv' := [(0, .ref _), (1, .int _), (2, .int _), (3, .int _)]) (st' := [.int 48, .int (-48), .int _, .ref _]) rfl ?_
  refine ev_cS DX3_improve 39 m_X3_held vX3_held rfl qX3_78 rfl (hd_of rfl rfl rfl rfl) ?_
  refine ev_put (fs' := [_, _, _, _, _, _, _, _, _, _, _, _, _, _, _, _, _, _]) DX3_improve 40 GX3 rfl (k0 := 9) (Nat.le_of_ble_eq_true rfl) fX3_42 rfl ⟨rfl, rfl⟩ (wset_get h) (Nat.le_of_ble_eq_true rfl) rfl wset_set ?_
  exact ev_vret DX3_improve 41 rfl rfl ⟨rfl, rfl⟩
set_option maxRecDepth 100000 in
set_option maxHeartbeats 4000000 in
theorem m_X3_bitsFor {E : gE} {ws : va_W} {q a : Nat} {f : TF} {wo mg : Int32} (h : ws[q]? = some (a, toneC f)) : CD E YX3_bitsFor 0 0 [.ref a, .int wo, .int mg] ws (some (.int (bfP (f 7) (wo * mg / 4)))) ws := by
  refine cdV vX3_bitsFor (Nat.le_of_ble_eq_true rfl) (lv0 := [(0, .ref a), (1, .int wo), (2, .int mg)]) rfl ?_
  refine ev_ss DX3_bitsFor 4 0 (pc' := 4) (lv' := [(0, .ref _), (1, .int _), (2, .int _)]) (st' := [.int 4, .int _]) rfl ?_
  refine ev_idiv DX3_bitsFor 4 rfl (by decide) ?_
  refine ev_ss DX3_bitsFor 4 5 (pc' := 11) (lv' := [(4, .int 4), (3, .int _), (0, .ref _), (1, .int _), (2, .int _)]) (st' := [.int 4]) rfl ?_
  refine ev_ifle DX3_bitsFor 9 rfl (tgt := 33) (by decide) (fun h => absurd h (by decide)) (fun _ => ?_)
  refine ev_ss DX3_bitsFor 3 10 (pc' := 18) (lv' := [(4, .int 4), (3, .int _), (0, .ref _), (1, .int _), (2, .int _)]) (st' := [.int 4, .ref _, .int _]) rfl ?_
  refine ev_cV DX3_bitsFor 13 (m_X3_roomWith h) vX3_roomWith rfl qX3_85 rfl h rfl (hd_of rfl rfl rfl rfl) ?_
  refine ev_icge DX3_bitsFor 14 rfl (tgt := 27) (by decide) (fun c_2 => ?_) (fun c_2 => ?_)
  · refine ev_ss DX3_bitsFor 1 17 (pc' := 30) (lv' := [(4, .int 3), (3, .int _), (0, .ref _), (1, .int _), (2, .int _)]) (st' := []) rfl ?_
    refine ev_goto DX3_bitsFor 18 rfl (tgt := 9) (by decide) ?_
    refine ev_ss DX3_bitsFor 1 8 (pc' := 11) (lv' := [(4, .int 3), (3, .int _), (0, .ref _), (1, .int _), (2, .int _)]) (st' := [.int 3]) rfl ?_
    refine ev_ifle DX3_bitsFor 9 rfl (tgt := 33) (by decide) (fun h => absurd h (by decide)) (fun _ => ?_)
    refine ev_ss DX3_bitsFor 3 10 (pc' := 18) (lv' := [(4, .int 3), (3, .int _), (0, .ref _), (1, .int _), (2, .int _)]) (st' := [.int 3, .ref _, .int _]) rfl ?_
    refine ev_cV DX3_bitsFor 13 (m_X3_roomWith h) vX3_roomWith rfl qX3_85 rfl h rfl (hd_of rfl rfl rfl rfl) ?_
    refine ev_icge DX3_bitsFor 14 rfl (tgt := 27) (by decide) (fun c_4 => ?_) (fun c_4 => ?_)
    · refine ev_ss DX3_bitsFor 1 17 (pc' := 30) (lv' := [(4, .int 2), (3, .int _), (0, .ref _), (1, .int _), (2, .int _)]) (st' := []) rfl ?_
      refine ev_goto DX3_bitsFor 18 rfl (tgt := 9) (by decide) ?_
      refine ev_ss DX3_bitsFor 1 8 (pc' := 11) (lv' := [(4, .int 2), (3, .int _), (0, .ref _), (1, .int _), (2, .int _)]) (st' := [.int 2]) rfl ?_
      refine ev_ifle DX3_bitsFor 9 rfl (tgt := 33) (by decide) (fun h => absurd h (by decide)) (fun _ => ?_)
      refine ev_ss DX3_bitsFor 3 10 (pc' := 18) (lv' := [(4, .int 2), (3, .int _), (0, .ref _), (1, .int _), (2, .int _)]) (st' := [.int 2, .ref _, .int _]) rfl ?_
      refine ev_cV DX3_bitsFor 13 (m_X3_roomWith h) vX3_roomWith rfl qX3_85 rfl h rfl (hd_of rfl rfl rfl rfl) ?_
      refine ev_icge DX3_bitsFor 14 rfl (tgt := 27) (by decide) (fun c_6 => ?_) (fun c_6 => ?_)
      · refine ev_ss DX3_bitsFor 1 17 (pc' := 30) (lv' := [(4, .int 1), (3, .int _), (0, .ref _), (1, .int _), (2, .int _)]) (st' := []) rfl ?_
        refine ev_goto DX3_bitsFor 18 rfl (tgt := 9) (by decide) ?_
        refine ev_ss DX3_bitsFor 1 8 (pc' := 11) (lv' := [(4, .int 1), (3, .int _), (0, .ref _), (1, .int _), (2, .int _)]) (st' := [.int 1]) rfl ?_
        refine ev_ifle DX3_bitsFor 9 rfl (tgt := 33) (by decide) (fun h => absurd h (by decide)) (fun _ => ?_)
        refine ev_ss DX3_bitsFor 3 10 (pc' := 18) (lv' := [(4, .int 1), (3, .int _), (0, .ref _), (1, .int _), (2, .int _)]) (st' := [.int 1, .ref _, .int _]) rfl ?_
        refine ev_cV DX3_bitsFor 13 (m_X3_roomWith h) vX3_roomWith rfl qX3_85 rfl h rfl (hd_of rfl rfl rfl rfl) ?_
        refine ev_icge DX3_bitsFor 14 rfl (tgt := 27) (by decide) (fun c_8 => ?_) (fun c_8 => ?_)
        · refine ev_ss DX3_bitsFor 1 17 (pc' := 30) (lv' := [(4, .int 0), (3, .int _), (0, .ref _), (1, .int _), (2, .int _)]) (st' := []) rfl ?_
          refine ev_goto DX3_bitsFor 18 rfl (tgt := 9) (by decide) ?_
          refine ev_ss DX3_bitsFor 1 8 (pc' := 11) (lv' := [(4, .int 0), (3, .int _), (0, .ref _), (1, .int _), (2, .int _)]) (st' := [.int 0]) rfl ?_
          refine ev_ifle DX3_bitsFor 9 rfl (tgt := 33) (by decide) (fun _ => ?_) (fun h => h.elim (by decide))
          refine ev_ss DX3_bitsFor 1 19 (pc' := 34) (lv' := [(4, .int 0), (3, .int _), (0, .ref _), (1, .int _), (2, .int _)]) (st' := [.int 0]) rfl ?_
          exact ev_iret DX3_bitsFor 20 rfl rfl ⟨vI ((if_pos c_2).trans ((if_pos c_4).trans ((if_pos c_6).trans (if_pos c_8)))), rfl⟩
        · refine ev_ss DX3_bitsFor 1 15 (pc' := 26) (lv' := [(4, .int 1), (3, .int _), (0, .ref _), (1, .int _), (2, .int _)]) (st' := [.int 1]) rfl ?_
          exact ev_iret DX3_bitsFor 16 rfl rfl ⟨vI ((if_pos c_2).trans ((if_pos c_4).trans ((if_pos c_6).trans (if_neg c_8)))), rfl⟩
      · refine ev_ss DX3_bitsFor 1 15 (pc' := 26) (lv' := [(4, .int 2), (3, .int _), (0, .ref _), (1, .int _), (2, .int _)]) (st' := [.int 2]) rfl ?_
        exact ev_iret DX3_bitsFor 16 rfl rfl ⟨vI ((if_pos c_2).trans ((if_pos c_4).trans (if_neg c_6))), rfl⟩
    · refine ev_ss DX3_bitsFor 1 15 (pc' := 26) (lv' := [(4, .int 3), (3, .int _), (0, .ref _), (1, .int _), (2, .int _)]) (st' := [.int 3]) rfl ?_
      exact ev_iret DX3_bitsFor 16 rfl rfl ⟨vI ((if_pos c_2).trans (if_neg c_4)), rfl⟩
  · refine ev_ss DX3_bitsFor 1 15 (pc' := 26) (lv' := [(4, .int 4), (3, .int _), (0, .ref _), (1, .int _), (2, .int _)]) (st' := [.int 4]) rfl ?_
    exact ev_iret DX3_bitsFor 16 rfl rfl ⟨vI (if_neg c_2), rfl⟩
set_option maxRecDepth 100000 in
set_option maxHeartbeats 4000000 in
theorem m_X3_endLesson {E : gE} {ws : va_W} {q a : Nat} {f : TF} {wo mg : Int32} (h : ws[q]? = some (a, toneC f)) : CD E YX3_endLesson 0 0 [.ref a, .int wo, .int mg] ws none (ws.set q (a, toneC (endP f wo mg))) := by
  refine cdV vX3_endLesson (Nat.le_of_ble_eq_true rfl) (lv0 := [(0, .ref a), (1, .int wo), (2, .int mg)]) rfl ?_
  refine ev_ss DX3_endLesson 2 0 (pc' := 2) (lv' := [(0, .ref _), (1, .int _), (2, .int _)]) (st' := [.int _, .ref _]) rfl ?_
  refine ev_put (fs' := [_, _, _, _, _, _, _, _, _, _, _, _, _, _, _, _, _, _]) DX3_endLesson 2 GX3 rfl (k0 := 11) (Nat.le_of_ble_eq_true rfl) fX3_18 rfl ⟨rfl, rfl⟩ h (Nat.le_of_ble_eq_true rfl) rfl rfl ?_
  refine ev_ss DX3_endLesson 4 3 (pc' := 9) (lv' := [(0, .ref _), (1, .int _), (2, .int _)]) (st' := [.int _, .int _, .ref _, .ref _]) rfl ?_
  refine ev_cV DX3_endLesson 7 (m_X3_bitsFor (f := upd f 11 wo) (wo := wo) (mg := mg) (wset_get h)) vX3_bitsFor rfl qX3_82 rfl (wset_get h) rfl (hd_of rfl rfl rfl rfl) ?_
  refine ev_put (fs' := [_, _, _, _, _, _, _, _, _, _, _, _, _, _, _, _, _, _]) DX3_endLesson 8 GX3 rfl (k0 := 10) (Nat.le_of_ble_eq_true rfl) fX3_45 rfl ⟨rfl, rfl⟩ (wset_get h) (Nat.le_of_ble_eq_true rfl) rfl wset_set ?_
  refine ev_ss DX3_endLesson 2 9 (pc' := 17) (lv' := [(0, .ref _), (1, .int _), (2, .int _)]) (st' := [.int 0, .ref _]) rfl ?_
  refine ev_put (fs' := [_, _, _, _, _, _, _, _, _, _, _, _, _, _, _, _, _, _]) DX3_endLesson 11 GX3 rfl (k0 := 12) (Nat.le_of_ble_eq_true rfl) fX3_48 rfl ⟨rfl, rfl⟩ (wset_get h) (Nat.le_of_ble_eq_true rfl) rfl wset_set ?_
  exact ev_vret DX3_endLesson 12 rfl rfl ⟨rfl, rfl⟩
set_option maxRecDepth 100000 in
set_option maxHeartbeats 4000000 in
theorem m_X3_misheardWith {E : gE} {ws : va_W} {q a : Nat} {f : TF} {m : Int32} (h : ws[q]? = some (a, toneC f)) : CD E YX3_misheardWith 0 0 [.ref a, .int m] ws (some (.int (misP f m))) ws := by
  refine cdV vX3_misheardWith (Nat.le_of_ble_eq_true rfl) (lv0 := [(0, .ref a), (1, .int m)]) rfl ?_
  refine ev_ss DX3_misheardWith 7 0 (pc' := 11) (lv' := [(2, .int _), (0, .ref _), (1, .int _)]) (st' := [.ref _]) rfl ?_
  refine ev_get DX3_misheardWith 7 GX3 rfl (k0 := 1) (Nat.le_of_ble_eq_true rfl) fX3_21 h rfl ?_
  refine ev_ss DX3_misheardWith 1 8 (pc' := 15) (lv' := [(2, .int _), (0, .ref _), (1, .int _)]) (st' := [.ref _, .int _]) rfl ?_
  refine ev_get DX3_misheardWith 9 GX3 rfl (k0 := 8) (Nat.le_of_ble_eq_true rfl) fX3_39 h rfl ?_
  refine ev_ss DX3_misheardWith 1 10 (pc' := 19) (lv' := [(2, .int _), (0, .ref _), (1, .int _)]) (st' := [.int _]) rfl ?_
  refine ev_abs DX3_misheardWith 11 rfl qX3_92 (Nat.le_of_ble_eq_true rfl) (Nat.le_of_ble_eq_true rfl) ?_
  refine ev_ss DX3_misheardWith 1 12 (pc' := 23) (lv' := [(2, .int _), (0, .ref _), (1, .int _)]) (st' := [.ref _, .int _]) rfl ?_
  refine ev_get DX3_misheardWith 13 GX3 rfl (k0 := 2) (Nat.le_of_ble_eq_true rfl) fX3_24 h rfl ?_
  refine ev_ss DX3_misheardWith 1 14 (pc' := 27) (lv' := [(2, .int _), (0, .ref _), (1, .int _)]) (st' := [.ref _, .int _, .int _]) rfl ?_
  refine ev_get DX3_misheardWith 15 GX3 rfl (k0 := 9) (Nat.le_of_ble_eq_true rfl) fX3_42 h rfl ?_
  refine ev_ss DX3_misheardWith 1 16 (pc' := 31) (lv' := [(2, .int _), (0, .ref _), (1, .int _)]) (st' := [.int _, .int _]) rfl ?_
  refine ev_abs DX3_misheardWith 17 rfl qX3_92 (Nat.le_of_ble_eq_true rfl) (Nat.le_of_ble_eq_true rfl) ?_
  refine ev_ss DX3_misheardWith 3 18 (pc' := 37) (lv' := [(3, .int _), (2, .int _), (0, .ref _), (1, .int _)]) (st' := [.ref _]) rfl ?_
  refine ev_get DX3_misheardWith 21 GX3 rfl (k0 := 0) (Nat.le_of_ble_eq_true rfl) fX3_9 h rfl ?_
  refine ev_ss DX3_misheardWith 1 22 (pc' := 41) (lv' := [(3, .int _), (2, .int _), (0, .ref _), (1, .int _)]) (st' := [.ref _, .int _]) rfl ?_
  refine ev_get DX3_misheardWith 23 GX3 rfl (k0 := 7) (Nat.le_of_ble_eq_true rfl) fX3_15 h rfl ?_
  refine ev_ss DX3_misheardWith 1 24 (pc' := 45) (lv' := [(3, .int _), (2, .int _), (0, .ref _), (1, .int _)]) (st' := [.int _]) rfl ?_
  refine ev_abs DX3_misheardWith 25 rfl qX3_92 (Nat.le_of_ble_eq_true rfl) (Nat.le_of_ble_eq_true rfl) ?_
  refine ev_ss DX3_misheardWith 7 26 (pc' := 58) (lv' := [(3, .int _), (2, .int _), (0, .ref _), (1, .int _)]) (st' := [.int 64, .int _]) rfl ?_
  refine ev_idiv DX3_misheardWith 33 rfl (by decide) ?_
  exact ev_iret DX3_misheardWith 34 rfl rfl ⟨rfl, rfl⟩
set_option maxRecDepth 100000 in
set_option maxHeartbeats 4000000 in
theorem m_X3_sureBits {E : gE} {ws : va_W} {q a : Nat} {f : TF} (h : ws[q]? = some (a, toneC f)) : CD E YX3_sureBits 0 0 [.ref a] ws (some (.int (surP f))) ws := by
  refine cdV vX3_sureBits (Nat.le_of_ble_eq_true rfl) (lv0 := [(0, .ref a)]) rfl ?_
  refine ev_ss DX3_sureBits 3 0 (pc' := 3) (lv' := [(1, .int 4), (0, .ref _)]) (st' := [.int 4]) rfl ?_
  refine ev_ifle DX3_sureBits 3 rfl (tgt := 34) (by decide) (fun h => absurd h (by decide)) (fun _ => ?_)
  refine ev_ss DX3_sureBits 2 4 (pc' := 8) (lv' := [(1, .int 4), (0, .ref _)]) (st' := [.int 4, .ref _]) rfl ?_
  refine ev_cV DX3_sureBits 6 (m_X3_misheardWith h) vX3_misheardWith rfl qX3_89 rfl h rfl (hd_of rfl rfl rfl rfl) ?_
  refine ev_ss DX3_sureBits 1 7 (pc' := 12) (lv' := [(1, .int 4), (0, .ref _)]) (st' := [.ref _, .int _]) rfl ?_
  refine ev_get DX3_sureBits 8 GX3 rfl (k0 := 3) (Nat.le_of_ble_eq_true rfl) fX3_27 h rfl ?_
  refine ev_ss DX3_sureBits 5 9 (pc' := 20) (lv' := [(1, .int 4), (0, .ref _)]) (st' := [.int 4, .ref _, .int _]) rfl ?_
  refine ev_cV DX3_sureBits 14 (m_X3_roomWith h) vX3_roomWith rfl qX3_85 rfl h rfl (hd_of rfl rfl rfl rfl) ?_
  refine ev_icge DX3_sureBits 15 rfl (tgt := 28) (by decide) (fun c_2 => ?_) (fun c_2 => ?_)
  · refine ev_ss DX3_sureBits 1 18 (pc' := 31) (lv' := [(1, .int 3), (0, .ref _)]) (st' := []) rfl ?_
    refine ev_goto DX3_sureBits 19 rfl (tgt := 2) (by decide) ?_
    refine ev_ss DX3_sureBits 1 2 (pc' := 3) (lv' := [(1, .int 3), (0, .ref _)]) (st' := [.int 3]) rfl ?_
    refine ev_ifle DX3_sureBits 3 rfl (tgt := 34) (by decide) (fun h => absurd h (by decide)) (fun _ => ?_)
    refine ev_ss DX3_sureBits 2 4 (pc' := 8) (lv' := [(1, .int 3), (0, .ref _)]) (st' := [.int 3, .ref _]) rfl ?_
    refine ev_cV DX3_sureBits 6 (m_X3_misheardWith h) vX3_misheardWith rfl qX3_89 rfl h rfl (hd_of rfl rfl rfl rfl) ?_
    refine ev_ss DX3_sureBits 1 7 (pc' := 12) (lv' := [(1, .int 3), (0, .ref _)]) (st' := [.ref _, .int _]) rfl ?_
    refine ev_get DX3_sureBits 8 GX3 rfl (k0 := 3) (Nat.le_of_ble_eq_true rfl) fX3_27 h rfl ?_
    refine ev_ss DX3_sureBits 5 9 (pc' := 20) (lv' := [(1, .int 3), (0, .ref _)]) (st' := [.int 3, .ref _, .int _]) rfl ?_
    refine ev_cV DX3_sureBits 14 (m_X3_roomWith h) vX3_roomWith rfl qX3_85 rfl h rfl (hd_of rfl rfl rfl rfl) ?_
    refine ev_icge DX3_sureBits 15 rfl (tgt := 28) (by decide) (fun c_4 => ?_) (fun c_4 => ?_)
    · refine ev_ss DX3_sureBits 1 18 (pc' := 31) (lv' := [(1, .int 2), (0, .ref _)]) (st' := []) rfl ?_
      refine ev_goto DX3_sureBits 19 rfl (tgt := 2) (by decide) ?_
      refine ev_ss DX3_sureBits 1 2 (pc' := 3) (lv' := [(1, .int 2), (0, .ref _)]) (st' := [.int 2]) rfl ?_
      refine ev_ifle DX3_sureBits 3 rfl (tgt := 34) (by decide) (fun h => absurd h (by decide)) (fun _ => ?_)
      refine ev_ss DX3_sureBits 2 4 (pc' := 8) (lv' := [(1, .int 2), (0, .ref _)]) (st' := [.int 2, .ref _]) rfl ?_
      refine ev_cV DX3_sureBits 6 (m_X3_misheardWith h) vX3_misheardWith rfl qX3_89 rfl h rfl (hd_of rfl rfl rfl rfl) ?_
      refine ev_ss DX3_sureBits 1 7 (pc' := 12) (lv' := [(1, .int 2), (0, .ref _)]) (st' := [.ref _, .int _]) rfl ?_
      refine ev_get DX3_sureBits 8 GX3 rfl (k0 := 3) (Nat.le_of_ble_eq_true rfl) fX3_27 h rfl ?_
      refine ev_ss DX3_sureBits 5 9 (pc' := 20) (lv' := [(1, .int 2), (0, .ref _)]) (st' := [.int 2, .ref _, .int _]) rfl ?_
      refine ev_cV DX3_sureBits 14 (m_X3_roomWith h) vX3_roomWith rfl qX3_85 rfl h rfl (hd_of rfl rfl rfl rfl) ?_
      refine ev_icge DX3_sureBits 15 rfl (tgt := 28) (by decide) (fun c_6 => ?_) (fun c_6 => ?_)
      · refine ev_ss DX3_sureBits 1 18 (pc' := 31) (lv' := [(1, .int 1), (0, .ref _)]) (st' := []) rfl ?_
        refine ev_goto DX3_sureBits 19 rfl (tgt := 2) (by decide) ?_
        refine ev_ss DX3_sureBits 1 2 (pc' := 3) (lv' := [(1, .int 1), (0, .ref _)]) (st' := [.int 1]) rfl ?_
        refine ev_ifle DX3_sureBits 3 rfl (tgt := 34) (by decide) (fun h => absurd h (by decide)) (fun _ => ?_)
        refine ev_ss DX3_sureBits 2 4 (pc' := 8) (lv' := [(1, .int 1), (0, .ref _)]) (st' := [.int 1, .ref _]) rfl ?_
        refine ev_cV DX3_sureBits 6 (m_X3_misheardWith h) vX3_misheardWith rfl qX3_89 rfl h rfl (hd_of rfl rfl rfl rfl) ?_
        refine ev_ss DX3_sureBits 1 7 (pc' := 12) (lv' := [(1, .int 1), (0, .ref _)]) (st' := [.ref _, .int _]) rfl ?_
        refine ev_get DX3_sureBits 8 GX3 rfl (k0 := 3) (Nat.le_of_ble_eq_true rfl) fX3_27 h rfl ?_
        refine ev_ss DX3_sureBits 5 9 (pc' := 20) (lv' := [(1, .int 1), (0, .ref _)]) (st' := [.int 1, .ref _, .int _]) rfl ?_
        refine ev_cV DX3_sureBits 14 (m_X3_roomWith h) vX3_roomWith rfl qX3_85 rfl h rfl (hd_of rfl rfl rfl rfl) ?_
        refine ev_icge DX3_sureBits 15 rfl (tgt := 28) (by decide) (fun c_8 => ?_) (fun c_8 => ?_)
        · refine ev_ss DX3_sureBits 1 18 (pc' := 31) (lv' := [(1, .int 0), (0, .ref _)]) (st' := []) rfl ?_
          refine ev_goto DX3_sureBits 19 rfl (tgt := 2) (by decide) ?_
          refine ev_ss DX3_sureBits 1 2 (pc' := 3) (lv' := [(1, .int 0), (0, .ref _)]) (st' := [.int 0]) rfl ?_
          refine ev_ifle DX3_sureBits 3 rfl (tgt := 34) (by decide) (fun _ => ?_) (fun h => h.elim (by decide))
          refine ev_ss DX3_sureBits 1 20 (pc' := 35) (lv' := [(1, .int 0), (0, .ref _)]) (st' := [.int 0]) rfl ?_
          exact ev_iret DX3_sureBits 21 rfl rfl ⟨vI ((if_pos c_2).trans ((if_pos c_4).trans ((if_pos c_6).trans (if_pos c_8)))), rfl⟩
        · refine ev_ss DX3_sureBits 1 16 (pc' := 27) (lv' := [(1, .int 1), (0, .ref _)]) (st' := [.int 1]) rfl ?_
          exact ev_iret DX3_sureBits 17 rfl rfl ⟨vI ((if_pos c_2).trans ((if_pos c_4).trans ((if_pos c_6).trans (if_neg c_8)))), rfl⟩
      · refine ev_ss DX3_sureBits 1 16 (pc' := 27) (lv' := [(1, .int 2), (0, .ref _)]) (st' := [.int 2]) rfl ?_
        exact ev_iret DX3_sureBits 17 rfl rfl ⟨vI ((if_pos c_2).trans ((if_pos c_4).trans (if_neg c_6))), rfl⟩
    · refine ev_ss DX3_sureBits 1 16 (pc' := 27) (lv' := [(1, .int 3), (0, .ref _)]) (st' := [.int 3]) rfl ?_
      exact ev_iret DX3_sureBits 17 rfl rfl ⟨vI ((if_pos c_2).trans (if_neg c_4)), rfl⟩
  · refine ev_ss DX3_sureBits 1 16 (pc' := 27) (lv' := [(1, .int 4), (0, .ref _)]) (st' := [.int 4]) rfl ?_
    exact ev_iret DX3_sureBits 17 rfl rfl ⟨vI (if_neg c_2), rfl⟩
set_option maxRecDepth 100000 in
set_option maxHeartbeats 4000000 in
theorem m_X3_countSign {E : gE} {ws : va_W} {q a : Nat} {f : TF} {b : Int32} (h : ws[q]? = some (a, toneC f)) : CD E YX3_countSign 0 0 [.ref a, .int b] ws none (ws.set q (a, toneC (cntP f b))) := by
  refine cdV vX3_countSign (Nat.le_of_ble_eq_true rfl) (lv0 := [(0, .ref a), (1, .int b)]) rfl ?_
  refine ev_ss DX3_countSign 1 0 (pc' := 1) (lv' := [(0, .ref _), (1, .int _)]) (st' := [.ref _]) rfl ?_
  refine ev_get DX3_countSign 1 GX3 rfl (k0 := 10) (Nat.le_of_ble_eq_true rfl) fX3_45 h rfl ?_
  refine ev_ifle DX3_countSign 2 rfl (tgt := 17) (by decide) (fun c_1 => ?_) (fun c_1 => ?_)
  · refine ev_ss DX3_countSign 1 9 (pc' := 18) (lv' := [(0, .ref _), (1, .int _)]) (st' := [.int _]) rfl ?_
    refine ev_ifeq DX3_countSign 10 rfl (tgt := 41) (by decide) (fun c_2 => ?_) (fun c_2 => ?_)
    · exact ev_vret DX3_countSign 23 rfl rfl ⟨rfl, tset0 h ((if_pos c_1).trans (if_pos c_2))⟩
    · refine ev_ss DX3_countSign 2 11 (pc' := 23) (lv' := [(0, .ref _), (1, .int _)]) (st' := [.ref _, .ref _]) rfl ?_
      refine ev_get DX3_countSign 13 GX3 rfl (k0 := 15) (Nat.le_of_ble_eq_true rfl) fX3_57 h rfl ?_
      refine ev_ss DX3_countSign 2 14 (pc' := 28) (lv' := [(0, .ref _), (1, .int _)]) (st' := [.int _, .ref _]) rfl ?_
      refine ev_put (fs' := [_, _, _, _, _, _, _, _, _, _, _, _, _, _, _, _, _, _]) DX3_countSign 16 GX3 rfl (k0 := 15) (Nat.le_of_ble_eq_true rfl) fX3_57 rfl ⟨rfl, rfl⟩ h (Nat.le_of_ble_eq_true rfl) rfl rfl ?_
      refine ev_ss DX3_countSign 2 17 (pc' := 33) (lv' := [(0, .ref _), (1, .int _)]) (st' := [.ref _, .ref _]) rfl ?_
      refine ev_get DX3_countSign 19 GX3 rfl (k0 := 12) (Nat.le_of_ble_eq_true rfl) fX3_48 (wset_get h) rfl ?_
      refine ev_ss DX3_countSign 2 20 (pc' := 38) (lv' := [(0, .ref _), (1, .int _)]) (st' := [.int _, .ref _]) rfl ?_
      refine ev_put (fs' := [_, _, _, _, _, _, _, _, _, _, _, _, _, _, _, _, _, _]) DX3_countSign 22 GX3 rfl (k0 := 12) (Nat.le_of_ble_eq_true rfl) fX3_48 rfl ⟨rfl, rfl⟩ (wset_get h) (Nat.le_of_ble_eq_true rfl) rfl wset_set ?_
      exact ev_vret DX3_countSign 23 rfl rfl ⟨rfl, tset (g2 := cntP f b) ((if_pos c_1).trans (if_neg c_2)) rfl⟩
  · refine ev_ss DX3_countSign 2 3 (pc' := 9) (lv' := [(0, .ref _), (1, .int _)]) (st' := [.ref _, .ref _]) rfl ?_
    refine ev_get DX3_countSign 5 GX3 rfl (k0 := 14) (Nat.le_of_ble_eq_true rfl) fX3_54 h rfl ?_
    refine ev_ss DX3_countSign 2 6 (pc' := 14) (lv' := [(0, .ref _), (1, .int _)]) (st' := [.int _, .ref _]) rfl ?_
    refine ev_put (fs' := [_, _, _, _, _, _, _, _, _, _, _, _, _, _, _, _, _, _]) DX3_countSign 8 GX3 rfl (k0 := 14) (Nat.le_of_ble_eq_true rfl) fX3_54 rfl ⟨rfl, rfl⟩ h (Nat.le_of_ble_eq_true rfl) rfl rfl ?_
    refine ev_ss DX3_countSign 1 9 (pc' := 18) (lv' := [(0, .ref _), (1, .int _)]) (st' := [.int _]) rfl ?_
    refine ev_ifeq DX3_countSign 10 rfl (tgt := 41) (by decide) (fun c_3 => ?_) (fun c_3 => ?_)
    · exact ev_vret DX3_countSign 23 rfl rfl ⟨rfl, tset (g2 := cntP f b) ((if_neg c_1).trans (if_pos c_3)) rfl⟩
    · refine ev_ss DX3_countSign 2 11 (pc' := 23) (lv' := [(0, .ref _), (1, .int _)]) (st' := [.ref _, .ref _]) rfl ?_
      refine ev_get DX3_countSign 13 GX3 rfl (k0 := 15) (Nat.le_of_ble_eq_true rfl) fX3_57 (wset_get h) rfl ?_
      refine ev_ss DX3_countSign 2 14 (pc' := 28) (lv' := [(0, .ref _), (1, .int _)]) (st' := [.int _, .ref _]) rfl ?_
      refine ev_put (fs' := [_, _, _, _, _, _, _, _, _, _, _, _, _, _, _, _, _, _]) DX3_countSign 16 GX3 rfl (k0 := 15) (Nat.le_of_ble_eq_true rfl) fX3_57 rfl ⟨rfl, rfl⟩ (wset_get h) (Nat.le_of_ble_eq_true rfl) rfl wset_set ?_
      refine ev_ss DX3_countSign 2 17 (pc' := 33) (lv' := [(0, .ref _), (1, .int _)]) (st' := [.ref _, .ref _]) rfl ?_
      refine ev_get DX3_countSign 19 GX3 rfl (k0 := 12) (Nat.le_of_ble_eq_true rfl) fX3_48 (wset_get h) rfl ?_
      refine ev_ss DX3_countSign 2 20 (pc' := 38) (lv' := [(0, .ref _), (1, .int _)]) (st' := [.int _, .ref _]) rfl ?_
      refine ev_put (fs' := [_, _, _, _, _, _, _, _, _, _, _, _, _, _, _, _, _, _]) DX3_countSign 22 GX3 rfl (k0 := 12) (Nat.le_of_ble_eq_true rfl) fX3_48 rfl ⟨rfl, rfl⟩ (wset_get h) (Nat.le_of_ble_eq_true rfl) rfl wset_set ?_
      exact ev_vret DX3_countSign 23 rfl rfl ⟨rfl, tset (g2 := cntP f b) ((if_neg c_1).trans (if_neg c_3)) rfl⟩
set_option maxRecDepth 100000 in
set_option maxHeartbeats 4000000 in
theorem m_X3_becomeShyAt {E : gE} {ws : va_W} {q a : Nat} {f : TF} {m : Int32} (h : ws[q]? = some (a, toneC f)) : CD E YX3_becomeShyAt 0 0 [.ref a, .int m] ws none (ws.set q (a, toneC (shyP f m))) := by
  refine cdV vX3_becomeShyAt (Nat.le_of_ble_eq_true rfl) (lv0 := [(0, .ref a), (1, .int m)]) rfl ?_
  refine ev_ss DX3_becomeShyAt 1 0 (pc' := 1) (lv' := [(0, .ref _), (1, .int _)]) (st' := [.ref _]) rfl ?_
  refine ev_get DX3_becomeShyAt 1 GX3 rfl (k0 := 10) (Nat.le_of_ble_eq_true rfl) fX3_45 h rfl ?_
  refine ev_ifle DX3_becomeShyAt 2 rfl (tgt := 40) (by decide) (fun c_1 => ?_) (fun c_1 => ?_)
  · exact ev_vret DX3_becomeShyAt 22 rfl rfl ⟨rfl, tset0 h (if_pos c_1)⟩
  · refine ev_ss DX3_becomeShyAt 1 3 (pc' := 8) (lv' := [(0, .ref _), (1, .int _)]) (st' := [.ref _]) rfl ?_
    refine ev_get DX3_becomeShyAt 4 GX3 rfl (k0 := 12) (Nat.le_of_ble_eq_true rfl) fX3_48 h rfl ?_
    refine ev_ss DX3_becomeShyAt 1 5 (pc' := 12) (lv' := [(0, .ref _), (1, .int _)]) (st' := [.int _, .int _]) rfl ?_
    refine ev_iclt DX3_becomeShyAt 6 rfl (tgt := 40) (by decide) (fun c_2 => ?_) (fun c_2 => ?_)
    · exact ev_vret DX3_becomeShyAt 22 rfl rfl ⟨rfl, tset0 h ((if_neg c_1).trans (if_pos c_2))⟩
    · refine ev_ss DX3_becomeShyAt 2 7 (pc' := 17) (lv' := [(0, .ref _), (1, .int _)]) (st' := [.ref _, .ref _]) rfl ?_
      refine ev_get DX3_becomeShyAt 9 GX3 rfl (k0 := 10) (Nat.le_of_ble_eq_true rfl) fX3_45 h rfl ?_
      refine ev_ss DX3_becomeShyAt 2 10 (pc' := 22) (lv' := [(0, .ref _), (1, .int _)]) (st' := [.int _, .ref _]) rfl ?_
      refine ev_put (fs' := [_, _, _, _, _, _, _, _, _, _, _, _, _, _, _, _, _, _]) DX3_becomeShyAt 12 GX3 rfl (k0 := 10) (Nat.le_of_ble_eq_true rfl) fX3_45 rfl ⟨rfl, rfl⟩ h (Nat.le_of_ble_eq_true rfl) rfl rfl ?_
      refine ev_ss DX3_becomeShyAt 2 13 (pc' := 27) (lv' := [(0, .ref _), (1, .int _)]) (st' := [.ref _, .ref _]) rfl ?_
      refine ev_get DX3_becomeShyAt 15 GX3 rfl (k0 := 13) (Nat.le_of_ble_eq_true rfl) fX3_51 (wset_get h) rfl ?_
      refine ev_ss DX3_becomeShyAt 2 16 (pc' := 32) (lv' := [(0, .ref _), (1, .int _)]) (st' := [.int _, .ref _]) rfl ?_
      refine ev_put (fs' := [_, _, _, _, _, _, _, _, _, _, _, _, _, _, _, _, _, _]) DX3_becomeShyAt 18 GX3 rfl (k0 := 13) (Nat.le_of_ble_eq_true rfl) fX3_51 rfl ⟨rfl, rfl⟩ (wset_get h) (Nat.le_of_ble_eq_true rfl) rfl wset_set ?_
      refine ev_ss DX3_becomeShyAt 2 19 (pc' := 37) (lv' := [(0, .ref _), (1, .int _)]) (st' := [.int 0, .ref _]) rfl ?_
      refine ev_put (fs' := [_, _, _, _, _, _, _, _, _, _, _, _, _, _, _, _, _, _]) DX3_becomeShyAt 21 GX3 rfl (k0 := 12) (Nat.le_of_ble_eq_true rfl) fX3_48 rfl ⟨rfl, rfl⟩ (wset_get h) (Nat.le_of_ble_eq_true rfl) rfl wset_set ?_
      exact ev_vret DX3_becomeShyAt 22 rfl rfl ⟨rfl, tset (g2 := shyP f m) ((if_neg c_1).trans (if_neg c_2)) rfl⟩
set_option maxRecDepth 100000 in
set_option maxHeartbeats 4000000 in
theorem m_X3_copyFrom {E : gE} {ws : va_W} {q a q2 a2 : Nat} {f g : TF} (h : ws[q]? = some (a, toneC f)) (h2 : ws[q2]? = some (a2, toneC g)) (hne : q ≠ q2) : CD E YX3_copyFrom 0 0 [.ref a, .ref a2] ws none (ws.set q (a, toneC g)) := by
  refine cdV vX3_copyFrom (Nat.le_of_ble_eq_true rfl) (lv0 := [(0, .ref a), (1, .ref a2)]) rfl ?_
  refine ev_ss DX3_copyFrom 2 0 (pc' := 2) (lv' := [(0, .ref _), (1, .ref _)]) (st' := [.ref _, .ref _]) rfl ?_
  refine ev_get DX3_copyFrom 2 GX3 rfl (k0 := 0) (Nat.le_of_ble_eq_true rfl) fX3_9 h2 rfl ?_
  refine ev_put (fs' := [_, _, _, _, _, _, _, _, _, _, _, _, _, _, _, _, _, _]) DX3_copyFrom 3 GX3 rfl (k0 := 0) (Nat.le_of_ble_eq_true rfl) fX3_9 rfl ⟨rfl, rfl⟩ h (Nat.le_of_ble_eq_true rfl) rfl rfl ?_
  refine ev_ss DX3_copyFrom 2 4 (pc' := 10) (lv' := [(0, .ref _), (1, .ref _)]) (st' := [.ref _, .ref _]) rfl ?_
  refine ev_get DX3_copyFrom 6 GX3 rfl (k0 := 1) (Nat.le_of_ble_eq_true rfl) fX3_21 (wset_n h2 hne) rfl ?_
  refine ev_put (fs' := [_, _, _, _, _, _, _, _, _, _, _, _, _, _, _, _, _, _]) DX3_copyFrom 7 GX3 rfl (k0 := 1) (Nat.le_of_ble_eq_true rfl) fX3_21 rfl ⟨rfl, rfl⟩ (wset_get h) (Nat.le_of_ble_eq_true rfl) rfl wset_set ?_
  refine ev_ss DX3_copyFrom 2 8 (pc' := 18) (lv' := [(0, .ref _), (1, .ref _)]) (st' := [.ref _, .ref _]) rfl ?_
  refine ev_get DX3_copyFrom 10 GX3 rfl (k0 := 2) (Nat.le_of_ble_eq_true rfl) fX3_24 (wset_n h2 hne) rfl ?_
  refine ev_put (fs' := [_, _, _, _, _, _, _, _, _, _, _, _, _, _, _, _, _, _]) DX3_copyFrom 11 GX3 rfl (k0 := 2) (Nat.le_of_ble_eq_true rfl) fX3_24 rfl ⟨rfl, rfl⟩ (wset_get h) (Nat.le_of_ble_eq_true rfl) rfl wset_set ?_
  refine ev_ss DX3_copyFrom 2 12 (pc' := 26) (lv' := [(0, .ref _), (1, .ref _)]) (st' := [.ref _, .ref _]) rfl ?_
  refine ev_get DX3_copyFrom 14 GX3 rfl (k0 := 3) (Nat.le_of_ble_eq_true rfl) fX3_27 (wset_n h2 hne) rfl ?_
  refine ev_put (fs' := [_, _, _, _, _, _, _, _, _, _, _, _, _, _, _, _, _, _]) DX3_copyFrom 15 GX3 rfl (k0 := 3) (Nat.le_of_ble_eq_true rfl) fX3_27 rfl ⟨rfl, rfl⟩ (wset_get h) (Nat.le_of_ble_eq_true rfl) rfl wset_set ?_
  refine ev_ss DX3_copyFrom 2 16 (pc' := 34) (lv' := [(0, .ref _), (1, .ref _)]) (st' := [.ref _, .ref _]) rfl ?_
  refine ev_get DX3_copyFrom 18 GX3 rfl (k0 := 4) (Nat.le_of_ble_eq_true rfl) fX3_30 (wset_n h2 hne) rfl ?_
  refine ev_put (fs' := [_, _, _, _, _, _, _, _, _, _, _, _, _, _, _, _, _, _]) DX3_copyFrom 19 GX3 rfl (k0 := 4) (Nat.le_of_ble_eq_true rfl) fX3_30 rfl ⟨rfl, rfl⟩ (wset_get h) (Nat.le_of_ble_eq_true rfl) rfl wset_set ?_
  refine ev_ss DX3_copyFrom 2 20 (pc' := 42) (lv' := [(0, .ref _), (1, .ref _)]) (st' := [.ref _, .ref _]) rfl ?_
  refine ev_get DX3_copyFrom 22 GX3 rfl (k0 := 5) (Nat.le_of_ble_eq_true rfl) fX3_33 (wset_n h2 hne) rfl ?_
  refine ev_put (fs' := [_, _, _, _, _, _, _, _, _, _, _, _, _, _, _, _, _, _]) DX3_copyFrom 23 GX3 rfl (k0 := 5) (Nat.le_of_ble_eq_true rfl) fX3_33 rfl ⟨rfl, rfl⟩ (wset_get h) (Nat.le_of_ble_eq_true rfl) rfl wset_set ?_
  refine ev_ss DX3_copyFrom 2 24 (pc' := 50) (lv' := [(0, .ref _), (1, .ref _)]) (st' := [.ref _, .ref _]) rfl ?_
  refine ev_get DX3_copyFrom 26 GX3 rfl (k0 := 6) (Nat.le_of_ble_eq_true rfl) fX3_36 (wset_n h2 hne) rfl ?_
  refine ev_put (fs' := [_, _, _, _, _, _, _, _, _, _, _, _, _, _, _, _, _, _]) DX3_copyFrom 27 GX3 rfl (k0 := 6) (Nat.le_of_ble_eq_true rfl) fX3_36 rfl ⟨rfl, rfl⟩ (wset_get h) (Nat.le_of_ble_eq_true rfl) rfl wset_set ?_
  refine ev_ss DX3_copyFrom 2 28 (pc' := 58) (lv' := [(0, .ref _), (1, .ref _)]) (st' := [.ref _, .ref _]) rfl ?_
  refine ev_get DX3_copyFrom 30 GX3 rfl (k0 := 7) (Nat.le_of_ble_eq_true rfl) fX3_15 (wset_n h2 hne) rfl ?_
  refine ev_put (fs' := [_, _, _, _, _, _, _, _, _, _, _, _, _, _, _, _, _, _]) DX3_copyFrom 31 GX3 rfl (k0 := 7) (Nat.le_of_ble_eq_true rfl) fX3_15 rfl ⟨rfl, rfl⟩ (wset_get h) (Nat.le_of_ble_eq_true rfl) rfl wset_set ?_
  refine ev_ss DX3_copyFrom 2 32 (pc' := 66) (lv' := [(0, .ref _), (1, .ref _)]) (st' := [.ref _, .ref _]) rfl ?_
  refine ev_get DX3_copyFrom 34 GX3 rfl (k0 := 8) (Nat.le_of_ble_eq_true rfl) fX3_39 (wset_n h2 hne) rfl ?_
  refine ev_put (fs' := [_, _, _, _, _, _, _, _, _, _, _, _, _, _, _, _, _, _]) DX3_copyFrom 35 GX3 rfl (k0 := 8) (Nat.le_of_ble_eq_true rfl) fX3_39 rfl ⟨rfl, rfl⟩ (wset_get h) (Nat.le_of_ble_eq_true rfl) rfl wset_set ?_
  refine ev_ss DX3_copyFrom 2 36 (pc' := 74) (lv' := [(0, .ref _), (1, .ref _)]) (st' := [.ref _, .ref _]) rfl ?_
  refine ev_get DX3_copyFrom 38 GX3 rfl (k0 := 9) (Nat.le_of_ble_eq_true rfl) fX3_42 (wset_n h2 hne) rfl ?_
  refine ev_put (fs' := [_, _, _, _, _, _, _, _, _, _, _, _, _, _, _, _, _, _]) DX3_copyFrom 39 GX3 rfl (k0 := 9) (Nat.le_of_ble_eq_true rfl) fX3_42 rfl ⟨rfl, rfl⟩ (wset_get h) (Nat.le_of_ble_eq_true rfl) rfl wset_set ?_
  refine ev_ss DX3_copyFrom 2 40 (pc' := 82) (lv' := [(0, .ref _), (1, .ref _)]) (st' := [.ref _, .ref _]) rfl ?_
  refine ev_get DX3_copyFrom 42 GX3 rfl (k0 := 10) (Nat.le_of_ble_eq_true rfl) fX3_45 (wset_n h2 hne) rfl ?_
  refine ev_put (fs' := [_, _, _, _, _, _, _, _, _, _, _, _, _, _, _, _, _, _]) DX3_copyFrom 43 GX3 rfl (k0 := 10) (Nat.le_of_ble_eq_true rfl) fX3_45 rfl ⟨rfl, rfl⟩ (wset_get h) (Nat.le_of_ble_eq_true rfl) rfl wset_set ?_
  refine ev_ss DX3_copyFrom 2 44 (pc' := 90) (lv' := [(0, .ref _), (1, .ref _)]) (st' := [.ref _, .ref _]) rfl ?_
  refine ev_get DX3_copyFrom 46 GX3 rfl (k0 := 11) (Nat.le_of_ble_eq_true rfl) fX3_18 (wset_n h2 hne) rfl ?_
  refine ev_put (fs' := [_, _, _, _, _, _, _, _, _, _, _, _, _, _, _, _, _, _]) DX3_copyFrom 47 GX3 rfl (k0 := 11) (Nat.le_of_ble_eq_true rfl) fX3_18 rfl ⟨rfl, rfl⟩ (wset_get h) (Nat.le_of_ble_eq_true rfl) rfl wset_set ?_
  refine ev_ss DX3_copyFrom 2 48 (pc' := 98) (lv' := [(0, .ref _), (1, .ref _)]) (st' := [.ref _, .ref _]) rfl ?_
  refine ev_get DX3_copyFrom 50 GX3 rfl (k0 := 12) (Nat.le_of_ble_eq_true rfl) fX3_48 (wset_n h2 hne) rfl ?_
  refine ev_put (fs' := [_, _, _, _, _, _, _, _, _, _, _, _, _, _, _, _, _, _]) DX3_copyFrom 51 GX3 rfl (k0 := 12) (Nat.le_of_ble_eq_true rfl) fX3_48 rfl ⟨rfl, rfl⟩ (wset_get h) (Nat.le_of_ble_eq_true rfl) rfl wset_set ?_
  refine ev_ss DX3_copyFrom 2 52 (pc' := 106) (lv' := [(0, .ref _), (1, .ref _)]) (st' := [.ref _, .ref _]) rfl ?_
  refine ev_get DX3_copyFrom 54 GX3 rfl (k0 := 13) (Nat.le_of_ble_eq_true rfl) fX3_51 (wset_n h2 hne) rfl ?_
  refine ev_put (fs' := [_, _, _, _, _, _, _, _, _, _, _, _, _, _, _, _, _, _]) DX3_copyFrom 55 GX3 rfl (k0 := 13) (Nat.le_of_ble_eq_true rfl) fX3_51 rfl ⟨rfl, rfl⟩ (wset_get h) (Nat.le_of_ble_eq_true rfl) rfl wset_set ?_
  refine ev_ss DX3_copyFrom 2 56 (pc' := 114) (lv' := [(0, .ref _), (1, .ref _)]) (st' := [.ref _, .ref _]) rfl ?_
  refine ev_get DX3_copyFrom 58 GX3 rfl (k0 := 14) (Nat.le_of_ble_eq_true rfl) fX3_54 (wset_n h2 hne) rfl ?_
  refine ev_put (fs' := [_, _, _, _, _, _, _, _, _, _, _, _, _, _, _, _, _, _]) DX3_copyFrom 59 GX3 rfl (k0 := 14) (Nat.le_of_ble_eq_true rfl) fX3_54 rfl ⟨rfl, rfl⟩ (wset_get h) (Nat.le_of_ble_eq_true rfl) rfl wset_set ?_
  refine ev_ss DX3_copyFrom 2 60 (pc' := 122) (lv' := [(0, .ref _), (1, .ref _)]) (st' := [.ref _, .ref _]) rfl ?_
  refine ev_get DX3_copyFrom 62 GX3 rfl (k0 := 15) (Nat.le_of_ble_eq_true rfl) fX3_57 (wset_n h2 hne) rfl ?_
  refine ev_put (fs' := [_, _, _, _, _, _, _, _, _, _, _, _, _, _, _, _, _, _]) DX3_copyFrom 63 GX3 rfl (k0 := 15) (Nat.le_of_ble_eq_true rfl) fX3_57 rfl ⟨rfl, rfl⟩ (wset_get h) (Nat.le_of_ble_eq_true rfl) rfl wset_set ?_
  refine ev_ss DX3_copyFrom 2 64 (pc' := 130) (lv' := [(0, .ref _), (1, .ref _)]) (st' := [.ref _, .ref _]) rfl ?_
  refine ev_get DX3_copyFrom 66 GX3 rfl (k0 := 16) (Nat.le_of_ble_eq_true rfl) fX3_60 (wset_n h2 hne) rfl ?_
  refine ev_put (fs' := [_, _, _, _, _, _, _, _, _, _, _, _, _, _, _, _, _, _]) DX3_copyFrom 67 GX3 rfl (k0 := 16) (Nat.le_of_ble_eq_true rfl) fX3_60 rfl ⟨rfl, rfl⟩ (wset_get h) (Nat.le_of_ble_eq_true rfl) rfl wset_set ?_
  refine ev_ss DX3_copyFrom 2 68 (pc' := 138) (lv' := [(0, .ref _), (1, .ref _)]) (st' := [.ref _, .ref _]) rfl ?_
  refine ev_get DX3_copyFrom 70 GX3 rfl (k0 := 17) (Nat.le_of_ble_eq_true rfl) fX3_63 (wset_n h2 hne) rfl ?_
  refine ev_put (fs' := [_, _, _, _, _, _, _, _, _, _, _, _, _, _, _, _, _, _]) DX3_copyFrom 71 GX3 rfl (k0 := 17) (Nat.le_of_ble_eq_true rfl) fX3_63 rfl ⟨rfl, rfl⟩ (wset_get h) (Nat.le_of_ble_eq_true rfl) rfl wset_set ?_
  exact ev_vret DX3_copyFrom 72 rfl rfl ⟨rfl, rfl⟩
set_option maxRecDepth 100000 in
set_option maxHeartbeats 4000000 in
theorem m_X3_streetNumber_0 {E : gE} {ws : va_W} {q a : Nat} {f : TF} (h : ws[q]? = some (a, toneC f)) : CD E YX3_streetNumber 0 0 [.ref a, .int 0] ws (some (.int (f 0))) ws := by
  refine cdV vX3_streetNumber (Nat.le_of_ble_eq_true rfl) (lv0 := [(0, .ref a), (1, .int 0)]) rfl ?_
  refine ev_ss DX3_streetNumber 1 0 (pc' := 1) (lv' := [(0, .ref _), (1, .int 0)]) (st' := [.int 0]) rfl ?_
  refine ev_swin DX3_streetNumber 1 rfl (by decide) (by decide) (off := 39) (by decide) (tgt := 40) (by decide) ?_
  refine ev_ss DX3_streetNumber 1 2 (pc' := 41) (lv' := [(0, .ref _), (1, .int 0)]) (st' := [.ref _]) rfl ?_
  refine ev_get DX3_streetNumber 3 GX3 rfl (k0 := 0) (Nat.le_of_ble_eq_true rfl) fX3_9 h rfl ?_
  exact ev_iret DX3_streetNumber 4 rfl rfl ⟨rfl, rfl⟩
set_option maxRecDepth 100000 in
set_option maxHeartbeats 4000000 in
theorem m_X3_streetNumber_1 {E : gE} {ws : va_W} {q a : Nat} {f : TF} (h : ws[q]? = some (a, toneC f)) : CD E YX3_streetNumber 0 0 [.ref a, .int 1] ws (some (.int (f 1))) ws := by
  refine cdV vX3_streetNumber (Nat.le_of_ble_eq_true rfl) (lv0 := [(0, .ref a), (1, .int 1)]) rfl ?_
  refine ev_ss DX3_streetNumber 1 0 (pc' := 1) (lv' := [(0, .ref _), (1, .int 1)]) (st' := [.int 1]) rfl ?_
  refine ev_swin DX3_streetNumber 1 rfl (by decide) (by decide) (off := 44) (by decide) (tgt := 45) (by decide) ?_
  refine ev_ss DX3_streetNumber 1 5 (pc' := 46) (lv' := [(0, .ref _), (1, .int 1)]) (st' := [.ref _]) rfl ?_
  refine ev_get DX3_streetNumber 6 GX3 rfl (k0 := 1) (Nat.le_of_ble_eq_true rfl) fX3_21 h rfl ?_
  exact ev_iret DX3_streetNumber 7 rfl rfl ⟨rfl, rfl⟩
set_option maxRecDepth 100000 in
set_option maxHeartbeats 4000000 in
theorem m_X3_streetNumber_2 {E : gE} {ws : va_W} {q a : Nat} {f : TF} (h : ws[q]? = some (a, toneC f)) : CD E YX3_streetNumber 0 0 [.ref a, .int 2] ws (some (.int (f 2))) ws := by
  refine cdV vX3_streetNumber (Nat.le_of_ble_eq_true rfl) (lv0 := [(0, .ref a), (1, .int 2)]) rfl ?_
  refine ev_ss DX3_streetNumber 1 0 (pc' := 1) (lv' := [(0, .ref _), (1, .int 2)]) (st' := [.int 2]) rfl ?_
  refine ev_swin DX3_streetNumber 1 rfl (by decide) (by decide) (off := 49) (by decide) (tgt := 50) (by decide) ?_
  refine ev_ss DX3_streetNumber 1 8 (pc' := 51) (lv' := [(0, .ref _), (1, .int 2)]) (st' := [.ref _]) rfl ?_
  refine ev_get DX3_streetNumber 9 GX3 rfl (k0 := 2) (Nat.le_of_ble_eq_true rfl) fX3_24 h rfl ?_
  exact ev_iret DX3_streetNumber 10 rfl rfl ⟨rfl, rfl⟩
set_option maxRecDepth 100000 in
set_option maxHeartbeats 4000000 in
theorem m_X3_streetNumber_3 {E : gE} {ws : va_W} {q a : Nat} {f : TF} (h : ws[q]? = some (a, toneC f)) : CD E YX3_streetNumber 0 0 [.ref a, .int 3] ws (some (.int (f 3))) ws := by
  refine cdV vX3_streetNumber (Nat.le_of_ble_eq_true rfl) (lv0 := [(0, .ref a), (1, .int 3)]) rfl ?_
  refine ev_ss DX3_streetNumber 1 0 (pc' := 1) (lv' := [(0, .ref _), (1, .int 3)]) (st' := [.int 3]) rfl ?_
  refine ev_swin DX3_streetNumber 1 rfl (by decide) (by decide) (off := 54) (by decide) (tgt := 55) (by decide) ?_
  refine ev_ss DX3_streetNumber 1 11 (pc' := 56) (lv' := [(0, .ref _), (1, .int 3)]) (st' := [.ref _]) rfl ?_
  refine ev_get DX3_streetNumber 12 GX3 rfl (k0 := 3) (Nat.le_of_ble_eq_true rfl) fX3_27 h rfl ?_
  exact ev_iret DX3_streetNumber 13 rfl rfl ⟨rfl, rfl⟩
set_option maxRecDepth 100000 in
set_option maxHeartbeats 4000000 in
theorem m_X3_streetNumber_4 {E : gE} {ws : va_W} {q a : Nat} {f : TF} (h : ws[q]? = some (a, toneC f)) : CD E YX3_streetNumber 0 0 [.ref a, .int 4] ws (some (.int (f 4))) ws := by
  refine cdV vX3_streetNumber (Nat.le_of_ble_eq_true rfl) (lv0 := [(0, .ref a), (1, .int 4)]) rfl ?_
  refine ev_ss DX3_streetNumber 1 0 (pc' := 1) (lv' := [(0, .ref _), (1, .int 4)]) (st' := [.int 4]) rfl ?_
  refine ev_swin DX3_streetNumber 1 rfl (by decide) (by decide) (off := 59) (by decide) (tgt := 60) (by decide) ?_
  refine ev_ss DX3_streetNumber 1 14 (pc' := 61) (lv' := [(0, .ref _), (1, .int 4)]) (st' := [.ref _]) rfl ?_
  refine ev_get DX3_streetNumber 15 GX3 rfl (k0 := 4) (Nat.le_of_ble_eq_true rfl) fX3_30 h rfl ?_
  exact ev_iret DX3_streetNumber 16 rfl rfl ⟨rfl, rfl⟩
set_option maxRecDepth 100000 in
set_option maxHeartbeats 4000000 in
theorem m_X3_streetNumber_5 {E : gE} {ws : va_W} {q a : Nat} {f : TF} (h : ws[q]? = some (a, toneC f)) : CD E YX3_streetNumber 0 0 [.ref a, .int 5] ws (some (.int (f 5))) ws := by
  refine cdV vX3_streetNumber (Nat.le_of_ble_eq_true rfl) (lv0 := [(0, .ref a), (1, .int 5)]) rfl ?_
  refine ev_ss DX3_streetNumber 1 0 (pc' := 1) (lv' := [(0, .ref _), (1, .int 5)]) (st' := [.int 5]) rfl ?_
  refine ev_swin DX3_streetNumber 1 rfl (by decide) (by decide) (off := 64) (by decide) (tgt := 65) (by decide) ?_
  refine ev_ss DX3_streetNumber 1 17 (pc' := 66) (lv' := [(0, .ref _), (1, .int 5)]) (st' := [.ref _]) rfl ?_
  refine ev_get DX3_streetNumber 18 GX3 rfl (k0 := 5) (Nat.le_of_ble_eq_true rfl) fX3_33 h rfl ?_
  exact ev_iret DX3_streetNumber 19 rfl rfl ⟨rfl, rfl⟩
set_option maxRecDepth 100000 in
set_option maxHeartbeats 4000000 in
theorem m_X3_streetNumber_6 {E : gE} {ws : va_W} {q a : Nat} {f : TF} (h : ws[q]? = some (a, toneC f)) : CD E YX3_streetNumber 0 0 [.ref a, .int 6] ws (some (.int (f 6))) ws := by
  refine cdV vX3_streetNumber (Nat.le_of_ble_eq_true rfl) (lv0 := [(0, .ref a), (1, .int 6)]) rfl ?_
  refine ev_ss DX3_streetNumber 1 0 (pc' := 1) (lv' := [(0, .ref _), (1, .int 6)]) (st' := [.int 6]) rfl ?_
  refine ev_swout DX3_streetNumber 1 rfl (by decide) (tgt := 70) (by decide) ?_
  refine ev_ss DX3_streetNumber 1 20 (pc' := 71) (lv' := [(0, .ref _), (1, .int 6)]) (st' := [.ref _]) rfl ?_
  refine ev_get DX3_streetNumber 21 GX3 rfl (k0 := 6) (Nat.le_of_ble_eq_true rfl) fX3_36 h rfl ?_
  exact ev_iret DX3_streetNumber 22 rfl rfl ⟨rfl, rfl⟩
set_option maxRecDepth 100000 in
set_option maxHeartbeats 4000000 in
theorem m_X3_accentNumber_0 {E : gE} {ws : va_W} {q a : Nat} {f : TF} (h : ws[q]? = some (a, toneC f)) : CD E YX3_accentNumber 0 0 [.ref a, .int 0] ws (some (.int (f 7))) ws := by
  refine cdV vX3_accentNumber (Nat.le_of_ble_eq_true rfl) (lv0 := [(0, .ref a), (1, .int 0)]) rfl ?_
  refine ev_ss DX3_accentNumber 1 0 (pc' := 1) (lv' := [(0, .ref _), (1, .int 0)]) (st' := [.int 0]) rfl ?_
  refine ev_swin DX3_accentNumber 1 rfl (by decide) (by decide) (off := 55) (by decide) (tgt := 56) (by decide) ?_
  refine ev_ss DX3_accentNumber 1 2 (pc' := 57) (lv' := [(0, .ref _), (1, .int 0)]) (st' := [.ref _]) rfl ?_
  refine ev_get DX3_accentNumber 3 GX3 rfl (k0 := 7) (Nat.le_of_ble_eq_true rfl) fX3_15 h rfl ?_
  exact ev_iret DX3_accentNumber 4 rfl rfl ⟨rfl, rfl⟩
set_option maxRecDepth 100000 in
set_option maxHeartbeats 4000000 in
theorem m_X3_accentNumber_1 {E : gE} {ws : va_W} {q a : Nat} {f : TF} (h : ws[q]? = some (a, toneC f)) : CD E YX3_accentNumber 0 0 [.ref a, .int 1] ws (some (.int (f 8))) ws := by
  refine cdV vX3_accentNumber (Nat.le_of_ble_eq_true rfl) (lv0 := [(0, .ref a), (1, .int 1)]) rfl ?_
  refine ev_ss DX3_accentNumber 1 0 (pc' := 1) (lv' := [(0, .ref _), (1, .int 1)]) (st' := [.int 1]) rfl ?_
  refine ev_swin DX3_accentNumber 1 rfl (by decide) (by decide) (off := 60) (by decide) (tgt := 61) (by decide) ?_
  refine ev_ss DX3_accentNumber 1 5 (pc' := 62) (lv' := [(0, .ref _), (1, .int 1)]) (st' := [.ref _]) rfl ?_
  refine ev_get DX3_accentNumber 6 GX3 rfl (k0 := 8) (Nat.le_of_ble_eq_true rfl) fX3_39 h rfl ?_
  exact ev_iret DX3_accentNumber 7 rfl rfl ⟨rfl, rfl⟩
set_option maxRecDepth 100000 in
set_option maxHeartbeats 4000000 in
theorem m_X3_accentNumber_2 {E : gE} {ws : va_W} {q a : Nat} {f : TF} (h : ws[q]? = some (a, toneC f)) : CD E YX3_accentNumber 0 0 [.ref a, .int 2] ws (some (.int (f 9))) ws := by
  refine cdV vX3_accentNumber (Nat.le_of_ble_eq_true rfl) (lv0 := [(0, .ref a), (1, .int 2)]) rfl ?_
  refine ev_ss DX3_accentNumber 1 0 (pc' := 1) (lv' := [(0, .ref _), (1, .int 2)]) (st' := [.int 2]) rfl ?_
  refine ev_swin DX3_accentNumber 1 rfl (by decide) (by decide) (off := 65) (by decide) (tgt := 66) (by decide) ?_
  refine ev_ss DX3_accentNumber 1 8 (pc' := 67) (lv' := [(0, .ref _), (1, .int 2)]) (st' := [.ref _]) rfl ?_
  refine ev_get DX3_accentNumber 9 GX3 rfl (k0 := 9) (Nat.le_of_ble_eq_true rfl) fX3_42 h rfl ?_
  exact ev_iret DX3_accentNumber 10 rfl rfl ⟨rfl, rfl⟩
set_option maxRecDepth 100000 in
set_option maxHeartbeats 4000000 in
theorem m_X3_accentNumber_3 {E : gE} {ws : va_W} {q a : Nat} {f : TF} (h : ws[q]? = some (a, toneC f)) : CD E YX3_accentNumber 0 0 [.ref a, .int 3] ws (some (.int (f 10))) ws := by
  refine cdV vX3_accentNumber (Nat.le_of_ble_eq_true rfl) (lv0 := [(0, .ref a), (1, .int 3)]) rfl ?_
  refine ev_ss DX3_accentNumber 1 0 (pc' := 1) (lv' := [(0, .ref _), (1, .int 3)]) (st' := [.int 3]) rfl ?_
  refine ev_swin DX3_accentNumber 1 rfl (by decide) (by decide) (off := 70) (by decide) (tgt := 71) (by decide) ?_
  refine ev_ss DX3_accentNumber 1 11 (pc' := 72) (lv' := [(0, .ref _), (1, .int 3)]) (st' := [.ref _]) rfl ?_
  refine ev_get DX3_accentNumber 12 GX3 rfl (k0 := 10) (Nat.le_of_ble_eq_true rfl) fX3_45 h rfl ?_
  exact ev_iret DX3_accentNumber 13 rfl rfl ⟨rfl, rfl⟩
set_option maxRecDepth 100000 in
set_option maxHeartbeats 4000000 in
theorem m_X3_accentNumber_4 {E : gE} {ws : va_W} {q a : Nat} {f : TF} (h : ws[q]? = some (a, toneC f)) : CD E YX3_accentNumber 0 0 [.ref a, .int 4] ws (some (.int (f 11))) ws := by
  refine cdV vX3_accentNumber (Nat.le_of_ble_eq_true rfl) (lv0 := [(0, .ref a), (1, .int 4)]) rfl ?_
  refine ev_ss DX3_accentNumber 1 0 (pc' := 1) (lv' := [(0, .ref _), (1, .int 4)]) (st' := [.int 4]) rfl ?_
  refine ev_swin DX3_accentNumber 1 rfl (by decide) (by decide) (off := 75) (by decide) (tgt := 76) (by decide) ?_
  refine ev_ss DX3_accentNumber 1 14 (pc' := 77) (lv' := [(0, .ref _), (1, .int 4)]) (st' := [.ref _]) rfl ?_
  refine ev_get DX3_accentNumber 15 GX3 rfl (k0 := 11) (Nat.le_of_ble_eq_true rfl) fX3_18 h rfl ?_
  exact ev_iret DX3_accentNumber 16 rfl rfl ⟨rfl, rfl⟩
set_option maxRecDepth 100000 in
set_option maxHeartbeats 4000000 in
theorem m_X3_accentNumber_5 {E : gE} {ws : va_W} {q a : Nat} {f : TF} (h : ws[q]? = some (a, toneC f)) : CD E YX3_accentNumber 0 0 [.ref a, .int 5] ws (some (.int (f 12))) ws := by
  refine cdV vX3_accentNumber (Nat.le_of_ble_eq_true rfl) (lv0 := [(0, .ref a), (1, .int 5)]) rfl ?_
  refine ev_ss DX3_accentNumber 1 0 (pc' := 1) (lv' := [(0, .ref _), (1, .int 5)]) (st' := [.int 5]) rfl ?_
  refine ev_swin DX3_accentNumber 1 rfl (by decide) (by decide) (off := 80) (by decide) (tgt := 81) (by decide) ?_
  refine ev_ss DX3_accentNumber 1 17 (pc' := 82) (lv' := [(0, .ref _), (1, .int 5)]) (st' := [.ref _]) rfl ?_
  refine ev_get DX3_accentNumber 18 GX3 rfl (k0 := 12) (Nat.le_of_ble_eq_true rfl) fX3_48 h rfl ?_
  exact ev_iret DX3_accentNumber 19 rfl rfl ⟨rfl, rfl⟩
set_option maxRecDepth 100000 in
set_option maxHeartbeats 4000000 in
theorem m_X3_accentNumber_6 {E : gE} {ws : va_W} {q a : Nat} {f : TF} (h : ws[q]? = some (a, toneC f)) : CD E YX3_accentNumber 0 0 [.ref a, .int 6] ws (some (.int (f 13))) ws := by
  refine cdV vX3_accentNumber (Nat.le_of_ble_eq_true rfl) (lv0 := [(0, .ref a), (1, .int 6)]) rfl ?_
  refine ev_ss DX3_accentNumber 1 0 (pc' := 1) (lv' := [(0, .ref _), (1, .int 6)]) (st' := [.int 6]) rfl ?_
  refine ev_swin DX3_accentNumber 1 rfl (by decide) (by decide) (off := 85) (by decide) (tgt := 86) (by decide) ?_
  refine ev_ss DX3_accentNumber 1 20 (pc' := 87) (lv' := [(0, .ref _), (1, .int 6)]) (st' := [.ref _]) rfl ?_
  refine ev_get DX3_accentNumber 21 GX3 rfl (k0 := 13) (Nat.le_of_ble_eq_true rfl) fX3_51 h rfl ?_
  exact ev_iret DX3_accentNumber 22 rfl rfl ⟨rfl, rfl⟩
set_option maxRecDepth 100000 in
set_option maxHeartbeats 4000000 in
theorem m_X3_accentNumber_7 {E : gE} {ws : va_W} {q a : Nat} {f : TF} (h : ws[q]? = some (a, toneC f)) : CD E YX3_accentNumber 0 0 [.ref a, .int 7] ws (some (.int (f 14))) ws := by
  refine cdV vX3_accentNumber (Nat.le_of_ble_eq_true rfl) (lv0 := [(0, .ref a), (1, .int 7)]) rfl ?_
  refine ev_ss DX3_accentNumber 1 0 (pc' := 1) (lv' := [(0, .ref _), (1, .int 7)]) (st' := [.int 7]) rfl ?_
  refine ev_swin DX3_accentNumber 1 rfl (by decide) (by decide) (off := 90) (by decide) (tgt := 91) (by decide) ?_
  refine ev_ss DX3_accentNumber 1 23 (pc' := 92) (lv' := [(0, .ref _), (1, .int 7)]) (st' := [.ref _]) rfl ?_
  refine ev_get DX3_accentNumber 24 GX3 rfl (k0 := 14) (Nat.le_of_ble_eq_true rfl) fX3_54 h rfl ?_
  exact ev_iret DX3_accentNumber 25 rfl rfl ⟨rfl, rfl⟩
set_option maxRecDepth 100000 in
set_option maxHeartbeats 4000000 in
theorem m_X3_accentNumber_8 {E : gE} {ws : va_W} {q a : Nat} {f : TF} (h : ws[q]? = some (a, toneC f)) : CD E YX3_accentNumber 0 0 [.ref a, .int 8] ws (some (.int (f 15))) ws := by
  refine cdV vX3_accentNumber (Nat.le_of_ble_eq_true rfl) (lv0 := [(0, .ref a), (1, .int 8)]) rfl ?_
  refine ev_ss DX3_accentNumber 1 0 (pc' := 1) (lv' := [(0, .ref _), (1, .int 8)]) (st' := [.int 8]) rfl ?_
  refine ev_swin DX3_accentNumber 1 rfl (by decide) (by decide) (off := 95) (by decide) (tgt := 96) (by decide) ?_
  refine ev_ss DX3_accentNumber 1 26 (pc' := 97) (lv' := [(0, .ref _), (1, .int 8)]) (st' := [.ref _]) rfl ?_
  refine ev_get DX3_accentNumber 27 GX3 rfl (k0 := 15) (Nat.le_of_ble_eq_true rfl) fX3_57 h rfl ?_
  exact ev_iret DX3_accentNumber 28 rfl rfl ⟨rfl, rfl⟩
set_option maxRecDepth 100000 in
set_option maxHeartbeats 4000000 in
theorem m_X3_accentNumber_9 {E : gE} {ws : va_W} {q a : Nat} {f : TF} (h : ws[q]? = some (a, toneC f)) : CD E YX3_accentNumber 0 0 [.ref a, .int 9] ws (some (.int (f 16))) ws := by
  refine cdV vX3_accentNumber (Nat.le_of_ble_eq_true rfl) (lv0 := [(0, .ref a), (1, .int 9)]) rfl ?_
  refine ev_ss DX3_accentNumber 1 0 (pc' := 1) (lv' := [(0, .ref _), (1, .int 9)]) (st' := [.int 9]) rfl ?_
  refine ev_swin DX3_accentNumber 1 rfl (by decide) (by decide) (off := 100) (by decide) (tgt := 101) (by decide) ?_
  refine ev_ss DX3_accentNumber 1 29 (pc' := 102) (lv' := [(0, .ref _), (1, .int 9)]) (st' := [.ref _]) rfl ?_
  refine ev_get DX3_accentNumber 30 GX3 rfl (k0 := 16) (Nat.le_of_ble_eq_true rfl) fX3_60 h rfl ?_
  exact ev_iret DX3_accentNumber 31 rfl rfl ⟨rfl, rfl⟩
set_option maxRecDepth 100000 in
set_option maxHeartbeats 4000000 in
theorem m_X3_accentNumber_10 {E : gE} {ws : va_W} {q a : Nat} {f : TF} (h : ws[q]? = some (a, toneC f)) : CD E YX3_accentNumber 0 0 [.ref a, .int 10] ws (some (.int (f 17))) ws := by
  refine cdV vX3_accentNumber (Nat.le_of_ble_eq_true rfl) (lv0 := [(0, .ref a), (1, .int 10)]) rfl ?_
  refine ev_ss DX3_accentNumber 1 0 (pc' := 1) (lv' := [(0, .ref _), (1, .int 10)]) (st' := [.int 10]) rfl ?_
  refine ev_swout DX3_accentNumber 1 rfl (by decide) (tgt := 106) (by decide) ?_
  refine ev_ss DX3_accentNumber 1 32 (pc' := 107) (lv' := [(0, .ref _), (1, .int 10)]) (st' := [.ref _]) rfl ?_
  refine ev_get DX3_accentNumber 33 GX3 rfl (k0 := 17) (Nat.le_of_ble_eq_true rfl) fX3_63 h rfl ?_
  exact ev_iret DX3_accentNumber 34 rfl rfl ⟨rfl, rfl⟩
set_option maxRecDepth 100000 in
set_option maxHeartbeats 4000000 in
theorem m_X3_setStreetNumber_0 {E : gE} {ws : va_W} {q a : Nat} {f : TF} {v : Int32} (h : ws[q]? = some (a, toneC f)) : CD E YX3_setStreetNumber 0 0 [.ref a, .int 0, .int v] ws none (ws.set q (a, toneC (upd f 0 v))) := by
  refine cdV vX3_setStreetNumber (Nat.le_of_ble_eq_true rfl) (lv0 := [(0, .ref a), (1, .int 0), (2, .int v)]) rfl ?_
  refine ev_ss DX3_setStreetNumber 1 0 (pc' := 1) (lv' := [(0, .ref _), (1, .int 0), (2, .int _)]) (st' := [.int 0]) rfl ?_
  refine ev_swin DX3_setStreetNumber 1 rfl (by decide) (by decide) (off := 27) (by decide) (tgt := 28) (by decide) ?_
  refine ev_ss DX3_setStreetNumber 2 2 (pc' := 30) (lv' := [(0, .ref _), (1, .int 0), (2, .int _)]) (st' := [.int _, .ref _]) rfl ?_
  refine ev_put (fs' := [_, _, _, _, _, _, _, _, _, _, _, _, _, _, _, _, _, _]) DX3_setStreetNumber 4 GX3 rfl (k0 := 0) (Nat.le_of_ble_eq_true rfl) fX3_9 rfl ⟨rfl, rfl⟩ h (Nat.le_of_ble_eq_true rfl) rfl rfl ?_
  refine ev_goto DX3_setStreetNumber 5 rfl (tgt := 57) (by decide) ?_
  exact ev_vret DX3_setStreetNumber 17 rfl rfl ⟨rfl, rfl⟩
set_option maxRecDepth 100000 in
set_option maxHeartbeats 4000000 in
theorem m_X3_setStreetNumber_1 {E : gE} {ws : va_W} {q a : Nat} {f : TF} {v : Int32} (h : ws[q]? = some (a, toneC f)) : CD E YX3_setStreetNumber 0 0 [.ref a, .int 1, .int v] ws none (ws.set q (a, toneC (upd f 1 v))) := by
  refine cdV vX3_setStreetNumber (Nat.le_of_ble_eq_true rfl) (lv0 := [(0, .ref a), (1, .int 1), (2, .int v)]) rfl ?_
  refine ev_ss DX3_setStreetNumber 1 0 (pc' := 1) (lv' := [(0, .ref _), (1, .int 1), (2, .int _)]) (st' := [.int 1]) rfl ?_
  refine ev_swin DX3_setStreetNumber 1 rfl (by decide) (by decide) (off := 35) (by decide) (tgt := 36) (by decide) ?_
  refine ev_ss DX3_setStreetNumber 2 6 (pc' := 38) (lv' := [(0, .ref _), (1, .int 1), (2, .int _)]) (st' := [.int _, .ref _]) rfl ?_
  refine ev_put (fs' := [_, _, _, _, _, _, _, _, _, _, _, _, _, _, _, _, _, _]) DX3_setStreetNumber 8 GX3 rfl (k0 := 1) (Nat.le_of_ble_eq_true rfl) fX3_21 rfl ⟨rfl, rfl⟩ h (Nat.le_of_ble_eq_true rfl) rfl rfl ?_
  refine ev_goto DX3_setStreetNumber 9 rfl (tgt := 57) (by decide) ?_
  exact ev_vret DX3_setStreetNumber 17 rfl rfl ⟨rfl, rfl⟩
set_option maxRecDepth 100000 in
set_option maxHeartbeats 4000000 in
theorem m_X3_setStreetNumber_2 {E : gE} {ws : va_W} {q a : Nat} {f : TF} {v : Int32} (h : ws[q]? = some (a, toneC f)) : CD E YX3_setStreetNumber 0 0 [.ref a, .int 2, .int v] ws none (ws.set q (a, toneC (upd f 2 v))) := by
  refine cdV vX3_setStreetNumber (Nat.le_of_ble_eq_true rfl) (lv0 := [(0, .ref a), (1, .int 2), (2, .int v)]) rfl ?_
  refine ev_ss DX3_setStreetNumber 1 0 (pc' := 1) (lv' := [(0, .ref _), (1, .int 2), (2, .int _)]) (st' := [.int 2]) rfl ?_
  refine ev_swin DX3_setStreetNumber 1 rfl (by decide) (by decide) (off := 43) (by decide) (tgt := 44) (by decide) ?_
  refine ev_ss DX3_setStreetNumber 2 10 (pc' := 46) (lv' := [(0, .ref _), (1, .int 2), (2, .int _)]) (st' := [.int _, .ref _]) rfl ?_
  refine ev_put (fs' := [_, _, _, _, _, _, _, _, _, _, _, _, _, _, _, _, _, _]) DX3_setStreetNumber 12 GX3 rfl (k0 := 2) (Nat.le_of_ble_eq_true rfl) fX3_24 rfl ⟨rfl, rfl⟩ h (Nat.le_of_ble_eq_true rfl) rfl rfl ?_
  refine ev_goto DX3_setStreetNumber 13 rfl (tgt := 57) (by decide) ?_
  exact ev_vret DX3_setStreetNumber 17 rfl rfl ⟨rfl, rfl⟩
set_option maxRecDepth 100000 in
set_option maxHeartbeats 4000000 in
theorem m_X3_setStreetNumber_3 {E : gE} {ws : va_W} {q a : Nat} {f : TF} {v : Int32} (h : ws[q]? = some (a, toneC f)) : CD E YX3_setStreetNumber 0 0 [.ref a, .int 3, .int v] ws none (ws.set q (a, toneC (upd f 3 v))) := by
  refine cdV vX3_setStreetNumber (Nat.le_of_ble_eq_true rfl) (lv0 := [(0, .ref a), (1, .int 3), (2, .int v)]) rfl ?_
  refine ev_ss DX3_setStreetNumber 1 0 (pc' := 1) (lv' := [(0, .ref _), (1, .int 3), (2, .int _)]) (st' := [.int 3]) rfl ?_
  refine ev_swout DX3_setStreetNumber 1 rfl (by decide) (tgt := 52) (by decide) ?_
  refine ev_ss DX3_setStreetNumber 2 14 (pc' := 54) (lv' := [(0, .ref _), (1, .int 3), (2, .int _)]) (st' := [.int _, .ref _]) rfl ?_
  refine ev_put (fs' := [_, _, _, _, _, _, _, _, _, _, _, _, _, _, _, _, _, _]) DX3_setStreetNumber 16 GX3 rfl (k0 := 3) (Nat.le_of_ble_eq_true rfl) fX3_27 rfl ⟨rfl, rfl⟩ h (Nat.le_of_ble_eq_true rfl) rfl rfl ?_
  exact ev_vret DX3_setStreetNumber 17 rfl rfl ⟨rfl, rfl⟩
theorem m_X3_streetNumber {E : gE} {ws : va_W} {j : Nat} {q a : Nat} {f : TF} (h : ws[q]? = some (a, toneC f)) (hj : j < 7) : CD E YX3_streetNumber 0 0 [.ref a, .int (nI j)] ws (some (.int (f j))) ws := by
  rcases (show j = 0 ∨ j = 1 ∨ j = 2 ∨ j = 3 ∨ j = 4 ∨ j = 5 ∨ j = 6 by omega) with rfl | rfl | rfl | rfl | rfl | rfl | rfl
  · exact m_X3_streetNumber_0 h
  · exact m_X3_streetNumber_1 h
  · exact m_X3_streetNumber_2 h
  · exact m_X3_streetNumber_3 h
  · exact m_X3_streetNumber_4 h
  · exact m_X3_streetNumber_5 h
  · exact m_X3_streetNumber_6 h
theorem m_X3_accentNumber {E : gE} {ws : va_W} {j : Nat} {q a : Nat} {f : TF} (h : ws[q]? = some (a, toneC f)) (hj : j < 11) : CD E YX3_accentNumber 0 0 [.ref a, .int (nI j)] ws (some (.int (f (7 + j)))) ws := by
  rcases (show j = 0 ∨ j = 1 ∨ j = 2 ∨ j = 3 ∨ j = 4 ∨ j = 5 ∨ j = 6 ∨ j = 7 ∨ j = 8 ∨ j = 9 ∨ j = 10 by omega) with rfl | rfl | rfl | rfl | rfl | rfl | rfl | rfl | rfl | rfl | rfl
  · exact m_X3_accentNumber_0 h
  · exact m_X3_accentNumber_1 h
  · exact m_X3_accentNumber_2 h
  · exact m_X3_accentNumber_3 h
  · exact m_X3_accentNumber_4 h
  · exact m_X3_accentNumber_5 h
  · exact m_X3_accentNumber_6 h
  · exact m_X3_accentNumber_7 h
  · exact m_X3_accentNumber_8 h
  · exact m_X3_accentNumber_9 h
  · exact m_X3_accentNumber_10 h
theorem m_X3_setStreetNumber {E : gE} {ws : va_W} {j : Nat} {v : Int32} {q a : Nat} {f : TF} (h : ws[q]? = some (a, toneC f)) (hj : j < 4) : CD E YX3_setStreetNumber 0 0 [.ref a, .int (nI j), .int v] ws none (ws.set q (a, toneC (upd f j v))) := by
  rcases (show j = 0 ∨ j = 1 ∨ j = 2 ∨ j = 3 by omega) with rfl | rfl | rfl | rfl
  · exact m_X3_setStreetNumber_0 h
  · exact m_X3_setStreetNumber_1 h
  · exact m_X3_setStreetNumber_2 h
  · exact m_X3_setStreetNumber_3 h
end
section
/-- fewer locals, by their places -/
theorem ev_lvp {E : gE} {Y : MI} {Pr : Option Value → va_W → Prop} {Px : String → va_W → Prop} {k n pc : Nat} {lv lv2 : List (Nat × Value)} {st : List Value} {ws : va_W} (ks : List Nat) (h : ks.filterMap (fun k => lv[k]?) = lv2) (kt : Ev E Y Pr Px k n pc lv2 st ws) : Ev E Y Pr Px k n pc lv st ws := by
  refine ev_lv (fun q hq => ?_) kt
  rw [← h] at hq
  obtain ⟨j, -, hj⟩ := List.mem_filterMap.mp hq
  exact List.mem_of_getElem? hj
abbrev iaC (E : gE) (n : Nat) (f : Nat → Int32) : va_E := .inl (gK E 0, n, .inl f)
abbrev waitC (rg : Nat) (st sz : Int32) : va_E := .inr (4, [.ref rg, .int st, .int sz])
abbrev wayC (ta wt : Nat) (lt : Int64) (cm wr : Int32) : va_E := .inr (5, [.ref ta, .ref wt, .long lt, .int cm, .int wr])
abbrev lesC (sz : Nat) (b : Int32) : va_E := .inr (0, [.ref sz, .int b])
/-- a ring of 256 places holds these bits -/
def RQ (r : Nat → Int32) (st sz : Int32) (bs : List Int32) : Prop := ∃ s0 : Nat, s0 < 256 ∧ st = nI s0 ∧ sz = nI bs.length ∧ bs.length ≤ 256 ∧ ∀ p, p < bs.length → bs[p]? = some (r ((s0 + p) % 256))
def rix (x : Int32) : Nat := (x &&& 255).toNatClampNeg
theorem rix_nI {n : Nat} (h : n < 2 ^ 31) : rix (nI n) = n % 256 := by
  unfold rix
  rw [pk_andN (n := n) (by omega) 8 (by decide), nI_clamp (by omega)]
theorem rix_in (x : Int32) : vp_in (x &&& 255) 256 := pk_andIn x 8 (by decide) (by decide)
theorem RQ_nil {r : Nat → Int32} {st sz : Int32} (h : RQ r st sz []) : sz ≤ 0 := by
  obtain ⟨s0, -, -, rfl, -, -⟩ := h
  decide
theorem RQ_cons {r : Nat → Int32} {st sz b : Int32} {bs : List Int32} (h : RQ r st sz (b :: bs)) : ¬ sz ≤ 0 ∧ r (rix (st + 0)) = b ∧ RQ r ((st + 1) &&& 255) (sz - 1) bs := by
  obtain ⟨s0, h0, rfl, rfl, h3, h4⟩ := h
  have hl : (b :: bs).length = bs.length + 1 := rfl
  rw [hl] at h3 h4 ⊢
  refine ⟨nI_nle (by omega) (by omega), ?_, (s0 + 1) % 256, by omega, ?_, nI_pred _, by omega, fun p hp => ?_⟩
  · have h5 := h4 0 (by omega)
    rw [show (0 : Int32) = nI 0 from rfl, nI_add, rix_nI (by omega)]
    simpa using h5.symm
  · rw [nI_1, pk_andN (n := s0 + 1) (by omega) 8 (by decide)]
  · have h5 := h4 (p + 1) (by omega)
    rw [List.getElem?_cons_succ] at h5
    rw [h5]
    congr 2
    omega
theorem RQ_snoc {r : Nat → Int32} {st sz b : Int32} {bs : List Int32} (h : RQ r st sz bs) (hl : bs.length < 256) : ¬ 256 ≤ sz ∧ RQ (upd r (rix (st + sz)) b) st (sz + 1) (bs ++ [b]) := by
  obtain ⟨s0, h0, rfl, rfl, h3, h4⟩ := h
  refine ⟨nI_ge hl (by decide), s0, h0, rfl, ?_, by simp; omega, fun p hp => ?_⟩
  · rw [nI_1]; simp
  · rw [nI_add, rix_nI (by omega)]
    have hp' : p < bs.length + 1 := by simpa using hp
    by_cases hpe : p = bs.length
    · subst hpe
      rw [List.getElem?_append_right (Nat.le_refl _), Nat.sub_self]
      simp [upd]
    · rw [List.getElem?_append_left (by omega), h4 p (by omega)]
      have : ¬ (s0 + p) % 256 = (s0 + bs.length) % 256 := by omega
      simp [upd, this]
/-- bits are taken: the sign so far, those that are left -/
def takeQ : Nat → Int32 → List Int32 → Int32 × List Int32
  | 0, sg, bs => (sg, bs)
  | n + 1, sg, [] => takeQ n (2 * sg) []
  | n + 1, sg, b :: bs => takeQ n (2 * sg + b) bs

set_option maxRecDepth 100000 in
set_option maxHeartbeats 4000000 in
theorem m_X4_bitAt {E : gE} {ws : va_W} {q a qr ar : Nat} {r : Nat → Int32} {st sz pl : Int32} (h : ws[q]? = some (a, waitC ar st sz)) (h2 : ws[qr]? = some (ar, iaC E 256 r)) : CD E YX4_bitAt 0 0 [.ref a, .int pl] ws (some (.int (r (rix (st + pl))))) ws := by
  refine cdV vX4_bitAt (Nat.le_of_ble_eq_true rfl) (lv0 := [(0, .ref a), (1, .int pl)]) rfl ?_
  refine ev_ss DX4_bitAt 1 0 (pc' := 1) (lv' := [(0, .ref _), (1, .int _)]) (st' := [.ref _]) rfl ?_
  refine ev_get DX4_bitAt 1 GX4 rfl (k0 := 0) (Nat.le_of_ble_eq_true rfl) fX4_9 h rfl ?_
  refine ev_ss DX4_bitAt 1 2 (pc' := 5) (lv' := [(0, .ref _), (1, .int _)]) (st' := [.ref _, .ref _]) rfl ?_
  refine ev_get DX4_bitAt 3 GX4 rfl (k0 := 1) (Nat.le_of_ble_eq_true rfl) fX4_21 h rfl ?_
  refine ev_ss DX4_bitAt 4 4 (pc' := 14) (lv' := [(0, .ref _), (1, .int _)]) (st' := [.int _, .ref _]) rfl ?_
  refine ev_iald DX4_bitAt 8 rfl h2 (rix_in _) ?_
  exact ev_iret DX4_bitAt 9 rfl rfl ⟨rfl, rfl⟩
set_option maxRecDepth 100000 in
set_option maxHeartbeats 4000000 in
theorem m_X4_put {E : gE} {ws : va_W} {q a qr ar : Nat} {r : Nat → Int32} {st sz b : Int32} (h : ws[q]? = some (a, waitC ar st sz)) (h2 : ws[qr]? = some (ar, iaC E 256 r)) (hs : ¬ 256 ≤ sz) : CD E YX4_put 0 0 [.ref a, .int b] ws none ((ws.set qr (ar, iaC E 256 (upd r (rix (st + sz)) b))).set q (a, waitC ar st (sz + 1))) := by
  refine cdV vX4_put (Nat.le_of_ble_eq_true rfl) (lv0 := [(0, .ref a), (1, .int b)]) rfl ?_
  refine ev_ss DX4_put 1 0 (pc' := 1) (lv' := [(0, .ref _), (1, .int _)]) (st' := [.ref _]) rfl ?_
  refine ev_get DX4_put 1 GX4 rfl (k0 := 2) (Nat.le_of_ble_eq_true rfl) fX4_25 h rfl ?_
  refine ev_ss DX4_put 1 2 (pc' := 7) (lv' := [(0, .ref _), (1, .int _)]) (st' := [.int 256, .int _]) rfl ?_
  refine ev_icge DX4_put 3 rfl (tgt := 39) (by decide) (fun h => absurd h hs) (fun _ => ?_)
  refine ev_ss DX4_put 1 4 (pc' := 11) (lv' := [(0, .ref _), (1, .int _)]) (st' := [.ref _]) rfl ?_
  refine ev_get DX4_put 5 GX4 rfl (k0 := 0) (Nat.le_of_ble_eq_true rfl) fX4_9 h rfl ?_
  refine ev_ss DX4_put 1 6 (pc' := 15) (lv' := [(0, .ref _), (1, .int _)]) (st' := [.ref _, .ref _]) rfl ?_
  refine ev_get DX4_put 7 GX4 rfl (k0 := 1) (Nat.le_of_ble_eq_true rfl) fX4_21 h rfl ?_
  refine ev_ss DX4_put 1 8 (pc' := 19) (lv' := [(0, .ref _), (1, .int _)]) (st' := [.ref _, .int _, .ref _]) rfl ?_
  refine ev_get DX4_put 9 GX4 rfl (k0 := 2) (Nat.le_of_ble_eq_true rfl) fX4_25 h rfl ?_
  refine ev_ss DX4_put 4 10 (pc' := 28) (lv' := [(0, .ref _), (1, .int _)]) (st' := [.int _, .int _, .ref _]) rfl ?_
  refine ev_iast DX4_put 14 rfl h2 (rix_in _) rfl ?_
  refine ev_ss DX4_put 2 15 (pc' := 31) (lv' := [(0, .ref _), (1, .int _)]) (st' := [.ref _, .ref _]) rfl ?_
  refine ev_get DX4_put 17 GX4 rfl (k0 := 2) (Nat.le_of_ble_eq_true rfl) fX4_25 (wset_o h h2 rfl) rfl ?_
  refine ev_ss DX4_put 2 18 (pc' := 36) (lv' := [(0, .ref _), (1, .int _)]) (st' := [.int _, .ref _]) rfl ?_
  refine ev_put (fs' := [_, _, _]) DX4_put 20 GX4 rfl (k0 := 2) (Nat.le_of_ble_eq_true rfl) fX4_25 rfl ⟨rfl, rfl⟩ (wset_o h h2 rfl) (Nat.le_of_ble_eq_true rfl) rfl rfl ?_
  exact ev_vret DX4_put 21 rfl rfl ⟨rfl, rfl⟩
/-- the two cells of a row of waiting bits -/
def hW (E : gE) (ws : va_W) (qr ar q a : Nat) (r : Nat → Int32) (st sz : Int32) : va_W := (ws.set qr (ar, iaC E 256 r)).set q (a, waitC ar st sz)
theorem hW_hW {E : gE} {ws : va_W} {qr ar q a : Nat} {r r2 : Nat → Int32} {st sz st2 sz2 : Int32} (hne : qr ≠ q) : hW E (hW E ws qr ar q a r st sz) qr ar q a r2 st2 sz2 = hW E ws qr ar q a r2 st2 sz2 := by
  unfold hW
  rw [List.set_comm (l := (ws.set qr (ar, iaC E 256 r))) _ _ (Ne.symm hne), wset_set, wset_set]
theorem hW_q {E : gE} {ws : va_W} {qr ar q a : Nat} {r : Nat → Int32} {st sz : Int32} {x : va_E} (h : ws[q]? = some (a, x)) : (hW E ws qr ar q a r st sz)[q]? = some (a, waitC ar st sz) := by
  unfold hW
  rw [List.getElem?_set_self]
  rw [List.length_set]
  exact (List.getElem?_eq_some_iff.mp h).1
theorem hW_r {E : gE} {ws : va_W} {qr ar q a : Nat} {r : Nat → Int32} {st sz : Int32} {x : va_E} (h : ws[qr]? = some (ar, x)) (hne : qr ≠ q) : (hW E ws qr ar q a r st sz)[qr]? = some (ar, iaC E 256 r) := by
  unfold hW
  rw [List.getElem?_set_ne (Ne.symm hne), List.getElem?_set_self (List.getElem?_eq_some_iff.mp h).1]
theorem hW_o {E : gE} {ws : va_W} {qr ar q a j : Nat} {r : Nat → Int32} {st sz : Int32} (h1 : qr ≠ j) (h2 : q ≠ j) : (hW E ws qr ar q a r st sz)[j]? = ws[j]? := by
  unfold hW
  rw [List.getElem?_set_ne h2, List.getElem?_set_ne h1]

set_option maxRecDepth 100000 in
set_option maxHeartbeats 4000000 in
/-- four bits of a digit, the highest first -/
theorem m_X4_putDigit {E : gE} {ws : va_W} {q a qr ar : Nat} {r : Nat → Int32} {st sz dg : Int32} {bs : List Int32} (h : ws[q]? = some (a, waitC ar st sz)) (h2 : ws[qr]? = some (ar, iaC E 256 r)) (hq : RQ r st sz bs) (hl : bs.length + 4 ≤ 256) :
    C0 E YX4_putDigit 0 0 [.ref a, .int dg] ws (fun v w => v = none ∧ ∃ r2 sz2, RQ r2 st sz2 (bs ++ [(dg >>> ((3 : Int32) &&& 31)) &&& 1, (dg >>> ((2 : Int32) &&& 31)) &&& 1, (dg >>> ((1 : Int32) &&& 31)) &&& 1, (dg >>> ((0 : Int32) &&& 31)) &&& 1]) ∧ w = hW E ws qr ar q a r2 st sz2) := by
  have hne : qr ≠ q := ek_ne h h2 rfl
  have q0 := RQ_snoc (b := (dg >>> ((3 : Int32) &&& 31)) &&& 1) hq (by omega)
  have q1 := RQ_snoc (b := (dg >>> ((2 : Int32) &&& 31)) &&& 1) q0.2 (by simp; omega)
  have q2 := RQ_snoc (b := (dg >>> ((1 : Int32) &&& 31)) &&& 1) q1.2 (by simp; omega)
  have q3 := RQ_snoc (b := (dg >>> ((0 : Int32) &&& 31)) &&& 1) q2.2 (by simp; omega)
  refine c0V vX4_putDigit (Nat.le_of_ble_eq_true rfl) (lv0 := [(0, .ref a), (1, .int dg)]) rfl ?_
  refine ev_ss DX4_putDigit 3 0 (pc' := 3) (lv' := [(2, .int 3), (0, .ref _), (1, .int _)]) (st' := [.int 3]) rfl ?_
  refine ev_iflt DX4_putDigit 3 rfl (tgt := 21) (by decide) (fun h => absurd h (by decide)) (fun _ => ?_)
  refine ev_ss DX4_putDigit 6 4 (pc' := 12) (lv' := [(2, .int 3), (0, .ref _), (1, .int _)]) (st' := [.int _, .ref _]) rfl ?_
  refine ev_cV DX4_putDigit 10 (m_X4_put h h2 q0.1) vX4_put rfl qX4_28 rfl h rfl (hd_of rfl rfl rfl rfl) ?_
  refine ev_ss DX4_putDigit 1 11 (pc' := 18) (lv' := [(2, .int 2), (0, .ref _), (1, .int _)]) (st' := []) rfl ?_
  refine ev_goto DX4_putDigit 12 rfl (tgt := 2) (by decide) ?_
  refine ev_ss DX4_putDigit 1 2 (pc' := 3) (lv' := [(2, .int 2), (0, .ref _), (1, .int _)]) (st' := [.int 2]) rfl ?_
  refine ev_iflt DX4_putDigit 3 rfl (tgt := 21) (by decide) (fun h => absurd h (by decide)) (fun _ => ?_)
  refine ev_ss DX4_putDigit 6 4 (pc' := 12) (lv' := [(2, .int 2), (0, .ref _), (1, .int _)]) (st' := [.int _, .ref _]) rfl ?_
  refine ev_cV DX4_putDigit 10 (cd_hs (m_X4_put (hW_q h) (hW_r h2 hne) q1.1) (hW_hW hne)) vX4_put rfl qX4_28 rfl (hW_q h) rfl (hd_of rfl rfl rfl rfl) ?_
  refine ev_ss DX4_putDigit 1 11 (pc' := 18) (lv' := [(2, .int 1), (0, .ref _), (1, .int _)]) (st' := []) rfl ?_
  refine ev_goto DX4_putDigit 12 rfl (tgt := 2) (by decide) ?_
  refine ev_ss DX4_putDigit 1 2 (pc' := 3) (lv' := [(2, .int 1), (0, .ref _), (1, .int _)]) (st' := [.int 1]) rfl ?_
  refine ev_iflt DX4_putDigit 3 rfl (tgt := 21) (by decide) (fun h => absurd h (by decide)) (fun _ => ?_)
  refine ev_ss DX4_putDigit 6 4 (pc' := 12) (lv' := [(2, .int 1), (0, .ref _), (1, .int _)]) (st' := [.int _, .ref _]) rfl ?_
  refine ev_cV DX4_putDigit 10 (cd_hs (m_X4_put (hW_q h) (hW_r h2 hne) q2.1) (hW_hW hne)) vX4_put rfl qX4_28 rfl (hW_q h) rfl (hd_of rfl rfl rfl rfl) ?_
  refine ev_ss DX4_putDigit 1 11 (pc' := 18) (lv' := [(2, .int 0), (0, .ref _), (1, .int _)]) (st' := []) rfl ?_
  refine ev_goto DX4_putDigit 12 rfl (tgt := 2) (by decide) ?_
  refine ev_ss DX4_putDigit 1 2 (pc' := 3) (lv' := [(2, .int 0), (0, .ref _), (1, .int _)]) (st' := [.int 0]) rfl ?_
  refine ev_iflt DX4_putDigit 3 rfl (tgt := 21) (by decide) (fun h => absurd h (by decide)) (fun _ => ?_)
  refine ev_ss DX4_putDigit 6 4 (pc' := 12) (lv' := [(2, .int 0), (0, .ref _), (1, .int _)]) (st' := [.int _, .ref _]) rfl ?_
  refine ev_cV DX4_putDigit 10 (cd_hs (m_X4_put (hW_q h) (hW_r h2 hne) q3.1) (hW_hW hne)) vX4_put rfl qX4_28 rfl (hW_q h) rfl (hd_of rfl rfl rfl rfl) ?_
  refine ev_ss DX4_putDigit 1 11 (pc' := 18) (lv' := [(2, .int (-1)), (0, .ref _), (1, .int _)]) (st' := []) rfl ?_
  refine ev_goto DX4_putDigit 12 rfl (tgt := 2) (by decide) ?_
  refine ev_ss DX4_putDigit 1 2 (pc' := 3) (lv' := [(2, .int (-1)), (0, .ref _), (1, .int _)]) (st' := [.int (-1)]) rfl ?_
  refine ev_iflt DX4_putDigit 3 rfl (tgt := 21) (by decide) (fun _ => ?_) (fun h => h.elim (by decide))
  exact ev_vret DX4_putDigit 13 rfl rfl ⟨rfl, _, _, (by have z := q3.2; simp only [List.append_assoc, List.cons_append, List.nil_append] at z; exact z), rfl⟩
set_option maxRecDepth 100000 in
set_option maxHeartbeats 4000000 in
/-- many bits are taken -/
theorem m_X4_take {E : gE} {ws : va_W} {q a qr ar : Nat} {r : Nat → Int32} {st sz : Int32} {bs : List Int32} (n : Nat) (hn : n ≤ 4) (h : ws[q]? = some (a, waitC ar st sz)) (h2 : ws[qr]? = some (ar, iaC E 256 r)) (hq : RQ r st sz bs) :
    C0 E YX4_take 0 0 [.ref a, .int (nI n)] ws (fun v w => v = some (.int (takeQ n 0 bs).1) ∧ ∃ st2 sz2, RQ r st2 sz2 (takeQ n 0 bs).2 ∧ w = ws.set q (a, waitC ar st2 sz2)) := by
  refine c0V vX4_take (Nat.le_of_ble_eq_true rfl) (lv0 := [(0, .ref a), (1, .int (nI n))]) rfl ?_
  suffices K : ∀ (m i : Nat) (sg st1 sz1 : Int32) (bs1 : List Int32) (x : Int32) (w0 : va_W), i + m = n → RQ r st1 sz1 bs1 → takeQ m sg bs1 = takeQ n 0 bs → x = nI i → w0 = ws.set q (a, waitC ar st1 sz1) →
      Ev E YX4_take (fun v w => v = some (.int (takeQ n 0 bs).1) ∧ ∃ st2 sz2, RQ r st2 sz2 (takeQ n 0 bs).2 ∧ w = ws.set q (a, waitC ar st2 sz2)) nX 0 0 4 [(0, .ref a), (1, .int (nI n)), (2, .int sg), (3, .int x)] [] w0 by
    refine ev_ss DX4_take 4 0 (pc' := 4) (lv' := [(3, .int 0), (2, .int 0), (0, .ref _), (1, .int _)]) (st' := []) rfl ?_
    refine ev_lvp (lv2 := [(0, .ref _), (1, .int _), (2, .int _), (3, .int _)]) [2, 3, 1, 0] rfl ?_
    exact K n 0 0 st sz bs _ _ (Nat.zero_add n) hq rfl nI_0.symm (wset_id h).symm
  intro m
  induction m with
  | zero =>
    intro i sg st1 sz1 bs1 x w0 hi hq1 ht hx hw
    subst hx; subst hw
    have he : i = n := by omega
    subst he
    refine ev_ss DX4_take 2 4 (pc' := 6) (lv' := [(0, .ref _), (1, .int _), (2, .int _), (3, .int _)]) (st' := [.int _, .int _]) rfl ?_
    refine ev_icge DX4_take 6 rfl (tgt := 58) (by decide) (fun _ => ?_) (fun h => h.elim (nI_le (Nat.le_refl _) (by omega)))
    refine ev_ss DX4_take 1 36 (pc' := 59) (lv' := [(0, .ref _), (1, .int _), (2, .int _), (3, .int _)]) (st' := [.int _]) rfl ?_
    exact ev_iret DX4_take 37 rfl rfl ⟨vI (congrArg Prod.fst ht).symm, st1, sz1, (congrArg Prod.snd ht) ▸ hq1, rfl⟩
  | succ m ih =>
    intro i sg st1 sz1 bs1 x w0 hi hq1 ht hx hw
    subst hx; subst hw
    cases bs1 with
    | nil =>
      refine ev_ss DX4_take 2 4 (pc' := 6) (lv' := [(0, .ref _), (1, .int _), (2, .int _), (3, .int _)]) (st' := [.int _, .int _]) rfl ?_
      refine ev_icge DX4_take 6 rfl (tgt := 58) (by decide) (fun h => absurd h (nI_ge (by omega) (by omega))) (fun _ => ?_)
      refine ev_ss DX4_take 5 7 (pc' := 14) (lv' := [(2, .int _), (0, .ref _), (1, .int _), (3, .int _)]) (st' := [.ref _]) rfl ?_
      refine ev_get DX4_take 12 GX4 rfl (k0 := 2) (Nat.le_of_ble_eq_true rfl) fX4_25 (wset_get h) rfl ?_
      refine ev_ifle DX4_take 13 rfl (tgt := 52) (by decide) (fun _ => ?_) (fun h => h.elim (RQ_nil hq1))
      refine ev_ss DX4_take 1 34 (pc' := 55) (lv' := [(3, .int _), (2, .int _), (0, .ref _), (1, .int _)]) (st' := []) rfl ?_
      refine ev_goto DX4_take 35 rfl (tgt := 4) (by decide) ?_
      refine ev_lvp (lv2 := [(0, .ref _), (1, .int _), (2, .int _), (3, .int _)]) [2, 3, 1, 0] rfl ?_
      exact ih (i + 1) (2 * sg) st1 sz1 [] _ _ (by omega) hq1 ht (nI_1 i) rfl
    | cons b bs1 =>
      obtain ⟨z1, z2, z3⟩ := RQ_cons hq1
      refine ev_ss DX4_take 2 4 (pc' := 6) (lv' := [(0, .ref _), (1, .int _), (2, .int _), (3, .int _)]) (st' := [.int _, .int _]) rfl ?_
      refine ev_icge DX4_take 6 rfl (tgt := 58) (by decide) (fun h => absurd h (nI_ge (by omega) (by omega))) (fun _ => ?_)
      refine ev_ss DX4_take 5 7 (pc' := 14) (lv' := [(2, .int _), (0, .ref _), (1, .int _), (3, .int _)]) (st' := [.ref _]) rfl ?_
      refine ev_get DX4_take 12 GX4 rfl (k0 := 2) (Nat.le_of_ble_eq_true rfl) fX4_25 (wset_get h) rfl ?_
      refine ev_ifle DX4_take 13 rfl (tgt := 52) (by decide) (fun h => absurd h z1) (fun _ => ?_)
      refine ev_ss DX4_take 3 14 (pc' := 23) (lv' := [(2, .int _), (0, .ref _), (1, .int _), (3, .int _)]) (st' := [.int 0, .ref _, .int _]) rfl ?_
      refine ev_cV DX4_take 17 (m_X4_bitAt (wset_get h) (wset_o h2 h rfl)) vX4_bitAt rfl qX4_32 rfl (wset_get h) rfl (hd_of rfl rfl rfl rfl) ?_
      refine ev_ss DX4_take 4 18 (pc' := 30) (lv' := [(2, .int _), (0, .ref _), (1, .int _), (3, .int _)]) (st' := [.ref _, .ref _]) rfl ?_
      refine ev_get DX4_take 22 GX4 rfl (k0 := 1) (Nat.le_of_ble_eq_true rfl) fX4_21 (wset_get h) rfl ?_
      refine ev_ss DX4_take 4 23 (pc' := 39) (lv' := [(2, .int _), (0, .ref _), (1, .int _), (3, .int _)]) (st' := [.int _, .ref _]) rfl ?_
      refine ev_put (fs' := [_, _, _]) DX4_take 27 GX4 rfl (k0 := 1) (Nat.le_of_ble_eq_true rfl) fX4_21 rfl ⟨rfl, rfl⟩ (wset_get h) (Nat.le_of_ble_eq_true rfl) rfl wset_set ?_
      refine ev_ss DX4_take 2 28 (pc' := 44) (lv' := [(2, .int _), (0, .ref _), (1, .int _), (3, .int _)]) (st' := [.ref _, .ref _]) rfl ?_
      refine ev_get DX4_take 30 GX4 rfl (k0 := 2) (Nat.le_of_ble_eq_true rfl) fX4_25 (wset_get h) rfl ?_
      refine ev_ss DX4_take 2 31 (pc' := 49) (lv' := [(2, .int _), (0, .ref _), (1, .int _), (3, .int _)]) (st' := [.int _, .ref _]) rfl ?_
      refine ev_put (fs' := [_, _, _]) DX4_take 33 GX4 rfl (k0 := 2) (Nat.le_of_ble_eq_true rfl) fX4_25 rfl ⟨rfl, rfl⟩ (wset_get h) (Nat.le_of_ble_eq_true rfl) rfl wset_set ?_
      refine ev_ss DX4_take 1 34 (pc' := 55) (lv' := [(3, .int _), (2, .int _), (0, .ref _), (1, .int _)]) (st' := []) rfl ?_
      refine ev_goto DX4_take 35 rfl (tgt := 4) (by decide) ?_
      refine ev_lvp (lv2 := [(0, .ref _), (1, .int _), (2, .int _), (3, .int _)]) [2, 3, 1, 0] rfl ?_
      exact ih (i + 1) (2 * sg + r (rix (st1 + 0))) _ _ bs1 _ _ (by omega) z3 (by rw [z2]; exact ht) (nI_1 i) rfl
end
section
abbrev stC (w0 w1 sg : Nat) (sd bt : Int32) : va_E := .inr (1, [.ref w0, .ref w1, .ref sg, .int sd, .int bt])
abbrev toA (E : gE) (f : Nat → Option Nat) : va_E := .inl (gK E 4, 8, .inr (.inr (.inr (.inr f))))
theorem ev_ldcw {E : gE} {Y : MI} {Pr : Option Value → va_W → Prop} {Px : String → va_W → Prop} {k n pc : Nat} {lv : List (Nat × Value)} {st : List Value} {ws : va_W} {L : LI} (D : Lst Y L) (i : Nat) {idx : Nat} {v : Int32} (hi : L[i]? = some (pc, .ldc_w idx, 3)) (hw : gw (.constant (mnm Y).cls idx v)) (kt : Ev E Y Pr Px k n (pc + 3) lv (.int v :: st) ws) : Ev E Y Pr Px k n pc lv st ws := by
  intro p e R s m args below meth c H locs cells slots ls hC hl hS hP hc hn
  have hd := D _ (List.mem_of_getElem? hi)
  exact lv_ldcw hC.1 hC.2.1 hC.2.2.2.2.2.2.1 (hC.2.2.2.2.2.1 _ hw) hd (kt p e R s m args below meth c H locs cells slots ls hC hl hS hP hc hn)
def drwS (sd : Int32) : Int32 := (((1103515245 : Int64) * sd.toInt64 + 12345) - ((1103515245 : Int64) * sd.toInt64 + 12345) / 2147483648 * 2147483648).toInt32
def drwV (s m : Int32) : Int32 := s / 65536 - s / 65536 / m * m
def drwN (sd : Int32) (f : TF) : Int32 := drwV (drwS sd) (2 * f 3 + 1) - f 3
def bcP (x : Int32) : Int32 :=
  let a := x - ((x.toUInt32 >>> ((1 : Int32).toUInt32 &&& Int32.toUInt32 31)).toInt32 &&& 1431655765)
  let b := (a &&& 858993459) + ((a.toUInt32 >>> ((2 : Int32).toUInt32 &&& Int32.toUInt32 31)).toInt32 &&& 858993459)
  let c := (b + (b.toUInt32 >>> ((4 : Int32).toUInt32 &&& Int32.toUInt32 31)).toInt32) &&& 252645135
  let d := c + (c.toUInt32 >>> ((8 : Int32).toUInt32 &&& Int32.toUInt32 31)).toInt32
  let e := d + (d.toUInt32 >>> ((16 : Int32).toUInt32 &&& Int32.toUInt32 31)).toInt32
  e &&& 63
def recL (lt : Int64) (b hd : Int32) : Int64 := ((lt <<< (b.toInt64 &&& 63)) ||| hd.toInt64) &&& 1152921504606846975
def sumN (g : Nat → Int32) : Nat → Int32
  | 0 => 0
  | n + 1 => sumN g n + g n
def cntB (f : TF) (wb : Int32) : TF := if wb ≤ 0 then cntP f 0 else cntP f 1
set_option maxRecDepth 100000 in
set_option maxHeartbeats 4000000 in
theorem m_X1_draw {E : gE} {ws : va_W} {q a w0 w1 sg : Nat} {sd bt : Int32} {m : Int32} (h : ws[q]? = some (a, stC w0 w1 sg sd bt)) (hm : ¬ m ≤ 0) : CD E YX1_draw 0 0 [.ref a, .int m] ws (some (.int (drwV (drwS sd) m))) (ws.set q (a, stC w0 w1 sg (drwS sd) bt)) := by
  refine cdV vX1_draw (Nat.le_of_ble_eq_true rfl) (lv0 := [(0, .ref a), (1, .int m)]) rfl ?_
  refine ev_ss DX1_draw 1 0 (pc' := 1) (lv' := [(0, .ref _), (1, .int _)]) (st' := [.ref _]) rfl ?_
  refine ev_ldc2 DX1_draw 1 rfl kX1_50 ?_
  refine ev_ss DX1_draw 1 2 (pc' := 5) (lv' := [(0, .ref _), (1, .int _)]) (st' := [.ref _, .long _, .ref _]) rfl ?_
  refine ev_get DX1_draw 3 GX1 rfl (k0 := 3) (Nat.le_of_ble_eq_true rfl) fX1_25 h rfl ?_
  refine ev_ss DX1_draw 2 4 (pc' := 10) (lv' := [(0, .ref _), (1, .int _)]) (st' := [.long _, .ref _]) rfl ?_
  refine ev_ldc2 DX1_draw 6 rfl kX1_52 ?_
  refine ev_ss DX1_draw 1 7 (pc' := 14) (lv' := [(0, .ref _), (1, .int _)]) (st' := [.long _, .ref _]) rfl ?_
  refine ev_ldc2 DX1_draw 8 rfl kX1_54 ?_
  refine ev_lrem DX1_draw 9 rfl (by decide) ?_
  refine ev_ss DX1_draw 1 10 (pc' := 19) (lv' := [(0, .ref _), (1, .int _)]) (st' := [.int _, .ref _]) rfl ?_
  refine ev_put (fs' := [_, _, _, _, _]) DX1_draw 11 GX1 rfl (k0 := 3) (Nat.le_of_ble_eq_true rfl) fX1_25 rfl ⟨rfl, rfl⟩ h (Nat.le_of_ble_eq_true rfl) rfl rfl ?_
  refine ev_ss DX1_draw 1 12 (pc' := 23) (lv' := [(0, .ref _), (1, .int _)]) (st' := [.int _]) rfl ?_
  refine ev_ifle DX1_draw 13 rfl (tgt := 38) (by decide) (fun h => absurd h hm) (fun _ => ?_)
  refine ev_ss DX1_draw 1 14 (pc' := 27) (lv' := [(0, .ref _), (1, .int _)]) (st' := [.ref _]) rfl ?_
  refine ev_get DX1_draw 15 GX1 rfl (k0 := 3) (Nat.le_of_ble_eq_true rfl) fX1_25 (wset_get h) rfl ?_
  refine ev_ldc DX1_draw 16 rfl kX1_56 ?_
  refine ev_idiv DX1_draw 17 rfl (by decide) ?_
  refine ev_ss DX1_draw 1 18 (pc' := 34) (lv' := [(0, .ref _), (1, .int _)]) (st' := [.int _, .int _]) rfl ?_
  refine ev_irem DX1_draw 19 rfl (fun e => hm (by rw [e]; decide)) ?_
  refine ev_goto DX1_draw 20 rfl (tgt := 39) (by decide) ?_
  exact ev_iret DX1_draw 22 rfl rfl ⟨rfl, rfl⟩
set_option maxRecDepth 100000 in
set_option maxHeartbeats 4000000 in
theorem m_X1_drawNoise {E : gE} {ws : va_W} {q a w0 w1 sg : Nat} {sd bt : Int32} {q2 a2 : Nat} {f : TF} (h : ws[q]? = some (a, stC w0 w1 sg sd bt)) (h2 : ws[q2]? = some (a2, toneC f)) (hm : ¬ 2 * f 3 + 1 ≤ 0) : CD E YX1_drawNoise 0 0 [.ref a, .ref a2] ws (some (.int (drwN sd f))) (ws.set q (a, stC w0 w1 sg (drwS sd) bt)) := by
  refine cdV vX1_drawNoise (Nat.le_of_ble_eq_true rfl) (lv0 := [(0, .ref a), (1, .ref a2)]) rfl ?_
  refine ev_ss DX1_drawNoise 3 0 (pc' := 3) (lv' := [(0, .ref _), (1, .ref _)]) (st' := [.ref _, .int 2, .ref _]) rfl ?_
  refine ev_get DX1_drawNoise 3 GX3 rfl (k0 := 3) (Nat.le_of_ble_eq_true rfl) fX1_57 h2 rfl ?_
  refine ev_ss DX1_drawNoise 3 4 (pc' := 9) (lv' := [(0, .ref _), (1, .ref _)]) (st' := [.int _, .ref _]) rfl ?_
  refine ev_cV DX1_drawNoise 7 (m_X1_draw h hm) vX1_draw rfl qX1_62 rfl h rfl (hd_of rfl rfl rfl rfl) ?_
  refine ev_ss DX1_drawNoise 1 8 (pc' := 13) (lv' := [(0, .ref _), (1, .ref _)]) (st' := [.ref _, .int _]) rfl ?_
  refine ev_get DX1_drawNoise 9 GX3 rfl (k0 := 3) (Nat.le_of_ble_eq_true rfl) fX1_57 (wset_o h2 h rfl) rfl ?_
  refine ev_ss DX1_drawNoise 1 10 (pc' := 17) (lv' := [(0, .ref _), (1, .ref _)]) (st' := [.int _]) rfl ?_
  exact ev_iret DX1_drawNoise 11 rfl rfl ⟨rfl, rfl⟩
set_option maxRecDepth 100000 in
set_option maxHeartbeats 4000000 in
theorem m_J6_bitCount {E : gE} {ws : va_W} {x : Int32} : CD E YJ6_bitCount_0f7a4 0 0 [.int x] ws (some (.int (bcP x))) ws := by
  refine cdS vJ6_bitCount_0f7a4 (Nat.le_of_ble_eq_true rfl) (lv0 := [(0, .int x)]) rfl ?_
  refine ev_ss DJ6_bitCount_0f7a4 4 0 (pc' := 4) (lv' := [(0, .int _)]) (st' := [.int _, .int _]) rfl ?_
  refine ev_ldcw DJ6_bitCount_0f7a4 4 rfl kJ6_265 ?_
  refine ev_ss DJ6_bitCount_0f7a4 4 5 (pc' := 11) (lv' := [(0, .int _)]) (st' := [.int _]) rfl ?_
  refine ev_ldcw DJ6_bitCount_0f7a4 9 rfl kJ6_266 ?_
  refine ev_ss DJ6_bitCount_0f7a4 4 10 (pc' := 18) (lv' := [(0, .int _)]) (st' := [.int _, .int _]) rfl ?_
  refine ev_ldcw DJ6_bitCount_0f7a4 14 rfl kJ6_266 ?_
  refine ev_ss DJ6_bitCount_0f7a4 8 15 (pc' := 29) (lv' := [(0, .int _)]) (st' := [.int _]) rfl ?_
  refine ev_ldcw DJ6_bitCount_0f7a4 23 rfl kJ6_267 ?_
  refine ev_ss DJ6_bitCount_0f7a4 17 24 (pc' := 52) (lv' := [(0, .int _)]) (st' := [.int _]) rfl ?_
  exact ev_iret DJ6_bitCount_0f7a4 41 rfl rfl ⟨rfl, rfl⟩
set_option maxRecDepth 100000 in
set_option maxHeartbeats 4000000 in
theorem m_X5_receive {E : gE} {ws : va_W} {q a ta wt : Nat} {lt : Int64} {cm wr : Int32} {hd b wb : Int32} (h : ws[q]? = some (a, wayC ta wt lt cm wr)) : CD E YX5_receive 0 0 [.ref a, .int hd, .int b, .int wb] ws none (ws.set q (a, wayC ta wt (recL lt b hd) (cm + b) (wr + wb))) := by
  refine cdV vX5_receive (Nat.le_of_ble_eq_true rfl) (lv0 := [(0, .ref a), (1, .int hd), (2, .int b), (3, .int wb)]) rfl ?_
  refine ev_ss DX5_receive 2 0 (pc' := 2) (lv' := [(0, .ref _), (1, .int _), (2, .int _), (3, .int _)]) (st' := [.ref _, .ref _]) rfl ?_
  refine ev_get DX5_receive 2 GX5 rfl (k0 := 2) (Nat.le_of_ble_eq_true rfl) fX5_32 h rfl ?_
  refine ev_ss DX5_receive 5 3 (pc' := 10) (lv' := [(0, .ref _), (1, .int _), (2, .int _), (3, .int _)]) (st' := [.long _, .ref _]) rfl ?_
  refine ev_ldc2 DX5_receive 8 rfl kX5_43 ?_
  refine ev_ss DX5_receive 1 9 (pc' := 14) (lv' := [(0, .ref _), (1, .int _), (2, .int _), (3, .int _)]) (st' := [.long _, .ref _]) rfl ?_
  refine ev_put (fs' := [_, _, _, _, _]) DX5_receive 10 GX5 rfl (k0 := 2) (Nat.le_of_ble_eq_true rfl) fX5_32 rfl ⟨rfl, rfl⟩ h (Nat.le_of_ble_eq_true rfl) rfl rfl ?_
  refine ev_ss DX5_receive 2 11 (pc' := 19) (lv' := [(0, .ref _), (1, .int _), (2, .int _), (3, .int _)]) (st' := [.ref _, .ref _]) rfl ?_
  refine ev_get DX5_receive 13 GX5 rfl (k0 := 3) (Nat.le_of_ble_eq_true rfl) fX5_36 (wset_get h) rfl ?_
  refine ev_ss DX5_receive 2 14 (pc' := 24) (lv' := [(0, .ref _), (1, .int _), (2, .int _), (3, .int _)]) (st' := [.int _, .ref _]) rfl ?_
  refine ev_put (fs' := [_, _, _, _, _]) DX5_receive 16 GX5 rfl (k0 := 3) (Nat.le_of_ble_eq_true rfl) fX5_36 rfl ⟨rfl, rfl⟩ (wset_get h) (Nat.le_of_ble_eq_true rfl) rfl wset_set ?_
  refine ev_ss DX5_receive 2 17 (pc' := 29) (lv' := [(0, .ref _), (1, .int _), (2, .int _), (3, .int _)]) (st' := [.ref _, .ref _]) rfl ?_
  refine ev_get DX5_receive 19 GX5 rfl (k0 := 4) (Nat.le_of_ble_eq_true rfl) fX5_40 (wset_get h) rfl ?_
  refine ev_ss DX5_receive 2 20 (pc' := 34) (lv' := [(0, .ref _), (1, .int _), (2, .int _), (3, .int _)]) (st' := [.int _, .ref _]) rfl ?_
  refine ev_put (fs' := [_, _, _, _, _]) DX5_receive 22 GX5 rfl (k0 := 4) (Nat.le_of_ble_eq_true rfl) fX5_40 rfl ⟨rfl, rfl⟩ (wset_get h) (Nat.le_of_ble_eq_true rfl) rfl wset_set ?_
  exact ev_vret DX5_receive 23 rfl rfl ⟨rfl, rfl⟩
set_option maxRecDepth 100000 in
set_option maxHeartbeats 4000000 in
theorem m_X5_bits {E : gE} {ws : va_W} {q a ta wt : Nat} {lt : Int64} {cm wr : Int32} {qa : Nat} {fa : Nat → Option Nat} {tn : Nat → Nat} {g : Nat → TF} (h2 : ws[qa]? = some (ta, toA E fa)) (hfa : ∀ t, t < 8 → fa t = some (tn t)) (ht : ∀ t, t < 8 → ∃ qt : Nat, ws[qt]? = some (tn t, toneC (g t))) (h : ws[q]? = some (a, wayC ta wt lt cm wr)) : CD E YX5_bits 0 0 [.ref a] ws (some (.int (sumN (fun t => g t 10) 8))) ws := by
  obtain ⟨qt0, hT0⟩ := ht 0 (by decide)
  obtain ⟨qt1, hT1⟩ := ht 1 (by decide)
  obtain ⟨qt2, hT2⟩ := ht 2 (by decide)
  obtain ⟨qt3, hT3⟩ := ht 3 (by decide)
  obtain ⟨qt4, hT4⟩ := ht 4 (by decide)
  obtain ⟨qt5, hT5⟩ := ht 5 (by decide)
  obtain ⟨qt6, hT6⟩ := ht 6 (by decide)
  obtain ⟨qt7, hT7⟩ := ht 7 (by decide)
  refine cdV vX5_bits (Nat.le_of_ble_eq_true rfl) (lv0 := [(0, .ref a)]) rfl ?_
  refine ev_ss DX5_bits 6 0 (pc' := 7) (lv' := [(2, .int 0), (1, .int 0), (0, .ref _)]) (st' := [.int 8, .int 0]) rfl ?_
  refine ev_icge DX5_bits 6 rfl (tgt := 28) (by decide) (fun h => absurd h (by decide)) (fun _ => ?_)
  refine ev_ss DX5_bits 2 7 (pc' := 12) (lv' := [(2, .int 0), (1, .int 0), (0, .ref _)]) (st' := [.ref _, .int 0]) rfl ?_
  refine ev_get DX5_bits 9 GX5 rfl (k0 := 0) (Nat.le_of_ble_eq_true rfl) fX5_11 h rfl ?_
  refine ev_ss DX5_bits 1 10 (pc' := 16) (lv' := [(2, .int 0), (1, .int 0), (0, .ref _)]) (st' := [.int 0, .ref _, .int 0]) rfl ?_
  refine ev_aald4 DX5_bits 11 rfl h2 (by unfold vp_in; decide) (b := tn 0) (hfa 0 (by decide)) ?_
  refine ev_get DX5_bits 12 GX3 rfl (k0 := 10) (Nat.le_of_ble_eq_true rfl) fX5_45 hT0 rfl ?_
  refine ev_ss DX5_bits 3 13 (pc' := 25) (lv' := [(2, .int 1), (1, .int _), (0, .ref _)]) (st' := []) rfl ?_
  refine ev_goto DX5_bits 16 rfl (tgt := 4) (by decide) ?_
  refine ev_ss DX5_bits 2 4 (pc' := 7) (lv' := [(2, .int 1), (1, .int _), (0, .ref _)]) (st' := [.int 8, .int 1]) rfl ?_
  refine ev_icge DX5_bits 6 rfl (tgt := 28) (by decide) (fun h => absurd h (by decide)) (fun _ => ?_)
  refine ev_ss DX5_bits 2 7 (pc' := 12) (lv' := [(2, .int 1), (1, .int _), (0, .ref _)]) (st' := [.ref _, .int _]) rfl ?_
  refine ev_get DX5_bits 9 GX5 rfl (k0 := 0) (Nat.le_of_ble_eq_true rfl) fX5_11 h rfl ?_
  refine ev_ss DX5_bits 1 10 (pc' := 16) (lv' := [(2, .int 1), (1, .int _), (0, .ref _)]) (st' := [.int 1, .ref _, .int _]) rfl ?_
  refine ev_aald4 DX5_bits 11 rfl h2 (by unfold vp_in; decide) (b := tn 1) (hfa 1 (by decide)) ?_
  refine ev_get DX5_bits 12 GX3 rfl (k0 := 10) (Nat.le_of_ble_eq_true rfl) fX5_45 hT1 rfl ?_
  refine ev_ss DX5_bits 3 13 (pc' := 25) (lv' := [(2, .int 2), (1, .int _), (0, .ref _)]) (st' := []) rfl ?_
  refine ev_goto DX5_bits 16 rfl (tgt := 4) (by decide) ?_
  refine ev_ss DX5_bits 2 4 (pc' := 7) (lv' := [(2, .int 2), (1, .int _), (0, .ref _)]) (st' := [.int 8, .int 2]) rfl ?_
  refine ev_icge DX5_bits 6 rfl (tgt := 28) (by decide) (fun h => absurd h (by decide)) (fun _ => ?_)
  refine ev_ss DX5_bits 2 7 (pc' := 12) (lv' := [(2, .int 2), (1, .int _), (0, .ref _)]) (st' := [.ref _, .int _]) rfl ?_
  refine ev_get DX5_bits 9 GX5 rfl (k0 := 0) (Nat.le_of_ble_eq_true rfl) fX5_11 h rfl ?_
  refine ev_ss DX5_bits 1 10 (pc' := 16) (lv' := [(2, .int 2), (1, .int _), (0, .ref _)]) (st' := [.int 2, .ref _, .int _]) rfl ?_
  refine ev_aald4 DX5_bits 11 rfl h2 (by unfold vp_in; decide) (b := tn 2) (hfa 2 (by decide)) ?_
  refine ev_get DX5_bits 12 GX3 rfl (k0 := 10) (Nat.le_of_ble_eq_true rfl) fX5_45 hT2 rfl ?_
  refine ev_ss DX5_bits 3 13 (pc' := 25) (lv' := [(2, .int 3), (1, .int _), (0, .ref _)]) (st' := []) rfl ?_
  refine ev_goto DX5_bits 16 rfl (tgt := 4) (by decide) ?_
  refine ev_ss DX5_bits 2 4 (pc' := 7) (lv' := [(2, .int 3), (1, .int _), (0, .ref _)]) (st' := [.int 8, .int 3]) rfl ?_
  refine ev_icge DX5_bits 6 rfl (tgt := 28) (by decide) (fun h => absurd h (by decide)) (fun _ => ?_)
  refine ev_ss DX5_bits 2 7 (pc' := 12) (lv' := [(2, .int 3), (1, .int _), (0, .ref _)]) (st' := [.ref _, .int _]) rfl ?_
  refine ev_get DX5_bits 9 GX5 rfl (k0 := 0) (Nat.le_of_ble_eq_true rfl) fX5_11 h rfl ?_
  refine ev_ss DX5_bits 1 10 (pc' := 16) (lv' := [(2, .int 3), (1, .int _), (0, .ref _)]) (st' := [.int 3, .ref _, .int _]) rfl ?_
  refine ev_aald4 DX5_bits 11 rfl h2 (by unfold vp_in; decide) (b := tn 3) (hfa 3 (by decide)) ?_
  refine ev_get DX5_bits 12 GX3 rfl (k0 := 10) (Nat.le_of_ble_eq_true rfl) fX5_45 hT3 rfl ?_
  refine ev_ss DX5_bits 3 13 (pc' := 25) (lv' := [(2, .int 4), (1, .int _), (0, .ref _)]) (st' := []) rfl ?_
  refine ev_goto DX5_bits 16 rfl (tgt := 4) (by decide) ?_
  refine ev_ss DX5_bits 2 4 (pc' := 7) (lv' := [(2, .int 4), (1, .int _), (0, .ref _)]) (st' := [.int 8, .int 4]) rfl ?_
  refine ev_icge DX5_bits 6 rfl (tgt := 28) (by decide) (fun h => absurd h (by decide)) (fun _ => ?_)
  refine ev_ss DX5_bits 2 7 (pc' := 12) (lv' := [(2, .int 4), (1, .int _), (0, .ref _)]) (st' := [.ref _, .int _]) rfl ?_
  refine ev_get DX5_bits 9 GX5 rfl (k0 := 0) (Nat.le_of_ble_eq_true rfl) fX5_11 h rfl ?_
  refine ev_ss DX5_bits 1 10 (pc' := 16) (lv' := [(2, .int 4), (1, .int _), (0, .ref _)]) (st' := [.int 4, .ref _, .int _]) rfl ?_
  refine ev_aald4 DX5_bits 11 rfl h2 (by unfold vp_in; decide) (b := tn 4) (hfa 4 (by decide)) ?_
  refine ev_get DX5_bits 12 GX3 rfl (k0 := 10) (Nat.le_of_ble_eq_true rfl) fX5_45 hT4 rfl ?_
  refine ev_ss DX5_bits 3 13 (pc' := 25) (lv' := [(2, .int 5), (1, .int _), (0, .ref _)]) (st' := []) rfl ?_
  refine ev_goto DX5_bits 16 rfl (tgt := 4) (by decide) ?_
  refine ev_ss DX5_bits 2 4 (pc' := 7) (lv' := [(2, .int 5), (1, .int _), (0, .ref _)]) (st' := [.int 8, .int 5]) rfl ?_
  refine ev_icge DX5_bits 6 rfl (tgt := 28) (by decide) (fun h => absurd h (by decide)) (fun _ => ?_)
  refine ev_ss DX5_bits 2 7 (pc' := 12) (lv' := [(2, .int 5), (1, .int _), (0, .ref _)]) (st' := [.ref _, .int _]) rfl ?_
  refine ev_get DX5_bits 9 GX5 rfl (k0 := 0) (Nat.le_of_ble_eq_true rfl) fX5_11 h rfl ?_
  refine ev_ss DX5_bits 1 10 (pc' := 16) (lv' := [(2, .int 5), (1, .int _), (0, .ref _)]) (st' := [.int 5, .ref _, .int _]) rfl ?_
  refine ev_aald4 DX5_bits 11 rfl h2 (by unfold vp_in; decide) (b := tn 5) (hfa 5 (by decide)) ?_
  refine ev_get DX5_bits 12 GX3 rfl (k0 := 10) (Nat.le_of_ble_eq_true rfl) fX5_45 hT5 rfl ?_
  refine ev_ss DX5_bits 3 13 (pc' := 25) (lv' := [(2, .int 6), (1, .int _), (0, .ref _)]) (st' := []) rfl ?_
  refine ev_goto DX5_bits 16 rfl (tgt := 4) (by decide) ?_
  refine ev_ss DX5_bits 2 4 (pc' := 7) (lv' := [(2, .int 6), (1, .int _), (0, .ref _)]) (st' := [.int 8, .int 6]) rfl ?_
  refine ev_icge DX5_bits 6 rfl (tgt := 28) (by decide) (fun h => absurd h (by decide)) (fun _ => ?_)
  refine ev_ss DX5_bits 2 7 (pc' := 12) (lv' := [(2, .int 6), (1, .int _), (0, .ref _)]) (st' := [.ref _, .int _]) rfl ?_
  refine ev_get DX5_bits 9 GX5 rfl (k0 := 0) (Nat.le_of_ble_eq_true rfl) fX5_11 h rfl ?_
  refine ev_ss DX5_bits 1 10 (pc' := 16) (lv' := [(2, .int 6), (1, .int _), (0, .ref _)]) (st' := [.int 6, .ref _, .int _]) rfl ?_
  refine ev_aald4 DX5_bits 11 rfl h2 (by unfold vp_in; decide) (b := tn 6) (hfa 6 (by decide)) ?_
  refine ev_get DX5_bits 12 GX3 rfl (k0 := 10) (Nat.le_of_ble_eq_true rfl) fX5_45 hT6 rfl ?_
  refine ev_ss DX5_bits 3 13 (pc' := 25) (lv' := [(2, .int 7), (1, .int _), (0, .ref _)]) (st' := []) rfl ?_
  refine ev_goto DX5_bits 16 rfl (tgt := 4) (by decide) ?_
  refine ev_ss DX5_bits 2 4 (pc' := 7) (lv' := [(2, .int 7), (1, .int _), (0, .ref _)]) (st' := [.int 8, .int 7]) rfl ?_
  refine ev_icge DX5_bits 6 rfl (tgt := 28) (by decide) (fun h => absurd h (by decide)) (fun _ => ?_)
  refine ev_ss DX5_bits 2 7 (pc' := 12) (lv' := [(2, .int 7), (1, .int _), (0, .ref _)]) (st' := [.ref _, .int _]) rfl ?_
  refine ev_get DX5_bits 9 GX5 rfl (k0 := 0) (Nat.le_of_ble_eq_true rfl) fX5_11 h rfl ?_
  refine ev_ss DX5_bits 1 10 (pc' := 16) (lv' := [(2, .int 7), (1, .int _), (0, .ref _)]) (st' := [.int 7, .ref _, .int _]) rfl ?_
  refine ev_aald4 DX5_bits 11 rfl h2 (by unfold vp_in; decide) (b := tn 7) (hfa 7 (by decide)) ?_
  refine ev_get DX5_bits 12 GX3 rfl (k0 := 10) (Nat.le_of_ble_eq_true rfl) fX5_45 hT7 rfl ?_
  refine ev_ss DX5_bits 3 13 (pc' := 25) (lv' := [(2, .int 8), (1, .int _), (0, .ref _)]) (st' := []) rfl ?_
  refine ev_goto DX5_bits 16 rfl (tgt := 4) (by decide) ?_
  refine ev_ss DX5_bits 2 4 (pc' := 7) (lv' := [(2, .int 8), (1, .int _), (0, .ref _)]) (st' := [.int 8, .int 8]) rfl ?_
  refine ev_icge DX5_bits 6 rfl (tgt := 28) (by decide) (fun _ => ?_) (fun h => h.elim (by decide))
  refine ev_ss DX5_bits 1 17 (pc' := 29) (lv' := [(2, .int 8), (1, .int _), (0, .ref _)]) (st' := [.int _]) rfl ?_
  exact ev_iret DX5_bits 18 rfl rfl ⟨rfl, rfl⟩
set_option maxRecDepth 100000 in
set_option maxHeartbeats 4000000 in
theorem m_X5_shies {E : gE} {ws : va_W} {q a ta wt : Nat} {lt : Int64} {cm wr : Int32} {qa : Nat} {fa : Nat → Option Nat} {tn : Nat → Nat} {g : Nat → TF} (h2 : ws[qa]? = some (ta, toA E fa)) (hfa : ∀ t, t < 8 → fa t = some (tn t)) (ht : ∀ t, t < 8 → ∃ qt : Nat, ws[qt]? = some (tn t, toneC (g t))) (h : ws[q]? = some (a, wayC ta wt lt cm wr)) : CD E YX5_shies 0 0 [.ref a] ws (some (.int (sumN (fun t => g t 13) 8))) ws := by
  obtain ⟨qt0, hT0⟩ := ht 0 (by decide)
  obtain ⟨qt1, hT1⟩ := ht 1 (by decide)
  obtain ⟨qt2, hT2⟩ := ht 2 (by decide)
  obtain ⟨qt3, hT3⟩ := ht 3 (by decide)
  obtain ⟨qt4, hT4⟩ := ht 4 (by decide)
  obtain ⟨qt5, hT5⟩ := ht 5 (by decide)
  obtain ⟨qt6, hT6⟩ := ht 6 (by decide)
  obtain ⟨qt7, hT7⟩ := ht 7 (by decide)
  refine cdV vX5_shies (Nat.le_of_ble_eq_true rfl) (lv0 := [(0, .ref a)]) rfl ?_
  refine ev_ss DX5_shies 6 0 (pc' := 7) (lv' := [(2, .int 0), (1, .int 0), (0, .ref _)]) (st' := [.int 8, .int 0]) rfl ?_
  refine ev_icge DX5_shies 6 rfl (tgt := 28) (by decide) (fun h => absurd h (by decide)) (fun _ => ?_)
  refine ev_ss DX5_shies 2 7 (pc' := 12) (lv' := [(2, .int 0), (1, .int 0), (0, .ref _)]) (st' := [.ref _, .int 0]) rfl ?_
  refine ev_get DX5_shies 9 GX5 rfl (k0 := 0) (Nat.le_of_ble_eq_true rfl) fX5_11 h rfl ?_
  refine ev_ss DX5_shies 1 10 (pc' := 16) (lv' := [(2, .int 0), (1, .int 0), (0, .ref _)]) (st' := [.int 0, .ref _, .int 0]) rfl ?_
  refine ev_aald4 DX5_shies 11 rfl h2 (by unfold vp_in; decide) (b := tn 0) (hfa 0 (by decide)) ?_
  refine ev_get DX5_shies 12 GX3 rfl (k0 := 13) (Nat.le_of_ble_eq_true rfl) fX5_48 hT0 rfl ?_
  refine ev_ss DX5_shies 3 13 (pc' := 25) (lv' := [(2, .int 1), (1, .int _), (0, .ref _)]) (st' := []) rfl ?_
  refine ev_goto DX5_shies 16 rfl (tgt := 4) (by decide) ?_
  refine ev_ss DX5_shies 2 4 (pc' := 7) (lv' := [(2, .int 1), (1, .int _), (0, .ref _)]) (st' := [.int 8, .int 1]) rfl ?_
  refine ev_icge DX5_shies 6 rfl (tgt := 28) (by decide) (fun h => absurd h (by decide)) (fun _ => ?_)
  refine ev_ss DX5_shies 2 7 (pc' := 12) (lv' := [(2, .int 1), (1, .int _), (0, .ref _)]) (st' := [.ref _, .int _]) rfl ?_
  refine ev_get DX5_shies 9 GX5 rfl (k0 := 0) (Nat.le_of_ble_eq_true rfl) fX5_11 h rfl ?_
  refine ev_ss DX5_shies 1 10 (pc' := 16) (lv' := [(2, .int 1), (1, .int _), (0, .ref _)]) (st' := [.int 1, .ref _, .int _]) rfl ?_
  refine ev_aald4 DX5_shies 11 rfl h2 (by unfold vp_in; decide) (b := tn 1) (hfa 1 (by decide)) ?_
  refine ev_get DX5_shies 12 GX3 rfl (k0 := 13) (Nat.le_of_ble_eq_true rfl) fX5_48 hT1 rfl ?_
  refine ev_ss DX5_shies 3 13 (pc' := 25) (lv' := [(2, .int 2), (1, .int _), (0, .ref _)]) (st' := []) rfl ?_
  refine ev_goto DX5_shies 16 rfl (tgt := 4) (by decide) ?_
  refine ev_ss DX5_shies 2 4 (pc' := 7) (lv' := [(2, .int 2), (1, .int _), (0, .ref _)]) (st' := [.int 8, .int 2]) rfl ?_
  refine ev_icge DX5_shies 6 rfl (tgt := 28) (by decide) (fun h => absurd h (by decide)) (fun _ => ?_)
  refine ev_ss DX5_shies 2 7 (pc' := 12) (lv' := [(2, .int 2), (1, .int _), (0, .ref _)]) (st' := [.ref _, .int _]) rfl ?_
  refine ev_get DX5_shies 9 GX5 rfl (k0 := 0) (Nat.le_of_ble_eq_true rfl) fX5_11 h rfl ?_
  refine ev_ss DX5_shies 1 10 (pc' := 16) (lv' := [(2, .int 2), (1, .int _), (0, .ref _)]) (st' := [.int 2, .ref _, .int _]) rfl ?_
  refine ev_aald4 DX5_shies 11 rfl h2 (by unfold vp_in; decide) (b := tn 2) (hfa 2 (by decide)) ?_
  refine ev_get DX5_shies 12 GX3 rfl (k0 := 13) (Nat.le_of_ble_eq_true rfl) fX5_48 hT2 rfl ?_
  refine ev_ss DX5_shies 3 13 (pc' := 25) (lv' := [(2, .int 3), (1, .int _), (0, .ref _)]) (st' := []) rfl ?_
  refine ev_goto DX5_shies 16 rfl (tgt := 4) (by decide) ?_
  refine ev_ss DX5_shies 2 4 (pc' := 7) (lv' := [(2, .int 3), (1, .int _), (0, .ref _)]) (st' := [.int 8, .int 3]) rfl ?_
  refine ev_icge DX5_shies 6 rfl (tgt := 28) (by decide) (fun h => absurd h (by decide)) (fun _ => ?_)
  refine ev_ss DX5_shies 2 7 (pc' := 12) (lv' := [(2, .int 3), (1, .int _), (0, .ref _)]) (st' := [.ref _, .int _]) rfl ?_
  refine ev_get DX5_shies 9 GX5 rfl (k0 := 0) (Nat.le_of_ble_eq_true rfl) fX5_11 h rfl ?_
  refine ev_ss DX5_shies 1 10 (pc' := 16) (lv' := [(2, .int 3), (1, .int _), (0, .ref _)]) (st' := [.int 3, .ref _, .int _]) rfl ?_
  refine ev_aald4 DX5_shies 11 rfl h2 (by unfold vp_in; decide) (b := tn 3) (hfa 3 (by decide)) ?_
  refine ev_get DX5_shies 12 GX3 rfl (k0 := 13) (Nat.le_of_ble_eq_true rfl) fX5_48 hT3 rfl ?_
  refine ev_ss DX5_shies 3 13 (pc' := 25) (lv' := [(2, .int 4), (1, .int _), (0, .ref _)]) (st' := []) rfl ?_
  refine ev_goto DX5_shies 16 rfl (tgt := 4) (by decide) ?_
  refine ev_ss DX5_shies 2 4 (pc' := 7) (lv' := [(2, .int 4), (1, .int _), (0, .ref _)]) (st' := [.int 8, .int 4]) rfl ?_
  refine ev_icge DX5_shies 6 rfl (tgt := 28) (by decide) (fun h => absurd h (by decide)) (fun _ => ?_)
  refine ev_ss DX5_shies 2 7 (pc' := 12) (lv' := [(2, .int 4), (1, .int _), (0, .ref _)]) (st' := [.ref _, .int _]) rfl ?_
  refine ev_get DX5_shies 9 GX5 rfl (k0 := 0) (Nat.le_of_ble_eq_true rfl) fX5_11 h rfl ?_
  refine ev_ss DX5_shies 1 10 (pc' := 16) (lv' := [(2, .int 4), (1, .int _), (0, .ref _)]) (st' := [.int 4, .ref _, .int _]) rfl ?_
  refine ev_aald4 DX5_shies 11 rfl h2 (by unfold vp_in; decide) (b := tn 4) (hfa 4 (by decide)) ?_
  refine ev_get DX5_shies 12 GX3 rfl (k0 := 13) (Nat.le_of_ble_eq_true rfl) fX5_48 hT4 rfl ?_
  refine ev_ss DX5_shies 3 13 (pc' := 25) (lv' := [(2, .int 5), (1, .int _), (0, .ref _)]) (st' := []) rfl ?_
  refine ev_goto DX5_shies 16 rfl (tgt := 4) (by decide) ?_
  refine ev_ss DX5_shies 2 4 (pc' := 7) (lv' := [(2, .int 5), (1, .int _), (0, .ref _)]) (st' := [.int 8, .int 5]) rfl ?_
  refine ev_icge DX5_shies 6 rfl (tgt := 28) (by decide) (fun h => absurd h (by decide)) (fun _ => ?_)
  refine ev_ss DX5_shies 2 7 (pc' := 12) (lv' := [(2, .int 5), (1, .int _), (0, .ref _)]) (st' := [.ref _, .int _]) rfl ?_
  refine ev_get DX5_shies 9 GX5 rfl (k0 := 0) (Nat.le_of_ble_eq_true rfl) fX5_11 h rfl ?_
  refine ev_ss DX5_shies 1 10 (pc' := 16) (lv' := [(2, .int 5), (1, .int _), (0, .ref _)]) (st' := [.int 5, .ref _, .int _]) rfl ?_
  refine ev_aald4 DX5_shies 11 rfl h2 (by unfold vp_in; decide) (b := tn 5) (hfa 5 (by decide)) ?_
  refine ev_get DX5_shies 12 GX3 rfl (k0 := 13) (Nat.le_of_ble_eq_true rfl) fX5_48 hT5 rfl ?_
  refine ev_ss DX5_shies 3 13 (pc' := 25) (lv' := [(2, .int 6), (1, .int _), (0, .ref _)]) (st' := []) rfl ?_
  refine ev_goto DX5_shies 16 rfl (tgt := 4) (by decide) ?_
  refine ev_ss DX5_shies 2 4 (pc' := 7) (lv' := [(2, .int 6), (1, .int _), (0, .ref _)]) (st' := [.int 8, .int 6]) rfl ?_
  refine ev_icge DX5_shies 6 rfl (tgt := 28) (by decide) (fun h => absurd h (by decide)) (fun _ => ?_)
  refine ev_ss DX5_shies 2 7 (pc' := 12) (lv' := [(2, .int 6), (1, .int _), (0, .ref _)]) (st' := [.ref _, .int _]) rfl ?_
  refine ev_get DX5_shies 9 GX5 rfl (k0 := 0) (Nat.le_of_ble_eq_true rfl) fX5_11 h rfl ?_
  refine ev_ss DX5_shies 1 10 (pc' := 16) (lv' := [(2, .int 6), (1, .int _), (0, .ref _)]) (st' := [.int 6, .ref _, .int _]) rfl ?_
  refine ev_aald4 DX5_shies 11 rfl h2 (by unfold vp_in; decide) (b := tn 6) (hfa 6 (by decide)) ?_
  refine ev_get DX5_shies 12 GX3 rfl (k0 := 13) (Nat.le_of_ble_eq_true rfl) fX5_48 hT6 rfl ?_
  refine ev_ss DX5_shies 3 13 (pc' := 25) (lv' := [(2, .int 7), (1, .int _), (0, .ref _)]) (st' := []) rfl ?_
  refine ev_goto DX5_shies 16 rfl (tgt := 4) (by decide) ?_
  refine ev_ss DX5_shies 2 4 (pc' := 7) (lv' := [(2, .int 7), (1, .int _), (0, .ref _)]) (st' := [.int 8, .int 7]) rfl ?_
  refine ev_icge DX5_shies 6 rfl (tgt := 28) (by decide) (fun h => absurd h (by decide)) (fun _ => ?_)
  refine ev_ss DX5_shies 2 7 (pc' := 12) (lv' := [(2, .int 7), (1, .int _), (0, .ref _)]) (st' := [.ref _, .int _]) rfl ?_
  refine ev_get DX5_shies 9 GX5 rfl (k0 := 0) (Nat.le_of_ble_eq_true rfl) fX5_11 h rfl ?_
  refine ev_ss DX5_shies 1 10 (pc' := 16) (lv' := [(2, .int 7), (1, .int _), (0, .ref _)]) (st' := [.int 7, .ref _, .int _]) rfl ?_
  refine ev_aald4 DX5_shies 11 rfl h2 (by unfold vp_in; decide) (b := tn 7) (hfa 7 (by decide)) ?_
  refine ev_get DX5_shies 12 GX3 rfl (k0 := 13) (Nat.le_of_ble_eq_true rfl) fX5_48 hT7 rfl ?_
  refine ev_ss DX5_shies 3 13 (pc' := 25) (lv' := [(2, .int 8), (1, .int _), (0, .ref _)]) (st' := []) rfl ?_
  refine ev_goto DX5_shies 16 rfl (tgt := 4) (by decide) ?_
  refine ev_ss DX5_shies 2 4 (pc' := 7) (lv' := [(2, .int 8), (1, .int _), (0, .ref _)]) (st' := [.int 8, .int 8]) rfl ?_
  refine ev_icge DX5_shies 6 rfl (tgt := 28) (by decide) (fun _ => ?_) (fun h => h.elim (by decide))
  refine ev_ss DX5_shies 1 17 (pc' := 29) (lv' := [(2, .int 8), (1, .int _), (0, .ref _)]) (st' := [.int _]) rfl ?_
  exact ev_iret DX5_shies 18 rfl rfl ⟨rfl, rfl⟩
def insP (g : Nat → TF) (t : Nat) : Int32 := if g t 4 = 0 then 0 else 1
set_option maxRecDepth 100000 in
set_option maxHeartbeats 4000000 in
theorem m_X5_insulted {E : gE} {ws : va_W} {q a ta wt : Nat} {lt : Int64} {cm wr : Int32} {qa : Nat} {fa : Nat → Option Nat} {tn : Nat → Nat} {g : Nat → TF} (h2 : ws[qa]? = some (ta, toA E fa)) (hfa : ∀ t, t < 8 → fa t = some (tn t)) (ht : ∀ t, t < 8 → ∃ qt : Nat, ws[qt]? = some (tn t, toneC (g t))) (h : ws[q]? = some (a, wayC ta wt lt cm wr)) : CD E YX5_insulted 0 0 [.ref a] ws (some (.int (sumN (insP g) 8))) ws := by
  refine cdV vX5_insulted (Nat.le_of_ble_eq_true rfl) (lv0 := [(0, .ref a)]) rfl ?_
  suffices K : ∀ (m i : Nat) (x : Int32), i + m = 8 → x = nI i → Ev E YX5_insulted (fun v2 w2 => v2 = some (.int (sumN (insP g) 8)) ∧ w2 = ws) nX 0 0 4 [(0, .ref a), (1, .int (sumN (insP g) i)), (2, .int x)] [] ws by
    refine ev_ss DX5_insulted 4 0 (pc' := 4) (lv' := [(2, .int 0), (1, .int 0), (0, .ref _)]) (st' := []) rfl ?_
    refine ev_lvp (lv2 := [(0, .ref _), (1, .int _), (2, .int _)]) [2, 1, 0] rfl ?_
    exact K 8 0 _ rfl nI_0.symm
  intro m
  induction m with
  | zero =>
    intro i x hi hx
    obtain rfl : i = 8 := by omega
    subst hx
    refine ev_ss DX5_insulted 2 4 (pc' := 7) (lv' := [(0, .ref _), (1, .int _), (2, .int _)]) (st' := [.int 8, .int _]) rfl ?_
    refine ev_icge DX5_insulted 6 rfl (tgt := 36) (by decide) (fun _ => ?_) (fun h => h.elim (by decide))
    refine ev_ss DX5_insulted 1 21 (pc' := 37) (lv' := [(0, .ref _), (1, .int _), (2, .int _)]) (st' := [.int _]) rfl ?_
    exact ev_iret DX5_insulted 22 rfl rfl ⟨rfl, rfl⟩
  | succ m ih =>
    intro i x hi hx
    subst hx
    obtain ⟨qt, hT⟩ := ht i (by omega)
    refine ev_ss DX5_insulted 2 4 (pc' := 7) (lv' := [(0, .ref _), (1, .int _), (2, .int _)]) (st' := [.int 8, .int _]) rfl ?_
    refine ev_icge DX5_insulted 6 rfl (tgt := 36) (by decide) (fun h => absurd h (nI_ge (b := 8) (by omega) (by decide))) (fun _ => ?_)
    refine ev_ss DX5_insulted 2 7 (pc' := 12) (lv' := [(0, .ref _), (1, .int _), (2, .int _)]) (st' := [.ref _, .int _]) rfl ?_
    refine ev_get DX5_insulted 9 GX5 rfl (k0 := 0) (Nat.le_of_ble_eq_true rfl) fX5_11 h rfl ?_
    refine ev_ss DX5_insulted 1 10 (pc' := 16) (lv' := [(0, .ref _), (1, .int _), (2, .int _)]) (st' := [.int _, .ref _, .int _]) rfl ?_
    refine ev_aald4 DX5_insulted 11 rfl h2 (vp_in_nI (by omega) (by decide)) (b := tn i) (by rw [nI_clamp (by omega)]; exact hfa i (by omega)) ?_
    refine ev_get DX5_insulted 12 GX3 rfl (k0 := 4) (Nat.le_of_ble_eq_true rfl) fX5_51 hT rfl ?_
    refine ev_ifeq DX5_insulted 13 rfl (tgt := 27) (by decide) (fun c_1 => ?_) (fun c_1 => ?_)
    · refine ev_ss DX5_insulted 4 16 (pc' := 33) (lv' := [(2, .int _), (1, .int _), (0, .ref _)]) (st' := []) rfl ?_
      refine ev_goto DX5_insulted 20 rfl (tgt := 4) (by decide) ?_
      refine ev_lvp (lv2 := [(0, .ref _), (1, .int _), (2, .int _)]) [2, 1, 0] rfl ?_
      have e : sumN (insP g) (i + 1) = sumN (insP g) i + insP g i := rfl
      have e2 : insP g i = 0 := if_pos c_1
      rw [e2] at e
      have e3 := ih (i + 1) (nI i + 1) (by omega) (nI_1 i)
      rw [e] at e3
      exact e3
    · refine ev_ss DX5_insulted 1 14 (pc' := 24) (lv' := [(0, .ref _), (1, .int _), (2, .int _)]) (st' := [.int 1, .int _]) rfl ?_
      refine ev_goto DX5_insulted 15 rfl (tgt := 28) (by decide) ?_
      refine ev_ss DX5_insulted 3 17 (pc' := 33) (lv' := [(2, .int _), (1, .int _), (0, .ref _)]) (st' := []) rfl ?_
      refine ev_goto DX5_insulted 20 rfl (tgt := 4) (by decide) ?_
      refine ev_lvp (lv2 := [(0, .ref _), (1, .int _), (2, .int _)]) [2, 1, 0] rfl ?_
      have e : sumN (insP g) (i + 1) = sumN (insP g) i + insP g i := rfl
      have e2 : insP g i = 1 := if_neg c_1
      rw [e2] at e
      have e3 := ih (i + 1) (nI i + 1) (by omega) (nI_1 i)
      rw [e] at e3
      exact e3
set_option maxRecDepth 100000 in
set_option maxHeartbeats 4000000 in
theorem m_X1_wayAt_0 {E : gE} {ws : va_W} {q a w0 w1 sg : Nat} {sd bt : Int32} (h : ws[q]? = some (a, stC w0 w1 sg sd bt)) : CD E YX1_wayAt 0 0 [.ref a, .int 0] ws (some (.ref w0)) ws := by
  refine cdV vX1_wayAt (Nat.le_of_ble_eq_true rfl) (lv0 := [(0, .ref a), (1, .int 0)]) rfl ?_
  refine ev_ss DX1_wayAt 1 0 (pc' := 1) (lv' := [(0, .ref _), (1, .int 0)]) (st' := [.int 0]) rfl ?_
  refine ev_ifne DX1_wayAt 1 rfl (tgt := 11) (by decide) (fun h => h.elim (by decide)) (fun _ => ?_)
  refine ev_ss DX1_wayAt 1 2 (pc' := 5) (lv' := [(0, .ref _), (1, .int 0)]) (st' := [.ref _]) rfl ?_
  refine ev_get DX1_wayAt 3 GX1 rfl (k0 := 0) (Nat.le_of_ble_eq_true rfl) fX1_12 h rfl ?_
  refine ev_goto DX1_wayAt 4 rfl (tgt := 15) (by decide) ?_
  exact ev_aret DX1_wayAt 7 rfl rfl ⟨rfl, rfl⟩
set_option maxRecDepth 100000 in
set_option maxHeartbeats 4000000 in
theorem m_X1_wayAt_1 {E : gE} {ws : va_W} {q a w0 w1 sg : Nat} {sd bt : Int32} (h : ws[q]? = some (a, stC w0 w1 sg sd bt)) : CD E YX1_wayAt 0 0 [.ref a, .int 1] ws (some (.ref w1)) ws := by
  refine cdV vX1_wayAt (Nat.le_of_ble_eq_true rfl) (lv0 := [(0, .ref a), (1, .int 1)]) rfl ?_
  refine ev_ss DX1_wayAt 1 0 (pc' := 1) (lv' := [(0, .ref _), (1, .int 1)]) (st' := [.int 1]) rfl ?_
  refine ev_ifne DX1_wayAt 1 rfl (tgt := 11) (by decide) (fun _ => ?_) (fun h => absurd h (by decide))
  refine ev_ss DX1_wayAt 1 5 (pc' := 12) (lv' := [(0, .ref _), (1, .int 1)]) (st' := [.ref _]) rfl ?_
  refine ev_get DX1_wayAt 6 GX1 rfl (k0 := 1) (Nat.le_of_ble_eq_true rfl) fX1_18 h rfl ?_
  exact ev_aret DX1_wayAt 7 rfl rfl ⟨rfl, rfl⟩
end
section
theorem m_X4_takeX {E : gE} {ws : va_W} {q a qr ar : Nat} {r : Nat → Int32} {st sz x : Int32} {bs : List Int32} {n : Nat} (hx : x = nI n) (hn : n ≤ 4) (h : ws[q]? = some (a, waitC ar st sz)) (h2 : ws[qr]? = some (ar, iaC E 256 r)) (hq : RQ r st sz bs) :
    C0 E YX4_take 0 0 [.ref a, .int x] ws (fun v w => v = some (.int (takeQ n 0 bs).1) ∧ ∃ st2 sz2, RQ r st2 sz2 (takeQ n 0 bs).2 ∧ w = ws.set q (a, waitC ar st2 sz2)) := by
  subst hx
  exact m_X4_take n hn h h2 hq
/-- what a sign is sent with: the sign, its amplitude, the sign that is heard, how many of its bits are wrong -/
def sgV (f : TF) (bs : List Int32) : Int32 := (takeQ (f 10).toNatClampNeg 0 bs).1
def sgA (f : TF) (bs : List Int32) : Int32 := ampP (f 10) (sgV f bs)
def sgH (sd : Int32) (f : TF) (bs : List Int32) : Int32 := decP f (arrP f (sgA f bs) (drwN sd f))
def sgW (sd : Int32) (f : TF) (bs : List Int32) : Int32 := bcP (sgV f bs ^^^ sgH sd f bs)
def sgF (sd : Int32) (f : TF) (bs : List Int32) : TF := cntB (passP f (sgA f bs) (ampP (f 10) (sgH sd f bs))) (sgW sd f bs)
def sgB (f : TF) (bs : List Int32) : List Int32 := (takeQ (f 10).toNatClampNeg 0 bs).2
theorem cnt10 (f : TF) (b : Int32) : cntP f b 10 = f 10 := by
  unfold cntP
  split <;> split <;> simp [upd]
theorem s4 {X : va_W} {qt at0 qw aw : Nat} {g g2 : TF} {v v2 : va_E} (h1 : g = g2) (h2 : v = v2) : (X.set qt (at0, toneC g)).set qw (aw, v) = (X.set qt (at0, toneC g2)).set qw (aw, v2) := by rw [h1, h2]
/-- a tone that can be walked -/
def TS (f : TF) : Prop := ∃ n : Nat, n ≤ 4 ∧ f 10 = nI n ∧ ¬ f 7 ≤ 0 ∧ ¬ 2 * f 3 + 1 ≤ 0
set_option maxRecDepth 100000 in
set_option maxHeartbeats 4000000 in
theorem m_X1_sendSign_raw {E : gE} {ws : va_W} {qs as w0 w1 sg qw aw ta wt qr ar qt at0 : Nat} {sd bt cm wr st sz : Int32} {lt : Int64} {r : Nat → Int32} {f : TF} {bs : List Int32} (hs : ws[qs]? = some (as, stC w0 w1 sg sd bt)) (hw : ws[qw]? = some (aw, wayC ta wt lt cm wr)) {qq : Nat} (hq : ws[qq]? = some (wt, waitC ar st sz)) (hr : ws[qr]? = some (ar, iaC E 256 r)) (hT : ws[qt]? = some (at0, toneC f)) (hR : RQ r st sz bs) (hf : TS f) : C0 E YX1_sendSign 0 0 [.ref as, .ref aw, .ref at0] ws (fun v w => v = some (.int (sgW sd f bs)) ∧ ∃ st2 sz2, RQ r st2 sz2 (sgB f bs) ∧
      w = (((ws.set qq (wt, waitC ar st2 sz2)).set qs (as, stC w0 w1 sg (drwS sd) bt)).set qt (at0, toneC (sgF sd f bs))).set qw (aw, wayC ta wt (recL lt (f 10) (sgH sd f bs)) (cm + f 10) (wr + sgW sd f bs))) := by
  obtain ⟨n, hn, hb, hg, hm⟩ := hf
  have hbn : (f 10).toNatClampNeg = n := by rw [hb, nI_clamp (by omega)]
  refine c0V vX1_sendSign (Nat.le_of_ble_eq_true rfl) (lv0 := [(0, .ref as), (1, .ref aw), (2, .ref at0)]) rfl ?_
  refine ev_ss DX1_sendSign 1 0 (pc' := 1) (lv' := [(0, .ref _), (1, .ref _), (2, .ref _)]) (st' := [.ref _]) rfl ?_
  refine ev_get DX1_sendSign 1 GX5 rfl (k0 := 1) (Nat.le_of_ble_eq_true rfl) fX1_78 hw rfl ?_
  refine ev_ss DX1_sendSign 1 2 (pc' := 5) (lv' := [(0, .ref _), (1, .ref _), (2, .ref _)]) (st' := [.ref _, .ref _]) rfl ?_
  refine ev_get DX1_sendSign 3 GX3 rfl (k0 := 10) (Nat.le_of_ble_eq_true rfl) fX1_82 hT rfl ?_
  refine ev_rV DX1_sendSign 4 (m_X4_takeX hb hn hq hr hR) vX4_take rfl qX1_85 rfl hq rfl (hd_of rfl rfl rfl rfl) (fun v w hvw => ?_)
  obtain ⟨rfl, st2, sz2, hq2, rfl⟩ := hvw
  refine ev_ss DX1_sendSign 3 5 (pc' := 14) (lv' := [(3, .int _), (0, .ref _), (1, .ref _), (2, .ref _)]) (st' := [.int _, .ref _]) rfl ?_
  refine ev_cV DX1_sendSign 8 (m_X3_amplitudeOf (wset_o hT hq rfl)) vX3_amplitudeOf rfl qX1_90 rfl (wset_o hT hq rfl) rfl (hd_of rfl rfl rfl rfl) ?_
  refine ev_ss DX1_sendSign 6 9 (pc' := 25) (lv' := [(4, .int _), (3, .int _), (0, .ref _), (1, .ref _), (2, .ref _)]) (st' := [.ref _, .ref _, .int _, .ref _, .ref _]) rfl ?_
  refine ev_cV DX1_sendSign 15 (m_X1_drawNoise (wset_o hs hq rfl) (wset_o hT hq rfl) hm) vX1_drawNoise rfl qX1_93 rfl (wset_o hs hq rfl) rfl (hd_of rfl rfl rfl rfl) ?_
  refine ev_cV DX1_sendSign 16 (m_X3_arriving (wset_o (wset_o hT hq rfl) (wset_o hs hq rfl) rfl)) vX3_arriving rfl qX1_97 rfl (wset_o (wset_o hT hq rfl) (wset_o hs hq rfl) rfl) rfl (hd_of rfl rfl rfl rfl) ?_
  refine ev_cV DX1_sendSign 17 (m_X3_decide (wset_o (wset_o hT hq rfl) (wset_o hs hq rfl) rfl) hg) vX3_decide rfl qX1_101 rfl (wset_o (wset_o hT hq rfl) (wset_o hs hq rfl) rfl) rfl (hd_of rfl rfl rfl rfl) ?_
  refine ev_ss DX1_sendSign 4 18 (pc' := 40) (lv' := [(5, .int _), (4, .int _), (3, .int _), (0, .ref _), (1, .ref _), (2, .ref _)]) (st' := [.int _]) rfl ?_
  refine ev_cS DX1_sendSign 22 m_J6_bitCount vJ6_bitCount_0f7a4 rfl qX1_104 rfl (hd_of rfl rfl rfl rfl) ?_
  refine ev_ss DX1_sendSign 5 23 (pc' := 51) (lv' := [(6, .int _), (5, .int _), (4, .int _), (3, .int _), (0, .ref _), (1, .ref _), (2, .ref _)]) (st' := [.int _, .ref _, .int _, .ref _]) rfl ?_
  refine ev_cV DX1_sendSign 28 (m_X3_amplitudeOf (wset_o (wset_o hT hq rfl) (wset_o hs hq rfl) rfl)) vX3_amplitudeOf rfl qX1_90 rfl (wset_o (wset_o hT hq rfl) (wset_o hs hq rfl) rfl) rfl (hd_of rfl rfl rfl rfl) ?_
  refine ev_cV DX1_sendSign 29 (m_X3_pass (wset_o (wset_o hT hq rfl) (wset_o hs hq rfl) rfl)) vX3_pass rfl qX1_109 rfl (wset_o (wset_o hT hq rfl) (wset_o hs hq rfl) rfl) rfl (hd_of rfl rfl rfl rfl) ?_
  refine ev_ss DX1_sendSign 2 30 (pc' := 60) (lv' := [(6, .int _), (5, .int _), (4, .int _), (3, .int _), (0, .ref _), (1, .ref _), (2, .ref _)]) (st' := [.int _, .ref _]) rfl ?_
  refine ev_ifle DX1_sendSign 32 rfl (tgt := 67) (by decide) (fun c_1 => ?_) (fun c_1 => ?_)
  · refine ev_ss DX1_sendSign 1 35 (pc' := 68) (lv' := [(6, .int _), (5, .int _), (4, .int _), (3, .int _), (0, .ref _), (1, .ref _), (2, .ref _)]) (st' := [.int 0, .ref _]) rfl ?_
    refine ev_cV DX1_sendSign 36 (cd_hs (m_X3_countSign (wset_get (wset_o (wset_o hT hq rfl) (wset_o hs hq rfl) rfl))) wset_set) vX3_countSign rfl qX1_113 rfl (wset_get (wset_o (wset_o hT hq rfl) (wset_o hs hq rfl) rfl)) rfl (hd_of rfl rfl rfl rfl) ?_
    refine ev_ss DX1_sendSign 3 37 (pc' := 75) (lv' := [(6, .int _), (5, .int _), (4, .int _), (3, .int _), (0, .ref _), (1, .ref _), (2, .ref _)]) (st' := [.ref _, .int _, .ref _]) rfl ?_
    refine ev_get DX1_sendSign 40 GX3 rfl (k0 := 10) (Nat.le_of_ble_eq_true rfl) fX1_82 (wset_get (wset_o (wset_o hT hq rfl) (wset_o hs hq rfl) rfl)) rfl ?_
    refine ev_ss DX1_sendSign 1 41 (pc' := 80) (lv' := [(6, .int _), (5, .int _), (4, .int _), (3, .int _), (0, .ref _), (1, .ref _), (2, .ref _)]) (st' := [.int _, .int _, .int _, .ref _]) rfl ?_
    refine ev_cV DX1_sendSign 42 (m_X5_receive (wset_o (wset_o (wset_o hw hq rfl) (wset_o hs hq rfl) rfl) (wset_o (wset_o hT hq rfl) (wset_o hs hq rfl) rfl) rfl)) vX5_receive rfl qX1_117 rfl (wset_o (wset_o (wset_o hw hq rfl) (wset_o hs hq rfl) rfl) (wset_o (wset_o hT hq rfl) (wset_o hs hq rfl) rfl) rfl) rfl (hd_of rfl rfl rfl rfl) ?_
    refine ev_ss DX1_sendSign 1 43 (pc' := 85) (lv' := [(6, .int _), (5, .int _), (4, .int _), (3, .int _), (0, .ref _), (1, .ref _), (2, .ref _)]) (st' := [.int _]) rfl ?_
    exact ev_iret DX1_sendSign 44 rfl rfl ⟨by rw [← hbn]; rfl, st2, sz2, by rw [sgB, hbn]; exact hq2, by subst hbn; exact s4 (Eq.symm (if_pos c_1)) (by rw [cnt10]; rfl)⟩
  · refine ev_ss DX1_sendSign 1 33 (pc' := 64) (lv' := [(6, .int _), (5, .int _), (4, .int _), (3, .int _), (0, .ref _), (1, .ref _), (2, .ref _)]) (st' := [.int 1, .ref _]) rfl ?_
    refine ev_goto DX1_sendSign 34 rfl (tgt := 68) (by decide) ?_
    refine ev_cV DX1_sendSign 36 (cd_hs (m_X3_countSign (wset_get (wset_o (wset_o hT hq rfl) (wset_o hs hq rfl) rfl))) wset_set) vX3_countSign rfl qX1_113 rfl (wset_get (wset_o (wset_o hT hq rfl) (wset_o hs hq rfl) rfl)) rfl (hd_of rfl rfl rfl rfl) ?_
    refine ev_ss DX1_sendSign 3 37 (pc' := 75) (lv' := [(6, .int _), (5, .int _), (4, .int _), (3, .int _), (0, .ref _), (1, .ref _), (2, .ref _)]) (st' := [.ref _, .int _, .ref _]) rfl ?_
    refine ev_get DX1_sendSign 40 GX3 rfl (k0 := 10) (Nat.le_of_ble_eq_true rfl) fX1_82 (wset_get (wset_o (wset_o hT hq rfl) (wset_o hs hq rfl) rfl)) rfl ?_
    refine ev_ss DX1_sendSign 1 41 (pc' := 80) (lv' := [(6, .int _), (5, .int _), (4, .int _), (3, .int _), (0, .ref _), (1, .ref _), (2, .ref _)]) (st' := [.int _, .int _, .int _, .ref _]) rfl ?_
    refine ev_cV DX1_sendSign 42 (m_X5_receive (wset_o (wset_o (wset_o hw hq rfl) (wset_o hs hq rfl) rfl) (wset_o (wset_o hT hq rfl) (wset_o hs hq rfl) rfl) rfl)) vX5_receive rfl qX1_117 rfl (wset_o (wset_o (wset_o hw hq rfl) (wset_o hs hq rfl) rfl) (wset_o (wset_o hT hq rfl) (wset_o hs hq rfl) rfl) rfl) rfl (hd_of rfl rfl rfl rfl) ?_
    refine ev_ss DX1_sendSign 1 43 (pc' := 85) (lv' := [(6, .int _), (5, .int _), (4, .int _), (3, .int _), (0, .ref _), (1, .ref _), (2, .ref _)]) (st' := [.int _]) rfl ?_
    exact ev_iret DX1_sendSign 44 rfl rfl ⟨by rw [← hbn]; rfl, st2, sz2, by rw [sgB, hbn]; exact hq2, by subst hbn; exact s4 (Eq.symm (if_neg c_1)) (by rw [cnt10]; rfl)⟩
end
section
theorem c0_mono {E : gE} {Y : MI} {k n : Nat} {av : List Value} {ws : va_W} {Pr Pr' : Option Value → va_W → Prop} (h : C0 E Y k n av ws Pr) (hi : ∀ v w, Pr v w → Pr' v w) : C0 E Y k n av ws Pr' := by
  intro p e ha hc hk s m args below hf happ hP hK
  obtain ⟨j, o, h1, h2, h3, ⟨⟨v, w, e1, e2, e3⟩, e4⟩, e5⟩ := h p e ha hc hk s m args below hf happ hP hK
  exact ⟨j, o, h1, h2, h3, ⟨⟨v, w, e1, hi v w e2, e3⟩, e4⟩, e5⟩
/-- a way: its tones, the bits that wait, the latest bits, how many came, how many of them wrong -/
abbrev WS : Type := (Nat → TF) × List Int32 × Int64 × Int32 × Int32
def arT (ad : Nat → Nat) (iw t : Nat) : Option Nat := if t < 8 then some (ad (iw + 4 + t)) else none
theorem arT_at {ad : Nat → Nat} {iw i : Nat} (h : i < 8) : arT ad iw (nI i).toNatClampNeg = some (ad (iw + 4 + i)) := by
  rw [nI_clamp (by omega)]
  exact if_pos h
def WY (E : gE) (ad : Nat → Nat) (ws : va_W) (iw : Nat) (σ : WS) : Prop := ∃ (st sz : Int32) (r : Nat → Int32), ws[iw]? = some (ad iw, wayC (ad (iw + 1)) (ad (iw + 2)) σ.2.2.1 σ.2.2.2.1 σ.2.2.2.2) ∧ ws[iw + 1]? = some (ad (iw + 1), toA E (arT ad iw)) ∧ ws[iw + 2]? = some (ad (iw + 2), waitC (ad (iw + 3)) st sz) ∧ ws[iw + 3]? = some (ad (iw + 3), iaC E 256 r) ∧ RQ r st sz σ.2.1 ∧ ∀ t, t < 8 → ws[iw + 4 + t]? = some (ad (iw + 4 + t), toneC (σ.1 t))
def SD (E : gE) (ad : Nat → Nat) (ws : va_W) (is : Nat) (sd bt : Int32) (se : Nat → Int32) : Prop := ws[is]? = some (ad is, stC (ad (is + 1)) (ad (is + 13)) (ad (is + 25)) sd bt) ∧ ∃ g : Nat → Int32, ws[is + 25]? = some (ad (is + 25), iaC E 3 g) ∧ ∀ j, j < 3 → g j = se j
/-- nothing else has changed -/
def SO (is iw : Nat) (ws w : va_W) : Prop := ∀ j, j ≠ is → (j < iw ∨ iw + 12 ≤ j) → w[j]? = ws[j]?
theorem SO.rf {is iw : Nat} {ws : va_W} : SO is iw ws ws := fun _ _ _ => rfl
theorem SO.tr {is iw : Nat} {ws w w2 : va_W} (h : SO is iw ws w) (h2 : SO is iw w w2) : SO is iw ws w2 := fun j a b => (h2 j a b).trans (h j a b)
/-- a state and its way lie apart -/
def AP (is iw : Nat) : Prop := is < iw ∧ iw + 12 ≤ is + 25
theorem WY.of {E : gE} {ad : Nat → Nat} {ws w : va_W} {iw : Nat} {σ : WS} (h : WY E ad ws iw σ) (hq : ∀ j, iw ≤ j → j < iw + 12 → w[j]? = ws[j]?) : WY E ad w iw σ := by
  obtain ⟨st, sz, r, h1, h2, h3, h4, h5, h6⟩ := h
  exact ⟨st, sz, r, by rw [hq _ (by omega) (by omega)]; exact h1, by rw [hq _ (by omega) (by omega)]; exact h2, by rw [hq _ (by omega) (by omega)]; exact h3, by rw [hq _ (by omega) (by omega)]; exact h4, h5, fun t ht => by rw [hq _ (by omega) (by omega)]; exact h6 t ht⟩
theorem SD.of {E : gE} {ad : Nat → Nat} {ws w : va_W} {is : Nat} {sd bt : Int32} {se : Nat → Int32} (h : SD E ad ws is sd bt se) (h1 : w[is]? = ws[is]?) (h2 : w[is + 25]? = ws[is + 25]?) : SD E ad w is sd bt se := by
  obtain ⟨a, g, b, c⟩ := h
  exact ⟨h1.trans a, g, h2.trans b, c⟩
theorem SD.seed {E : gE} {ad : Nat → Nat} {ws : va_W} {is : Nat} {sd bt sd2 bt2 : Int32} {se : Nat → Int32} (h : SD E ad ws is sd bt se) : SD E ad (ws.set is (ad is, stC (ad (is + 1)) (ad (is + 13)) (ad (is + 25)) sd2 bt2)) is sd2 bt2 se := by
  obtain ⟨a, g, b, c⟩ := h
  exact ⟨wset_get a, g, wset_n b (by omega), c⟩
theorem WY.tone {E : gE} {ad : Nat → Nat} {ws : va_W} {iw t : Nat} {σ : WS} {f : TF} (h : WY E ad ws iw σ) (ht : t < 8) : WY E ad (ws.set (iw + 4 + t) (ad (iw + 4 + t), toneC f)) iw (va_up σ.1 t f, σ.2) := by
  obtain ⟨st, sz, r, h1, h2, h3, h4, h5, h6⟩ := h
  refine ⟨st, sz, r, wset_n h1 (by omega), wset_n h2 (by omega), wset_n h3 (by omega), wset_n h4 (by omega), h5, fun u hu => ?_⟩
  by_cases e : u = t
  · subst e
    simp only [va_up, if_true]
    exact wset_get (h6 u hu)
  · simp only [va_up, if_neg e]
    exact wset_n (h6 u hu) (by omega)
theorem WY.way {E : gE} {ad : Nat → Nat} {ws : va_W} {iw : Nat} {σ : WS} {lt : Int64} {cm wr : Int32} (h : WY E ad ws iw σ) : WY E ad (ws.set iw (ad iw, wayC (ad (iw + 1)) (ad (iw + 2)) lt cm wr)) iw (σ.1, σ.2.1, lt, cm, wr) := by
  obtain ⟨st, sz, r, h1, h2, h3, h4, h5, h6⟩ := h
  exact ⟨st, sz, r, wset_get h1, wset_n h2 (by omega), wset_n h3 (by omega), wset_n h4 (by omega), h5, fun u hu => wset_n (h6 u hu) (by omega)⟩
theorem WY.wait {E : gE} {ad : Nat → Nat} {ws : va_W} {iw : Nat} {σ : WS} {st sz st2 sz2 : Int32} {r : Nat → Int32} {bs : List Int32} (h : WY E ad ws iw σ) (h3' : ws[iw + 2]? = some (ad (iw + 2), waitC (ad (iw + 3)) st sz)) (h4' : ws[iw + 3]? = some (ad (iw + 3), iaC E 256 r)) (hq : RQ r st2 sz2 bs) : WY E ad (ws.set (iw + 2) (ad (iw + 2), waitC (ad (iw + 3)) st2 sz2)) iw (σ.1, bs, σ.2.2) := by
  obtain ⟨st0, sz0, r0, h1, h2, h3, h4, h5, h6⟩ := h
  exact ⟨st2, sz2, r, wset_n h1 (by omega), wset_n h2 (by omega), wset_get h3, wset_n h4' (by omega), hq, fun u hu => wset_n (h6 u hu) (by omega)⟩
theorem WY.st {E : gE} {ad : Nat → Nat} {ws : va_W} {iw is : Nat} {σ : WS} {x : Nat × va_E} (h : WY E ad ws iw σ) (hi : is < iw ∨ iw + 12 ≤ is) : WY E ad (ws.set is x) iw σ := h.of (fun j a b => List.getElem?_set_ne (by omega))
/-- a sign on a tone -/
def ssW (sd : Int32) (σ : WS) (t : Nat) : WS := (va_up σ.1 t (sgF sd (σ.1 t) σ.2.1), sgB (σ.1 t) σ.2.1, recL σ.2.2.1 (σ.1 t 10) (sgH sd (σ.1 t) σ.2.1), σ.2.2.2.1 + σ.1 t 10, σ.2.2.2.2 + sgW sd (σ.1 t) σ.2.1)
theorem m_X1_sendSign {E : gE} {ad : Nat → Nat} {ws : va_W} {is iw t : Nat} {sd bt : Int32} {se : Nat → Int32} {σ : WS} (hS : SD E ad ws is sd bt se) (hW : WY E ad ws iw σ) (ht : t < 8) (hi : AP is iw) (hf : TS (σ.1 t)) :
    C0 E YX1_sendSign 0 0 [.ref (ad is), .ref (ad iw), .ref (ad (iw + 4 + t))] ws (fun v w => v = some (.int (sgW sd (σ.1 t) σ.2.1)) ∧ SD E ad w is (drwS sd) bt se ∧ WY E ad w iw (ssW sd σ t) ∧ SO is iw ws w) := by
  obtain ⟨hi1, hi2⟩ := hi
  obtain ⟨st, sz, r, h1, h2, h3, h4, h5, h6⟩ := id hW
  refine c0_mono (m_X1_sendSign_raw hS.1 h1 h3 h4 (h6 t ht) h5 hf) (fun v w hvw => ?_)
  obtain ⟨e1, st2, sz2, hq2, e2⟩ := hvw
  have hW1 := (((hW.wait (sz := sz) (st := st) h3 h4 hq2).st (is := is) (x := (ad is, stC (ad (is + 1)) (ad (is + 13)) (ad (is + 25)) (drwS sd) bt)) (by omega)).tone ht (f := sgF sd (σ.1 t) σ.2.1)).way (lt := recL σ.2.2.1 (σ.1 t 10) (sgH sd (σ.1 t) σ.2.1)) (cm := σ.2.2.2.1 + σ.1 t 10) (wr := σ.2.2.2.2 + sgW sd (σ.1 t) σ.2.1)
  have hS1 : SD E ad ((ws.set (iw + 2) (ad (iw + 2), waitC (ad (iw + 3)) st2 sz2)).set is (ad is, stC (ad (is + 1)) (ad (is + 13)) (ad (is + 25)) (drwS sd) bt)) is (drwS sd) bt se := (hS.of (w := ws.set (iw + 2) (ad (iw + 2), waitC (ad (iw + 3)) st2 sz2)) (List.getElem?_set_ne (by omega)) (List.getElem?_set_ne (by omega))).seed
  subst e2
  refine ⟨e1, (hS1.of (List.getElem?_set_ne (by omega)) (List.getElem?_set_ne (by omega))).of (List.getElem?_set_ne (by omega)) (List.getElem?_set_ne (by omega)), hW1, fun j a b => ?_⟩
  rw [List.getElem?_set_ne (by omega), List.getElem?_set_ne (by omega), List.getElem?_set_ne (by omega), List.getElem?_set_ne (by omega)]
/-- eight, that nothing unrolls -/
noncomputable def k8 : Nat := Classical.choose (⟨8, rfl⟩ : ∃ n : Nat, n = 8)
theorem k8e : k8 = 8 := Classical.choose_spec (⟨8, rfl⟩ : ∃ n : Nat, n = 8)
def TA (σ : WS) : Prop := ∀ t, t < 8 → TS (σ.1 t)
def sndT (sd : Int32) (σ : WS) : Nat → Int32 × Int32 × WS
  | 0 => (0, sd, σ)
  | i + 1 => ((sndT sd σ i).1 + sgW (sndT sd σ i).2.1 ((sndT sd σ i).2.2.1 i) (sndT sd σ i).2.2.2.1, drwS (sndT sd σ i).2.1, ssW (sndT sd σ i).2.1 (sndT sd σ i).2.2 i)
def shyT (m : Int32) (σ : WS) : Nat → WS
  | 0 => σ
  | i + 1 => (va_up (shyT m σ i).1 i (shyP ((shyT m σ i).1 i) m), (shyT m σ i).2)
noncomputable def btP (m sd : Int32) (σ : WS) : Int32 × Int32 × WS := ((sndT sd σ k8).1, (sndT sd σ k8).2.1, shyT m (sndT sd σ k8).2.2 k8)
noncomputable def btN (m sd : Int32) (σ : WS) : Nat → Int32 × Int32 × WS
  | 0 => (0, sd, σ)
  | n + 1 => ((btN m sd σ n).1 + (btP m (btN m sd σ n).2.1 (btN m sd σ n).2.2).1, (btP m (btN m sd σ n).2.1 (btN m sd σ n).2.2).2)
theorem sndT_0 {sd : Int32} {σ : WS} : sndT sd σ 0 = (0, sd, σ) := rfl
theorem shyT_0 {m : Int32} {σ : WS} : shyT m σ 0 = σ := rfl
theorem btN_0 {m sd : Int32} {σ : WS} : btN m sd σ 0 = (0, sd, σ) := rfl
theorem btN_s {m sd : Int32} {σ : WS} {i : Nat} : btN m sd σ (i + 1) = ((btN m sd σ i).1 + (sndT (btN m sd σ i).2.1 (btN m sd σ i).2.2 k8).1, (sndT (btN m sd σ i).2.1 (btN m sd σ i).2.2 k8).2.1, shyT m (sndT (btN m sd σ i).2.1 (btN m sd σ i).2.2 k8).2.2 k8) := rfl
theorem cnt_keep (f : TF) (b : Int32) (j : Nat) (hj : j ≠ 12 ∧ j ≠ 14 ∧ j ≠ 15) : cntP f b j = f j := by
  unfold cntP
  split <;> split <;> simp [upd, hj]
theorem sgF_keep (sd : Int32) (f : TF) (bs : List Int32) (j : Nat) (hj : j ≠ 12 ∧ j ≠ 14 ∧ j ≠ 15 ∧ j ≠ 4 ∧ j ≠ 5 ∧ j ≠ 6 ∧ j ≠ 16 ∧ j ≠ 17) : sgF sd f bs j = f j := by
  unfold sgF cntB
  split
  · rw [cnt_keep _ _ _ ⟨hj.1, hj.2.1, hj.2.2.1⟩]; simp [passP, upd, hj]
  · rw [cnt_keep _ _ _ ⟨hj.1, hj.2.1, hj.2.2.1⟩]; simp [passP, upd, hj]
theorem TS_sgF {sd : Int32} {f : TF} {bs : List Int32} (h : TS f) : TS (sgF sd f bs) := by
  obtain ⟨n, h1, h2, h3, h4⟩ := h
  exact ⟨n, h1, by rw [sgF_keep _ _ _ 10 (by decide)]; exact h2, by rw [sgF_keep _ _ _ 7 (by decide)]; exact h3, by rw [sgF_keep _ _ _ 3 (by decide)]; exact h4⟩
theorem TS_shyP {m : Int32} {f : TF} (h : TS f) : TS (shyP f m) := by
  obtain ⟨n, h1, h2, h3, h4⟩ := h
  unfold shyP
  split
  · exact ⟨n, h1, h2, h3, h4⟩
  · split
    · exact ⟨n, h1, h2, h3, h4⟩
    · rename_i h5 h6
      cases n with
      | zero => exact absurd (by rw [h2]; decide) h5
      | succ n => exact ⟨n, by omega, by simp only [upd]; show f 10 - 1 = _; rw [h2, nI_pred], h3, h4⟩
theorem TA_ssW {sd : Int32} {σ : WS} {t : Nat} (h : TA σ) (ht : t < 8) : TA (ssW sd σ t) := by
  intro u hu
  unfold ssW
  simp only [va_up]
  split
  · exact TS_sgF (h t ht)
  · exact h u hu
theorem TA_sndT {sd : Int32} {σ : WS} (h : TA σ) : ∀ i, i ≤ 8 → TA (sndT sd σ i).2.2
  | 0, _ => h
  | i + 1, hi => TA_ssW (TA_sndT h i (by omega)) (by omega)
theorem TA_shyT {m : Int32} {σ : WS} (h : TA σ) : ∀ i, i ≤ 8 → TA (shyT m σ i)
  | 0, _ => h
  | i + 1, hi => by
    intro u hu
    unfold shyT
    simp only [va_up]
    split
    · exact TS_shyP (TA_shyT h i (by omega) i (by omega))
    · exact TA_shyT h i (by omega) u hu
theorem TA_btP {m sd : Int32} {σ : WS} (h : TA σ) : TA (btP m sd σ).2.2 := TA_shyT (TA_sndT h k8 (Nat.le_of_eq k8e)) k8 (Nat.le_of_eq k8e)
theorem TA_btN {m sd : Int32} {σ : WS} (h : TA σ) : ∀ n, TA (btN m sd σ n).2.2
  | 0 => h
  | n + 1 => TA_btP (TA_btN h n)
set_option maxRecDepth 100000 in
set_option maxHeartbeats 4000000 in
theorem snd_in1 {E : gE} {ad : Nat → Nat} {Pr : Option Value → va_W → Prop} {is iw n : Nat} {bt bx : Int32} {se : Nat → Int32} (hi : AP is iw) {ws0 : va_W} {acc0 sd : Int32} {σ : WS} (hA : TA σ)
    (kt : ∀ (w : va_W) (acc x : Int32), acc = acc0 + (sndT sd σ k8).1 → SD E ad w is (sndT sd σ k8).2.1 bt se → WY E ad w iw (sndT sd σ k8).2.2 → SO is iw ws0 w → Ev E YX1_sendBeats Pr nX 0 0 42 [(0, .ref (ad is)), (1, .ref (ad iw)), (2, .int (nI n)), (3, .int acc), (4, .int bx), (5, .int x)] [] w) :
    ∀ (m i : Nat) (w : va_W) (acc x : Int32), i + m = k8 → x = nI i → acc = acc0 + (sndT sd σ i).1 → SD E ad w is (sndT sd σ i).2.1 bt se → WY E ad w iw (sndT sd σ i).2.2 → SO is iw ws0 w → Ev E YX1_sendBeats Pr nX 0 0 14 [(0, .ref (ad is)), (1, .ref (ad iw)), (2, .int (nI n)), (3, .int acc), (4, .int bx), (5, .int x)] [] w := by
  have e8 := k8e
  intro m
  induction m with
  | zero =>
    intro i w acc x hm hx ha hS hW hO
    obtain rfl : i = k8 := by omega
    subst hx
    refine ev_ss DX1_sendBeats 2 9 (pc' := 18) (lv' := [(0, .ref _), (1, .ref _), (2, .int _), (3, .int _), (4, .int _), (5, .int _)]) (st' := [.int 8, .int _]) rfl ?_
    refine ev_icge DX1_sendBeats 11 rfl (tgt := 42) (by decide) (fun _ => ?_) (fun h => h.elim (by rw [k8e]; decide))
    exact kt w acc _ ha hS hW hO
  | succ m ih =>
    intro i w acc x hm hx ha hS hW hO
    subst hx
    obtain ⟨st, sz, r, h1, h2, h3, h4, h5, h6⟩ := id hW
    refine ev_ss DX1_sendBeats 2 9 (pc' := 18) (lv' := [(0, .ref _), (1, .ref _), (2, .int _), (3, .int _), (4, .int _), (5, .int _)]) (st' := [.int 8, .int _]) rfl ?_
    refine ev_icge DX1_sendBeats 11 rfl (tgt := 42) (by decide) (fun h => absurd h (nI_ge (b := 8) (by omega) (by decide))) (fun _ => ?_)
    refine ev_ss DX1_sendBeats 4 12 (pc' := 25) (lv' := [(0, .ref _), (1, .ref _), (2, .int _), (3, .int _), (4, .int _), (5, .int _)]) (st' := [.ref _, .ref _, .ref _, .int _]) rfl ?_
    refine ev_get DX1_sendBeats 16 GX5 rfl (k0 := 0) (Nat.le_of_ble_eq_true rfl) fX1_66 h1 rfl ?_
    refine ev_ss DX1_sendBeats 1 17 (pc' := 30) (lv' := [(0, .ref _), (1, .ref _), (2, .int _), (3, .int _), (4, .int _), (5, .int _)]) (st' := [.int _, .ref _, .ref _, .ref _, .int _]) rfl ?_
    refine ev_aald4 DX1_sendBeats 18 rfl h2 (vp_in_nI (by omega) (by decide)) (b := ad (iw + 4 + i)) (arT_at (by omega)) ?_
    refine ev_rV DX1_sendBeats 19 (m_X1_sendSign hS hW (t := i) (by omega) hi (TA_sndT hA i (by omega) i (by omega))) vX1_sendSign rfl qX1_70 rfl hS.1 rfl (hd_of rfl rfl rfl rfl) (fun v w2 hvw => ?_)
    obtain ⟨rfl, hS2, hW2, hO2⟩ := hvw
    refine ev_ss DX1_sendBeats 3 20 (pc' := 39) (lv' := [(5, .int _), (3, .int _), (0, .ref _), (1, .ref _), (2, .int _), (4, .int _)]) (st' := []) rfl ?_
    refine ev_goto DX1_sendBeats 23 rfl (tgt := 14) (by decide) ?_
    refine ev_lvp (lv2 := [(0, .ref _), (1, .ref _), (2, .int _), (3, .int _), (4, .int _), (5, .int _)]) [2, 3, 4, 1, 5, 0] rfl ?_
    exact ih (i + 1) w2 _ _ (by omega) (nI_1 i) (by rw [ha]; exact Int32.add_assoc _ _ _) hS2 hW2 (hO.tr hO2)
set_option maxRecDepth 100000 in
set_option maxHeartbeats 4000000 in
theorem snd_in2 {E : gE} {ad : Nat → Nat} {Pr : Option Value → va_W → Prop} {is iw n : Nat} {bt bx : Int32} {se : Nat → Int32} (hi : AP is iw) {ws0 : va_W} {acc sd : Int32} {σ : WS}
    (kt : ∀ (w : va_W) (x : Int32), SD E ad w is sd bt se → WY E ad w iw (shyT (se 2) σ k8) → SO is iw ws0 w → Ev E YX1_sendBeats Pr nX 0 0 74 [(0, .ref (ad is)), (1, .ref (ad iw)), (2, .int (nI n)), (3, .int acc), (4, .int bx), (5, .int x)] [] w) :
    ∀ (m i : Nat) (w : va_W) (x : Int32), i + m = k8 → x = nI i → SD E ad w is sd bt se → WY E ad w iw (shyT (se 2) σ i) → SO is iw ws0 w → Ev E YX1_sendBeats Pr nX 0 0 45 [(0, .ref (ad is)), (1, .ref (ad iw)), (2, .int (nI n)), (3, .int acc), (4, .int bx), (5, .int x)] [] w := by
  have e8 := k8e
  intro m
  induction m with
  | zero =>
    intro i w x hm hx hS hW hO
    obtain rfl : i = k8 := by omega
    subst hx
    refine ev_ss DX1_sendBeats 2 26 (pc' := 49) (lv' := [(0, .ref _), (1, .ref _), (2, .int _), (3, .int _), (4, .int _), (5, .int _)]) (st' := [.int 8, .int _]) rfl ?_
    refine ev_icge DX1_sendBeats 28 rfl (tgt := 74) (by decide) (fun _ => ?_) (fun h => h.elim (by rw [k8e]; decide))
    exact kt w _ hS hW hO
  | succ m ih =>
    intro i w x hm hx hS hW hO
    subst hx
    obtain ⟨st, sz, r, h1, h2, h3, h4, h5, h6⟩ := id hW
    obtain ⟨hs1, g, hs2, hs3⟩ := id hS
    refine ev_ss DX1_sendBeats 2 26 (pc' := 49) (lv' := [(0, .ref _), (1, .ref _), (2, .int _), (3, .int _), (4, .int _), (5, .int _)]) (st' := [.int 8, .int _]) rfl ?_
    refine ev_icge DX1_sendBeats 28 rfl (tgt := 74) (by decide) (fun h => absurd h (nI_ge (b := 8) (by omega) (by decide))) (fun _ => ?_)
    refine ev_ss DX1_sendBeats 1 29 (pc' := 53) (lv' := [(0, .ref _), (1, .ref _), (2, .int _), (3, .int _), (4, .int _), (5, .int _)]) (st' := [.ref _]) rfl ?_
    refine ev_get DX1_sendBeats 30 GX5 rfl (k0 := 0) (Nat.le_of_ble_eq_true rfl) fX1_66 h1 rfl ?_
    refine ev_ss DX1_sendBeats 1 31 (pc' := 58) (lv' := [(0, .ref _), (1, .ref _), (2, .int _), (3, .int _), (4, .int _), (5, .int _)]) (st' := [.int _, .ref _]) rfl ?_
    refine ev_aald4 DX1_sendBeats 32 rfl h2 (vp_in_nI (by omega) (by decide)) (b := ad (iw + 4 + i)) (arT_at (by omega)) ?_
    refine ev_ss DX1_sendBeats 1 33 (pc' := 60) (lv' := [(0, .ref _), (1, .ref _), (2, .int _), (3, .int _), (4, .int _), (5, .int _)]) (st' := [.ref _, .ref _]) rfl ?_
    refine ev_get DX1_sendBeats 34 GX1 rfl (k0 := 2) (Nat.le_of_ble_eq_true rfl) fX1_21 hs1 rfl ?_
    refine ev_ss DX1_sendBeats 1 35 (pc' := 64) (lv' := [(0, .ref _), (1, .ref _), (2, .int _), (3, .int _), (4, .int _), (5, .int _)]) (st' := [.int 2, .ref _, .ref _]) rfl ?_
    refine ev_iald DX1_sendBeats 36 rfl hs2 (by unfold vp_in; decide) ?_
    refine ev_cV DX1_sendBeats 37 (m_X3_becomeShyAt (h6 i (by omega))) vX3_becomeShyAt rfl qX1_74 rfl (h6 i (by omega)) rfl (hd_of rfl rfl rfl rfl) ?_
    refine ev_ss DX1_sendBeats 1 38 (pc' := 71) (lv' := [(5, .int _), (0, .ref _), (1, .ref _), (2, .int _), (3, .int _), (4, .int _)]) (st' := []) rfl ?_
    refine ev_goto DX1_sendBeats 39 rfl (tgt := 45) (by decide) ?_
    refine ev_lvp (lv2 := [(0, .ref _), (1, .ref _), (2, .int _), (3, .int _), (4, .int _), (5, .int _)]) [1, 2, 3, 4, 5, 0] rfl ?_
    have e2 : g ((2 : Int32).toNatClampNeg) = se 2 := hs3 2 (by decide)
    have hW2 := hW.tone (t := i) (by omega) (f := shyP ((shyT (se 2) σ i).1 i) (se 2))
    have hw3 : Ev E YX1_sendBeats Pr nX 0 0 45 [(0, .ref (ad is)), (1, .ref (ad iw)), (2, .int (nI n)), (3, .int acc), (4, .int bx), (5, .int (nI i + 1))] [] (w.set (iw + 4 + i) (ad (iw + 4 + i), toneC (shyP ((shyT (se 2) σ i).1 i) (se 2)))) := ih (i + 1) _ _ (by omega) (nI_1 i) (hS.of (List.getElem?_set_ne (by have := hi.1; omega)) (List.getElem?_set_ne (by have := hi.2; omega))) hW2 (hO.tr (fun j a b => List.getElem?_set_ne (by omega)))
    exact (congrArg (fun z => Ev E YX1_sendBeats Pr nX 0 0 45 [(0, .ref (ad is)), (1, .ref (ad iw)), (2, .int (nI n)), (3, .int acc), (4, .int bx), (5, .int (nI i + 1))] [] (w.set (iw + 4 + i) (ad (iw + 4 + i), toneC (shyP ((shyT (se 2) σ i).1 i) z)))) e2).mpr hw3
set_option maxRecDepth 100000 in
set_option maxHeartbeats 4000000 in
theorem m_X1_sendBeats {E : gE} {ad : Nat → Nat} {ws : va_W} {is iw n : Nat} {sd bt : Int32} {se : Nat → Int32} {σ : WS} (hn : n < 2 ^ 31) (hi : AP is iw) (hS0 : SD E ad ws is sd bt se) (hW0 : WY E ad ws iw σ) (hA : TA σ) :
    C0 E YX1_sendBeats 0 0 [.ref (ad is), .ref (ad iw), .int (nI n)] ws (fun v w => v = some (.int (btN (se 2) sd σ n).1) ∧ SD E ad w is (btN (se 2) sd σ n).2.1 (bt + nI n) se ∧ WY E ad w iw (btN (se 2) sd σ n).2.2 ∧ SO is iw ws w) := by
  refine c0V vX1_sendBeats (Nat.le_of_ble_eq_true rfl) (lv0 := [(0, .ref (ad is)), (1, .ref (ad iw)), (2, .int (nI n))]) rfl ?_
  suffices K : ∀ (m i : Nat) (w : va_W) (acc x bt1 : Int32), i + m = n → x = nI i → acc = (btN (se 2) sd σ i).1 → bt1 = bt + nI i → SD E ad w is (btN (se 2) sd σ i).2.1 bt1 se → WY E ad w iw (btN (se 2) sd σ i).2.2 → SO is iw ws w → Ev E YX1_sendBeats (fun v w => v = some (.int (btN (se 2) sd σ n).1) ∧ SD E ad w is (btN (se 2) sd σ n).2.1 (bt + nI n) se ∧ WY E ad w iw (btN (se 2) sd σ n).2.2 ∧ SO is iw ws w) nX 0 0 5 [(0, .ref (ad is)), (1, .ref (ad iw)), (2, .int (nI n)), (3, .int acc), (4, .int x)] [] w by
    refine ev_ss DX1_sendBeats 4 0 (pc' := 5) (lv' := [(4, .int 0), (3, .int 0), (0, .ref _), (1, .ref _), (2, .int _)]) (st' := []) rfl ?_
    refine ev_lvp (lv2 := [(0, .ref _), (1, .ref _), (2, .int _), (3, .int _), (4, .int _)]) [2, 3, 4, 1, 0] rfl ?_
    exact K n 0 ws 0 _ bt (by omega) nI_0.symm (by rw [btN_0]) (by rw [nI_0, Int32.add_zero]) (by rw [btN_0]; exact hS0) (by rw [btN_0]; exact hW0) SO.rf
  intro m
  induction m with
  | zero =>
    intro i w acc x bt1 hm hx ha hb hS hW hO
    obtain rfl : i = n := by omega
    subst hx; subst ha; subst hb
    refine ev_ss DX1_sendBeats 2 4 (pc' := 8) (lv' := [(0, .ref _), (1, .ref _), (2, .int _), (3, .int _), (4, .int _)]) (st' := [.int _, .int _]) rfl ?_
    refine ev_icge DX1_sendBeats 6 rfl (tgt := 90) (by decide) (fun _ => ?_) (fun h => h.elim (nI_le (Nat.le_refl _) hn))
    refine ev_ss DX1_sendBeats 1 48 (pc' := 91) (lv' := [(0, .ref _), (1, .ref _), (2, .int _), (3, .int _), (4, .int _)]) (st' := [.int _]) rfl ?_
    exact ev_iret DX1_sendBeats 49 rfl rfl ⟨rfl, hS, hW, hO⟩
  | succ m ih =>
    intro i w acc x bt1 hm hx ha hb hS hW hO
    subst hx
    refine ev_ss DX1_sendBeats 2 4 (pc' := 8) (lv' := [(0, .ref _), (1, .ref _), (2, .int _), (3, .int _), (4, .int _)]) (st' := [.int _, .int _]) rfl ?_
    refine ev_icge DX1_sendBeats 6 rfl (tgt := 90) (by decide) (fun h => absurd h (nI_ge (b := n) (by omega) (by omega))) (fun _ => ?_)
    refine ev_ss DX1_sendBeats 2 7 (pc' := 14) (lv' := [(5, .int 0), (0, .ref _), (1, .ref _), (2, .int _), (3, .int _), (4, .int _)]) (st' := []) rfl ?_
    refine ev_lvp (lv2 := [(0, .ref _), (1, .ref _), (2, .int _), (3, .int _), (4, .int _), (5, .int _)]) [1, 2, 3, 4, 5, 0] rfl ?_
    refine snd_in1 hi (acc0 := acc) (sd := (btN (se 2) sd σ i).2.1) (σ := (btN (se 2) sd σ i).2.2) (TA_btN hA i) (ws0 := ws) (fun w1 acc1 x1 ha1 hS1 hW1 hO1 => ?_) k8 0 w acc _ (Nat.zero_add k8) nI_0.symm (by rw [sndT_0]; exact (Int32.add_zero acc).symm) (by rw [sndT_0]; exact hS) (by rw [sndT_0]; exact hW) hO
    refine ev_ss DX1_sendBeats 2 24 (pc' := 45) (lv' := [(5, .int 0), (0, .ref _), (1, .ref _), (2, .int _), (3, .int _), (4, .int _)]) (st' := []) rfl ?_
    refine ev_lvp (lv2 := [(0, .ref _), (1, .ref _), (2, .int _), (3, .int _), (4, .int _), (5, .int _)]) [1, 2, 3, 4, 5, 0] rfl ?_
    refine snd_in2 hi (σ := (sndT (btN (se 2) sd σ i).2.1 (btN (se 2) sd σ i).2.2 k8).2.2) (ws0 := ws) (fun w2 x2 hS2 hW2 hO2 => ?_) k8 0 w1 _ (Nat.zero_add k8) nI_0.symm hS1 (by rw [shyT_0]; exact hW1) hO1
    refine ev_ss DX1_sendBeats 2 40 (pc' := 76) (lv' := [(0, .ref _), (1, .ref _), (2, .int _), (3, .int _), (4, .int _), (5, .int _)]) (st' := [.ref _, .ref _]) rfl ?_
    refine ev_get DX1_sendBeats 42 GX1 rfl (k0 := 4) (Nat.le_of_ble_eq_true rfl) fX1_47 hS2.1 rfl ?_
    refine ev_ss DX1_sendBeats 2 43 (pc' := 81) (lv' := [(0, .ref _), (1, .ref _), (2, .int _), (3, .int _), (4, .int _), (5, .int _)]) (st' := [.int _, .ref _]) rfl ?_
    refine ev_put (fs' := [_, _, _, _, _]) DX1_sendBeats 45 GX1 rfl (k0 := 4) (Nat.le_of_ble_eq_true rfl) fX1_47 rfl ⟨rfl, rfl⟩ hS2.1 (Nat.le_of_ble_eq_true rfl) rfl rfl ?_
    refine ev_ss DX1_sendBeats 1 46 (pc' := 87) (lv' := [(4, .int _), (0, .ref _), (1, .ref _), (2, .int _), (3, .int _), (5, .int _)]) (st' := []) rfl ?_
    refine ev_goto DX1_sendBeats 47 rfl (tgt := 5) (by decide) ?_
    refine ev_lvp (lv2 := [(0, .ref _), (1, .ref _), (2, .int _), (3, .int _), (4, .int _)]) [1, 2, 3, 4, 0] rfl ?_
    exact ih (i + 1) _ _ _ (bt1 + 1) (by omega) (nI_1 i) (by rw [btN_s, ha1, ha]) (by rw [hb, ← nI_1 i]; exact Int32.add_assoc _ _ _) (by rw [btN_s]; exact hS2.seed) (by rw [btN_s]; exact hW2.st (Or.inl hi.1)) (hO2.tr (fun j a b => List.getElem?_set_ne (Ne.symm a)))
end
section
def LE (E : gE) (ad : Nat → Nat) (ws : va_W) (il : Nat) (lb : Int32) (sz : Nat → Int32) : Prop := ws[il]? = some (ad il, lesC (ad (il + 1)) lb) ∧ ∃ g : Nat → Int32, ws[il + 1]? = some (ad (il + 1), iaC E 64 g) ∧ ∀ j, j < 64 → g j = sz j
theorem LE.of {E : gE} {ad : Nat → Nat} {ws w : va_W} {il : Nat} {lb : Int32} {sz : Nat → Int32} (h : LE E ad ws il lb sz) (h1 : w[il]? = ws[il]?) (h2 : w[il + 1]? = ws[il + 1]?) : LE E ad w il lb sz := by
  obtain ⟨a, g, b, c⟩ := h
  exact ⟨h1.trans a, g, h2.trans b, c⟩
def mxP (a b : Int32) : Int32 := if a < b then b else a
def worN (sz : Nat → Int32) (t : Nat) : Nat → Int32
  | 0 => 0
  | i + 1 => mxP (worN sz t i) (sz (8 * t + i))
theorem nI_mul8 (t : Nat) : nI t * 8 = nI (8 * t) := by rw [show (8 : Int32) = nI 8 from rfl, pk_mul, Nat.mul_comm]
theorem ix8 (t i : Nat) : nI t * 8 + nI i = nI (8 * t + i) := by rw [nI_mul8, nI_add]
theorem fm_x : ∀ b, b < 128 → 0 ≤ nI b ^^^ 8 := by decide +kernel
set_option maxRecDepth 100000 in
set_option maxHeartbeats 4000000 in
theorem m_J9_floorMod_7cf53 {E : gE} {ws : va_W} {b : Nat} (hb : b < 128) : CD E YJ9_floorMod_7cf53 0 0 [.int (nI b), .int 8] ws (some (.int (nI (b % 8)))) ws := by
  refine cdS vJ9_floorMod_7cf53 (Nat.le_of_ble_eq_true rfl) (lv0 := [(0, .int (nI b)), (1, .int 8)]) rfl ?_
  refine ev_ss DJ9_floorMod_7cf53 2 0 (pc' := 2) (lv' := [(0, .int _), (1, .int _)]) (st' := [.int _, .int _]) rfl ?_
  refine ev_irem DJ9_floorMod_7cf53 2 rfl (by decide) ?_
  refine ev_ss DJ9_floorMod_7cf53 4 3 (pc' := 7) (lv' := [(2, .int _), (0, .int _), (1, .int _)]) (st' := [.int _]) rfl ?_
  refine ev_ifge DJ9_floorMod_7cf53 7 rfl (tgt := 18) (by decide) (fun _ => ?_) (fun h => h.elim (fm_x b hb))
  refine ev_ss DJ9_floorMod_7cf53 1 14 (pc' := 19) (lv' := [(2, .int _), (0, .int _), (1, .int _)]) (st' := [.int _]) rfl ?_
  exact ev_iret DJ9_floorMod_7cf53 15 rfl rfl ⟨vI (pk_rem (a := b) (d := 8) (by omega) (by decide) (by decide)).symm, rfl⟩
set_option maxRecDepth 100000 in
set_option maxHeartbeats 4000000 in
theorem m_X0_note {E : gE} {ad : Nat → Nat} {ws : va_W} {il t b : Nat} {lb er : Int32} {sz : Nat → Int32} (hb : b < 128) (ht : t < 8) (hlb : lb = nI b) (h : LE E ad ws il lb sz) : C0 E YX0_note 0 0 [.ref (ad il), .int (nI t), .int er] ws (fun v w => v = none ∧ LE E ad w il lb (upd sz (8 * t + b % 8) (absP er)) ∧ ∀ j, j ≠ il + 1 → w[j]? = ws[j]?) := by
  obtain ⟨h1, g, h2, h3⟩ := h
  subst hlb
  have ex : nI t * 8 + nI (b % 8) = nI (8 * t + b % 8) := ix8 t (b % 8)
  have e1 : ¬ nI t * 8 + nI (b % 8) < 0 := by rw [ex]; exact nI_pos (by omega)
  have e2 : ¬ (64 : Int32) ≤ nI t * 8 + nI (b % 8) := by rw [ex]; exact nI_ge (b := 64) (by omega) (by decide)
  have e3 : vp_in (nI t * 8 + nI (b % 8)) 64 := by rw [ex]; exact vp_in_nI (by omega) (by decide)
  refine c0V vX0_note (Nat.le_of_ble_eq_true rfl) (lv0 := [(0, .ref (ad il)), (1, .int (nI t)), (2, .int er)]) rfl ?_
  refine ev_ss DX0_note 4 0 (pc' := 5) (lv' := [(0, .ref _), (1, .int _), (2, .int _)]) (st' := [.ref _, .int _]) rfl ?_
  refine ev_get DX0_note 4 GX0 rfl (k0 := 1) (Nat.le_of_ble_eq_true rfl) fX0_15 h1 rfl ?_
  refine ev_ss DX0_note 1 5 (pc' := 10) (lv' := [(0, .ref _), (1, .int _), (2, .int _)]) (st' := [.int 8, .int _, .int _]) rfl ?_
  refine ev_cS DX0_note 6 (m_J9_floorMod_7cf53 hb) vJ9_floorMod_7cf53 rfl qX0_19 rfl (hd_of rfl rfl rfl rfl) ?_
  refine ev_ss DX0_note 3 7 (pc' := 16) (lv' := [(3, .int _), (0, .ref _), (1, .int _), (2, .int _)]) (st' := [.int _]) rfl ?_
  refine ev_iflt DX0_note 10 rfl (tgt := 35) (by decide) (fun h => absurd h e1) (fun _ => ?_)
  refine ev_ss DX0_note 2 11 (pc' := 22) (lv' := [(3, .int _), (0, .ref _), (1, .int _), (2, .int _)]) (st' := [.int 64, .int _]) rfl ?_
  refine ev_icge DX0_note 13 rfl (tgt := 35) (by decide) (fun h => absurd h e2) (fun _ => ?_)
  refine ev_ss DX0_note 1 14 (pc' := 26) (lv' := [(3, .int _), (0, .ref _), (1, .int _), (2, .int _)]) (st' := [.ref _]) rfl ?_
  refine ev_get DX0_note 15 GX0 rfl (k0 := 0) (Nat.le_of_ble_eq_true rfl) fX0_9 h1 rfl ?_
  refine ev_ss DX0_note 2 16 (pc' := 31) (lv' := [(3, .int _), (0, .ref _), (1, .int _), (2, .int _)]) (st' := [.int _, .int _, .ref _]) rfl ?_
  refine ev_abs DX0_note 18 rfl qX0_25 (Nat.le_of_ble_eq_true rfl) (Nat.le_of_ble_eq_true rfl) ?_
  refine ev_iast DX0_note 19 rfl h2 e3 rfl ?_
  exact ev_vret DX0_note 20 rfl rfl ⟨rfl, ⟨wset_n h1 (by omega), _, wset_get h2, fun j hj => by show upd g (nI t * 8 + nI (b % 8)).toNatClampNeg (absP er) j = upd sz (8 * t + b % 8) (absP er) j; rw [ex, nI_clamp (by omega)]; unfold upd; split; rfl; exact h3 j hj⟩, fun j hj => List.getElem?_set_ne (Ne.symm hj)⟩
set_option maxRecDepth 100000 in
set_option maxHeartbeats 4000000 in
theorem m_X0_worstOf {E : gE} {ad : Nat → Nat} {ws : va_W} {il t : Nat} {lb : Int32} {sz : Nat → Int32} (ht : t < 8) (h : LE E ad ws il lb sz) : CD E YX0_worstOf 0 0 [.ref (ad il), .int (nI t)] ws (some (.int (worN sz t k8))) ws := by
  obtain ⟨h1, g, h2, h3⟩ := h
  have e8 := k8e
  refine cdV vX0_worstOf (Nat.le_of_ble_eq_true rfl) (lv0 := [(0, .ref (ad il)), (1, .int (nI t))]) rfl ?_
  suffices K : ∀ (m i : Nat) (x acc : Int32) (lv9 : List (Nat × Value)), i + m = k8 → x = nI i → acc = worN sz t i → lv9 = [(0, .ref (ad il)), (1, .int (nI t)), (2, .int acc), (3, .int x)] → Ev E YX0_worstOf (fun v2 w2 => v2 = some (.int (worN sz t k8)) ∧ w2 = ws) nX 0 0 4 lv9 [] ws by
    refine ev_ss DX0_worstOf 4 0 (pc' := 4) (lv' := [(3, .int 0), (2, .int 0), (0, .ref _), (1, .int _)]) (st' := []) rfl ?_
    refine ev_lvp (lv2 := [(0, .ref _), (1, .int _), (2, .int _), (3, .int _)]) [2, 3, 1, 0] rfl ?_
    exact K k8 0 _ _ _ (Nat.zero_add k8) nI_0.symm rfl rfl
  intro m
  induction m with
  | zero =>
    intro i x acc lv9 hm hx ha hv
    obtain rfl : i = k8 := by omega
    subst hx; subst ha; subst hv
    refine ev_ss DX0_worstOf 2 4 (pc' := 7) (lv' := [(0, .ref _), (1, .int _), (2, .int _), (3, .int _)]) (st' := [.int 8, .int _]) rfl ?_
    refine ev_icge DX0_worstOf 6 rfl (tgt := 48) (by decide) (fun _ => ?_) (fun h => h.elim (by rw [k8e]; decide))
    refine ev_ss DX0_worstOf 1 27 (pc' := 49) (lv' := [(0, .ref _), (1, .int _), (2, .int _), (3, .int _)]) (st' := [.int _]) rfl ?_
    exact ev_iret DX0_worstOf 28 rfl rfl ⟨rfl, rfl⟩
  | succ m ih =>
    intro i x acc lv9 hm hx ha hv
    subst hx; subst hv
    have ex := ix8 t i
    have e1 : ¬ nI t * 8 + nI i < 0 := by rw [ex]; exact nI_pos (by omega)
    have e2 : ¬ (64 : Int32) ≤ nI t * 8 + nI i := by rw [ex]; exact nI_ge (b := 64) (by omega) (by decide)
    have e3 : vp_in (nI t * 8 + nI i) 64 := by rw [ex]; exact vp_in_nI (by omega) (by decide)
    refine ev_ss DX0_worstOf 2 4 (pc' := 7) (lv' := [(0, .ref _), (1, .int _), (2, .int _), (3, .int _)]) (st' := [.int 8, .int _]) rfl ?_
    refine ev_icge DX0_worstOf 6 rfl (tgt := 48) (by decide) (fun h => absurd h (nI_ge (b := 8) (by omega) (by decide))) (fun _ => ?_)
    refine ev_ss DX0_worstOf 7 7 (pc' := 20) (lv' := [(4, .int _), (0, .ref _), (1, .int _), (2, .int _), (3, .int _)]) (st' := [.int _]) rfl ?_
    refine ev_iflt DX0_worstOf 14 rfl (tgt := 42) (by decide) (fun h => absurd h e1) (fun _ => ?_)
    refine ev_ss DX0_worstOf 2 15 (pc' := 27) (lv' := [(4, .int _), (0, .ref _), (1, .int _), (2, .int _), (3, .int _)]) (st' := [.int 64, .int _]) rfl ?_
    refine ev_icge DX0_worstOf 17 rfl (tgt := 42) (by decide) (fun h => absurd h e2) (fun _ => ?_)
    refine ev_ss DX0_worstOf 2 18 (pc' := 32) (lv' := [(4, .int _), (0, .ref _), (1, .int _), (2, .int _), (3, .int _)]) (st' := [.ref _, .int _]) rfl ?_
    refine ev_get DX0_worstOf 20 GX0 rfl (k0 := 0) (Nat.le_of_ble_eq_true rfl) fX0_9 h1 rfl ?_
    refine ev_ss DX0_worstOf 1 21 (pc' := 37) (lv' := [(4, .int _), (0, .ref _), (1, .int _), (2, .int _), (3, .int _)]) (st' := [.int _, .ref _, .int _]) rfl ?_
    refine ev_iald DX0_worstOf 22 rfl h2 e3 ?_
    refine ev_max DX0_worstOf 23 rfl qX0_29 (Nat.le_of_ble_eq_true rfl) (Nat.le_of_ble_eq_true rfl) ?_
    refine ev_ss DX0_worstOf 2 24 (pc' := 45) (lv' := [(3, .int _), (2, .int _), (4, .int _), (0, .ref _), (1, .int _)]) (st' := []) rfl ?_
    refine ev_goto DX0_worstOf 26 rfl (tgt := 4) (by decide) ?_
    refine ev_lvp (lv2 := [(0, .ref _), (1, .int _), (2, .int _), (3, .int _)]) [3, 4, 1, 0] rfl ?_
    exact ih (i + 1) _ _ _ (by omega) (nI_1 i) (by show mxP acc (g (nI t * 8 + nI i).toNatClampNeg) = worN sz t (i + 1); rw [ha, ex, nI_clamp (by omega), h3 _ (by omega)]; rfl) rfl
set_option maxRecDepth 100000 in
set_option maxHeartbeats 4000000 in
theorem m_X0_begin {E : gE} {ad : Nat → Nat} {ws : va_W} {il : Nat} {lb : Int32} {sz : Nat → Int32} (h : LE E ad ws il lb sz) : C0 E YX0_begin 0 0 [.ref (ad il)] ws (fun v w => v = none ∧ LE E ad w il 0 (fun _ => 0) ∧ ∀ j, j ≠ il → j ≠ il + 1 → w[j]? = ws[j]?) := by
  obtain ⟨h1, g, h2, h3⟩ := h
  refine c0V vX0_begin (Nat.le_of_ble_eq_true rfl) (lv0 := [(0, .ref (ad il))]) rfl ?_
  suffices K : ∀ (m i : Nat) (x : Int32) (g1 : Nat → Int32) (w : va_W) (lv9 : List (Nat × Value)), i + m = 64 → x = nI i → (∀ j, j < i → g1 j = 0) → w[il]? = some (ad il, lesC (ad (il + 1)) 0) → w[il + 1]? = some (ad (il + 1), iaC E 64 g1) → (∀ j, j ≠ il → j ≠ il + 1 → w[j]? = ws[j]?) → lv9 = [(0, .ref (ad il)), (1, .int x)] →
      Ev E YX0_begin (fun v w => v = none ∧ LE E ad w il 0 (fun _ => 0) ∧ ∀ j, j ≠ il → j ≠ il + 1 → w[j]? = ws[j]?) nX 0 0 7 lv9 [] w by
    refine ev_ss DX0_begin 2 0 (pc' := 2) (lv' := [(0, .ref _)]) (st' := [.int 0, .ref _]) rfl ?_
    refine ev_put (fs' := [_, _]) DX0_begin 2 GX0 rfl (k0 := 1) (Nat.le_of_ble_eq_true rfl) fX0_15 rfl ⟨rfl, rfl⟩ h1 (Nat.le_of_ble_eq_true rfl) rfl rfl ?_
    refine ev_ss DX0_begin 2 3 (pc' := 7) (lv' := [(1, .int 0), (0, .ref _)]) (st' := []) rfl ?_
    refine ev_lvp (lv2 := [(0, .ref _), (1, .int _)]) [1, 0] rfl ?_
    exact K 64 0 _ g _ _ rfl nI_0.symm (fun j hj => absurd hj (Nat.not_lt_zero j)) (wset_get h1) (wset_n h2 (by omega)) (fun j hj hj2 => List.getElem?_set_ne (Ne.symm hj)) rfl
  intro m
  induction m with
  | zero =>
    intro i x g1 w lv9 hm hx hg k1 k2 k3 hv
    obtain rfl : i = 64 := by omega
    subst hx; subst hv
    refine ev_ss DX0_begin 2 5 (pc' := 10) (lv' := [(0, .ref _), (1, .int _)]) (st' := [.int 64, .int _]) rfl ?_
    refine ev_icge DX0_begin 7 rfl (tgt := 26) (by decide) (fun _ => ?_) (fun h => h.elim (by decide))
    exact ev_vret DX0_begin 15 rfl rfl ⟨rfl, ⟨k1, g1, k2, hg⟩, k3⟩
  | succ m ih =>
    intro i x g1 w lv9 hm hx hg k1 k2 k3 hv
    subst hx; subst hv
    refine ev_ss DX0_begin 2 5 (pc' := 10) (lv' := [(0, .ref _), (1, .int _)]) (st' := [.int 64, .int _]) rfl ?_
    refine ev_icge DX0_begin 7 rfl (tgt := 26) (by decide) (fun h => absurd h (nI_ge (b := 64) (by omega) (by decide))) (fun _ => ?_)
    refine ev_ss DX0_begin 1 8 (pc' := 14) (lv' := [(0, .ref _), (1, .int _)]) (st' := [.ref _]) rfl ?_
    refine ev_get DX0_begin 9 GX0 rfl (k0 := 0) (Nat.le_of_ble_eq_true rfl) fX0_9 k1 rfl ?_
    refine ev_ss DX0_begin 2 10 (pc' := 19) (lv' := [(0, .ref _), (1, .int _)]) (st' := [.int 0, .int _, .ref _]) rfl ?_
    refine ev_iast DX0_begin 12 rfl k2 (vp_in_nI (by omega) (by decide)) rfl ?_
    refine ev_ss DX0_begin 1 13 (pc' := 23) (lv' := [(1, .int _), (0, .ref _)]) (st' := []) rfl ?_
    refine ev_goto DX0_begin 14 rfl (tgt := 7) (by decide) ?_
    refine ev_lvp (lv2 := [(0, .ref _), (1, .int _)]) [1, 0] rfl ?_
    exact ih (i + 1) _ _ _ _ (by omega) (nI_1 i) (fun j hj => by unfold upd; split; rfl; rename_i hne; rw [nI_clamp (by omega)] at hne; exact hg j (by omega)) (wset_n k1 (by omega)) (wset_get k2) (fun j hj hj2 => by rw [List.getElem?_set_ne (Ne.symm hj2)]; exact k3 j hj hj2) rfl
def lrA (sd : Int32) : Int32 := if drwV (drwS sd) 2 = 1 then 128 else -128
def lrE (sd : Int32) (f : TF) : Int32 := arrP f (lrA sd) (drwN (drwS sd) f) - expP f (lrA sd)
def lrF (p sd : Int32) (f : TF) : TF := knowP (passP (impP f (lrE sd f) (lrA sd) p) (lrA sd) (lrA sd))
def lrT (p : Int32) (nb : Nat) (sd : Int32) (σ : WS) (sz : Nat → Int32) : Nat → Int32 × WS × (Nat → Int32)
  | 0 => (sd, σ, sz)
  | i + 1 => (drwS (drwS (lrT p nb sd σ sz i).1), (va_up (lrT p nb sd σ sz i).2.1.1 i (lrF p (lrT p nb sd σ sz i).1 ((lrT p nb sd σ sz i).2.1.1 i)), (lrT p nb sd σ sz i).2.1.2), upd (lrT p nb sd σ sz i).2.2 (8 * i + nb % 8) (absP (lrE (lrT p nb sd σ sz i).1 ((lrT p nb sd σ sz i).2.1.1 i))))
noncomputable def lrN (p sd : Int32) (σ : WS) : Nat → Int32 × WS × (Nat → Int32)
  | 0 => (sd, σ, fun _ => 0)
  | n + 1 => lrT p n (lrN p sd σ n).1 (lrN p sd σ n).2.1 (lrN p sd σ n).2.2 k8
theorem lrN_0 {p sd : Int32} {σ : WS} : lrN p sd σ 0 = (sd, σ, fun _ => 0) := rfl
theorem lrN_s {p sd : Int32} {σ : WS} {n : Nat} : lrN p sd σ (n + 1) = lrT p n (lrN p sd σ n).1 (lrN p sd σ n).2.1 (lrN p sd σ n).2.2 k8 := rfl
theorem lrT_0 {p sd : Int32} {nb : Nat} {σ : WS} {sz : Nat → Int32} : lrT p nb sd σ sz 0 = (sd, σ, sz) := rfl
def TN (f : TF) : Prop := ¬ 2 * f 3 + 1 ≤ 0
theorem lrF_3 (p sd : Int32) (f : TF) : lrF p sd f 3 = f 3 := rfl
theorem TN_lrT {p sd : Int32} {nb : Nat} {σ : WS} {sz : Nat → Int32} (h : ∀ t, t < 8 → TN (σ.1 t)) : ∀ i, i ≤ 8 → ∀ t, t < 8 → TN ((lrT p nb sd σ sz i).2.1.1 t)
  | 0, _ => h
  | i + 1, hi => by
    intro t ht
    show TN (va_up (lrT p nb sd σ sz i).2.1.1 i _ t)
    unfold va_up
    split
    · unfold TN
      rw [lrF_3]
      exact TN_lrT h i (by omega) i (by omega)
    · exact TN_lrT h i (by omega) t ht
theorem TN_lrN {p sd : Int32} {σ : WS} (h : ∀ t, t < 8 → TN (σ.1 t)) : ∀ n t, t < 8 → TN ((lrN p sd σ n).2.1.1 t)
  | 0 => h
  | n + 1 => by
    rw [lrN_s]
    exact TN_lrT (TN_lrN h n) k8 (Nat.le_of_eq k8e)
def SL (is iw il : Nat) (ws w : va_W) : Prop := ∀ j, j ≠ is → (j < iw ∨ iw + 12 ≤ j) → j ≠ il → j ≠ il + 1 → w[j]? = ws[j]?
theorem SL.rf {is iw il : Nat} {ws : va_W} : SL is iw il ws ws := fun _ _ _ _ _ => rfl
theorem SL.tr {is iw il : Nat} {ws w w2 : va_W} (h : SL is iw il ws w) (h2 : SL is iw il w w2) : SL is iw il ws w2 := fun j a b c d => (h2 j a b c d).trans (h j a b c d)
def AL (is iw il : Nat) : Prop := (il + 1 < is ∨ is + 26 ≤ il) ∧ is < iw ∧ iw + 12 ≤ is + 25
set_option maxRecDepth 100000 in
set_option maxHeartbeats 4000000 in
theorem m_X1_learnBeat {E : gE} {ad : Nat → Nat} {ws : va_W} {is iw il nb : Nat} {sd0 bt lb : Int32} {se : Nat → Int32} {σ0 : WS} {sz0 : Nat → Int32} (hnb : nb < 128) (hlb : lb = nI nb) (hi : AL is iw il) (hS0 : SD E ad ws is sd0 bt se) (hW0 : WY E ad ws iw σ0) (hL0 : LE E ad ws il lb sz0) (hN : ∀ t, t < 8 → TN (σ0.1 t)) (hp : ¬ se 0 ≤ 0) (hp2 : ¬ (128 : Int32) * se 0 = 0) : C0 E YX1_learnBeat 0 0 [.ref (ad is), .ref (ad iw), .ref (ad il)] ws (fun v w => v = none ∧ SD E ad w is (lrT (se 0) nb sd0 σ0 sz0 k8).1 (bt + 1) se ∧ WY E ad w iw (lrT (se 0) nb sd0 σ0 sz0 k8).2.1 ∧ LE E ad w il (nI (nb + 1)) (lrT (se 0) nb sd0 σ0 sz0 k8).2.2 ∧ SL is iw il ws w) := by
  have e8 := k8e
  obtain ⟨i1, i2, i3⟩ := id hi
  refine c0V vX1_learnBeat (Nat.le_of_ble_eq_true rfl) (lv0 := [(0, .ref (ad is)), (1, .ref (ad iw)), (2, .ref (ad il))]) rfl ?_
  suffices K : ∀ (m i : Nat) (x : Int32) (w : va_W) (lv9 : List (Nat × Value)), i + m = k8 → x = nI i → SD E ad w is (lrT (se 0) nb sd0 σ0 sz0 i).1 bt se → WY E ad w iw (lrT (se 0) nb sd0 σ0 sz0 i).2.1 → LE E ad w il lb (lrT (se 0) nb sd0 σ0 sz0 i).2.2 → SL is iw il ws w → lv9 = [(0, .ref (ad is)), (1, .ref (ad iw)), (2, .ref (ad il)), (3, .int x)] →
      Ev E YX1_learnBeat (fun v w => v = none ∧ SD E ad w is (lrT (se 0) nb sd0 σ0 sz0 k8).1 (bt + 1) se ∧ WY E ad w iw (lrT (se 0) nb sd0 σ0 sz0 k8).2.1 ∧ LE E ad w il (nI (nb + 1)) (lrT (se 0) nb sd0 σ0 sz0 k8).2.2 ∧ SL is iw il ws w) nX 0 0 2 lv9 [] w by
    refine ev_ss DX1_learnBeat 2 0 (pc' := 2) (lv' := [(3, .int 0), (0, .ref _), (1, .ref _), (2, .ref _)]) (st' := []) rfl ?_
    refine ev_lvp (lv2 := [(0, .ref _), (1, .ref _), (2, .ref _), (3, .int _)]) [1, 2, 3, 0] rfl ?_
    exact K k8 0 _ ws _ (Nat.zero_add k8) nI_0.symm (by rw [lrT_0]; exact hS0) (by rw [lrT_0]; exact hW0) (by rw [lrT_0]; exact hL0) SL.rf rfl
  intro m
  induction m with
  | zero =>
    intro i x w lv9 hm hx hS hW hL hO hv
    obtain rfl : i = k8 := by omega
    subst hx; subst hv; subst hlb
    refine ev_ss DX1_learnBeat 2 2 (pc' := 5) (lv' := [(0, .ref _), (1, .ref _), (2, .ref _), (3, .int _)]) (st' := [.int 8, .int _]) rfl ?_
    refine ev_icge DX1_learnBeat 4 rfl (tgt := 100) (by decide) (fun _ => ?_) (fun h => h.elim (by rw [k8e]; decide))
    refine ev_ss DX1_learnBeat 2 50 (pc' := 102) (lv' := [(0, .ref _), (1, .ref _), (2, .ref _), (3, .int _)]) (st' := [.ref _, .ref _]) rfl ?_
    refine ev_get DX1_learnBeat 52 GX0 rfl (k0 := 1) (Nat.le_of_ble_eq_true rfl) fX1_148 hL.1 rfl ?_
    refine ev_ss DX1_learnBeat 2 53 (pc' := 107) (lv' := [(0, .ref _), (1, .ref _), (2, .ref _), (3, .int _)]) (st' := [.int _, .ref _]) rfl ?_
    refine ev_put (fs' := [_, _]) DX1_learnBeat 55 GX0 rfl (k0 := 1) (Nat.le_of_ble_eq_true rfl) fX1_148 rfl ⟨rfl, rfl⟩ hL.1 (Nat.le_of_ble_eq_true rfl) rfl rfl ?_
    refine ev_ss DX1_learnBeat 2 56 (pc' := 112) (lv' := [(0, .ref _), (1, .ref _), (2, .ref _), (3, .int _)]) (st' := [.ref _, .ref _]) rfl ?_
    refine ev_get DX1_learnBeat 58 GX1 rfl (k0 := 4) (Nat.le_of_ble_eq_true rfl) fX1_47 (wset_o hS.1 hL.1 rfl) rfl ?_
    refine ev_ss DX1_learnBeat 2 59 (pc' := 117) (lv' := [(0, .ref _), (1, .ref _), (2, .ref _), (3, .int _)]) (st' := [.int _, .ref _]) rfl ?_
    refine ev_put (fs' := [_, _, _, _, _]) DX1_learnBeat 61 GX1 rfl (k0 := 4) (Nat.le_of_ble_eq_true rfl) fX1_47 rfl ⟨rfl, rfl⟩ (wset_o hS.1 hL.1 rfl) (Nat.le_of_ble_eq_true rfl) rfl rfl ?_
    exact ev_vret DX1_learnBeat 62 rfl rfl ⟨rfl, (hS.of (w := w.set il (ad il, lesC (ad (il + 1)) (nI nb + 1))) (List.getElem?_set_ne (by omega)) (List.getElem?_set_ne (by omega))).seed, (hW.of (w := w.set il (ad il, lesC (ad (il + 1)) (nI nb + 1))) (fun j a b => List.getElem?_set_ne (by omega))).st (Or.inl i2), ⟨wset_n (by rw [← nI_1]; exact wset_get hL.1) (by omega), (by obtain ⟨-, g, g1, g2⟩ := hL; exact ⟨g, wset_n (wset_n g1 (by omega)) (by omega), g2⟩)⟩, hO.tr (fun j a b c d => by rw [List.getElem?_set_ne (by omega), List.getElem?_set_ne (by omega)])⟩
  | succ m ih =>
    intro i x w lv9 hm hx hS hW hL hO hv
    subst hx; subst hv
    obtain ⟨st, sz, r, h1, h2, h3, h4, h5, h6⟩ := id hW
    obtain ⟨hs1, g, hs2, hs3⟩ := id hS
    have hTN := TN_lrT (p := se 0) (sd := sd0) (nb := nb) (sz := sz0) hN i (by omega) i (by omega)
    obtain ⟨sd, esd⟩ : ∃ z, z = (lrT (se 0) nb sd0 σ0 sz0 i).1 := ⟨_, rfl⟩
    obtain ⟨f, ef⟩ : ∃ z, z = (lrT (se 0) nb sd0 σ0 sz0 i).2.1.1 i := ⟨_, rfl⟩
    have hT : w[iw + 4 + i]? = some (ad (iw + 4 + i), toneC f) := by rw [ef]; exact h6 i (by omega)
    rw [← esd] at hs1
    rw [← ef] at hTN
    have g0 : g ((0 : Int32).toNatClampNeg) = se 0 := hs3 0 (by decide)
    refine ev_ss DX1_learnBeat 2 2 (pc' := 5) (lv' := [(0, .ref _), (1, .ref _), (2, .ref _), (3, .int _)]) (st' := [.int 8, .int _]) rfl ?_
    refine ev_icge DX1_learnBeat 4 rfl (tgt := 100) (by decide) (fun h => absurd h (nI_ge (b := 8) (by omega) (by decide))) (fun _ => ?_)
    suffices J : ∀ amp : Int32, lrA sd = amp → Ev E YX1_learnBeat (fun v w => v = none ∧ SD E ad w is (lrT (se 0) nb sd0 σ0 sz0 k8).1 (bt + 1) se ∧ WY E ad w iw (lrT (se 0) nb sd0 σ0 sz0 k8).2.1 ∧ LE E ad w il (nI (nb + 1)) (lrT (se 0) nb sd0 σ0 sz0 k8).2.2 ∧ SL is iw il ws w) nX 0 0 33 [(4, .ref (ad (iw + 4 + i))), (0, .ref (ad is)), (1, .ref (ad iw)), (2, .ref (ad il)), (3, .int (nI i))] [.int amp] (w.set is (ad is, stC (ad (is + 1)) (ad (is + 13)) (ad (is + 25)) (drwS sd) bt)) by
      refine ev_ss DX1_learnBeat 1 5 (pc' := 9) (lv' := [(0, .ref _), (1, .ref _), (2, .ref _), (3, .int _)]) (st' := [.ref _]) rfl ?_
      refine ev_get DX1_learnBeat 6 GX5 rfl (k0 := 0) (Nat.le_of_ble_eq_true rfl) fX1_66 h1 rfl ?_
      refine ev_ss DX1_learnBeat 1 7 (pc' := 13) (lv' := [(0, .ref _), (1, .ref _), (2, .ref _), (3, .int _)]) (st' := [.int _, .ref _]) rfl ?_
      refine ev_aald4 DX1_learnBeat 8 rfl h2 (vp_in_nI (by omega) (by decide)) (b := ad (iw + 4 + i)) (arT_at (by omega)) ?_
      refine ev_ss DX1_learnBeat 3 9 (pc' := 18) (lv' := [(4, .ref _), (0, .ref _), (1, .ref _), (2, .ref _), (3, .int _)]) (st' := [.int 2, .ref _]) rfl ?_
      refine ev_cV DX1_learnBeat 12 (m_X1_draw hs1 (by decide)) vX1_draw rfl qX1_62 rfl hs1 rfl (hd_of rfl rfl rfl rfl) ?_
      refine ev_ss DX1_learnBeat 1 13 (pc' := 22) (lv' := [(4, .ref _), (0, .ref _), (1, .ref _), (2, .ref _), (3, .int _)]) (st' := [.int 1, .int _]) rfl ?_
      refine ev_icne DX1_learnBeat 14 rfl (tgt := 31) (by decide) (fun c_1 => ?_) (fun c_1 => ?_)
      · refine ev_ss DX1_learnBeat 1 17 (pc' := 33) (lv' := [(4, .ref _), (0, .ref _), (1, .ref _), (2, .ref _), (3, .int _)]) (st' := [.int (-128)]) rfl ?_
        exact J _ (if_neg c_1)
      · refine ev_ss DX1_learnBeat 1 15 (pc' := 28) (lv' := [(4, .ref _), (0, .ref _), (1, .ref _), (2, .ref _), (3, .int _)]) (st' := [.int 128]) rfl ?_
        refine ev_goto DX1_learnBeat 16 rfl (tgt := 33) (by decide) ?_
        exact J _ (if_pos c_1)
    intro amp hamp
    refine ev_ss DX1_learnBeat 5 18 (pc' := 42) (lv' := [(5, .int _), (4, .ref _), (0, .ref _), (1, .ref _), (2, .ref _), (3, .int _)]) (st' := [.ref _, .ref _, .int _, .ref _]) rfl ?_
    refine ev_cV DX1_learnBeat 23 (cd_hs (m_X1_drawNoise (wset_get hs1) (wset_o hT hs1 rfl) hTN) wset_set) vX1_drawNoise rfl qX1_93 rfl (wset_get hs1) rfl (hd_of rfl rfl rfl rfl) ?_
    refine ev_cV DX1_learnBeat 24 (m_X3_arriving (wset_o hT hs1 rfl)) vX3_arriving rfl qX1_97 rfl (wset_o hT hs1 rfl) rfl (hd_of rfl rfl rfl rfl) ?_
    refine ev_ss DX1_learnBeat 2 25 (pc' := 52) (lv' := [(5, .int _), (4, .ref _), (0, .ref _), (1, .ref _), (2, .ref _), (3, .int _)]) (st' := [.int _, .ref _, .int _]) rfl ?_
    refine ev_cV DX1_learnBeat 27 (m_X3_expected (wset_o hT hs1 rfl)) vX3_expected rfl qX1_136 rfl (wset_o hT hs1 rfl) rfl (hd_of rfl rfl rfl rfl) ?_
    refine ev_ss DX1_learnBeat 6 28 (pc' := 65) (lv' := [(6, .int _), (5, .int _), (4, .ref _), (0, .ref _), (1, .ref _), (2, .ref _), (3, .int _)]) (st' := [.ref _, .int _, .int _, .ref _]) rfl ?_
    refine ev_get DX1_learnBeat 34 GX1 rfl (k0 := 2) (Nat.le_of_ble_eq_true rfl) fX1_21 (wset_get hs1) rfl ?_
    refine ev_ss DX1_learnBeat 1 35 (pc' := 69) (lv' := [(6, .int _), (5, .int _), (4, .ref _), (0, .ref _), (1, .ref _), (2, .ref _), (3, .int _)]) (st' := [.int 0, .ref _, .int _, .int _, .ref _]) rfl ?_
    refine ev_iald DX1_learnBeat 36 rfl (wset_o hs2 hs1 rfl) (by unfold vp_in; decide) ?_
    refine ev_cV DX1_learnBeat 37 (m_X3_improve (wset_o hT hs1 rfl) (by rw [g0]; exact hp) (by rw [g0]; exact hp2)) vX3_improve rfl qX1_139 rfl (wset_o hT hs1 rfl) rfl (hd_of rfl rfl rfl rfl) ?_
    refine ev_ss DX1_learnBeat 3 38 (pc' := 79) (lv' := [(6, .int _), (5, .int _), (4, .ref _), (0, .ref _), (1, .ref _), (2, .ref _), (3, .int _)]) (st' := [.int _, .int _, .ref _]) rfl ?_
    refine ev_cV DX1_learnBeat 41 (cd_hs (m_X3_pass (wset_get (wset_o hT hs1 rfl))) wset_set) vX3_pass rfl qX1_109 rfl (wset_get (wset_o hT hs1 rfl)) rfl (hd_of rfl rfl rfl rfl) ?_
    refine ev_ss DX1_learnBeat 1 42 (pc' := 84) (lv' := [(6, .int _), (5, .int _), (4, .ref _), (0, .ref _), (1, .ref _), (2, .ref _), (3, .int _)]) (st' := [.ref _]) rfl ?_
    refine ev_cV DX1_learnBeat 43 (cd_hs (m_X3_knowSignBefore (wset_get (wset_o hT hs1 rfl))) wset_set) vX3_knowSignBefore rfl qX1_142 rfl (wset_get (wset_o hT hs1 rfl)) rfl (hd_of rfl rfl rfl rfl) ?_
    refine ev_ss DX1_learnBeat 3 44 (pc' := 91) (lv' := [(6, .int _), (5, .int _), (4, .ref _), (0, .ref _), (1, .ref _), (2, .ref _), (3, .int _)]) (st' := [.int _, .int _, .ref _]) rfl ?_
    have hL2 : LE E ad ((w.set is (ad is, stC (ad (is + 1)) (ad (is + 13)) (ad (is + 25)) (drwS (drwS sd)) bt)).set (iw + 4 + i) (ad (iw + 4 + i), toneC (knowP (passP (impP f (arrP f amp (drwN (drwS sd) f) - expP f amp) amp (g ((0 : Int32).toNatClampNeg))) amp amp)))) il lb (lrT (se 0) nb sd0 σ0 sz0 i).2.2 := hL.of (by rw [List.getElem?_set_ne (by omega), List.getElem?_set_ne (by omega)]) (by rw [List.getElem?_set_ne (by omega), List.getElem?_set_ne (by omega)])
    refine ev_rV DX1_learnBeat 47 (m_X0_note (b := nb) (t := i) hnb (by omega) hlb hL2) vX0_note rfl qX1_145 rfl hL2.1 rfl (hd_of rfl rfl rfl rfl) (fun v w2 hvw => ?_)
    obtain ⟨rfl, hL3, hO3⟩ := hvw
    refine ev_ss DX1_learnBeat 1 48 (pc' := 97) (lv' := [(3, .int _), (6, .int _), (5, .int _), (4, .ref _), (0, .ref _), (1, .ref _), (2, .ref _)]) (st' := []) rfl ?_
    refine ev_goto DX1_learnBeat 49 rfl (tgt := 2) (by decide) ?_
    refine ev_lvp (lv2 := [(0, .ref _), (1, .ref _), (2, .ref _), (3, .int _)]) [4, 5, 6, 0] rfl ?_
    have hS2 : SD E ad (w.set is (ad is, stC (ad (is + 1)) (ad (is + 13)) (ad (is + 25)) (drwS (drwS sd)) bt)) is (drwS (drwS sd)) bt se := hS.seed
    have hW2 := (hW.st (is := is) (x := (ad is, stC (ad (is + 1)) (ad (is + 13)) (ad (is + 25)) (drwS (drwS sd)) bt)) (Or.inl i2)).tone (t := i) (by omega) (f := knowP (passP (impP f (arrP f amp (drwN (drwS sd) f) - expP f amp) amp (g ((0 : Int32).toNatClampNeg))) amp amp))
    have eF : knowP (passP (impP f (arrP f amp (drwN (drwS sd) f) - expP f amp) amp (g ((0 : Int32).toNatClampNeg))) amp amp) = lrF (se 0) sd f := by rw [g0, ← hamp]; rfl
    have eE : absP (arrP f amp (drwN (drwS sd) f) - expP f amp) = absP (lrE sd f) := by rw [← hamp]; rfl
    refine ih (i + 1) _ w2 _ (by omega) (nI_1 i) ?_ ?_ ?_ ?_ rfl
    · show SD E ad w2 is (drwS (drwS (lrT (se 0) nb sd0 σ0 sz0 i).1)) bt se
      rw [← esd]
      exact (hS2.of (w := (w.set is (ad is, stC (ad (is + 1)) (ad (is + 13)) (ad (is + 25)) (drwS (drwS sd)) bt)).set (iw + 4 + i) _) (List.getElem?_set_ne (by omega)) (List.getElem?_set_ne (by omega))).of (hO3 is (by omega)) (hO3 (is + 25) (by omega))
    · show WY E ad w2 iw (va_up (lrT (se 0) nb sd0 σ0 sz0 i).2.1.1 i (lrF (se 0) (lrT (se 0) nb sd0 σ0 sz0 i).1 ((lrT (se 0) nb sd0 σ0 sz0 i).2.1.1 i)), (lrT (se 0) nb sd0 σ0 sz0 i).2.1.2)
      rw [← esd, ← ef, ← eF]
      exact hW2.of (fun j a b => hO3 j (by omega))
    · show LE E ad w2 il lb (upd (lrT (se 0) nb sd0 σ0 sz0 i).2.2 (8 * i + nb % 8) (absP (lrE (lrT (se 0) nb sd0 σ0 sz0 i).1 ((lrT (se 0) nb sd0 σ0 sz0 i).2.1.1 i))))
      rw [← esd, ← ef, ← eE]
      exact hL3
    · exact hO.tr (fun j a b c d => (hO3 j d).trans (by rw [List.getElem?_set_ne (by omega), List.getElem?_set_ne (by omega)]))
end
