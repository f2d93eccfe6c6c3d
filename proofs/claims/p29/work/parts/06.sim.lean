def slen : Instr → Nat
  | .iload _ => 2
  | .aload _ => 2
  | .lload _ => 2
  | .dload _ => 2
  | .istore _ => 2
  | .astore _ => 2
  | .lstore _ => 2
  | .dstore _ => 2
  | .bipush _ => 2
  | .sipush _ => 3
  | .iinc _ _ => 3
  | _ => 1
theorem s_int_spec {lv lv' : List (Nat × Value)} {st st' : List Value} {o : Option Value} (h : s_int lv st o = some (lv', st')) : ∃ x, o = some (.int x) ∧ lv' = lv ∧ st' = .int x :: st := by
  unfold s_int at h
  split at h
  · cases h; exact ⟨_, rfl, rfl, rfl⟩
  · cases h
theorem s_ref_spec {lv lv' : List (Nat × Value)} {st st' : List Value} {o : Option Value} (h : s_ref lv st o = some (lv', st')) : ∃ x, o = some (.ref x) ∧ lv' = lv ∧ st' = .ref x :: st := by
  unfold s_ref at h
  split at h
  · cases h; exact ⟨_, rfl, rfl, rfl⟩
  · cases h
theorem s_long_spec {lv lv' : List (Nat × Value)} {st st' : List Value} {o : Option Value} (h : s_long lv st o = some (lv', st')) : ∃ x, o = some (.long x) ∧ lv' = lv ∧ st' = .long x :: st := by
  unfold s_long at h
  split at h
  · cases h; exact ⟨_, rfl, rfl, rfl⟩
  · cases h
theorem s_dbl_spec {lv lv' : List (Nat × Value)} {st st' : List Value} {o : Option Value} (h : s_dbl lv st o = some (lv', st')) : ∃ x, o = some (.double x) ∧ lv' = lv ∧ st' = .double x :: st := by
  unfold s_dbl at h
  split at h
  · cases h; exact ⟨_, rfl, rfl, rfl⟩
  · cases h
theorem st_int_spec {nL i : Nat} {lv lv' : List (Nat × Value)} {st st' : List Value} (h : st_int nL lv i st = some (lv', st')) : ∃ x, st = .int x :: st' ∧ lv' = ls1 lv i (.int x) ∧ i < nL := by
  unfold st_int at h
  split at h
  · split at h
    · cases h; exact ⟨_, rfl, rfl, by assumption⟩
    · cases h
  · cases h
theorem st_ref_spec {nL i : Nat} {lv lv' : List (Nat × Value)} {st st' : List Value} (h : st_ref nL lv i st = some (lv', st')) : ∃ x, st = .ref x :: st' ∧ lv' = ls1 lv i (.ref x) ∧ i < nL := by
  unfold st_ref at h
  split at h
  · split at h
    · cases h; exact ⟨_, rfl, rfl, by assumption⟩
    · cases h
  · cases h
theorem st_long_spec {nL i : Nat} {lv lv' : List (Nat × Value)} {st st' : List Value} (h : st_long nL lv i st = some (lv', st')) : ∃ x, st = .long x :: st' ∧ lv' = ls2 lv i (.long x) ∧ i + 1 < nL := by
  unfold st_long at h
  split at h
  · split at h
    · cases h; exact ⟨_, rfl, rfl, by assumption⟩
    · cases h
  · cases h
theorem st_dbl_spec {nL i : Nat} {lv lv' : List (Nat × Value)} {st st' : List Value} (h : st_dbl nL lv i st = some (lv', st')) : ∃ x, st = .double x :: st' ∧ lv' = ls2 lv i (.double x) ∧ i + 1 < nL := by
  unfold st_dbl at h
  split at h
  · split at h
    · cases h; exact ⟨_, rfl, rfl, by assumption⟩
    · cases h
  · cases h
theorem s_ii_spec {lv lv' : List (Nat × Value)} {st st' : List Value} {f : Int32 → Int32 → Int32} (h : s_ii lv f st = some (lv', st')) : ∃ x y r, st = .int y :: .int x :: r ∧ lv' = lv ∧ st' = .int (f x y) :: r := by
  unfold s_ii at h
  split at h
  · cases h; exact ⟨_, _, _, rfl, rfl, rfl⟩
  · cases h
theorem s_jj_spec {lv lv' : List (Nat × Value)} {st st' : List Value} {f : Int64 → Int64 → Int64} (h : s_jj lv f st = some (lv', st')) : ∃ x y r, st = .long y :: .long x :: r ∧ lv' = lv ∧ st' = .long (f x y) :: r := by
  unfold s_jj at h
  split at h
  · cases h; exact ⟨_, _, _, rfl, rfl, rfl⟩
  · cases h
theorem s_i_spec {lv lv' : List (Nat × Value)} {st st' : List Value} {f : Int32 → Value} (h : s_i lv f st = some (lv', st')) : ∃ x r, st = .int x :: r ∧ lv' = lv ∧ st' = f x :: r := by
  unfold s_i at h
  split at h
  · cases h; exact ⟨_, _, rfl, rfl, rfl⟩
  · cases h
theorem s_j_spec {lv lv' : List (Nat × Value)} {st st' : List Value} {f : Int64 → Value} (h : s_j lv f st = some (lv', st')) : ∃ x r, st = .long x :: r ∧ lv' = lv ∧ st' = f x :: r := by
  unfold s_j at h
  split at h
  · cases h; exact ⟨_, _, rfl, rfl, rfl⟩
  · cases h
theorem s_d_spec {lv lv' : List (Nat × Value)} {st st' : List Value} {f : UInt64 → Value} (h : s_d lv f st = some (lv', st')) : ∃ x r, st = .double x :: r ∧ lv' = lv ∧ st' = f x :: r := by
  unfold s_d at h
  split at h
  · cases h; exact ⟨_, _, rfl, rfl, rfl⟩
  · cases h
theorem s_inc_spec {nL i : Nat} {d : Int} {lv lv' : List (Nat × Value)} {st st' : List Value} {o : Option Value} (h : s_inc nL lv st i d o = some (lv', st')) : ∃ x, o = some (.int x) ∧ lv' = ls1 lv i (.int (x + icst d)) ∧ st' = st ∧ i < nL := by
  unfold s_inc at h
  split at h
  · split at h
    · cases h; exact ⟨_, rfl, rfl, rfl, by assumption⟩
    · cases h
  · cases h
section SIM
variable {p : Program} {l : Launch} {e : Env} {R : Room} {s : State} {m : MethodId} {args : Array Value} {below : List Frame} {meth : Method} {c : Code} {H : Heap} {locs : List Loc} {cells slots : Nat} {Q : State → Prop}
variable {cc : ByteArray} {pc nL : Nat} {ls : Array Slot} {lv lv' : List (Nat × Value)} {st st' : List Value} {ins : Instr}
theorem simA_W (hx : p.tables.exec = Jvm.exec) (hb : c.code = cc) (hdg : decode cc pc = .ok (ins, slen ins)) (hl : lv_has ls nL lv) (hs : simA lv st ins = some (lv', st'))
    (kk : ∀ ls', lv_has ls' nL lv' → W p l e R s m args below meth c H locs cells slots Q (F0 m (pc + slen ins) ls' st')) : W p l e R s m args below meth c H locs cells slots Q (F0 m pc ls st) := by
  unfold simA at hs
  split at hs
  · obtain ⟨x, h1, rfl, rfl⟩ := s_int_spec hs
    exact lv_iload_n hx hb hdg rfl (lgt_at hl h1) (kk _ hl)
  · obtain ⟨x, h1, rfl, rfl⟩ := s_int_spec hs
    exact lv_iload hx hb hdg (lgt_at hl h1) (kk _ hl)
  · obtain ⟨x, h1, rfl, rfl⟩ := s_ref_spec hs
    exact lv_aload_n hx hb hdg rfl (lgt_at hl h1) (kk _ hl)
  · obtain ⟨x, h1, rfl, rfl⟩ := s_ref_spec hs
    exact lv_aload hx hb hdg (lgt_at hl h1) (kk _ hl)
  · obtain ⟨x, h1, rfl, rfl⟩ := s_long_spec hs
    exact lv_lload_n hx hb hdg rfl (lgt_at hl h1) (kk _ hl)
  · obtain ⟨x, h1, rfl, rfl⟩ := s_long_spec hs
    exact lv_lload hx hb hdg (lgt_at hl h1) (kk _ hl)
  · obtain ⟨x, h1, rfl, rfl⟩ := s_dbl_spec hs
    exact lv_dload_n hx hb hdg rfl (lgt_at hl h1) (kk _ hl)
  · obtain ⟨x, h1, rfl, rfl⟩ := s_dbl_spec hs
    exact lv_dload hx hb hdg (lgt_at hl h1) (kk _ hl)
  · cases hs
    exact lv_iconst hx hb hdg (icst_eq _) (kk _ hl)
  · split at hs
    · rename_i h
      cases hs
      exact lv_bipush hx hb hdg ((Int8.toInt32_ofInt h.1 h.2).trans (icst_eq _)) (kk _ hl)
    · cases hs
  · split at hs
    · rename_i h
      cases hs
      exact lv_sipush hx hb hdg ((Int16.toInt32_ofInt h.1 h.2).trans (icst_eq _)) (kk _ hl)
    · cases hs
  · cases hs
    exact lv_lconst hx hb hdg rfl (kk _ hl)
  · cases hs
theorem simB_W (hx : p.tables.exec = Jvm.exec) (hb : c.code = cc) (hdg : decode cc pc = .ok (ins, slen ins)) (hl : lv_has ls nL lv) (hs : simB nL lv st ins = some (lv', st'))
    (kk : ∀ ls', lv_has ls' nL lv' → W p l e R s m args below meth c H locs cells slots Q (F0 m (pc + slen ins) ls' st')) : W p l e R s m args below meth c H locs cells slots Q (F0 m pc ls st) := by
  unfold simB at hs
  split at hs
  · obtain ⟨x, rfl, rfl, h1⟩ := st_int_spec hs
    exact lv_istore_n hx hb hdg rfl hl h1 rfl (fun ls' h => kk ls' h)
  · obtain ⟨x, rfl, rfl, h1⟩ := st_int_spec hs
    exact lv_istore hx hb hdg hl h1 rfl (fun ls' h => kk ls' h)
  · obtain ⟨x, rfl, rfl, h1⟩ := st_ref_spec hs
    exact lv_astore_n hx hb hdg rfl hl h1 rfl (fun ls' h => kk ls' h)
  · obtain ⟨x, rfl, rfl, h1⟩ := st_ref_spec hs
    exact lv_astore hx hb hdg hl h1 rfl (fun ls' h => kk ls' h)
  · obtain ⟨x, rfl, rfl, h1⟩ := st_long_spec hs
    exact lv_lstore_n hx hb hdg rfl hl h1 rfl (fun ls' h => kk ls' h)
  · obtain ⟨x, rfl, rfl, h1⟩ := st_long_spec hs
    exact lv_lstore hx hb hdg hl h1 rfl (fun ls' h => kk ls' h)
  · obtain ⟨x, rfl, rfl, h1⟩ := st_dbl_spec hs
    exact lv_dstore_n hx hb hdg rfl hl h1 rfl (fun ls' h => kk ls' h)
  · obtain ⟨x, rfl, rfl, h1⟩ := st_dbl_spec hs
    exact lv_dstore hx hb hdg hl h1 rfl (fun ls' h => kk ls' h)
  · obtain ⟨x, h1, rfl, rfl, h2⟩ := s_inc_spec hs
    obtain ⟨j, hj⟩ := List.getElem?_of_mem (lgt_mem _ _ _ h1)
    exact lv_iinc hx hb hdg hl hj (by rw [icst_eq]) h2 rfl (fun ls' h => kk ls' h)
  · cases hs
theorem simC_W (hx : p.tables.exec = Jvm.exec) (hb : c.code = cc) (hdg : decode cc pc = .ok (ins, slen ins)) (hl : lv_has ls nL lv) (hs : simC lv st ins = some (lv', st'))
    (kk : ∀ ls', lv_has ls' nL lv' → W p l e R s m args below meth c H locs cells slots Q (F0 m (pc + slen ins) ls' st')) : W p l e R s m args below meth c H locs cells slots Q (F0 m pc ls st) := by
  unfold simC at hs
  split at hs
  · obtain ⟨x, y, r, rfl, rfl, rfl⟩ := s_ii_spec hs
    exact lv_iadd hx hb hdg (kk _ hl)
  · obtain ⟨x, y, r, rfl, rfl, rfl⟩ := s_ii_spec hs
    exact lv_isub hx hb hdg (kk _ hl)
  · obtain ⟨x, y, r, rfl, rfl, rfl⟩ := s_ii_spec hs
    exact lv_imul hx hb hdg (kk _ hl)
  · obtain ⟨x, y, r, rfl, rfl, rfl⟩ := s_ii_spec hs
    exact lv_iand hx hb hdg (kk _ hl)
  · obtain ⟨x, y, r, rfl, rfl, rfl⟩ := s_ii_spec hs
    exact lv_ixor hx hb hdg (kk _ hl)
  · obtain ⟨x, y, r, rfl, rfl, rfl⟩ := s_ii_spec hs
    exact lv_ishl hx hb hdg (kk _ hl)
  · obtain ⟨x, y, r, rfl, rfl, rfl⟩ := s_ii_spec hs
    exact lv_ishr hx hb hdg (kk _ hl)
  · obtain ⟨x, y, r, rfl, rfl, rfl⟩ := s_ii_spec hs
    exact lv_iushr hx hb hdg rfl (kk _ hl)
  · obtain ⟨x, r, rfl, rfl, rfl⟩ := s_i_spec hs
    exact lv_ineg hx hb hdg (kk _ hl)
  · obtain ⟨x, y, r, rfl, rfl, rfl⟩ := s_jj_spec hs
    exact lv_ladd hx hb hdg (kk _ hl)
  · obtain ⟨x, y, r, rfl, rfl, rfl⟩ := s_jj_spec hs
    exact lv_lsub hx hb hdg (kk _ hl)
  · obtain ⟨x, y, r, rfl, rfl, rfl⟩ := s_jj_spec hs
    exact lv_lmul hx hb hdg (kk _ hl)
  · obtain ⟨x, y, r, rfl, rfl, rfl⟩ := s_jj_spec hs
    exact lv_land hx hb hdg (kk _ hl)
  · obtain ⟨x, y, r, rfl, rfl, rfl⟩ := s_jj_spec hs
    exact lv_lor hx hb hdg (kk _ hl)
  · cases hs
theorem simD_W (hx : p.tables.exec = Jvm.exec) (hb : c.code = cc) (hdg : decode cc pc = .ok (ins, slen ins)) (hl : lv_has ls nL lv) (hs : simD lv st ins = some (lv', st'))
    (kk : ∀ ls', lv_has ls' nL lv' → W p l e R s m args below meth c H locs cells slots Q (F0 m (pc + slen ins) ls' st')) : W p l e R s m args below meth c H locs cells slots Q (F0 m pc ls st) := by
  unfold simD at hs
  split at hs
  · unfold s_lsh at hs
    split at hs
    · cases hs; exact lv_lshl hx hb hdg rfl (kk _ hl)
    · cases hs
  · unfold s_lcm at hs
    split at hs
    · cases hs; exact W.lcmp hx hb hdg (kk _ hl)
    · cases hs
  · unfold s_dcm at hs
    split at hs
    · cases hs; exact lv_dcmp hx hb hdg (kk _ hl)
    · cases hs
  · obtain ⟨x, r, rfl, rfl, rfl⟩ := s_i_spec hs
    exact lv_i2l hx hb hdg rfl (kk _ hl)
  · obtain ⟨x, r, rfl, rfl, rfl⟩ := s_j_spec hs
    exact lv_l2i hx hb hdg rfl (kk _ hl)
  · obtain ⟨x, r, rfl, rfl, rfl⟩ := s_i_spec hs
    exact lv_i2d hx hb hdg (kk _ hl)
  · obtain ⟨x, r, rfl, rfl, rfl⟩ := s_d_spec hs
    exact lv_d2l hx hb hdg (kk _ hl)
  · obtain ⟨x, r, rfl, rfl, rfl⟩ := s_i_spec hs
    exact lv_i2c hx hb hdg rfl (kk _ hl)
  · unfold s_dup at hs
    split at hs
    · split at hs
      · cases hs; exact lv_dup hx hb hdg (by assumption) (kk _ hl)
      · cases hs
    · cases hs
  · unfold s_dup2 at hs
    split at hs
    · split at hs
      · rename_i h
        cases hs; exact lv_dup2_11 hx hb hdg h.1 h.2 (kk _ hl)
      · cases hs
    · cases hs
  · unfold s_pop at hs
    split at hs
    · split at hs
      · cases hs; exact lv_pop hx hb hdg (by assumption) (kk _ hl)
      · cases hs
    · cases hs
  · cases hs
theorem sim1_W (hx : p.tables.exec = Jvm.exec) (hb : c.code = cc) (hdg : decode cc pc = .ok (ins, slen ins)) (hl : lv_has ls nL lv) (hs : sim1 nL ins lv st = some (lv', st'))
    (kk : ∀ ls', lv_has ls' nL lv' → W p l e R s m args below meth c H locs cells slots Q (F0 m (pc + slen ins) ls' st')) : W p l e R s m args below meth c H locs cells slots Q (F0 m pc ls st) := by
  unfold sim1 at hs
  split at hs
  · rename_i r h
    cases hs
    exact simA_W hx hb hdg hl h kk
  · split at hs
    · rename_i r h
      cases hs
      exact simB_W hx hb hdg hl h kk
    · split at hs
      · rename_i r h
        cases hs
        exact simC_W hx hb hdg hl h kk
      · exact simD_W hx hb hdg hl hs kk
end SIM
/-- n instructions from the i-th row of a listing on -/
def simN (nL : Nat) (L : LI) : Nat → Nat → Nat → List (Nat × Value) → List Value → Option (Nat × List (Nat × Value) × List Value)
  | 0, _, pc, lv, st => some (pc, lv, st)
  | n + 1, i, pc, lv, st => match L[i]? with
    | some q => if q.1 = pc then (if q.2.2 = slen q.2.1 then (match sim1 nL q.2.1 lv st with
      | some r => simN nL L n (i + 1) (pc + slen q.2.1) r.1 r.2
      | none => none) else none) else none
    | none => none
theorem ev_ss {E : gE} {Y : MI} {Pr : Option Value → va_W → Prop} {Px : String → va_W → Prop} {k n : Nat} {ws : va_W} {L : LI} (D : Lst Y L) (N i : Nat) {pc pc' : Nat} {lv lv' : List (Nat × Value)} {st st' : List Value} (hs : simN (mml Y) L N i pc lv st = some (pc', lv', st'))
    (kk : Ev E Y Pr Px k n pc' lv' st' ws) : Ev E Y Pr Px k n pc lv st ws := by
  induction N generalizing i pc lv st with
  | zero =>
    simp only [simN] at hs
    cases hs
    exact kk
  | succ N ih =>
    simp only [simN] at hs
    split at hs
    · rename_i q hq
      split at hs
      · rename_i h1
        split at hs
        · rename_i h2
          split at hs
          · rename_i r hr
            have hk := ih (i + 1) hs
            intro p e R s m args below meth c H locs cells slots ls hC hl hS hP hc hn
            have hd := D q (List.mem_of_getElem? hq)
            rw [h1] at hd
            have hd' : decode (mcd Y) pc = .ok (q.2.1, slen q.2.1) := by rw [hd, ← h2]
            exact sim1_W hC.1 hC.2.1 hd' hl hr (fun ls' hl' => hk p e R s m args below meth c H locs cells slots ls' hC hl' hS hP hc hn)
          · cases hs
        · cases hs
      · cases hs
    · cases hs
