theorem MW.fr {E : gE} {ad : Nat → Nat} {ws w : va_W} {p : PS} {sv : Nat → PS} {sc r len : Nat} {ch : Nat → Int32} (h : MW E ad ws p sv sc r len ch) (hf : ∀ j, j < 214 → w[j]? = ws[j]?) : MW E ad w p sv sc r len ch := by
  obtain ⟨a, b, ⟨pt, c⟩, d, ⟨lb, sz, e⟩, f, g⟩ := h
  exact ⟨(hf 0 (by decide)).trans a, b.of (fun j x y => hf j (by omega)), ⟨pt, c.of (fun j x y => hf j (by omega))⟩, (hf 53 (by decide)).trans d, ⟨lb, sz, e.of (hf _ (by decide)) (hf _ (by decide))⟩, f.of (hf _ (by decide)) (hf _ (by decide)), fun k hk => (g k hk).of (fun j x y => hf j (by unfold plS at x y; omega))⟩
theorem MW.mo {E : gE} {ad : Nat → Nat} {ws w : va_W} {p : PS} {sv : Nat → PS} {sc r len : Nat} {ch : Nat → Int32} (h : MW E ad ws p sv sc r len ch) (hO : MO ws w) : MW E ad w p sv sc r len ch := h.fr (fun j hj => hO j (Or.inl hj))
/-- the world between two actions: the class and the law's modems show one state, it keeps its bounds, B beats at most, m saved states at least -/
def WD (E : gE) (ad : Nat → Nat) (ws : va_W) (B m : Nat) : Prop := ∃ (p : PS) (sv : Nat → PS) (sc r len : Nat) (ch ze : Nat → Int32), MW E ad ws p sv sc r len ch ∧ LM E ad ws p ze ∧ GI p ∧ SN p.1 ∧ (∃ n, n ≤ B ∧ p.2.1 = nI n) ∧ sc ≤ 6 ∧ m ≤ sc
theorem WD.le {E : gE} {ad : Nat → Nat} {ws : va_W} {B m B2 m2 : Nat} (h : WD E ad ws B m) (hB : B ≤ B2) (hm : m2 ≤ m) : WD E ad ws B2 m2 := by
  obtain ⟨p, sv, sc, r, len, ch, ze, h1, h2, h3, h4, ⟨n, h5, h6⟩, h7, h8⟩ := h
  exact ⟨p, sv, sc, r, len, ch, ze, h1, h2, h3, h4, ⟨n, Nat.le_trans h5 hB, h6⟩, h7, Nat.le_trans hm h8⟩
theorem scN_1 {sc : Nat} : 1 ≤ scN sc := by
  unfold scN
  split <;> omega
theorem WD.nw {E : gE} {ad : Nat → Nat} {w : va_W} {B B2 : Nat} {p p2 q : PS} {sv : Nat → PS} {sc r len : Nat} {ch ze : Nat → Int32} (h1 : MW E ad w p2 (svN q sv sc) (scN sc) r len ch) (h2 : LM E ad w p2 ze) (h3 : GI p2) (h4 : SN p2.1) (hb : ∃ n, n ≤ B ∧ p.2.1 = nI n) (e : p2.2.1 = p.2.1) (hB : B ≤ B2) (hsc : sc ≤ 6) : WD E ad w B2 1 := by
  obtain ⟨n, hn, en⟩ := hb
  exact ⟨p2, _, _, r, len, ch, ze, h1, h2, h3, h4, ⟨n, Nat.le_trans hn hB, e.trans en⟩, scN_6 hsc, scN_1⟩
theorem i16 {i : Nat} (h : i < 16) : ∃ a t, a < 2 ∧ t < 8 ∧ i = 8 * a + t := ⟨i / 8, i % 8, by omega, by omega, by omega⟩
theorem m_L_atE {E : gE} {ws : va_W} {x y : Int32} {n : Nat} (hy : y = nI n) (h0 : 0 < n) (hn : n < 2 ^ 31) : C0 E YL_at 0 0 [.int x, .int y] ws (fun v w => (∃ r, r < n ∧ v = some (.int (nI r))) ∧ w = ws) :=
  c0_mono (m_L_at hy h0 hn) (fun v w h => ⟨⟨atP x n, atP_lt h0, h.1⟩, h.2⟩)
theorem LT_q {zq zu za zn zd : Nat → Int32} {p : PS} {a t j : Nat} {f : TF} {v : Int32} (ha : a < 2) (ht : t < 8) (hj : j < 4) (hT : LT zq zu za zn zd (pTone p a t f)) : LT (upd zq (4 * (8 * a + t) + j) v) zu za zn zd (pTone p a t (upd f j v)) := by
  obtain ⟨h1, h2, h3, h4, h5⟩ := hT
  refine ⟨h1.set ha ht (fun k hk => ?_) (fun i hi => upd_ne (by omega)), h2.keep ha ht (fun k hk => upd_ne (by unfold mU; split <;> omega)), h3.keep ha ht (fun k hk => upd_ne (by unfold mA; omega)), h4.keep ha ht (fun k hk => upd_ne (by unfold mN; omega)), h5.keep ha ht (fun k hk => upd_ne (by unfold mD; omega))⟩
  by_cases e : k = j
  · subst e
    rw [upd_eq]
    exact upd_eq.symm
  · rw [upd_ne (by omega), h1.at ha ht k hk, pT_same]
    exact (upd_ne e).symm
theorem LT_u {zq zu za zn zd : Nat → Int32} {p : PS} {a t : Nat} {f : TF} {v : Int32} (ha : a < 2) (ht : t < 8) (hT : LT zq zu za zn zd (pTone p a t f)) : LT zq (upd zu (4 * (8 * a + t)) v) za zn zd (pTone p a t (upd f 4 v)) := by
  obtain ⟨h1, h2, h3, h4, h5⟩ := hT
  have b2 : ∀ j, j < 4 → zu (4 * (8 * a + t) + j) = f (mU j) := fun j hj => by rw [h2.at ha ht j hj, pT_same]
  exact ⟨h1.keep ha ht (j4 rfl rfl rfl rfl), h2.set ha ht (j4 upd_eq ((upd_ne (by omega)).trans (b2 1 (by decide))) ((upd_ne (by omega)).trans (b2 2 (by decide))) ((upd_ne (by omega)).trans (b2 3 (by decide)))) (fun i hi => upd_ne (by omega)), h3.keep ha ht (j4 rfl rfl rfl rfl), h4.keep ha ht (j4 rfl rfl rfl rfl), h5.keep ha ht (j2 rfl rfl)⟩
theorem LT_a {zq zu za zn zd : Nat → Int32} {p : PS} {a t : Nat} {f : TF} {v : Int32} (ha : a < 2) (ht : t < 8) (hT : LT zq zu za zn zd (pTone p a t f)) : LT zq zu (upd za (4 * (8 * a + t) + 3) v) zn zd (pTone p a t (upd f 10 v)) := by
  obtain ⟨h1, h2, h3, h4, h5⟩ := hT
  have b3 : ∀ j, j < 4 → za (4 * (8 * a + t) + j) = f (mA j) := fun j hj => by rw [h3.at ha ht j hj, pT_same]
  exact ⟨h1.keep ha ht (j4 rfl rfl rfl rfl), h2.keep ha ht (j4 rfl rfl rfl rfl), h3.set ha ht (j4 ((upd_ne (by omega)).trans (b3 0 (by decide))) ((upd_ne (by omega)).trans (b3 1 (by decide))) ((upd_ne (by omega)).trans (b3 2 (by decide))) upd_eq) (fun i hi => upd_ne (by omega)), h4.keep ha ht (j4 rfl rfl rfl rfl), h5.keep ha ht (j2 rfl rfl)⟩
theorem LSe.set {zt : Nat → Int32} {p : PS} {k : Nat} {v : Int32} (h : LSe zt p) : LSe (upd zt k v) (pSett p k v) := fun j hj => by
  show upd zt k v j = upd p.2.2.1 k v j
  by_cases e : j = k
  · subst e; rw [upd_eq, upd_eq]
  · rw [upd_ne e, upd_ne e]; exact h j hj
theorem nb_Ca {k : Nat} (h : k < 5) : ¬ bCa (nI k) := fun e => e.elim (nI_pos (by omega)) (nI_nlt (a := 4) (by omega) (by decide))
theorem rng_g {v lo hi : Int32} (h1 : lo.toInt ≤ v.toInt) (h2 : v.toInt ≤ hi.toInt) : ¬ (v < lo ∨ hi < v) := fun e => e.elim (fun e => by have := Int32.lt_iff_toInt_lt.mp e; omega) (fun e => by have := Int32.lt_iff_toInt_lt.mp e; omega)
theorem st_g0 {r : Nat} (h : r < 81) : ¬ bSt 0 (nI (16 + r)) := rng_g (by rw [nI_toInt (by omega)]; show (16 : Int) ≤ _; omega) (by rw [nI_toInt (by omega)]; show _ ≤ (96 : Int); omega)
theorem st_g3 {r : Nat} (h : r < 61) : ¬ bSt 3 (nI r) := rng_g (by rw [nI_toInt (by omega)]; show (0 : Int) ≤ _; omega) (by rw [nI_toInt (by omega)]; show _ ≤ (60 : Int); omega)
theorem sb_toInt {r k : Nat} (h : r < 1000) (hk : k < 1000) : (nI r - nI k).toInt = (r : Int) - k := pk_sub_toInt (by omega) (by omega)
theorem st_g12 {r j : Nat} (h : r < 65) (hj : j = 1 ∨ j = 2) : ¬ bSt j (nI r - 32) := by
  have e := sb_toInt (r := r) (k := 32) (by omega) (by decide)
  have e2 : (nI r - 32).toInt = (r : Int) - 32 := e
  rcases hj with rfl | rfl
  · exact rng_g (by rw [e2]; show (-32 : Int) ≤ _; omega) (by rw [e2]; show _ ≤ (32 : Int); omega)
  · exact rng_g (by rw [e2]; show (-32 : Int) ≤ _; omega) (by rw [e2]; show _ ≤ (32 : Int); omega)
theorem se_g0 {r : Nat} (h : r < 64) : ¬ bSe 0 (nI (1 + r)) := rng_g (by rw [nI_toInt (by omega)]; show (1 : Int) ≤ _; omega) (by rw [nI_toInt (by omega)]; show _ ≤ (64 : Int); omega)
theorem se_g1 {r : Nat} (h : r < 37) : ¬ bSe 1 (nI (4 + r)) := rng_g (by rw [nI_toInt (by omega)]; show (4 : Int) ≤ _; omega) (by rw [nI_toInt (by omega)]; show _ ≤ (40 : Int); omega)
theorem se_g2 {r : Nat} (h : r < 50) : ¬ bSe 2 (nI (1 + r)) := rng_g (by rw [nI_toInt (by omega)]; show (1 : Int) ≤ _; omega) (by rw [nI_toInt (by omega)]; show _ ≤ (50 : Int); omega)
theorem in_v {k : Nat} (h : k < 601) : (nI k - 300).toInt = (k : Int) - 300 := sb_toInt (r := k) (k := 300) (by omega) (by decide)
theorem in_g {k : Nat} (h : k < 601) : ¬ bIn (nI k - 300) := rng_g (by rw [in_v h]; show (-300 : Int) ≤ _; omega) (by rw [in_v h]; show _ ≤ (300 : Int); omega)
theorem in_s {x : Int32} {k : Nat} (h : k < 601) (hx : rB 1000 x) (hs : absP (x + (nI k - 300)) ≤ 1000) : ¬ bSm (x + (nI k - 300)) ∧ rB 1000 (x + (nI k - 300)) := by
  have e1 := in_v h
  unfold rB at hx ⊢
  have e2 := add_toInt (x := x) (y := nI k - 300) (by omega) (by omega) (by omega) (by omega)
  have e3 := absP_toInt (x := x + (nI k - 300)) (by omega) (by omega)
  have e4 := Int32.le_iff_toInt_le.mp hs
  rw [e3, show ((1000 : Int32)).toInt = 1000 by decide] at e4
  split at e4
  · exact ⟨rng_g (by show (-1000 : Int) ≤ _; omega) (by show _ ≤ (1000 : Int); omega), by omega⟩
  · exact ⟨rng_g (by show (-1000 : Int) ≤ _; omega) (by show _ ≤ (1000 : Int); omega), by omega⟩
set_option maxRecDepth 100000 in
set_option maxHeartbeats 4000000 in
theorem m_L_carry {E : gE} {ad : Nat → Nat} {ws : va_W} {x y : Int32} {B m : Nat} (hWD : WD E ad ws B m) (hm1 : m ≤ 1) : C0 E YL_carry 0 0 [.ref (ad 0), .int x, .int y, .ref (ad 216)] ws (fun v w => v = some (.int 1) ∧ WD E ad w (B + 30) m) := by
  obtain ⟨p, sv, sc, r, len, ch, ze, hM, hL, hG, hs, hb, hsc, hm⟩ := id hWD
  obtain ⟨zq, zu, za, zn, zd, zw, zc, zt, zh, hC, hT, hW, hS⟩ := id hL
  obtain ⟨hzq, hzu, hza, hzn, hzd, hzw, hzc, hzt, hze, hzh⟩ := id hC
  refine c0S vL_carry (Nat.le_of_ble_eq_true rfl) (lv0 := [(0, .ref (ad 0)), (1, .int x), (2, .int y), (3, .ref (ad 216))]) rfl ?_
  refine ev_ss DL_carry 4 0 (pc' := 5) (lv' := [(0, .ref _), (1, .int _), (2, .int _), (3, .ref _)]) (st' := [.int 16, .int _]) rfl ?_
  refine ev_rS DL_carry 4 (m_L_atE (n := 16) rfl (by decide) (by decide)) vL_at rfl qL_96 rfl (hd_of rfl rfl rfl rfl) (fun v_ w_ h_ => ?_)
  obtain ⟨⟨i, hi, rfl⟩, rfl⟩ := h_
  obtain ⟨a, t, ha, ht, rfl⟩ := i16 hi
  obtain ⟨f, ef⟩ : ∃ f, f = (pW p a).1 t := ⟨_, rfl⟩
  have hT2 : LT zq zu za zn zd (pTone p a t f) := by rw [ef]; exact hT.id
  have hTI : TI f := by rw [ef]; exact (hG.1 a ha).1 t ht
  have hQ : ∀ j, j < 4 → zq (4 * (8 * a + t) + j) = f j := fun j hj => by rw [ef]; exact hT.1.at ha ht j hj
  have hU : ∀ j, j < 4 → zu (4 * (8 * a + t) + j) = f (mU j) := fun j hj => by rw [ef]; exact hT.2.1.at ha ht j hj
  have hA : ∀ j, j < 4 → za (4 * (8 * a + t) + j) = f (7 + j) := fun j hj => by rw [ef]; exact hT.2.2.1.at ha ht j hj
  refine ev_ss DL_carry 7 5 (pc' := 17) (lv' := [(4, .int _), (0, .ref _), (1, .int _), (2, .int _), (3, .ref _)]) (st' := [.int _, .ref _]) rfl ?_
  refine ev_ialdv DL_carry 12 (k0 := ((4 * (8 * a + t)) + 3)) rfl hza (nx_add (a := (4 * (8 * a + t))) (b := 3) (nx_mul (a := 4) (b := (8 * a + t)) rfl rfl) rfl) (by omega) (by decide) ((hA 3 (by decide))) ?_
  refine ev_ss DL_carry 9 13 (pc' := 29) (lv' := [(5, .int _), (4, .int _), (0, .ref _), (1, .int _), (2, .int _), (3, .ref _)]) (st' := [.int 5, .int _, .int _, .ref _]) rfl ?_
  refine ev_rS DL_carry 22 (m_L_atE (n := 5) rfl (by decide) (by decide)) vL_at rfl qL_96 rfl (hd_of rfl rfl rfl rfl) (fun v_ w_ h_ => ?_)
  obtain ⟨⟨k, hk, rfl⟩, rfl⟩ := h_
  refine ev_iastv DL_carry 23 (k0 := ((4 * (8 * a + t)) + 3)) rfl hza (nx_add (a := (4 * (8 * a + t))) (b := 3) (nx_mul (a := 4) (b := (8 * a + t)) rfl rfl) rfl) (by omega) (by decide) rfl ?_
  refine ev_ss DL_carry 3 24 (pc' := 38) (lv' := [(5, .int _), (4, .int _), (0, .ref _), (1, .int _), (2, .int _), (3, .ref _)]) (st' := [.int 8, .int _, .ref _]) rfl ?_
  refine ev_idiv DL_carry 27 rfl (by decide) ?_
  refine ev_topv ((nx_div (a := (8 * a + t)) (d := 8) rfl rfl (by omega) (by decide) (by decide)).trans (congrArg nI (show ((8 * a + t) / 8) = a by omega))) ?_
  refine ev_ss DL_carry 2 28 (pc' := 43) (lv' := [(5, .int _), (4, .int _), (0, .ref _), (1, .int _), (2, .int _), (3, .ref _)]) (st' := [.int 8, .int _, .int _, .ref _]) rfl ?_
  refine ev_irem DL_carry 30 rfl (by decide) ?_
  refine ev_topv ((nx_rem (a := (8 * a + t)) (d := 8) rfl rfl (by omega) (by decide) (by decide)).trans (congrArg nI (show ((8 * a + t) % 8) = t by omega))) ?_
  refine ev_ss DL_carry 6 31 (pc' := 51) (lv' := [(5, .int _), (4, .int _), (0, .ref _), (1, .int _), (2, .int _), (3, .ref _)]) (st' := [.int _, .ref _, .int _, .int _, .ref _]) rfl ?_
  refine ev_ialdv DL_carry 37 (k0 := ((4 * (8 * a + t)) + 3)) rfl (wset_get hza) (nx_add (a := (4 * (8 * a + t))) (b := 3) (nx_mul (a := 4) (b := (8 * a + t)) rfl rfl) rfl) (by omega) (by decide) (upd_eq) ?_
  refine ev_rV DL_carry 38 (m_X6_carry (hM.mo (MO.rf.st (by decide) (by decide))) ha ht hsc (nb_Ca hk)) vX6_carry rfl qL_121 rfl (hM.mo (MO.rf.st (by decide) (by decide))).1 rfl (hd_of rfl rfl rfl rfl) (fun v w9 hvw => ?_)
  obtain ⟨rfl, ⟨r2, hM2⟩, hFO⟩ := hvw
  rw [← ef] at hM2 ⊢
  have hC9 := LC.of (show LC E ad _ _ _ _ _ _ _ _ _ _ _ from ⟨(wset_n hzq (by decide)), (wset_n hzu (by decide)), (wset_get hza), (wset_n hzn (by decide)), (wset_n hzd (by decide)), (wset_n hzw (by decide)), (wset_n hzc (by decide)), (wset_n hzt (by decide)), (wset_n hze (by decide)), (wset_n hzh (by decide))⟩) (fun j a b => hFO j a)
  have hL2 : LM E ad w9 (pTone p a t (upd f 10 (nI k))) ze := ⟨_, _, _, _, _, _, _, _, _, hC9, LT_a ha ht hT2, hW.T ha, hS.T2⟩
  have hWD2 : WD E ad w9 (B + 30) 1 := WD.nw (p := p) hM2 hL2 (hG.tone ha (hTI.bits (n := k) (by omega))) hs hb rfl (by omega) hsc
  obtain ⟨hyq, hyu, hya, hyn, hyd, hyw, hyc, hyt, hye, hyh⟩ := id hC9
  refine ev_ss DL_carry 1 39 (pc' := 57) (lv' := [(5, .int _), (4, .int _), (0, .ref _), (1, .int _), (2, .int _), (3, .ref _)]) (st' := [.int _, .int _]) rfl ?_
  refine ev_icne DL_carry 40 rfl (tgt := 64) (by decide) (fun h => h.elim rfl) (fun _ => ?_)
  refine ev_ss DL_carry 1 41 (pc' := 61) (lv' := [(5, .int _), (4, .int _), (0, .ref _), (1, .int _), (2, .int _), (3, .ref _)]) (st' := [.int 1]) rfl ?_
  refine ev_goto DL_carry 42 rfl (tgt := 65) (by decide) ?_
  exact ev_zret DL_carry 44 rfl rfl rfl ⟨rfl, hWD2.le (Nat.le_refl _) hm1⟩
set_option maxRecDepth 100000 in
set_option maxHeartbeats 4000000 in
theorem m_L_insult {E : gE} {ad : Nat → Nat} {ws : va_W} {x y : Int32} {B m : Nat} (hWD : WD E ad ws B m) (hm1 : m ≤ 1) : C0 E YL_insult 0 0 [.ref (ad 0), .int x, .int y, .ref (ad 215)] ws (fun v w => v = some (.int 1) ∧ WD E ad w (B + 30) m) := by
  obtain ⟨p, sv, sc, r, len, ch, ze, hM, hL, hG, hs, hb, hsc, hm⟩ := id hWD
  obtain ⟨zq, zu, za, zn, zd, zw, zc, zt, zh, hC, hT, hW, hS⟩ := id hL
  obtain ⟨hzq, hzu, hza, hzn, hzd, hzw, hzc, hzt, hze, hzh⟩ := id hC
  refine c0S vL_insult (Nat.le_of_ble_eq_true rfl) (lv0 := [(0, .ref (ad 0)), (1, .int x), (2, .int y), (3, .ref (ad 215))]) rfl ?_
  refine ev_ss DL_insult 4 0 (pc' := 5) (lv' := [(0, .ref _), (1, .int _), (2, .int _), (3, .ref _)]) (st' := [.int 16, .int _]) rfl ?_
  refine ev_rS DL_insult 4 (m_L_atE (n := 16) rfl (by decide) (by decide)) vL_at rfl qL_96 rfl (hd_of rfl rfl rfl rfl) (fun v_ w_ h_ => ?_)
  obtain ⟨⟨i, hi, rfl⟩, rfl⟩ := h_
  obtain ⟨a, t, ha, ht, rfl⟩ := i16 hi
  obtain ⟨f, ef⟩ : ∃ f, f = (pW p a).1 t := ⟨_, rfl⟩
  have hT2 : LT zq zu za zn zd (pTone p a t f) := by rw [ef]; exact hT.id
  have hTI : TI f := by rw [ef]; exact (hG.1 a ha).1 t ht
  have hQ : ∀ j, j < 4 → zq (4 * (8 * a + t) + j) = f j := fun j hj => by rw [ef]; exact hT.1.at ha ht j hj
  have hU : ∀ j, j < 4 → zu (4 * (8 * a + t) + j) = f (mU j) := fun j hj => by rw [ef]; exact hT.2.1.at ha ht j hj
  have hA : ∀ j, j < 4 → za (4 * (8 * a + t) + j) = f (7 + j) := fun j hj => by rw [ef]; exact hT.2.2.1.at ha ht j hj
  refine ev_ss DL_insult 5 5 (pc' := 16) (lv' := [(4, .int _), (0, .ref _), (1, .int _), (2, .int _), (3, .ref _)]) (st' := [.int 601, .int _]) rfl ?_
  refine ev_rS DL_insult 10 (m_L_atE (n := 601) rfl (by decide) (by decide)) vL_at rfl qL_96 rfl (hd_of rfl rfl rfl rfl) (fun v_ w_ h_ => ?_)
  obtain ⟨⟨k, hk, rfl⟩, rfl⟩ := h_
  refine ev_ss DL_insult 7 11 (pc' := 30) (lv' := [(5, .int _), (4, .int _), (0, .ref _), (1, .int _), (2, .int _), (3, .ref _)]) (st' := [.int _, .ref _]) rfl ?_
  refine ev_ialdv DL_insult 18 (k0 := (4 * (8 * a + t))) rfl hzu (nx_mul (a := 4) (b := (8 * a + t)) rfl rfl) (by omega) (by decide) ((hU 0 (by decide))) ?_
  refine ev_ss DL_insult 2 19 (pc' := 34) (lv' := [(5, .int _), (4, .int _), (0, .ref _), (1, .int _), (2, .int _), (3, .ref _)]) (st' := [.int _]) rfl ?_
  refine ev_cS DL_insult 21 m_L_size vL_size rfl qL_29 rfl (hd_of rfl rfl rfl rfl) ?_
  refine ev_ss DL_insult 1 22 (pc' := 40) (lv' := [(5, .int _), (4, .int _), (0, .ref _), (1, .int _), (2, .int _), (3, .ref _)]) (st' := [.int 1000, .int _]) rfl ?_
  refine ev_icle DL_insult 23 rfl (tgt := 45) (by decide) (fun c_1 => ?_) (fun c_1 => ?_)
  · refine ev_ss DL_insult 5 26 (pc' := 51) (lv' := [(5, .int _), (4, .int _), (0, .ref _), (1, .int _), (2, .int _), (3, .ref _)]) (st' := [.int _, .ref _, .int _, .ref _]) rfl ?_
    refine ev_ialdv DL_insult 31 (k0 := (4 * (8 * a + t))) rfl hzu (nx_mul (a := 4) (b := (8 * a + t)) rfl rfl) (by omega) (by decide) ((hU 0 (by decide))) ?_
    refine ev_ss DL_insult 2 32 (pc' := 55) (lv' := [(5, .int _), (4, .int _), (0, .ref _), (1, .int _), (2, .int _), (3, .ref _)]) (st' := [.int _, .int _, .ref _]) rfl ?_
    refine ev_iastv DL_insult 34 (k0 := (4 * (8 * a + t))) rfl hzu (nx_mul (a := 4) (b := (8 * a + t)) rfl rfl) (by omega) (by decide) rfl ?_
    refine ev_ss DL_insult 3 35 (pc' := 61) (lv' := [(5, .int _), (4, .int _), (0, .ref _), (1, .int _), (2, .int _), (3, .ref _)]) (st' := [.int 8, .int _, .ref _]) rfl ?_
    refine ev_idiv DL_insult 38 rfl (by decide) ?_
    refine ev_topv ((nx_div (a := (8 * a + t)) (d := 8) rfl rfl (by omega) (by decide) (by decide)).trans (congrArg nI (show ((8 * a + t) / 8) = a by omega))) ?_
    refine ev_ss DL_insult 2 39 (pc' := 66) (lv' := [(5, .int _), (4, .int _), (0, .ref _), (1, .int _), (2, .int _), (3, .ref _)]) (st' := [.int 8, .int _, .int _, .ref _]) rfl ?_
    refine ev_irem DL_insult 41 rfl (by decide) ?_
    refine ev_topv ((nx_rem (a := (8 * a + t)) (d := 8) rfl rfl (by omega) (by decide) (by decide)).trans (congrArg nI (show ((8 * a + t) % 8) = t by omega))) ?_
    refine ev_ss DL_insult 1 42 (pc' := 69) (lv' := [(5, .int _), (4, .int _), (0, .ref _), (1, .int _), (2, .int _), (3, .ref _)]) (st' := [.int _, .int _, .int _, .ref _]) rfl ?_
    refine ev_rV DL_insult 43 (m_X6_insult (hM.mo (MO.rf.st (by decide) (by decide))) ha ht hsc (in_g hk) (by rw [← ef]; exact (in_s hk hTI.2.1.1 c_1).1)) vX6_insult rfl qL_112 rfl (hM.mo (MO.rf.st (by decide) (by decide))).1 rfl (hd_of rfl rfl rfl rfl) (fun v w9 hvw => ?_)
    obtain ⟨rfl, ⟨r2, hM2⟩, hFO⟩ := hvw
    rw [← ef] at hM2 ⊢
    have hC9 := LC.of (show LC E ad _ _ _ _ _ _ _ _ _ _ _ from ⟨(wset_n hzq (by decide)), (wset_get hzu), (wset_n hza (by decide)), (wset_n hzn (by decide)), (wset_n hzd (by decide)), (wset_n hzw (by decide)), (wset_n hzc (by decide)), (wset_n hzt (by decide)), (wset_n hze (by decide)), (wset_n hzh (by decide))⟩) (fun j a b => hFO j a)
    have hL2 : LM E ad w9 (pTone p a t (upd f 4 (f 4 + (nI k - 300)))) ze := ⟨_, _, _, _, _, _, _, _, _, hC9, LT_u ha ht hT2, hW.T ha, hS.T2⟩
    have hWD2 : WD E ad w9 (B + 30) 1 := WD.nw (p := p) hM2 hL2 (hG.tone ha (hTI.upd4 (in_s hk hTI.2.1.1 c_1).2)) hs hb rfl (by omega) hsc
    obtain ⟨hyq, hyu, hya, hyn, hyd, hyw, hyc, hyt, hye, hyh⟩ := id hC9
    refine ev_ss DL_insult 4 44 (pc' := 77) (lv' := [(5, .int _), (4, .int _), (0, .ref _), (1, .int _), (2, .int _), (3, .ref _)]) (st' := [.int _, .ref _, .int _]) rfl ?_
    refine ev_ialdv DL_insult 48 (k0 := (4 * (8 * a + t))) rfl hyu (nx_mul (a := 4) (b := (8 * a + t)) rfl rfl) (by omega) (by decide) (upd_eq) ?_
    refine ev_icne DL_insult 49 rfl (tgt := 85) (by decide) (fun h => h.elim rfl) (fun _ => ?_)
    refine ev_ss DL_insult 1 50 (pc' := 82) (lv' := [(5, .int _), (4, .int _), (0, .ref _), (1, .int _), (2, .int _), (3, .ref _)]) (st' := [.int 1]) rfl ?_
    refine ev_goto DL_insult 51 rfl (tgt := 86) (by decide) ?_
    exact ev_zret DL_insult 53 rfl rfl rfl ⟨rfl, hWD2.le (Nat.le_refl _) hm1⟩
  · refine ev_ss DL_insult 1 24 (pc' := 44) (lv' := [(5, .int _), (4, .int _), (0, .ref _), (1, .int _), (2, .int _), (3, .ref _)]) (st' := [.int 1]) rfl ?_
    exact ev_zret DL_insult 25 rfl rfl rfl ⟨rfl, hWD.le (by omega) (Nat.le_refl _)⟩
