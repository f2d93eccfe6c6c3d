def onQ (x : Int32) : Int32 := 0 + ((x >>> ((0 : Int32) &&& 31)) &&& 1) + ((x >>> ((1 : Int32) &&& 31)) &&& 1) + ((x >>> ((2 : Int32) &&& 31)) &&& 1) + ((x >>> ((3 : Int32) &&& 31)) &&& 1)
theorem on_bc : ∀ k, k < 16 → onQ (nI k) = bcP (nI k) := by decide +kernel
/-- the level of a sign that is heard -/
def lvP (f : TF) (r : Int32) : Int32 := (r - (f 8 * f 16 + f 9 * f 17) / 64) * 64 / f 7
theorem decP_L {f : TF} {r : Int32} : decP f r = dcL (f 10) (lvP f r) := rfl
/-- the level is no monster -/
def DR (f : TF) (r : Int32) : Prop := -1000000 ≤ (lvP f r).toInt ∧ (lvP f r).toInt ≤ 1000000
theorem shl_n : ∀ n, n < 5 → (1 : Int32) <<< (nI n &&& 31) = nI (2 ^ n) := by decide +kernel
theorem p2_n : ∀ n, n < 5 → 1 ≤ 2 ^ n ∧ 2 ^ n ≤ 16 := by decide
set_option maxRecDepth 100000 in
set_option maxHeartbeats 4000000 in
theorem m_X7_ones {E : gE} {ws : va_W} {x : Int32} : CD E YX7_ones 0 0 [.int x] ws (some (.int (onQ x))) ws := by
  refine cdS vX7_ones (Nat.le_of_ble_eq_true rfl) (lv0 := [(0, .int x)]) rfl ?_
  refine ev_ss DX7_ones 6 0 (pc' := 6) (lv' := [(2, .int 0), (1, .int 0), (0, .int _)]) (st' := [.int 4, .int 0]) rfl ?_
  refine ev_icge DX7_ones 6 rfl (tgt := 23) (by decide) (fun h => absurd h (by decide)) (fun _ => ?_)
  refine ev_ss DX7_ones 9 7 (pc' := 20) (lv' := [(2, .int 1), (1, .int _), (0, .int _)]) (st' := []) rfl ?_
  refine ev_goto DX7_ones 16 rfl (tgt := 4) (by decide) ?_
  refine ev_ss DX7_ones 2 4 (pc' := 6) (lv' := [(2, .int 1), (1, .int _), (0, .int _)]) (st' := [.int 4, .int 1]) rfl ?_
  refine ev_icge DX7_ones 6 rfl (tgt := 23) (by decide) (fun h => absurd h (by decide)) (fun _ => ?_)
  refine ev_ss DX7_ones 9 7 (pc' := 20) (lv' := [(2, .int 2), (1, .int _), (0, .int _)]) (st' := []) rfl ?_
  refine ev_goto DX7_ones 16 rfl (tgt := 4) (by decide) ?_
  refine ev_ss DX7_ones 2 4 (pc' := 6) (lv' := [(2, .int 2), (1, .int _), (0, .int _)]) (st' := [.int 4, .int 2]) rfl ?_
  refine ev_icge DX7_ones 6 rfl (tgt := 23) (by decide) (fun h => absurd h (by decide)) (fun _ => ?_)
  refine ev_ss DX7_ones 9 7 (pc' := 20) (lv' := [(2, .int 3), (1, .int _), (0, .int _)]) (st' := []) rfl ?_
  refine ev_goto DX7_ones 16 rfl (tgt := 4) (by decide) ?_
  refine ev_ss DX7_ones 2 4 (pc' := 6) (lv' := [(2, .int 3), (1, .int _), (0, .int _)]) (st' := [.int 4, .int 3]) rfl ?_
  refine ev_icge DX7_ones 6 rfl (tgt := 23) (by decide) (fun h => absurd h (by decide)) (fun _ => ?_)
  refine ev_ss DX7_ones 9 7 (pc' := 20) (lv' := [(2, .int 4), (1, .int _), (0, .int _)]) (st' := []) rfl ?_
  refine ev_goto DX7_ones 16 rfl (tgt := 4) (by decide) ?_
  refine ev_ss DX7_ones 2 4 (pc' := 6) (lv' := [(2, .int 4), (1, .int _), (0, .int _)]) (st' := [.int 4, .int 4]) rfl ?_
  refine ev_icge DX7_ones 6 rfl (tgt := 23) (by decide) (fun _ => ?_) (fun h => h.elim (by decide))
  refine ev_ss DX7_ones 1 17 (pc' := 24) (lv' := [(2, .int 4), (1, .int _), (0, .int _)]) (st' := [.int _]) rfl ?_
  exact ev_iret DX7_ones 18 rfl rfl ⟨rfl, rfl⟩
set_option maxRecDepth 100000 in
set_option maxHeartbeats 4000000 in
theorem dc_loop {E : gE} {ad : Nat → Nat} {ws : va_W} {n : Nat} {A1 A2 A3 A4 A6 L : Value} {lv : Int32} (hL : L = .int lv) (hA : A1.category = 1 ∧ A2.category = 1 ∧ A3.category = 1 ∧ A4.category = 1 ∧ A6.category = 1) (hn : n ≤ 4) : ∀ (m i : Nat) (x best : Int32), i + 1 + m = 2 ^ n → x = nI (i + 1) → best = dcS (nI n) lv i → Ev E YX7_decide (fun v w => v = some (.int (dcS (nI n) lv (2 ^ n - 1))) ∧ w = ws) nX 0 0 90 [(0, .ref (ad 214)), (5, .int (nI n)), (7, .int lv), (8, .int best), (9, .int x)] [] ws := by
  have h2 := p2_n n (by omega)
  have h3 := shl_n n (by omega)
  intro m
  induction m with
  | zero =>
    intro i x best hm hx hb
    have ei : i = 2 ^ n - 1 := by omega
    subst hx; subst hb
    rw [show i + 1 = 2 ^ n by omega]
    refine ev_ss DX7_decide 4 59 (pc' := 96) (lv' := [(0, .ref _), (5, .int _), (7, .int _), (8, .int _), (9, .int _)]) (st' := [.int _, .int _]) rfl ?_
    refine ev_icge DX7_decide 63 rfl (tgt := 143) (by decide) (fun _ => ?_) (fun h => h.elim (by show (1 : Int32) <<< (nI n &&& 31) ≤ nI (2 ^ n); rw [h3]; exact nI_le (Nat.le_refl _) (by omega)))
    refine ev_ss DX7_decide 1 83 (pc' := 145) (lv' := [(0, .ref _), (5, .int _), (7, .int _), (8, .int _), (9, .int _)]) (st' := [.int _]) rfl ?_
    exact ev_iret DX7_decide 84 rfl rfl ⟨by rw [ei], rfl⟩
  | succ m ih =>
    intro i x best hm hx hb
    subst hx
    refine ev_ss DX7_decide 4 59 (pc' := 96) (lv' := [(0, .ref _), (5, .int _), (7, .int _), (8, .int _), (9, .int _)]) (st' := [.int _, .int _]) rfl ?_
    refine ev_icge DX7_decide 63 rfl (tgt := 143) (by decide) (fun h => absurd (show (1 : Int32) <<< (nI n &&& 31) ≤ nI (i + 1) from h) (by rw [h3]; exact nI_ge (by omega) (by omega))) (fun _ => ?_)
    refine ev_ss DX7_decide 2 64 (pc' := 103) (lv' := [(0, .ref _), (5, .int _), (7, .int _), (8, .int _), (9, .int _)]) (st' := [.int _, .int _]) rfl ?_
    refine ev_cS DX7_decide 66 m_X7_amplitude vX7_amplitude rfl qX7_117 rfl (hd_of rfl rfl rfl rfl) ?_
    refine ev_ss DX7_decide 2 67 (pc' := 109) (lv' := [(0, .ref _), (5, .int _), (7, .int _), (8, .int _), (9, .int _)]) (st' := [.int _]) rfl ?_
    refine ev_cS DX7_decide 69 m_X7_size vX7_size rfl qX7_91 rfl (hd_of rfl rfl rfl rfl) ?_
    refine ev_ss DX7_decide 2 70 (pc' := 116) (lv' := [(0, .ref _), (5, .int _), (7, .int _), (8, .int _), (9, .int _)]) (st' := [.int _, .int _, .int _]) rfl ?_
    refine ev_cS DX7_decide 72 m_X7_amplitude vX7_amplitude rfl qX7_117 rfl (hd_of rfl rfl rfl rfl) ?_
    refine ev_ss DX7_decide 2 73 (pc' := 122) (lv' := [(0, .ref _), (5, .int _), (7, .int _), (8, .int _), (9, .int _)]) (st' := [.int _, .int _]) rfl ?_
    refine ev_cS DX7_decide 75 m_X7_size vX7_size rfl qX7_91 rfl (hd_of rfl rfl rfl rfl) ?_
    refine ev_icge DX7_decide 76 rfl (tgt := 133) (by decide) (fun c_1 => ?_) (fun c_1 => ?_)
    · refine ev_ss DX7_decide 3 79 (pc' := 140) (lv' := [(9, .int _), (8, .int _), (0, .ref _), (5, .int _), (7, .int _)]) (st' := []) rfl ?_
      refine ev_goto DX7_decide 82 rfl (tgt := 90) (by decide) ?_
      refine ev_lvp (lv2 := [(0, .ref _), (5, .int _), (7, .int _), (8, .int _), (9, .int _)]) [2, 3, 4, 1, 0] rfl ?_
      exact ih (i + 1) _ _ (by omega) (nI_1 (i + 1)) (by rw [dcS_s, ← hb]; exact (if_pos c_1).symm)
    · refine ev_ss DX7_decide 1 77 (pc' := 130) (lv' := [(0, .ref _), (5, .int _), (7, .int _), (8, .int _), (9, .int _)]) (st' := [.int _]) rfl ?_
      refine ev_goto DX7_decide 78 rfl (tgt := 135) (by decide) ?_
      refine ev_ss DX7_decide 2 80 (pc' := 140) (lv' := [(9, .int _), (8, .int _), (0, .ref _), (5, .int _), (7, .int _)]) (st' := []) rfl ?_
      refine ev_goto DX7_decide 82 rfl (tgt := 90) (by decide) ?_
      refine ev_lvp (lv2 := [(0, .ref _), (5, .int _), (7, .int _), (8, .int _), (9, .int _)]) [2, 3, 4, 1, 0] rfl ?_
      exact ih (i + 1) _ _ (by omega) (nI_1 (i + 1)) (by rw [dcS_s, ← hb]; exact (if_neg c_1).symm)
set_option maxRecDepth 100000 in
set_option maxHeartbeats 4000000 in
theorem m_X7_decide {E : gE} {ad : Nat → Nat} {ws : va_W} {sm bm tw ea iw : Int32} {hh : Int64} {z : Nat → Int32} (h : ws[214]? = some (ad 214, moC ad sm bm tw ea iw hh)) (hz : ws[215]? = some (ad 215, iaC E 811 z)) {p : PS} {a t n : Nat} {f : TF} {r : Int32} (ha : a < 2) (ht : t < 8) (hG : ZG z (pTone p a t f)) (hn : n ≤ 4) (hb : f 10 = nI n) (hg : ¬ f 7 ≤ 0) (hD : DR f r) : CD E YX7_decide 0 0 [.ref (ad 214), .int (nI a), .int (nI t), .int r] ws (some (.int (decP f r))) ws := by
  have hc2 : acA a t + 11 ≤ 288 := by unfold acA; omega
  have hac : ∀ j, j < 11 → z (acA a t + j) = f (7 + j) := fun j hj => by rw [hG.2.1 a t j ha ht hj, pT_same]
  have h10 : z (acA a t + 3) = nI n := by rw [hac 3 (by decide)]; exact hb
  have hg0 : ¬ f 7 = 0 := fun e => hg (by rw [e]; decide)
  rw [decP_L, hb, ← dec_all hn hD.1 hD.2]
  refine cdV vX7_decide (Nat.le_of_ble_eq_true rfl) (lv0 := [(0, .ref (ad 214)), (1, .int (nI a)), (2, .int (nI t)), (3, .int r)]) rfl ?_
  refine ev_ss DX7_decide 3 0 (pc' := 3) (lv' := [(0, .ref _), (1, .int _), (2, .int _), (3, .int _)]) (st' := [.int _, .int _, .ref _]) rfl ?_
  refine ev_cV DX7_decide 3 (m_X7_accentAt h) vX7_accentAt rfl qX7_68 rfl h rfl (hd_of rfl rfl rfl rfl) ?_
  refine ev_ss DX7_decide 2 4 (pc' := 9) (lv' := [(4, .int _), (0, .ref _), (1, .int _), (2, .int _), (3, .int _)]) (st' := [.ref _]) rfl ?_
  refine ev_get DX7_decide 6 GX7 rfl (k0 := 0) (Nat.le_of_ble_eq_true rfl) fX7_7 h rfl ?_
  refine ev_ss DX7_decide 3 7 (pc' := 16) (lv' := [(4, .int _), (0, .ref _), (1, .int _), (2, .int _), (3, .int _)]) (st' := [.int _, .ref _]) rfl ?_
  refine ev_ialdv DX7_decide 10 (k0 := (acA a t + 3)) rfl hz (nx_add (a := acA a t) (b := 3) rfl rfl) (by omega) (by decide) (h10) ?_
  refine ev_ss DX7_decide 3 11 (pc' := 21) (lv' := [(5, .int _), (4, .int _), (0, .ref _), (1, .int _), (2, .int _), (3, .int _)]) (st' := [.ref _, .int _]) rfl ?_
  refine ev_get DX7_decide 14 GX7 rfl (k0 := 0) (Nat.le_of_ble_eq_true rfl) fX7_7 h rfl ?_
  refine ev_ss DX7_decide 3 15 (pc' := 28) (lv' := [(5, .int _), (4, .int _), (0, .ref _), (1, .int _), (2, .int _), (3, .int _)]) (st' := [.int _, .ref _, .int _]) rfl ?_
  refine ev_ialdv DX7_decide 18 (k0 := (acA a t + 1)) rfl hz (nx_add (a := acA a t) (b := 1) rfl rfl) (by omega) (by decide) ((hac 1 (by decide))) ?_
  refine ev_ss DX7_decide 1 19 (pc' := 30) (lv' := [(5, .int _), (4, .int _), (0, .ref _), (1, .int _), (2, .int _), (3, .int _)]) (st' := [.ref _, .int _, .int _]) rfl ?_
  refine ev_get DX7_decide 20 GX7 rfl (k0 := 0) (Nat.le_of_ble_eq_true rfl) fX7_7 h rfl ?_
  refine ev_ss DX7_decide 3 21 (pc' := 38) (lv' := [(5, .int _), (4, .int _), (0, .ref _), (1, .int _), (2, .int _), (3, .int _)]) (st' := [.int _, .ref _, .int _, .int _]) rfl ?_
  refine ev_ialdv DX7_decide 24 (k0 := (acA a t + 9)) rfl hz (nx_add (a := acA a t) (b := 9) rfl rfl) (by omega) (by decide) ((hac 9 (by decide))) ?_
  refine ev_ss DX7_decide 2 25 (pc' := 41) (lv' := [(5, .int _), (4, .int _), (0, .ref _), (1, .int _), (2, .int _), (3, .int _)]) (st' := [.ref _, .int _, .int _]) rfl ?_
  refine ev_get DX7_decide 27 GX7 rfl (k0 := 0) (Nat.le_of_ble_eq_true rfl) fX7_7 h rfl ?_
  refine ev_ss DX7_decide 3 28 (pc' := 48) (lv' := [(5, .int _), (4, .int _), (0, .ref _), (1, .int _), (2, .int _), (3, .int _)]) (st' := [.int _, .ref _, .int _, .int _]) rfl ?_
  refine ev_ialdv DX7_decide 31 (k0 := (acA a t + 2)) rfl hz (nx_add (a := acA a t) (b := 2) rfl rfl) (by omega) (by decide) ((hac 2 (by decide))) ?_
  refine ev_ss DX7_decide 1 32 (pc' := 50) (lv' := [(5, .int _), (4, .int _), (0, .ref _), (1, .int _), (2, .int _), (3, .int _)]) (st' := [.ref _, .int _, .int _, .int _]) rfl ?_
  refine ev_get DX7_decide 33 GX7 rfl (k0 := 0) (Nat.le_of_ble_eq_true rfl) fX7_7 h rfl ?_
  refine ev_ss DX7_decide 3 34 (pc' := 58) (lv' := [(5, .int _), (4, .int _), (0, .ref _), (1, .int _), (2, .int _), (3, .int _)]) (st' := [.int _, .ref _, .int _, .int _, .int _]) rfl ?_
  refine ev_ialdv DX7_decide 37 (k0 := (acA a t + 10)) rfl hz (nx_add (a := acA a t) (b := 10) rfl rfl) (by omega) (by decide) ((hac 10 (by decide))) ?_
  refine ev_ss DX7_decide 3 38 (pc' := 63) (lv' := [(5, .int _), (4, .int _), (0, .ref _), (1, .int _), (2, .int _), (3, .int _)]) (st' := [.int 64, .int _, .int _]) rfl ?_
  refine ev_idiv DX7_decide 41 rfl (by decide) ?_
  refine ev_ss DX7_decide 6 42 (pc' := 73) (lv' := [(6, .int _), (5, .int _), (4, .int _), (0, .ref _), (1, .int _), (2, .int _), (3, .int _)]) (st' := [.ref _, .int _]) rfl ?_
  refine ev_get DX7_decide 48 GX7 rfl (k0 := 0) (Nat.le_of_ble_eq_true rfl) fX7_7 h rfl ?_
  refine ev_ss DX7_decide 3 49 (pc' := 80) (lv' := [(6, .int _), (5, .int _), (4, .int _), (0, .ref _), (1, .int _), (2, .int _), (3, .int _)]) (st' := [.int _, .ref _, .int _]) rfl ?_
  refine ev_ialdv DX7_decide 52 (k0 := (acA a t + 0)) rfl hz (nx_add (a := acA a t) (b := 0) rfl rfl) (by omega) (by decide) ((hac 0 (by decide))) ?_
  refine ev_idiv DX7_decide 53 rfl hg0 ?_
  refine ev_ss DX7_decide 5 54 (pc' := 90) (lv' := [(9, .int 1), (8, .int 0), (7, .int _), (6, .int _), (5, .int _), (4, .int _), (0, .ref _), (1, .int _), (2, .int _), (3, .int _)]) (st' := []) rfl ?_
  refine ev_lvp (lv2 := [(0, .ref _), (5, .int _), (7, .int _), (8, .int _), (9, .int _)]) [6, 4, 2, 1, 0] rfl ?_
  exact dc_loop (A1 := .int 0) (A2 := .int 0) (A3 := .int 0) (A4 := .int 0) (A6 := .int 0) rfl ⟨rfl, rfl, rfl, rfl, rfl⟩ hn (2 ^ n - 1) 0 _ _ (by have := p2_n n (by omega); omega) rfl rfl
def pTak (p : PS) (a n : Nat) : PS := pBits p a (takeQ n 0 (pW p a).2.1).2
theorem takeQ_s {n : Nat} {sg : Int32} {bs : List Int32} : takeQ (n + 1) sg bs = takeQ n (2 * sg + (tk1 bs).1) (tk1 bs).2 := by
  cases bs with
  | nil => show takeQ n (2 * sg) [] = takeQ n (2 * sg + 0) []; rw [Int32.add_zero]
  | cons b bs => rfl
theorem pBits_W {p : PS} {a : Nat} {bs : List Int32} : (pW (pBits p a bs) a).2.1 = bs := by unfold pBits; rw [pW_set]
theorem pBits_2 {p : PS} {a : Nat} {bs cs : List Int32} : pBits (pBits p a bs) a cs = pBits p a cs := by
  unfold pBits
  rw [pW_set, pSet_set]
set_option maxRecDepth 100000 in
set_option maxHeartbeats 4000000 in
theorem st_take {E : gE} {ad : Nat → Nat} {ws : va_W} {sm bm tw ea iw : Int32} {hh : Int64} {Pr : Option Value → va_W → Prop} {p : PS} {a t n : Nat} (ha : a < 2) (hn : n ≤ 4) (h : ws[214]? = some (ad 214, moC ad sm bm tw ea iw hh))
    (hP : ∀ (w : va_W) (z2 : Nat → Int32) (x : Int32), w[215]? = some (ad 215, iaC E 811 z2) → ZG z2 (pTak p a n) → NZ ws w → Ev E YX7_sendTone Pr nX 0 0 48 [(0, .ref (ad 214)), (1, .int (nI a)), (2, .int (nI t)), (3, .int (nI (acA a t))), (4, .int (nI n)), (5, .int (takeQ n 0 (pW p a).2.1).1)] [] w) :
    ∀ (m i : Nat) (x sg : Int32) (w : va_W) (z1 : Nat → Int32) (bs : List Int32), i + m = n → x = nI i → w[215]? = some (ad 215, iaC E 811 z1) → ZG z1 (pBits p a bs) → takeQ m sg bs = takeQ n 0 (pW p a).2.1 → NZ ws w → Ev E YX7_sendTone Pr nX 0 0 23 [(0, .ref (ad 214)), (1, .int (nI a)), (2, .int (nI t)), (3, .int (nI (acA a t))), (4, .int (nI n)), (5, .int sg), (6, .int x)] [] w := by
  intro m
  induction m with
  | zero =>
    intro i x sg w z1 bs hm hx hz1 hg1 hq hO
    obtain rfl : i = n := by omega
    subst hx
    have e1 : sg = (takeQ i 0 (pW p a).2.1).1 := by rw [← hq]; rfl
    have e2 : bs = (takeQ i 0 (pW p a).2.1).2 := by rw [← hq]; rfl
    refine ev_ss DX7_sendTone_0 2 16 (pc' := 27) (lv' := [(0, .ref _), (1, .int _), (2, .int _), (3, .int _), (4, .int _), (5, .int _), (6, .int _)]) (st' := [.int _, .int _]) rfl ?_
    refine ev_icge DX7_sendTone_0 18 rfl (tgt := 48) (by decide) (fun _ => ?_) (fun h => h.elim (nI_le (Nat.le_refl _) (by omega)))
    refine ev_lvp (lv2 := [(0, .ref _), (1, .int _), (2, .int _), (3, .int _), (4, .int _), (5, .int _)]) [0, 1, 2, 3, 4, 5] rfl ?_
    rw [e1]
    exact hP w z1 0 hz1 (by unfold pTak; rw [← e2]; exact hg1) hO
  | succ m ih =>
    intro i x sg w z1 bs hm hx hz1 hg1 hq hO
    subst hx
    have h1 := (hO 214 (by decide)).trans h
    rw [takeQ_s] at hq
    refine ev_ss DX7_sendTone_0 2 16 (pc' := 27) (lv' := [(0, .ref _), (1, .int _), (2, .int _), (3, .int _), (4, .int _), (5, .int _), (6, .int _)]) (st' := [.int _, .int _]) rfl ?_
    refine ev_icge DX7_sendTone_0 18 rfl (tgt := 48) (by decide) (fun h => absurd h (nI_ge (b := n) (by omega) (by omega))) (fun _ => ?_)
    refine ev_ss DX7_sendTone_0 5 19 (pc' := 36) (lv' := [(0, .ref _), (1, .int _), (2, .int _), (3, .int _), (4, .int _), (5, .int _), (6, .int _)]) (st' := [.int _, .ref _, .int _]) rfl ?_
    refine ev_rV DX7_sendTone_0 24 (m_X7_takeBit h1 hz1 ha hg1) vX7_takeBit rfl qX7_120 rfl h1 rfl (hd_of rfl rfl rfl rfl) (fun v w2 hvw => ?_)
    obtain ⟨rfl, ⟨z2, hz2, hg2⟩, hO2⟩ := hvw
    rw [pBits_W, pBits_2] at hg2
    rw [pBits_W]
    refine ev_ss DX7_sendTone_0 3 25 (pc' := 45) (lv' := [(6, .int _), (5, .int _), (0, .ref _), (1, .int _), (2, .int _), (3, .int _), (4, .int _)]) (st' := []) rfl ?_
    refine ev_goto DX7_sendTone_0 28 rfl (tgt := 23) (by decide) ?_
    refine ev_lvp (lv2 := [(0, .ref _), (1, .int _), (2, .int _), (3, .int _), (4, .int _), (5, .int _), (6, .int _)]) [2, 3, 4, 5, 6, 1, 0] rfl ?_
    exact ih (i + 1) _ _ w2 z2 _ (by omega) (nI_1 i) hz2 hg2 hq (hO.tr hO2)
