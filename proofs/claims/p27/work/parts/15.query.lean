/-! pure: what the class's queries answer -/
theorem g_n64 {r : UInt64} (h : FP.Core.dIsNaN r = false) : vf_n64 r := by
  unfold vf_n64
  rw [UInt64.le_iff_toNat_le, UInt64.toNat_and]
  have h1 : (0x7fffffffffffffff : UInt64).toNat = 2 ^ 63 - 1 := by decide
  have h2 : (0x7ff0000000000000 : UInt64).toNat = 9218868437227405312 := by decide
  rw [h1, h2, Nat.and_two_pow_sub_one_eq_mod]
  rw [← Bool.not_eq_true, FP.Core.isNaN_bits] at h
  omega
theorem g_i2dn (x : Int32) : FP.Core.dIsNaN (FP.i2d x) = false := by
  rw [← Bool.not_eq_true, FP.Core.isNaN_bits]
  have := FP.Core.i2d_mag x
  have e : (FP.i2d x).toNat = (FP.Core.i2d x).toNat := rfl
  rw [e]
  omega
theorem g_meanN {x y : Int32} (h : ¬ y = 0) : FP.Core.dIsNaN (FP.ddiv (FP.i2d x) (FP.i2d y)) = false :=
  FP.Core.ddiv_out (g_i2dn x) (FP.Core.i2d_fin y) (fun z => FP.Core.i2d_ne_zero h ((FP.Core.zero_bits2 _).mp z))
theorem g_mean {x y : Int32} (h : ¬ y = 0) : vf_n64 (FP.ddiv (FP.i2d x) (FP.i2d y)) := g_n64 (g_meanN h)
def meV (c : Nat → Int32) : UInt64 := if c 153 = 0 then FP.dconst0 else FP.ddiv (FP.i2d (sI (amA c (nI 4)) 8)) (FP.i2d (c 153))
def peV (c : Nat → Int32) (q : Bool) (x w : Int32) : Int32 := if isP x then (if w = nI 0 then c ((if q then 0 else 8) + pN x) else if w = nI 1 then sI (amF c q (pN x) w) 8 else if w = nI 2 then sI (amF c q (pN x) w) 8 else if w = nI 3 then sI (amF c q (pN x) w) 8 else if w = nI 4 then sI (amF c q (pN x) w) 8 else if w = nI 5 then nI (pmask (fun o => if q then caC c (pN x) o else caC c o (pN x)) 8) else -2) else -1
def whV (c : Nat → Int32) (a b : Nat) : Int32 := if wiC c a b = false then nI 1 else if glC c a b = false then nI 2 else if 0 < feC c a b then nI 3 else if pI (spE (EC c) a) = nI b then nI 0 else nI 4
def paV (c : Nat → Int32) (x y w : Int32) : Int32 := if two x y then (if w = nI 0 then bI (wiC c (pN x) (pN y)) else if w = nI 1 then feC c (pN x) (pN y) else if w = nI 2 then taC c (pN x) (pN y) else if w = nI 3 then whV c (pN x) (pN y) else -2) else -1
def spR (E : Nat → Nat → Bool) (b : Nat) : Option Nat := fstU (fun a => decide (spE E a = some b)) 8
theorem spR_of {W : Nat → Nat} {E : Nat → Nat → Bool} {R : Nat → Option Nat} (hm : mt W (spE (Ew W)) R) (h : ∀ a, a < 8 → spE (Ew W) a = spE E a) {b : Nat} (hb : b < 8) : R b = spR E b := by
  cases hR : R b with
  | none =>
    refine ((fstU_none _ 8).mpr (fun a ha => decide_eq_false (fun e => ?_))).symm
    have := (hm.1 a b ha ((h a ha).trans e)).2.1
    rw [hR] at this; cases this
  | some a =>
    obtain ⟨h1, h2⟩ := hm.2 b a hb hR
    refine ((fstU_some _ 8 a).mpr ⟨h1, decide_eq_true ((h a h1).symm.trans h2), fun i hi => decide_eq_false (fun e => ?_)⟩).symm
    have := (hm.1 i b (by omega) ((h i (by omega)).trans e)).2.1
    rw [hR] at this
    have := Option.some.inj this
    omega
def ptV (c : Nat → Int32) (q : Bool) (x : Int32) : Int32 := if isP x then (if q then pI (spE (EC c) (pN x)) else pI (spR (EC c) (pN x))) else -1
theorem aw_of {wi c : Nat → Int32} (h : ∀ a, a < 8 → wi a = nI (pmask (poC c a) 8)) : aw wi := fun a ha => by
  rw [wi_cN h a ha]; exact ⟨h a ha, pmask_lt _ 8⟩
def hnN (c : Nat → Int32) : Nat := pmask (fun a => decide (szN (eOut (EC c) a) 8 255 = szC c) && decide (pmask (poC c a) 8 ≠ 0)) 8
theorem hn_of {wi c : Nat → Int32} (h : ∀ a, a < 8 → wi a = nI (pmask (poC c a) 8)) : pmask (fun a => decide (szN (eOut (Ew (cN wi)) a) 8 255 = szN (Ew (cN wi)) 8 255) && decide (cN wi a ≠ 0)) 8 = hnN c := by
  refine pmask_cong 8 (fun k hk => ?_)
  rw [sz_of h, wi_cN h k hk]
  have : szN (eOut (Ew (cN wi)) k) 8 255 = szN (eOut (EC c) k) 8 255 := szN_cong 8 255 (Nat.le_refl _) (fun a b _ ha hb => by
    unfold eOut
    rw [EC_of h a b ha hb])
  rw [this]
noncomputable def plV (c : Nat → Int32) (x y : Int32) : Int32 := if two x y then pI (PLn (poC c) 64 (8 * pN x + pN y)) else -1
theorem cntT8 (p : Nat → Bool) : cntT p 8 = cnt p 8 := cntT_cnt p 8 (Nat.le_refl _)
theorem sI_bI (f : Nat → Bool) : ∀ n, sI (fun o => bI (f o)) n = nI (cnt f n)
  | 0 => rfl
  | n + 1 => by
    simp only [sI, cnt]
    rw [sI_bI f n, bI_nI, nI_add]
theorem sI_cong {f g : Nat → Int32} : ∀ n, (∀ k, k < n → f k = g k) → sI f n = sI g n
  | 0, _ => rfl
  | n + 1, h => by
    simp only [sI]
    rw [sI_cong n (fun k hk => h k (by omega)), h n (by omega)]
theorem n21 : ¬ nI 2 = nI 1 := fun h => absurd ((nI_eq (by decide) (by decide)).mp h) (by decide)
theorem amP_2 (c : Nat → Int32) (a b : Nat) : amP c a b (nI 2) = bI (poC c a b) := (if_neg n21).trans (if_pos rfl)
theorem amF_f (c : Nat → Int32) (a o : Nat) (w : Int32) : amF c false a w o = amP c o a w := if_neg Bool.false_ne_true
theorem amF_t (c : Nat → Int32) (a o : Nat) (w : Int32) : amF c true a w o = amP c a o w := if_pos rfl
theorem sI_po (c : Nat → Int32) (q : Bool) (a : Nat) : sI (amF c q a (nI 2)) 8 = nI (cnt (fun o => if q then poC c a o else poC c o a) 8) := by
  refine (sI_cong 8 (fun o _ => ?_)).trans (sI_bI _ 8)
  cases q
  · rw [amF_f, amP_2, if_neg Bool.false_ne_true]
  · rw [amF_t, amP_2, if_pos rfl]
def mxF (c : Nat → Int32) : Nat → Nat
  | 0 => 0
  | n + 1 => max (max (mxF c n) (cnt (fun o => poC c n o) 8)) (cnt (fun o => poC c o n) 8)
def coV (c : Nat → Int32) (z ln : Nat) (w : Int32) : Int32 := if w = nI 0 then nI (nwC c 8) else if w = nI 1 then sI (amA c (nI 2)) 8 else if w = nI 2 then sI (amA c (nI 3)) 8 else if w = nI 3 then nI (bcN (cN c 152)) else if w = nI 4 then c 153 else if w = nI 5 then sI (amA c (nI 4)) 8 else if w = nI 6 then nI (szC c) else if w = nI 7 then nI (mxF c 8) else if w = nI 8 then nI z else if w = nI 9 then nI ln else -2
def rnds (c : Nat → Int32) : Nat → (Nat → Int32)
  | 0 => c
  | k + 1 => rnd (rnds c k)
theorem rnds_ok {c : Nat → Int32} (hc : cOK c) : ∀ k, cOK (rnds c k)
  | 0 => hc
  | k + 1 => rnd_ok (rnds_ok hc k)
def dnP (c : Nat → Int32) (k : Nat) : Bool := decide (nwC (rnds c k) 8 = 0)
def dnW (c : Nat → Int32) : Int32 := pI (fstU (dnP c) 201)
def unl (c : Nat → Int32) : Prop := ∃ a, a < 8 ∧ ∃ b, b < 8 ∧ wiC c a b = true ∧ glC c a b = false
theorem dnW_at {c : Nat → Int32} {k : Nat} (h1 : ∀ j, j < k → nwC (rnds c j) 8 ≠ 0) (h2 : nwC (rnds c k) 8 = 0) (hk : k < 201) : dnW c = nI k :=
  congrArg pI ((fstU_some (dnP c) 201 k).mpr ⟨hk, decide_eq_true h2, fun j hj => decide_eq_false (h1 j hj)⟩)
theorem dnW_no {c : Nat → Int32} {k : Nat} (h1 : ∀ j, j < k → nwC (rnds c j) 8 ≠ 0) (hk : 201 ≤ k) : dnW c = -5 :=
  congrArg pI ((fstU_none (dnP c) 201).mpr (fun j hj => decide_eq_false (h1 j (by omega))))
/-- cells that agree -/
def same (c c2 : Nat → Int32) : Prop := ∀ k, k < 154 → c k = c2 k
theorem same_N {c c2 : Nat → Int32} (h : same c c2) {k : Nat} (hk : k < 154) : cN c k = cN c2 k := by rw [cN, h k hk]; rfl
theorem same_ok {c c2 : Nat → Int32} (h : same c c2) (hc : cOK c) : cOK c2 := by
  refine ⟨fun k hk => ?_, fun k hk => ?_, ?_⟩
  · rw [← h k (by omega), ← same_N h (by omega)]; exact hc.1 k hk
  · rw [← h _ (by omega), ← same_N h (by omega)]; exact hc.2.1 k hk
  · rw [← h _ (by omega), ← same_N h (by omega)]; exact hc.2.2
theorem same_po {c c2 : Nat → Int32} (h : same c c2) {a b : Nat} (ha : a < 8) (hb : b < 8) : poC c a b = poC c2 a b := by
  unfold poC caC glC lkC feC wiC
  rw [same_N h (k := 16 + a) (by omega), same_N h (k := a) (by omega), same_N h (k := 8 + b) (by omega), same_N h (k := 152) (by omega), h (24 + 8 * a + b) (by omega)]
theorem same_EC {c c2 : Nat → Int32} (h : same c c2) : ∀ a b, a < 8 → b < 8 → EC c a b = EC c2 a b := fun a b ha hb => by
  show (pmask (poC c a) 8).testBit b = (pmask (poC c2 a) 8).testBit b
  rw [pmask_bit, pmask_bit, same_po h ha hb]
theorem same_sz {c c2 : Nat → Int32} (h : same c c2) : szC c = szC c2 := szN_cong 8 255 (Nat.le_refl _) (fun a b _ ha hb => same_EC h a b ha hb)
theorem same_cpy (c t : Nat → Int32) : same (va_cpy c t 0 0 154) c := fun k hk => by
  rw [pk_cpy_in (by omega) (by omega)]; congr 1; omega
theorem same_link {c c2 : Nat → Int32} (h : same c c2) (a b : Nat) (q : Bool) : same (cLink c a b q) (cLink c2 a b q) := fun k hk => by
  unfold cLink
  by_cases e : k = 152
  · subst e
    rw [upd_eq, upd_eq, same_N h (k := 152) (by omega)]
  · rw [upd_ne e, upd_ne e, h k hk]
theorem nand_or {m k : Nat} (hm : m < 65536) (hk : k < 16) (h : m.testBit k = false) : g_nand (m ||| (1 <<< k)) (1 <<< k) = m := by
  apply Nat.eq_of_testBit_eq
  intro i
  by_cases hi : i < 32
  · rw [g_nand_bit _ _ _ hi, or_bit, bit_one]
    by_cases e : k = i
    · subst e; rw [h]; simp
    · rw [decide_eq_false e]; simp
  · have h1 : m.testBit i = false := Nat.testBit_lt_two_pow (Nat.lt_of_lt_of_le hm (Nat.le_trans (by decide : 65536 ≤ 2 ^ 16) (Nat.pow_le_pow_right (by decide) (by omega))))
    have h2 : (1 <<< k).testBit i = false := by rw [bit_one]; exact decide_eq_false (by omega)
    rw [g_nand, Nat.testBit_and, Nat.testBit_or, h1, h2]; rfl
theorem same_unlink {c c2 : Nat → Int32} (h : same c2 c) (hc : cOK c) {a b : Nat} (ha : a < 4) (hb : b < 4) (hl : lkC c a b = false) : same (cLink (cLink c2 a b true) a b false) c := fun k hk => by
  unfold cLink
  by_cases e : k = 152
  · subst e
    have h16 := hc.l16
    have hor : cN c 152 ||| 1 <<< (4 * a + b) < 2 ^ 31 := Nat.lt_trans (Nat.or_lt_two_pow (n := 16) h16 (by rw [Nat.shiftLeft_eq, Nat.one_mul]; exact Nat.pow_lt_pow_right (by decide) (by omega))) (by decide)
    rw [upd_eq, if_neg (by decide), if_pos rfl, same_N h (k := 152) (by omega), cN_upd_eq hor, nand_or h16 (by omega) hl]
    exact hc.l.symm
  · rw [upd_ne e, upd_ne e, h k hk]
def bLs (c : Nat → Int32) : Nat → Nat × Int32
  | 0 => (szC c, -5)
  | k + 1 => if lkC c (k / 4) (k % 4) then bLs c k else if (bLs c k).1 < szC (cLink c (k / 4) (k % 4) true) then (szC (cLink c (k / 4) (k % 4) true), nI k) else bLs c k
theorem bLs_s (c : Nat → Int32) {i j : Nat} (hj : j < 4) : bLs c (4 * i + (j + 1)) = if lkC c i j then bLs c (4 * i + j) else if (bLs c (4 * i + j)).1 < szC (cLink c i j true) then (szC (cLink c i j true), nI (4 * i + j)) else bLs c (4 * i + j) := by
  rw [show 4 * i + (j + 1) = (4 * i + j) + 1 by omega, bLs, show (4 * i + j) / 4 = i by omega, show (4 * i + j) % 4 = j by omega]
theorem szC_le (c : Nat → Int32) : szC c ≤ 8 := szN_le _ 8 255 (Nat.le_refl _)
theorem bLs_le (c : Nat → Int32) : ∀ k, (bLs c k).1 ≤ 8
  | 0 => szC_le c
  | k + 1 => by
    have h := bLs_le c k
    have h2 := szC_le (cLink c (k / 4) (k % 4) true)
    simp only [bLs]
    split
    · exact h
    · split
      · exact h2
      · exact h
abbrev rm_X5_greatestSize : Room := { frames := 4, cells := 0, slots := 0, locals := 99 }
theorem yd_X5_greatestSize : yX5_greatestSize.cls = RX5 ∧ yX5_greatestSize.cls ≠ "java/lang/invoke/MethodHandle" ∧ yX5_greatestSize.cls ≠ "java/lang/invoke/VarHandle" ∧ (parseMethodDescriptor yX5_greatestSize.desc).map (fun d => d.parameters.length) = some 1 := by decide +kernel
theorem in_X5_greatestSize_X5 : ∀ w ∈ u_ws RX5 TX5 8, w ∈ wsX5_greatestSize := by decide +kernel
theorem fl_X5_greatestSize_39 : Cond.fieldLink RX5 39 "FenceHandshakes" "matching" "LFenceHandshakes$Matching;" ∈ wsX5_greatestSize := by decide +kernel
set_option maxHeartbeats 4000000 in
set_option maxRecDepth 100000 in
theorem m_X5_greatestSize (l : Launch) (D : va_G) (cI cC : ClassId) (x0 n0 t0 s0 g0 w0 m0 m1 m2 m3 m4 p0 k0 k1 : Nat) (wi : Nat → Int32) (ol : Nat → Int32) (orr : Nat → Int32) (sf : Nat → Int32) (c : Nat → Int32) (hs : Bool) (rl : Nat) (hc : cOK c) (hrl : rl < 256) : g_M l yX5_greatestSize wsX5_greatestSize rm_X5_greatestSize D cI cC [.ref x0, .ref k0] (mrW cI cC x0 n0 t0 s0 g0 w0 m0 m1 m2 m3 m4 p0 k0 k1 (bI hs) wi ol orr sf (nI rl) c) (fun vv ww => ∃ (wi2 : Nat → Int32) (ol2 : Nat → Int32) (orr2 : Nat → Int32) (sf2 : Nat → Int32) (rl2 : Nat), vv = some (.int (nI (szC c))) ∧ ww = (mrW cI cC x0 n0 t0 s0 g0 w0 m0 m1 m2 m3 m4 p0 k0 k1 (bI hs) wi2 ol2 orr2 sf2 (nI rl2) c) ∧ rl2 < 256) := by
  refine g_entry (lv := [(0, .ref x0), (1, .ref k0)]) (own := RX5) (by decide) rfl rfl (Nat.le_of_ble_eq_true rfl) rfl ?_
  intro p e s m args below meth co A Q C hr hQ
  refine g_aload_n (pc := 0) C dX5_greatestSize_0 0 rfl rfl ?_
  refine g_get (pc := 1) (ci := 5) (T := TX5) (N := 8) (v := .ref m0) C in_X5_greatestSize_X5 0 rfl rfl 6 (by decide) fl_X5_greatestSize_39 rfl rfl dX5_greatestSize_1 ?_
  refine g_aload_n (pc := 4) C dX5_greatestSize_4 1 rfl rfl ?_
  refine g_callV (pc := 5) (st := []) (As := [.ref k0]) (nn := 1) (ci := 2) (q0 := 0) C (m_X2_takeGreatest l D cI cC m0 m1 m2 m3 m4 k0 k1 wi ol orr sf c rl (by first | assumption | omega) (by first | assumption | omega)) gX5_greatestSize_X2_takeGreatest rfl rfl rfl yd_X2_takeGreatest ⟨Nat.le_of_ble_eq_true rfl, Nat.le_of_ble_eq_true rfl⟩ rfl [1, 2, 3, 4, 5, 6, 7] rfl rfl rfl rfl rfl (Nat.le_of_ble_eq_true rfl) ⟨Nat.le_of_ble_eq_true rfl, Nat.le_of_ble_eq_true rfl⟩ dX5_greatestSize_5 ?_
  rintro _ _ ⟨wi2, ol2, orr2, sf2, rl2, L2, R2, rfl, rfl, u1, u2, u3⟩
  refine g_eq (ws' := (mrW cI cC x0 n0 t0 s0 g0 w0 m0 m1 m2 m3 m4 p0 k0 k1 (bI hs) wi2 ol2 orr2 sf2 (nI rl2) c)) (st' := []) rfl rfl ?_
  refine g_aload_n (pc := 8) C dX5_greatestSize_8 0 rfl rfl ?_
  refine g_get (pc := 9) (ci := 5) (T := TX5) (N := 8) (v := .ref m0) C in_X5_greatestSize_X5 0 rfl rfl 6 (by decide) fl_X5_greatestSize_39 rfl rfl dX5_greatestSize_9 ?_
  refine g_callV (pc := 12) (st := []) (As := []) (nn := 0) (ci := 2) (q0 := 0) C (m_X2_size l D cI cC m0 m1 m2 m3 m4 wi2 ol2 orr2 sf2 rl2 L2 (u2.1) (fun a b ha e => (u2.2.2.1.1 a b ha e).1)) gX5_greatestSize_X2_size rfl rfl rfl yd_X2_size ⟨Nat.le_of_ble_eq_true rfl, Nat.le_of_ble_eq_true rfl⟩ rfl [1, 2, 3, 4, 5] rfl rfl rfl rfl rfl (Nat.le_of_ble_eq_true rfl) ⟨Nat.le_of_ble_eq_true rfl, Nat.le_of_ble_eq_true rfl⟩ dX5_greatestSize_12 ?_
  rintro _ _ ⟨rfl, rfl⟩
  refine g_eq (ws' := (mrW cI cC x0 n0 t0 s0 g0 w0 m0 m1 m2 m3 m4 p0 k0 k1 (bI hs) wi2 ol2 orr2 sf2 (nI rl2) c)) (st' := [.int (nI (cnt (fun a => (L2 a).isSome) 8))]) rfl rfl ?_
  refine g_top (y := nI (szC c)) (by rw [← sz_of u1, u3, cntT8]) ?_
  exact g_iret C hr hQ dX5_greatestSize_15 rfl ⟨_, _, _, _, _, rfl, rfl, u2.2.2.2⟩

abbrev rm_X5_mostPossibleOfAPerson : Room := { frames := 5, cells := 0, slots := 0, locals := 115 }
theorem yd_X5_mostPossibleOfAPerson : yX5_mostPossibleOfAPerson.cls = RX5 ∧ yX5_mostPossibleOfAPerson.cls ≠ "java/lang/invoke/MethodHandle" ∧ yX5_mostPossibleOfAPerson.cls ≠ "java/lang/invoke/VarHandle" ∧ (parseMethodDescriptor yX5_mostPossibleOfAPerson.desc).map (fun d => d.parameters.length) = some 0 := by decide +kernel
theorem in_X5_mostPossibleOfAPerson_X5 : ∀ w ∈ u_ws RX5 TX5 8, w ∈ wsX5_mostPossibleOfAPerson := by decide +kernel
theorem fl_X5_mostPossibleOfAPerson_12 : Cond.fieldLink RX5 12 "FenceHandshakes" "now" "LFenceHandshakes$Clans;" ∈ wsX5_mostPossibleOfAPerson := by decide +kernel
set_option maxHeartbeats 4000000 in
set_option maxRecDepth 100000 in
theorem m_X5_mostPossibleOfAPerson (l : Launch) (D : va_G) (cI cC : ClassId) (x0 n0 n1 t0 t1 s0 s1 g0 g1 w0 w1 w2 m0 m1 m2 m3 m4 p0 p1 : Nat) (c : Nat → Int32) (ct : Nat → Int32) (cs : Nat → Int32) (r : Nat → Int32) (sg : Nat → Int32) (tr : Nat → Int32) (wi : Nat → Int32) (ol : Nat → Int32) (orr : Nat → Int32) (sf : Nat → Int32) (nb : Nat → Int32) (hs : Bool) (od : Nat) (z : Nat) (ln : Nat) (lf : Nat) (rg : Nat) (bd : Bool) (rl : Nat) (hc : cOK c) : g_M l yX5_mostPossibleOfAPerson wsX5_mostPossibleOfAPerson rm_X5_mostPossibleOfAPerson D cI cC [.ref x0] (xW cI cC x0 n0 n1 t0 t1 s0 s1 g0 g1 w0 w1 w2 m0 m1 m2 m3 m4 p0 p1 (bI hs) c ct cs r (nI od) (nI z) sg (nI ln) tr (nI lf) (nI rg) (bI bd) wi ol orr sf (nI rl) nb) (fun vv ww => vv = some (.int (nI (mxF c 8))) ∧ ww = (xW cI cC x0 n0 n1 t0 t1 s0 s1 g0 g1 w0 w1 w2 m0 m1 m2 m3 m4 p0 p1 (bI hs) c ct cs r (nI od) (nI z) sg (nI ln) tr (nI lf) (nI rg) (bI bd) wi ol orr sf (nI rl) nb)) := by
  refine g_entry (lv := [(0, .ref x0)]) (own := RX5) (by decide) rfl rfl (Nat.le_of_ble_eq_true rfl) rfl ?_
  intro p e s m args below meth co A Q C hr hQ
  refine g_iconst (pc := 0) (v := nI 0) C dX5_mostPossibleOfAPerson_0 (by decide) ?_
  refine g_istore_n (pc := 1) (lv' := [(1, .int (nI 0)), (0, .ref x0)]) C dX5_mostPossibleOfAPerson_1 rfl (by decide) rfl ?_
  refine g_iconst (pc := 2) (v := nI 0) C dX5_mostPossibleOfAPerson_2 (by decide) ?_
  refine g_istore_n (pc := 3) (lv' := [(2, .int (nI 0)), (1, .int (nI 0)), (0, .ref x0)]) C dX5_mostPossibleOfAPerson_3 rfl (by decide) rfl ?_
  have L4 : ∀ (NZ : Nat) (i : Nat) (u : Nat), 8 - i < NZ → (i ≤ 8) → (u ≤ 8) → (u = mxF c i) → g_J p l e rm_X5_mostPossibleOfAPerson s m args below meth co Q D A 3 0 0 (xW cI cC x0 n0 n1 t0 t1 s0 s1 g0 g1 w0 w1 w2 m0 m1 m2 m3 m4 p0 p1 (bI hs) c ct cs r (nI od) (nI z) sg (nI ln) tr (nI lf) (nI rg) (bI bd) wi ol orr sf (nI rl) nb) 4 [(0, .ref x0), (1, .int (nI u)), (2, .int (nI i))] [] := by
    intro NZ
    induction NZ with
    | zero => intro i u hN; exact absurd hN (Nat.not_lt_zero _)
    | succ NZ ih4 =>
      intro i u hN4 hi hu8 hu
      refine g_iload_n (pc := 4) C dX5_mostPossibleOfAPerson_4 2 rfl rfl ?_
      refine g_bipush (pc := 5) (v := nI 8) C dX5_mostPossibleOfAPerson_5 (by decide) ?_
      refine g_icmp_geN (pc := 7) C 46 (by omega) (by omega) dX5_mostPossibleOfAPerson_7 (by decide) (fun c7 => ?_) (fun c7 => ?_)
      · refine g_iload_n (pc := 46) C dX5_mostPossibleOfAPerson_46 1 rfl rfl ?_
        refine g_top (y := nI (mxF c 8)) (by rw [hu, show i = 8 by omega]) ?_
        exact g_iret C hr hQ dX5_mostPossibleOfAPerson_47 rfl ⟨rfl, rfl⟩
      · have q1 := cnt_le (fun o => poC c i o) 8
        have q2 := cnt_le (fun o => poC c o i) 8
        refine g_iload_n (pc := 10) C dX5_mostPossibleOfAPerson_10 1 rfl rfl ?_
        refine g_aload_n (pc := 11) C dX5_mostPossibleOfAPerson_11 0 rfl rfl ?_
        refine g_get (pc := 12) (ci := 5) (T := TX5) (N := 8) (v := .ref n0) C in_X5_mostPossibleOfAPerson_X5 0 rfl rfl 0 (by decide) fl_X5_mostPossibleOfAPerson_12 rfl rfl dX5_mostPossibleOfAPerson_12 ?_
        refine g_iconst (pc := 15) (v := nI 1) C dX5_mostPossibleOfAPerson_15 (by decide) ?_
        refine g_iload_n (pc := 16) C dX5_mostPossibleOfAPerson_16 2 rfl rfl ?_
        refine g_iconst (pc := 17) (v := nI 2) C dX5_mostPossibleOfAPerson_17 (by decide) ?_
        refine g_callV (pc := 18) (st := [.int (nI u)]) (As := [.int (bI true), .int (nI i), .int (nI 2)]) (nn := 3) (ci := 0) (q0 := 0) C (m_X0_amountOfPerson l D cI cC n0 n1 c true i (nI 2) (by first | assumption | omega) (by first | assumption | omega)) gX5_mostPossibleOfAPerson_X0_amountOfPerson rfl rfl rfl yd_X0_amountOfPerson ⟨Nat.le_of_ble_eq_true rfl, Nat.le_of_ble_eq_true rfl⟩ rfl [1, 2] rfl rfl rfl rfl rfl (Nat.le_of_ble_eq_true rfl) ⟨Nat.le_of_ble_eq_true rfl, Nat.le_of_ble_eq_true rfl⟩ dX5_mostPossibleOfAPerson_18 ?_
        rintro _ _ ⟨rfl, rfl⟩
        refine g_eq (ws' := (xW cI cC x0 n0 n1 t0 t1 s0 s1 g0 g1 w0 w1 w2 m0 m1 m2 m3 m4 p0 p1 (bI hs) c ct cs r (nI od) (nI z) sg (nI ln) tr (nI lf) (nI rg) (bI bd) wi ol orr sf (nI rl) nb)) (st' := [.int (sI (amF c true i (nI 2)) 8), .int (nI u)]) rfl rfl ?_
        refine g_top (y := nI (cnt (fun o => poC c i o) 8)) (sI_po c true i) ?_
        refine g_max (pc := 21) C (by decide +kernel) (by decide +kernel) (by decide +kernel) (by decide +kernel) (by omega) (by omega) (by decide) (Nat.le_of_ble_eq_true rfl) ⟨Nat.le_of_ble_eq_true rfl, Nat.le_of_ble_eq_true rfl⟩ dX5_mostPossibleOfAPerson_21 ?_
        refine g_istore_n (pc := 24) (lv' := [(1, .int (nI (max u (cnt (fun o => poC c i o) 8)))), (0, .ref x0), (2, .int (nI i))]) C dX5_mostPossibleOfAPerson_24 rfl (by decide) rfl ?_
        refine g_iload_n (pc := 25) C dX5_mostPossibleOfAPerson_25 0 rfl rfl ?_
        refine g_aload_n (pc := 26) C dX5_mostPossibleOfAPerson_26 1 rfl rfl ?_
        refine g_get (pc := 27) (ci := 5) (T := TX5) (N := 8) (v := .ref n0) C in_X5_mostPossibleOfAPerson_X5 0 rfl rfl 0 (by decide) fl_X5_mostPossibleOfAPerson_12 rfl rfl dX5_mostPossibleOfAPerson_27 ?_
        refine g_iconst (pc := 30) (v := nI 0) C dX5_mostPossibleOfAPerson_30 (by decide) ?_
        refine g_iload_n (pc := 31) C dX5_mostPossibleOfAPerson_31 2 rfl rfl ?_
        refine g_iconst (pc := 32) (v := nI 2) C dX5_mostPossibleOfAPerson_32 (by decide) ?_
        refine g_callV (pc := 33) (st := [.int (nI (max u (cnt (fun o => poC c i o) 8)))]) (As := [.int (bI false), .int (nI i), .int (nI 2)]) (nn := 3) (ci := 0) (q0 := 0) C (m_X0_amountOfPerson l D cI cC n0 n1 c false i (nI 2) (by first | assumption | omega) (by first | assumption | omega)) gX5_mostPossibleOfAPerson_X0_amountOfPerson rfl rfl rfl yd_X0_amountOfPerson ⟨Nat.le_of_ble_eq_true rfl, Nat.le_of_ble_eq_true rfl⟩ rfl [1, 2] rfl rfl rfl rfl rfl (Nat.le_of_ble_eq_true rfl) ⟨Nat.le_of_ble_eq_true rfl, Nat.le_of_ble_eq_true rfl⟩ dX5_mostPossibleOfAPerson_33 ?_
        rintro _ _ ⟨rfl, rfl⟩
        refine g_eq (ws' := (xW cI cC x0 n0 n1 t0 t1 s0 s1 g0 g1 w0 w1 w2 m0 m1 m2 m3 m4 p0 p1 (bI hs) c ct cs r (nI od) (nI z) sg (nI ln) tr (nI lf) (nI rg) (bI bd) wi ol orr sf (nI rl) nb)) (st' := [.int (sI (amF c false i (nI 2)) 8), .int (nI (max u (cnt (fun o => poC c i o) 8)))]) rfl rfl ?_
        refine g_top (y := nI (cnt (fun o => poC c o i) 8)) (sI_po c false i) ?_
        refine g_max (pc := 36) C (by decide +kernel) (by decide +kernel) (by decide +kernel) (by decide +kernel) (by omega) (by omega) (by decide) (Nat.le_of_ble_eq_true rfl) ⟨Nat.le_of_ble_eq_true rfl, Nat.le_of_ble_eq_true rfl⟩ dX5_mostPossibleOfAPerson_36 ?_
        refine g_istore_n (pc := 39) (lv' := [(1, .int (nI (max (max u (cnt (fun o => poC c i o) 8)) (cnt (fun o => poC c o i) 8)))), (0, .ref x0), (2, .int (nI i))]) C dX5_mostPossibleOfAPerson_39 rfl (by decide) rfl ?_
        refine g_iinc (pc := 40) (lv' := [(2, .int (nI (i + 1))), (1, .int (nI (max (max u (cnt (fun o => poC c i o) 8)) (cnt (fun o => poC c o i) 8)))), (0, .ref x0)]) C dX5_mostPossibleOfAPerson_40 2 rfl (nI_add i 1) (by decide) rfl ?_
        refine g_goto (pc := 43) C 4 dX5_mostPossibleOfAPerson_43 (by decide) ?_
        refine g_lvp (lv' := [(0, .ref x0), (1, .int (nI (max (max u (cnt (fun o => poC c i o) 8)) (cnt (fun o => poC c o i) 8)))), (2, .int (nI (i + 1)))]) [2, 1, 0] rfl ?_
        exact ih4 (i + 1) (max (max u (cnt (fun o => poC c i o) 8)) (cnt (fun o => poC c o i) 8)) (by omega) (by first | assumption | omega) (by omega) (by rw [hu]; rfl)
  refine g_lvp (lv' := [(0, .ref x0), (1, .int (nI 0)), (2, .int (nI 0))]) [2, 1, 0] rfl ?_
  exact L4 _ 0 0 (Nat.lt_succ_self _) (by first | assumption | omega) (by first | assumption | omega) (rfl)

abbrev rm_X5_reasonAgainst : Room := { frames := 5, cells := 0, slots := 0, locals := 126 }
theorem yd_X5_reasonAgainst : yX5_reasonAgainst.cls = RX5 ∧ yX5_reasonAgainst.cls ≠ "java/lang/invoke/MethodHandle" ∧ yX5_reasonAgainst.cls ≠ "java/lang/invoke/VarHandle" ∧ (parseMethodDescriptor yX5_reasonAgainst.desc).map (fun d => d.parameters.length) = some 2 := by decide +kernel
theorem in_X5_reasonAgainst_X5 : ∀ w ∈ u_ws RX5 TX5 8, w ∈ wsX5_reasonAgainst := by decide +kernel
theorem fl_X5_reasonAgainst_12 : Cond.fieldLink RX5 12 "FenceHandshakes" "now" "LFenceHandshakes$Clans;" ∈ wsX5_reasonAgainst := by decide +kernel
theorem fl_X5_reasonAgainst_39 : Cond.fieldLink RX5 39 "FenceHandshakes" "matching" "LFenceHandshakes$Matching;" ∈ wsX5_reasonAgainst := by decide +kernel
set_option maxHeartbeats 4000000 in
set_option maxRecDepth 100000 in
theorem m_X5_reasonAgainst (l : Launch) (D : va_G) (cI cC : ClassId) (x0 n0 n1 t0 t1 s0 s1 g0 g1 w0 w1 w2 m0 m1 m2 m3 m4 p0 p1 : Nat) (c : Nat → Int32) (ct : Nat → Int32) (cs : Nat → Int32) (r : Nat → Int32) (sg : Nat → Int32) (tr : Nat → Int32) (wi : Nat → Int32) (ol : Nat → Int32) (orr : Nat → Int32) (sf : Nat → Int32) (nb : Nat → Int32) (hs : Bool) (od : Nat) (z : Nat) (ln : Nat) (lf : Nat) (rg : Nat) (bd : Bool) (rl : Nat) (a : Nat) (b : Nat) (hc : cOK c) (hrl : rl < 256) (ha : a < 8) (hb : b < 8) : g_M l yX5_reasonAgainst wsX5_reasonAgainst rm_X5_reasonAgainst D cI cC [.ref x0, .int (nI a), .int (nI b)] (xW cI cC x0 n0 n1 t0 t1 s0 s1 g0 g1 w0 w1 w2 m0 m1 m2 m3 m4 p0 p1 (bI hs) c ct cs r (nI od) (nI z) sg (nI ln) tr (nI lf) (nI rg) (bI bd) wi ol orr sf (nI rl) nb) (fun vv ww => ∃ (wi2 : Nat → Int32) (ol2 : Nat → Int32) (orr2 : Nat → Int32) (sf2 : Nat → Int32) (rl2 : Nat), vv = some (.int (whV c a b)) ∧ ww = (xW cI cC x0 n0 n1 t0 t1 s0 s1 g0 g1 w0 w1 w2 m0 m1 m2 m3 m4 p0 p1 (bI hs) c ct cs r (nI od) (nI z) sg (nI ln) tr (nI lf) (nI rg) (bI bd) wi2 ol2 orr2 sf2 (nI rl2) nb) ∧ rl2 < 256) := by
  refine g_entry (lv := [(0, .ref x0), (1, .int (nI a)), (2, .int (nI b))]) (own := RX5) (by decide) rfl rfl (Nat.le_of_ble_eq_true rfl) rfl ?_
  intro p e s m args below meth co A Q C hr hQ
  refine g_aload_n (pc := 0) C dX5_reasonAgainst_0 0 rfl rfl ?_
  refine g_get (pc := 1) (ci := 5) (T := TX5) (N := 8) (v := .ref n0) C in_X5_reasonAgainst_X5 0 rfl rfl 0 (by decide) fl_X5_reasonAgainst_12 rfl rfl dX5_reasonAgainst_1 ?_
  refine g_iload_n (pc := 4) C dX5_reasonAgainst_4 1 rfl rfl ?_
  refine g_iload_n (pc := 5) C dX5_reasonAgainst_5 2 rfl rfl ?_
  refine g_callV (pc := 6) (st := []) (As := [.int (nI a), .int (nI b)]) (nn := 2) (ci := 0) (q0 := 0) C (m_X0_hasWish l D cI cC n0 n1 c a b (by first | assumption | omega) (by first | assumption | omega) (by first | assumption | omega)) gX5_reasonAgainst_X0_hasWish rfl rfl rfl yd_X0_hasWish ⟨Nat.le_of_ble_eq_true rfl, Nat.le_of_ble_eq_true rfl⟩ rfl [1, 2] rfl rfl rfl rfl rfl (Nat.le_of_ble_eq_true rfl) ⟨Nat.le_of_ble_eq_true rfl, Nat.le_of_ble_eq_true rfl⟩ dX5_reasonAgainst_6 ?_
  rintro _ _ ⟨rfl, rfl⟩
  refine g_eq (ws' := (xW cI cC x0 n0 n1 t0 t1 s0 s1 g0 g1 w0 w1 w2 m0 m1 m2 m3 m4 p0 p1 (bI hs) c ct cs r (nI od) (nI z) sg (nI ln) tr (nI lf) (nI rg) (bI bd) wi ol orr sf (nI rl) nb)) (st' := [.int (bI (wiC c a b))]) rfl rfl ?_
  refine g_if_neB (pc := 9) C 14 dX5_reasonAgainst_9 (by decide) (fun c9 => ?_) (fun c9 => ?_)
  · refine g_aload_n (pc := 14) C dX5_reasonAgainst_14 0 rfl rfl ?_
    refine g_get (pc := 15) (ci := 5) (T := TX5) (N := 8) (v := .ref n0) C in_X5_reasonAgainst_X5 0 rfl rfl 0 (by decide) fl_X5_reasonAgainst_12 rfl rfl dX5_reasonAgainst_15 ?_
    refine g_iload_n (pc := 18) C dX5_reasonAgainst_18 1 rfl rfl ?_
    refine g_iload_n (pc := 19) C dX5_reasonAgainst_19 2 rfl rfl ?_
    refine g_callV (pc := 20) (st := []) (As := [.int (nI a), .int (nI b)]) (nn := 2) (ci := 0) (q0 := 0) C (m_X0_areAtLinkedGates l D cI cC n0 n1 c a b (by first | assumption | omega) (by first | assumption | omega) (by first | assumption | omega)) gX5_reasonAgainst_X0_areAtLinkedGates rfl rfl rfl yd_X0_areAtLinkedGates ⟨Nat.le_of_ble_eq_true rfl, Nat.le_of_ble_eq_true rfl⟩ rfl [1, 2] rfl rfl rfl rfl rfl (Nat.le_of_ble_eq_true rfl) ⟨Nat.le_of_ble_eq_true rfl, Nat.le_of_ble_eq_true rfl⟩ dX5_reasonAgainst_20 ?_
    rintro _ _ ⟨rfl, rfl⟩
    refine g_eq (ws' := (xW cI cC x0 n0 n1 t0 t1 s0 s1 g0 g1 w0 w1 w2 m0 m1 m2 m3 m4 p0 p1 (bI hs) c ct cs r (nI od) (nI z) sg (nI ln) tr (nI lf) (nI rg) (bI bd) wi ol orr sf (nI rl) nb)) (st' := [.int (bI (glC c a b))]) rfl rfl ?_
    refine g_if_neB (pc := 23) C 28 dX5_reasonAgainst_23 (by decide) (fun c23 => ?_) (fun c23 => ?_)
    · refine g_aload_n (pc := 28) C dX5_reasonAgainst_28 0 rfl rfl ?_
      refine g_get (pc := 29) (ci := 5) (T := TX5) (N := 8) (v := .ref n0) C in_X5_reasonAgainst_X5 0 rfl rfl 0 (by decide) fl_X5_reasonAgainst_12 rfl rfl dX5_reasonAgainst_29 ?_
      refine g_iload_n (pc := 32) C dX5_reasonAgainst_32 1 rfl rfl ?_
      refine g_iload_n (pc := 33) C dX5_reasonAgainst_33 2 rfl rfl ?_
      refine g_callV (pc := 34) (st := []) (As := [.int (nI a), .int (nI b)]) (nn := 2) (ci := 0) (q0 := 0) C (m_X0_feudOf l D cI cC n0 n1 c a b (by first | assumption | omega) (by first | assumption | omega)) gX5_reasonAgainst_X0_feudOf rfl rfl rfl yd_X0_feudOf ⟨Nat.le_of_ble_eq_true rfl, Nat.le_of_ble_eq_true rfl⟩ rfl [1, 2] rfl rfl rfl rfl rfl (Nat.le_of_ble_eq_true rfl) ⟨Nat.le_of_ble_eq_true rfl, Nat.le_of_ble_eq_true rfl⟩ dX5_reasonAgainst_34 ?_
      rintro _ _ ⟨rfl, rfl⟩
      refine g_eq (ws' := (xW cI cC x0 n0 n1 t0 t1 s0 s1 g0 g1 w0 w1 w2 m0 m1 m2 m3 m4 p0 p1 (bI hs) c ct cs r (nI od) (nI z) sg (nI ln) tr (nI lf) (nI rg) (bI bd) wi ol orr sf (nI rl) nb)) (st' := [.int (feC c a b)]) rfl rfl ?_
      refine g_if_le (pc := 37) C 42 dX5_reasonAgainst_37 (by decide) (fun c37 => ?_) (fun c37 => ?_)
      · refine g_aload_n (pc := 42) C dX5_reasonAgainst_42 0 rfl rfl ?_
        refine g_get (pc := 43) (ci := 5) (T := TX5) (N := 8) (v := .ref m0) C in_X5_reasonAgainst_X5 0 rfl rfl 6 (by decide) fl_X5_reasonAgainst_39 rfl rfl dX5_reasonAgainst_43 ?_
        refine g_aload_n (pc := 46) C dX5_reasonAgainst_46 0 rfl rfl ?_
        refine g_get (pc := 47) (ci := 5) (T := TX5) (N := 8) (v := .ref n0) C in_X5_reasonAgainst_X5 0 rfl rfl 0 (by decide) fl_X5_reasonAgainst_12 rfl rfl dX5_reasonAgainst_47 ?_
        refine g_callV (pc := 50) (st := []) (As := [.ref n0]) (nn := 1) (ci := 2) (q0 := 0) C (m_X2_takeFirst l D cI cC m0 m1 m2 m3 m4 n0 n1 wi ol orr sf c rl (by first | assumption | omega) (by first | assumption | omega)) gX5_reasonAgainst_X2_takeFirst rfl rfl rfl yd_X2_takeFirst ⟨Nat.le_of_ble_eq_true rfl, Nat.le_of_ble_eq_true rfl⟩ rfl [12, 13, 14, 15, 16, 1, 2] rfl rfl rfl rfl rfl (Nat.le_of_ble_eq_true rfl) ⟨Nat.le_of_ble_eq_true rfl, Nat.le_of_ble_eq_true rfl⟩ dX5_reasonAgainst_50 ?_
        rintro _ _ ⟨wi2, ol2, orr2, sf2, rl2, R2, rfl, rfl, u1, u2⟩
        refine g_eq (ws' := (xW cI cC x0 n0 n1 t0 t1 s0 s1 g0 g1 w0 w1 w2 m0 m1 m2 m3 m4 p0 p1 (bI hs) c ct cs r (nI od) (nI z) sg (nI ln) tr (nI lf) (nI rg) (bI bd) wi2 ol2 orr2 sf2 (nI rl2) nb)) (st' := []) rfl rfl ?_
        have hsp : ∀ a, a < 8 → ol2 a = pI (spE (EC c) a) := fun a ha => by rw [← sp_of u1 ha]; exact u2.1 a ha
        refine g_aload_n (pc := 53) C dX5_reasonAgainst_53 0 rfl rfl ?_
        refine g_get (pc := 54) (ci := 5) (T := TX5) (N := 8) (v := .ref m0) C in_X5_reasonAgainst_X5 0 rfl rfl 6 (by decide) fl_X5_reasonAgainst_39 rfl rfl dX5_reasonAgainst_54 ?_
        refine g_iconst (pc := 57) (v := nI 1) C dX5_reasonAgainst_57 (by decide) ?_
        refine g_iload_n (pc := 58) C dX5_reasonAgainst_58 1 rfl rfl ?_
        refine g_callV (pc := 59) (st := []) (As := [.int (bI true), .int (nI a)]) (nn := 2) (ci := 2) (q0 := 0) C (m_X2_partnerOf l D cI cC m0 m1 m2 m3 m4 wi2 ol2 orr2 sf2 rl2 true a (by first | assumption | omega)) gX5_reasonAgainst_X2_partnerOf rfl rfl rfl yd_X2_partnerOf ⟨Nat.le_of_ble_eq_true rfl, Nat.le_of_ble_eq_true rfl⟩ rfl [12, 13, 14, 15, 16] rfl rfl rfl rfl rfl (Nat.le_of_ble_eq_true rfl) ⟨Nat.le_of_ble_eq_true rfl, Nat.le_of_ble_eq_true rfl⟩ dX5_reasonAgainst_59 ?_
        rintro _ _ ⟨rfl, rfl⟩
        refine g_eq (ws' := (xW cI cC x0 n0 n1 t0 t1 s0 s1 g0 g1 w0 w1 w2 m0 m1 m2 m3 m4 p0 p1 (bI hs) c ct cs r (nI od) (nI z) sg (nI ln) tr (nI lf) (nI rg) (bI bd) wi2 ol2 orr2 sf2 (nI rl2) nb)) (st' := [.int ((if true then ol2 else orr2) a)]) rfl rfl ?_
        refine g_top (y := (pI (spE (EC c) a))) (hsp a ha) ?_
        refine g_iload_n (pc := 62) C dX5_reasonAgainst_62 2 rfl rfl ?_
        refine g_icmp_ne (pc := 63) C 70 dX5_reasonAgainst_63 (by decide) (fun c63 => ?_) (fun c63 => ?_)
        · refine g_iconst (pc := 70) (v := nI 4) C dX5_reasonAgainst_70 (by decide) ?_
          refine g_top (y := (whV c a b)) (by rw [whV, if_neg (by rw [c9]; decide), if_neg (by rw [c23]; decide), if_neg (Int32.not_lt.mpr c37), if_neg c63]) ?_
          exact g_iret C hr hQ dX5_reasonAgainst_71 rfl ⟨_, _, _, _, _, rfl, rfl, u2.2.2.2⟩
        · refine g_iconst (pc := 66) (v := nI 0) C dX5_reasonAgainst_66 (by decide) ?_
          refine g_goto (pc := 67) C 71 dX5_reasonAgainst_67 (by decide) ?_
          refine g_top (y := (whV c a b)) (by rw [whV, if_neg (by rw [c9]; decide), if_neg (by rw [c23]; decide), if_neg (Int32.not_lt.mpr c37), if_pos c63]) ?_
          exact g_iret C hr hQ dX5_reasonAgainst_71 rfl ⟨_, _, _, _, _, rfl, rfl, u2.2.2.2⟩
      · refine g_iconst (pc := 40) (v := nI 3) C dX5_reasonAgainst_40 (by decide) ?_
        refine g_top (y := (whV c a b)) (by rw [whV, if_neg (by rw [c9]; decide), if_neg (by rw [c23]; decide), if_pos (Int32.not_le.mp c37)]) ?_
        exact g_iret C hr hQ dX5_reasonAgainst_41 rfl ⟨_, _, _, _, _, rfl, rfl, hrl⟩
    · refine g_iconst (pc := 26) (v := nI 2) C dX5_reasonAgainst_26 (by decide) ?_
      refine g_top (y := (whV c a b)) (by rw [whV, if_neg (by rw [c9]; decide), if_pos c23]) ?_
      exact g_iret C hr hQ dX5_reasonAgainst_27 rfl ⟨_, _, _, _, _, rfl, rfl, hrl⟩
  · refine g_iconst (pc := 12) (v := nI 1) C dX5_reasonAgainst_12 (by decide) ?_
    refine g_top (y := (whV c a b)) (by rw [whV, if_pos c9]) ?_
    exact g_iret C hr hQ dX5_reasonAgainst_13 rfl ⟨_, _, _, _, _, rfl, rfl, hrl⟩

abbrev rm_X5_person : Room := { frames := 5, cells := 0, slots := 0, locals := 115 }
theorem yd_X5_person : yX5_person.cls = RX5 ∧ yX5_person.cls ≠ "java/lang/invoke/MethodHandle" ∧ yX5_person.cls ≠ "java/lang/invoke/VarHandle" ∧ (parseMethodDescriptor yX5_person.desc).map (fun d => d.parameters.length) = some 3 := by decide +kernel
theorem in_X5_person_X5 : ∀ w ∈ u_ws RX5 TX5 8, w ∈ wsX5_person := by decide +kernel
theorem fl_X5_person_12 : Cond.fieldLink RX5 12 "FenceHandshakes" "now" "LFenceHandshakes$Clans;" ∈ wsX5_person := by decide +kernel
set_option maxHeartbeats 4000000 in
set_option maxRecDepth 100000 in
theorem m_X5_person (l : Launch) (D : va_G) (cI cC : ClassId) (x0 n0 n1 t0 t1 s0 s1 g0 g1 w0 w1 w2 m0 m1 m2 m3 m4 p0 p1 : Nat) (c : Nat → Int32) (ct : Nat → Int32) (cs : Nat → Int32) (r : Nat → Int32) (sg : Nat → Int32) (tr : Nat → Int32) (wi : Nat → Int32) (ol : Nat → Int32) (orr : Nat → Int32) (sf : Nat → Int32) (nb : Nat → Int32) (hs : Bool) (od : Nat) (z : Nat) (ln : Nat) (lf : Nat) (rg : Nat) (bd : Bool) (rl : Nat) (q : Bool) (x : Int32) (w : Int32) (hc : cOK c) : g_M l yX5_person wsX5_person rm_X5_person D cI cC [.ref x0, .int (bI q), .int x, .int w] (xW cI cC x0 n0 n1 t0 t1 s0 s1 g0 g1 w0 w1 w2 m0 m1 m2 m3 m4 p0 p1 (bI hs) c ct cs r (nI od) (nI z) sg (nI ln) tr (nI lf) (nI rg) (bI bd) wi ol orr sf (nI rl) nb) (fun vv ww => vv = some (.int (peV c q x w)) ∧ ww = (xW cI cC x0 n0 n1 t0 t1 s0 s1 g0 g1 w0 w1 w2 m0 m1 m2 m3 m4 p0 p1 (bI hs) c ct cs r (nI od) (nI z) sg (nI ln) tr (nI lf) (nI rg) (bI bd) wi ol orr sf (nI rl) nb)) := by
  refine g_entry (lv := [(0, .ref x0), (1, .int (bI q)), (2, .int x), (3, .int w)]) (own := RX5) (by decide) rfl rfl (Nat.le_of_ble_eq_true rfl) rfl ?_
  intro p e s m args below meth co A Q C hr hQ
  refine g_iload_n (pc := 0) C dX5_person_0 2 rfl rfl ?_
  refine g_callS (pc := 1) (st := []) (As := [.int x]) (nn := 1) C (m_X5_isPerson l D cI cC x) gX5_person_X5_isPerson rfl rfl rfl yd_X5_isPerson.2 ⟨Nat.le_of_ble_eq_true rfl, Nat.le_of_ble_eq_true rfl⟩ rfl [] rfl rfl rfl (Nat.le_of_ble_eq_true rfl) ⟨Nat.le_of_ble_eq_true rfl, Nat.le_of_ble_eq_true rfl⟩ dX5_person_1 ?_
  rintro _ _ ⟨rfl, rfl⟩
  refine g_eq (ws' := (xW cI cC x0 n0 n1 t0 t1 s0 s1 g0 g1 w0 w1 w2 m0 m1 m2 m3 m4 p0 p1 (bI hs) c ct cs r (nI od) (nI z) sg (nI ln) tr (nI lf) (nI rg) (bI bd) wi ol orr sf (nI rl) nb)) (st' := [.int (bI (isP x))]) rfl rfl ?_
  refine g_if_neB (pc := 4) C 9 dX5_person_4 (by decide) (fun c4 => ?_) (fun c4 => ?_)
  · obtain ⟨a, ha, ex⟩ := isP_ex c4
    have px : pN x = a := by rw [ex]; exact pN_nI ha
    refine g_lveq (lv' := [(0, .ref x0), (1, .int (bI q)), (2, .int (nI a)), (3, .int w)]) (by rw [ex]) ?_
    refine g_iload_n (pc := 9) C dX5_person_9 3 rfl rfl ?_
    by_cases t10_0 : w = nI 0
    · refine g_top (y := nI 0) t10_0 ?_
      refine g_tabIn (pc := 10) C 48 dX5_person_10 (by decide) (by decide) rfl (by decide) ?_
      refine g_aload_n (pc := 48) C dX5_person_48 0 rfl rfl ?_
      refine g_get (pc := 49) (ci := 5) (T := TX5) (N := 8) (v := .ref n0) C in_X5_person_X5 0 rfl rfl 0 (by decide) fl_X5_person_12 rfl rfl dX5_person_49 ?_
      refine g_iload_n (pc := 52) C dX5_person_52 1 rfl rfl ?_
      refine g_iload_n (pc := 53) C dX5_person_53 2 rfl rfl ?_
      refine g_callV (pc := 54) (st := []) (As := [.int (bI q), .int (nI a)]) (nn := 2) (ci := 0) (q0 := 0) C (m_X0_gateOf l D cI cC n0 n1 c q a (by first | assumption | omega)) gX5_person_X0_gateOf rfl rfl rfl yd_X0_gateOf ⟨Nat.le_of_ble_eq_true rfl, Nat.le_of_ble_eq_true rfl⟩ rfl [1, 2] rfl rfl rfl rfl rfl (Nat.le_of_ble_eq_true rfl) ⟨Nat.le_of_ble_eq_true rfl, Nat.le_of_ble_eq_true rfl⟩ dX5_person_54 ?_
      rintro _ _ ⟨rfl, rfl⟩
      refine g_eq (ws' := (xW cI cC x0 n0 n1 t0 t1 s0 s1 g0 g1 w0 w1 w2 m0 m1 m2 m3 m4 p0 p1 (bI hs) c ct cs r (nI od) (nI z) sg (nI ln) tr (nI lf) (nI rg) (bI bd) wi ol orr sf (nI rl) nb)) (st' := [.int (c ((if q then 0 else 8) + a))]) rfl rfl ?_
      refine g_top (y := (peV c q x w)) (by rw [peV, c4, px, if_pos rfl, if_pos t10_0]) ?_
      exact g_iret C hr hQ dX5_person_57 rfl ⟨rfl, rfl⟩
    by_cases t10_1 : w = nI 1
    · refine g_top (y := nI 1) t10_1 ?_
      refine g_tabIn (pc := 10) C 58 dX5_person_10 (by decide) (by decide) rfl (by decide) ?_
      refine g_aload_n (pc := 58) C dX5_person_58 0 rfl rfl ?_
      refine g_get (pc := 59) (ci := 5) (T := TX5) (N := 8) (v := .ref n0) C in_X5_person_X5 0 rfl rfl 0 (by decide) fl_X5_person_12 rfl rfl dX5_person_59 ?_
      refine g_iload_n (pc := 62) C dX5_person_62 1 rfl rfl ?_
      refine g_iload_n (pc := 63) C dX5_person_63 2 rfl rfl ?_
      refine g_iload_n (pc := 64) C dX5_person_64 3 rfl rfl ?_
      refine g_callV (pc := 65) (st := []) (As := [.int (bI q), .int (nI a), .int w]) (nn := 3) (ci := 0) (q0 := 0) C (m_X0_amountOfPerson l D cI cC n0 n1 c q a w (by first | assumption | omega) (by first | assumption | omega)) gX5_person_X0_amountOfPerson rfl rfl rfl yd_X0_amountOfPerson ⟨Nat.le_of_ble_eq_true rfl, Nat.le_of_ble_eq_true rfl⟩ rfl [1, 2] rfl rfl rfl rfl rfl (Nat.le_of_ble_eq_true rfl) ⟨Nat.le_of_ble_eq_true rfl, Nat.le_of_ble_eq_true rfl⟩ dX5_person_65 ?_
      rintro _ _ ⟨rfl, rfl⟩
      refine g_eq (ws' := (xW cI cC x0 n0 n1 t0 t1 s0 s1 g0 g1 w0 w1 w2 m0 m1 m2 m3 m4 p0 p1 (bI hs) c ct cs r (nI od) (nI z) sg (nI ln) tr (nI lf) (nI rg) (bI bd) wi ol orr sf (nI rl) nb)) (st' := [.int (sI (amF c q a w) 8)]) rfl rfl ?_
      refine g_top (y := (peV c q x w)) (by rw [peV, c4, px, if_pos rfl, if_neg t10_0, if_pos t10_1]) ?_
      exact g_iret C hr hQ dX5_person_68 rfl ⟨rfl, rfl⟩
    by_cases t10_2 : w = nI 2
    · refine g_top (y := nI 2) t10_2 ?_
      refine g_tabIn (pc := 10) C 58 dX5_person_10 (by decide) (by decide) rfl (by decide) ?_
      refine g_aload_n (pc := 58) C dX5_person_58 0 rfl rfl ?_
      refine g_get (pc := 59) (ci := 5) (T := TX5) (N := 8) (v := .ref n0) C in_X5_person_X5 0 rfl rfl 0 (by decide) fl_X5_person_12 rfl rfl dX5_person_59 ?_
      refine g_iload_n (pc := 62) C dX5_person_62 1 rfl rfl ?_
      refine g_iload_n (pc := 63) C dX5_person_63 2 rfl rfl ?_
      refine g_iload_n (pc := 64) C dX5_person_64 3 rfl rfl ?_
      refine g_callV (pc := 65) (st := []) (As := [.int (bI q), .int (nI a), .int w]) (nn := 3) (ci := 0) (q0 := 0) C (m_X0_amountOfPerson l D cI cC n0 n1 c q a w (by first | assumption | omega) (by first | assumption | omega)) gX5_person_X0_amountOfPerson rfl rfl rfl yd_X0_amountOfPerson ⟨Nat.le_of_ble_eq_true rfl, Nat.le_of_ble_eq_true rfl⟩ rfl [1, 2] rfl rfl rfl rfl rfl (Nat.le_of_ble_eq_true rfl) ⟨Nat.le_of_ble_eq_true rfl, Nat.le_of_ble_eq_true rfl⟩ dX5_person_65 ?_
      rintro _ _ ⟨rfl, rfl⟩
      refine g_eq (ws' := (xW cI cC x0 n0 n1 t0 t1 s0 s1 g0 g1 w0 w1 w2 m0 m1 m2 m3 m4 p0 p1 (bI hs) c ct cs r (nI od) (nI z) sg (nI ln) tr (nI lf) (nI rg) (bI bd) wi ol orr sf (nI rl) nb)) (st' := [.int (sI (amF c q a w) 8)]) rfl rfl ?_
      refine g_top (y := (peV c q x w)) (by rw [peV, c4, px, if_pos rfl, if_neg t10_0, if_neg t10_1, if_pos t10_2]) ?_
      exact g_iret C hr hQ dX5_person_68 rfl ⟨rfl, rfl⟩
    by_cases t10_3 : w = nI 3
    · refine g_top (y := nI 3) t10_3 ?_
      refine g_tabIn (pc := 10) C 58 dX5_person_10 (by decide) (by decide) rfl (by decide) ?_
      refine g_aload_n (pc := 58) C dX5_person_58 0 rfl rfl ?_
      refine g_get (pc := 59) (ci := 5) (T := TX5) (N := 8) (v := .ref n0) C in_X5_person_X5 0 rfl rfl 0 (by decide) fl_X5_person_12 rfl rfl dX5_person_59 ?_
      refine g_iload_n (pc := 62) C dX5_person_62 1 rfl rfl ?_
      refine g_iload_n (pc := 63) C dX5_person_63 2 rfl rfl ?_
      refine g_iload_n (pc := 64) C dX5_person_64 3 rfl rfl ?_
      refine g_callV (pc := 65) (st := []) (As := [.int (bI q), .int (nI a), .int w]) (nn := 3) (ci := 0) (q0 := 0) C (m_X0_amountOfPerson l D cI cC n0 n1 c q a w (by first | assumption | omega) (by first | assumption | omega)) gX5_person_X0_amountOfPerson rfl rfl rfl yd_X0_amountOfPerson ⟨Nat.le_of_ble_eq_true rfl, Nat.le_of_ble_eq_true rfl⟩ rfl [1, 2] rfl rfl rfl rfl rfl (Nat.le_of_ble_eq_true rfl) ⟨Nat.le_of_ble_eq_true rfl, Nat.le_of_ble_eq_true rfl⟩ dX5_person_65 ?_
      rintro _ _ ⟨rfl, rfl⟩
      refine g_eq (ws' := (xW cI cC x0 n0 n1 t0 t1 s0 s1 g0 g1 w0 w1 w2 m0 m1 m2 m3 m4 p0 p1 (bI hs) c ct cs r (nI od) (nI z) sg (nI ln) tr (nI lf) (nI rg) (bI bd) wi ol orr sf (nI rl) nb)) (st' := [.int (sI (amF c q a w) 8)]) rfl rfl ?_
      refine g_top (y := (peV c q x w)) (by rw [peV, c4, px, if_pos rfl, if_neg t10_0, if_neg t10_1, if_neg t10_2, if_pos t10_3]) ?_
      exact g_iret C hr hQ dX5_person_68 rfl ⟨rfl, rfl⟩
    by_cases t10_4 : w = nI 4
    · refine g_top (y := nI 4) t10_4 ?_
      refine g_tabIn (pc := 10) C 58 dX5_person_10 (by decide) (by decide) rfl (by decide) ?_
      refine g_aload_n (pc := 58) C dX5_person_58 0 rfl rfl ?_
      refine g_get (pc := 59) (ci := 5) (T := TX5) (N := 8) (v := .ref n0) C in_X5_person_X5 0 rfl rfl 0 (by decide) fl_X5_person_12 rfl rfl dX5_person_59 ?_
      refine g_iload_n (pc := 62) C dX5_person_62 1 rfl rfl ?_
      refine g_iload_n (pc := 63) C dX5_person_63 2 rfl rfl ?_
      refine g_iload_n (pc := 64) C dX5_person_64 3 rfl rfl ?_
      refine g_callV (pc := 65) (st := []) (As := [.int (bI q), .int (nI a), .int w]) (nn := 3) (ci := 0) (q0 := 0) C (m_X0_amountOfPerson l D cI cC n0 n1 c q a w (by first | assumption | omega) (by first | assumption | omega)) gX5_person_X0_amountOfPerson rfl rfl rfl yd_X0_amountOfPerson ⟨Nat.le_of_ble_eq_true rfl, Nat.le_of_ble_eq_true rfl⟩ rfl [1, 2] rfl rfl rfl rfl rfl (Nat.le_of_ble_eq_true rfl) ⟨Nat.le_of_ble_eq_true rfl, Nat.le_of_ble_eq_true rfl⟩ dX5_person_65 ?_
      rintro _ _ ⟨rfl, rfl⟩
      refine g_eq (ws' := (xW cI cC x0 n0 n1 t0 t1 s0 s1 g0 g1 w0 w1 w2 m0 m1 m2 m3 m4 p0 p1 (bI hs) c ct cs r (nI od) (nI z) sg (nI ln) tr (nI lf) (nI rg) (bI bd) wi ol orr sf (nI rl) nb)) (st' := [.int (sI (amF c q a w) 8)]) rfl rfl ?_
      refine g_top (y := (peV c q x w)) (by rw [peV, c4, px, if_pos rfl, if_neg t10_0, if_neg t10_1, if_neg t10_2, if_neg t10_3, if_pos t10_4]) ?_
      exact g_iret C hr hQ dX5_person_68 rfl ⟨rfl, rfl⟩
    by_cases t10_5 : w = nI 5
    · refine g_top (y := nI 5) t10_5 ?_
      refine g_tabIn (pc := 10) C 69 dX5_person_10 (by decide) (by decide) rfl (by decide) ?_
      refine g_aload_n (pc := 69) C dX5_person_69 0 rfl rfl ?_
      refine g_get (pc := 70) (ci := 5) (T := TX5) (N := 8) (v := .ref n0) C in_X5_person_X5 0 rfl rfl 0 (by decide) fl_X5_person_12 rfl rfl dX5_person_70 ?_
      refine g_iload_n (pc := 73) C dX5_person_73 1 rfl rfl ?_
      refine g_iload_n (pc := 74) C dX5_person_74 2 rfl rfl ?_
      refine g_callV (pc := 75) (st := []) (As := [.int (bI q), .int (nI a)]) (nn := 2) (ci := 0) (q0 := 0) C (m_X0_peopleToMeet l D cI cC n0 n1 c q a (by first | assumption | omega) (by first | assumption | omega)) gX5_person_X0_peopleToMeet rfl rfl rfl yd_X0_peopleToMeet ⟨Nat.le_of_ble_eq_true rfl, Nat.le_of_ble_eq_true rfl⟩ rfl [1, 2] rfl rfl rfl rfl rfl (Nat.le_of_ble_eq_true rfl) ⟨Nat.le_of_ble_eq_true rfl, Nat.le_of_ble_eq_true rfl⟩ dX5_person_75 ?_
      rintro _ _ ⟨rfl, rfl⟩
      refine g_eq (ws' := (xW cI cC x0 n0 n1 t0 t1 s0 s1 g0 g1 w0 w1 w2 m0 m1 m2 m3 m4 p0 p1 (bI hs) c ct cs r (nI od) (nI z) sg (nI ln) tr (nI lf) (nI rg) (bI bd) wi ol orr sf (nI rl) nb)) (st' := [.int (nI (pmask (fun o => if q then caC c a o else caC c o a) 8))]) rfl rfl ?_
      refine g_top (y := (peV c q x w)) (by rw [peV, c4, px, if_pos rfl, if_neg t10_0, if_neg t10_1, if_neg t10_2, if_neg t10_3, if_neg t10_4, if_pos t10_5]) ?_
      exact g_iret C hr hQ dX5_person_78 rfl ⟨rfl, rfl⟩
    refine g_tabOut (pc := 10) C 79 dX5_person_10 (g_out 0 5 (by decide) (by intro k h1 h2; rcases (show k = 0 ∨ k = 1 ∨ k = 2 ∨ k = 3 ∨ k = 4 ∨ k = 5 by omega) with rfl | rfl | rfl | rfl | rfl | rfl <;> assumption)) (by decide) ?_
    refine g_bipush (pc := 79) (v := (-2)) C dX5_person_79 (by decide) ?_
    refine g_top (y := (peV c q x w)) (by rw [peV, c4, if_pos rfl, if_neg t10_0, if_neg t10_1, if_neg t10_2, if_neg t10_3, if_neg t10_4, if_neg t10_5]) ?_
    exact g_iret C hr hQ dX5_person_81 rfl ⟨rfl, rfl⟩
  · refine g_iconst (pc := 7) (v := (-1)) C dX5_person_7 (by decide) ?_
    refine g_top (y := (peV c q x w)) (by rw [peV, c4]; rfl) ?_
    exact g_iret C hr hQ dX5_person_8 rfl ⟨rfl, rfl⟩

abbrev rm_X5_pair : Room := { frames := 6, cells := 0, slots := 0, locals := 148 }
theorem yd_X5_pair : yX5_pair.cls = RX5 ∧ yX5_pair.cls ≠ "java/lang/invoke/MethodHandle" ∧ yX5_pair.cls ≠ "java/lang/invoke/VarHandle" ∧ (parseMethodDescriptor yX5_pair.desc).map (fun d => d.parameters.length) = some 3 := by decide +kernel
theorem in_X5_pair_X5 : ∀ w ∈ u_ws RX5 TX5 8, w ∈ wsX5_pair := by decide +kernel
theorem fl_X5_pair_12 : Cond.fieldLink RX5 12 "FenceHandshakes" "now" "LFenceHandshakes$Clans;" ∈ wsX5_pair := by decide +kernel
set_option maxHeartbeats 4000000 in
set_option maxRecDepth 100000 in
theorem m_X5_pair (l : Launch) (D : va_G) (cI cC : ClassId) (x0 n0 n1 t0 t1 s0 s1 g0 g1 w0 w1 w2 m0 m1 m2 m3 m4 p0 p1 : Nat) (c : Nat → Int32) (ct : Nat → Int32) (cs : Nat → Int32) (r : Nat → Int32) (sg : Nat → Int32) (tr : Nat → Int32) (wi : Nat → Int32) (ol : Nat → Int32) (orr : Nat → Int32) (sf : Nat → Int32) (nb : Nat → Int32) (hs : Bool) (od : Nat) (z : Nat) (ln : Nat) (lf : Nat) (rg : Nat) (bd : Bool) (rl : Nat) (x : Int32) (y : Int32) (w : Int32) (hc : cOK c) (hrl : rl < 256) : g_M l yX5_pair wsX5_pair rm_X5_pair D cI cC [.ref x0, .int x, .int y, .int w] (xW cI cC x0 n0 n1 t0 t1 s0 s1 g0 g1 w0 w1 w2 m0 m1 m2 m3 m4 p0 p1 (bI hs) c ct cs r (nI od) (nI z) sg (nI ln) tr (nI lf) (nI rg) (bI bd) wi ol orr sf (nI rl) nb) (fun vv ww => ∃ (wi2 : Nat → Int32) (ol2 : Nat → Int32) (orr2 : Nat → Int32) (sf2 : Nat → Int32) (rl2 : Nat), vv = some (.int (paV c x y w)) ∧ ww = (xW cI cC x0 n0 n1 t0 t1 s0 s1 g0 g1 w0 w1 w2 m0 m1 m2 m3 m4 p0 p1 (bI hs) c ct cs r (nI od) (nI z) sg (nI ln) tr (nI lf) (nI rg) (bI bd) wi2 ol2 orr2 sf2 (nI rl2) nb) ∧ rl2 < 256) := by
  refine g_entry (lv := [(0, .ref x0), (1, .int x), (2, .int y), (3, .int w)]) (own := RX5) (by decide) rfl rfl (Nat.le_of_ble_eq_true rfl) rfl ?_
  intro p e s m args below meth co A Q C hr hQ
  refine g_iload_n (pc := 0) C dX5_pair_0 1 rfl rfl ?_
  refine g_iload_n (pc := 1) C dX5_pair_1 2 rfl rfl ?_
  refine g_callS (pc := 2) (st := []) (As := [.int x, .int y]) (nn := 2) C (m_X5_arePeople l D cI cC x y) gX5_pair_X5_arePeople rfl rfl rfl yd_X5_arePeople.2 ⟨Nat.le_of_ble_eq_true rfl, Nat.le_of_ble_eq_true rfl⟩ rfl [] rfl rfl rfl (Nat.le_of_ble_eq_true rfl) ⟨Nat.le_of_ble_eq_true rfl, Nat.le_of_ble_eq_true rfl⟩ dX5_pair_2 ?_
  rintro _ _ ⟨rfl, rfl⟩
  refine g_eq (ws' := (xW cI cC x0 n0 n1 t0 t1 s0 s1 g0 g1 w0 w1 w2 m0 m1 m2 m3 m4 p0 p1 (bI hs) c ct cs r (nI od) (nI z) sg (nI ln) tr (nI lf) (nI rg) (bI bd) wi ol orr sf (nI rl) nb)) (st' := [.int (bI (two x y))]) rfl rfl ?_
  refine g_if_neB (pc := 5) C 10 dX5_pair_5 (by decide) (fun c5 => ?_) (fun c5 => ?_)
  · obtain ⟨a, b, ha, hb, ex, ey, px, py⟩ := two_ex c5
    refine g_lveq (lv' := [(0, .ref x0), (1, .int (nI a)), (2, .int y), (3, .int w)]) (by rw [ex]) ?_
    refine g_lveq (lv' := [(0, .ref x0), (1, .int (nI a)), (2, .int (nI b)), (3, .int w)]) (by rw [ey]) ?_
    refine g_iload_n (pc := 10) C dX5_pair_10 3 rfl rfl ?_
    by_cases t11_0 : w = nI 0
    · refine g_top (y := nI 0) t11_0 ?_
      refine g_tabIn (pc := 11) C 40 dX5_pair_11 (by decide) (by decide) rfl (by decide) ?_
      refine g_aload_n (pc := 40) C dX5_pair_40 0 rfl rfl ?_
      refine g_get (pc := 41) (ci := 5) (T := TX5) (N := 8) (v := .ref n0) C in_X5_pair_X5 0 rfl rfl 0 (by decide) fl_X5_pair_12 rfl rfl dX5_pair_41 ?_
      refine g_iload_n (pc := 44) C dX5_pair_44 1 rfl rfl ?_
      refine g_iload_n (pc := 45) C dX5_pair_45 2 rfl rfl ?_
      refine g_callV (pc := 46) (st := []) (As := [.int (nI a), .int (nI b)]) (nn := 2) (ci := 0) (q0 := 0) C (m_X0_hasWish l D cI cC n0 n1 c a b (by first | assumption | omega) (by first | assumption | omega) (by first | assumption | omega)) gX5_pair_X0_hasWish rfl rfl rfl yd_X0_hasWish ⟨Nat.le_of_ble_eq_true rfl, Nat.le_of_ble_eq_true rfl⟩ rfl [1, 2] rfl rfl rfl rfl rfl (Nat.le_of_ble_eq_true rfl) ⟨Nat.le_of_ble_eq_true rfl, Nat.le_of_ble_eq_true rfl⟩ dX5_pair_46 ?_
      rintro _ _ ⟨rfl, rfl⟩
      refine g_eq (ws' := (xW cI cC x0 n0 n1 t0 t1 s0 s1 g0 g1 w0 w1 w2 m0 m1 m2 m3 m4 p0 p1 (bI hs) c ct cs r (nI od) (nI z) sg (nI ln) tr (nI lf) (nI rg) (bI bd) wi ol orr sf (nI rl) nb)) (st' := [.int (bI (wiC c a b))]) rfl rfl ?_
      refine g_callS (pc := 49) (st := []) (As := [.int (bI (wiC c a b))]) (nn := 1) C (m_X5_asNumber l D cI cC (wiC c a b)) gX5_pair_X5_asNumber rfl rfl rfl yd_X5_asNumber.2 ⟨Nat.le_of_ble_eq_true rfl, Nat.le_of_ble_eq_true rfl⟩ rfl [] rfl rfl rfl (Nat.le_of_ble_eq_true rfl) ⟨Nat.le_of_ble_eq_true rfl, Nat.le_of_ble_eq_true rfl⟩ dX5_pair_49 ?_
      rintro _ _ ⟨rfl, rfl⟩
      refine g_eq (ws' := (xW cI cC x0 n0 n1 t0 t1 s0 s1 g0 g1 w0 w1 w2 m0 m1 m2 m3 m4 p0 p1 (bI hs) c ct cs r (nI od) (nI z) sg (nI ln) tr (nI lf) (nI rg) (bI bd) wi ol orr sf (nI rl) nb)) (st' := [.int (bI (wiC c a b))]) rfl rfl ?_
      refine g_top (y := (paV c x y w)) (by rw [paV, c5, px, py, if_pos rfl, if_pos t11_0]) ?_
      exact g_iret C hr hQ dX5_pair_52 rfl ⟨_, _, _, _, _, rfl, rfl, hrl⟩
    by_cases t11_1 : w = nI 1
    · refine g_top (y := nI 1) t11_1 ?_
      refine g_tabIn (pc := 11) C 53 dX5_pair_11 (by decide) (by decide) rfl (by decide) ?_
      refine g_aload_n (pc := 53) C dX5_pair_53 0 rfl rfl ?_
      refine g_get (pc := 54) (ci := 5) (T := TX5) (N := 8) (v := .ref n0) C in_X5_pair_X5 0 rfl rfl 0 (by decide) fl_X5_pair_12 rfl rfl dX5_pair_54 ?_
      refine g_iload_n (pc := 57) C dX5_pair_57 1 rfl rfl ?_
      refine g_iload_n (pc := 58) C dX5_pair_58 2 rfl rfl ?_
      refine g_callV (pc := 59) (st := []) (As := [.int (nI a), .int (nI b)]) (nn := 2) (ci := 0) (q0 := 0) C (m_X0_feudOf l D cI cC n0 n1 c a b (by first | assumption | omega) (by first | assumption | omega)) gX5_pair_X0_feudOf rfl rfl rfl yd_X0_feudOf ⟨Nat.le_of_ble_eq_true rfl, Nat.le_of_ble_eq_true rfl⟩ rfl [1, 2] rfl rfl rfl rfl rfl (Nat.le_of_ble_eq_true rfl) ⟨Nat.le_of_ble_eq_true rfl, Nat.le_of_ble_eq_true rfl⟩ dX5_pair_59 ?_
      rintro _ _ ⟨rfl, rfl⟩
      refine g_eq (ws' := (xW cI cC x0 n0 n1 t0 t1 s0 s1 g0 g1 w0 w1 w2 m0 m1 m2 m3 m4 p0 p1 (bI hs) c ct cs r (nI od) (nI z) sg (nI ln) tr (nI lf) (nI rg) (bI bd) wi ol orr sf (nI rl) nb)) (st' := [.int (feC c a b)]) rfl rfl ?_
      refine g_top (y := (paV c x y w)) (by rw [paV, c5, px, py, if_pos rfl, if_neg t11_0, if_pos t11_1]) ?_
      exact g_iret C hr hQ dX5_pair_62 rfl ⟨_, _, _, _, _, rfl, rfl, hrl⟩
    by_cases t11_2 : w = nI 2
    · refine g_top (y := nI 2) t11_2 ?_
      refine g_tabIn (pc := 11) C 63 dX5_pair_11 (by decide) (by decide) rfl (by decide) ?_
      refine g_aload_n (pc := 63) C dX5_pair_63 0 rfl rfl ?_
      refine g_get (pc := 64) (ci := 5) (T := TX5) (N := 8) (v := .ref n0) C in_X5_pair_X5 0 rfl rfl 0 (by decide) fl_X5_pair_12 rfl rfl dX5_pair_64 ?_
      refine g_iload_n (pc := 67) C dX5_pair_67 1 rfl rfl ?_
      refine g_iload_n (pc := 68) C dX5_pair_68 2 rfl rfl ?_
      refine g_callV (pc := 69) (st := []) (As := [.int (nI a), .int (nI b)]) (nn := 2) (ci := 0) (q0 := 0) C (m_X0_handshakesOf l D cI cC n0 n1 c a b (by first | assumption | omega) (by first | assumption | omega)) gX5_pair_X0_handshakesOf rfl rfl rfl yd_X0_handshakesOf ⟨Nat.le_of_ble_eq_true rfl, Nat.le_of_ble_eq_true rfl⟩ rfl [1, 2] rfl rfl rfl rfl rfl (Nat.le_of_ble_eq_true rfl) ⟨Nat.le_of_ble_eq_true rfl, Nat.le_of_ble_eq_true rfl⟩ dX5_pair_69 ?_
      rintro _ _ ⟨rfl, rfl⟩
      refine g_eq (ws' := (xW cI cC x0 n0 n1 t0 t1 s0 s1 g0 g1 w0 w1 w2 m0 m1 m2 m3 m4 p0 p1 (bI hs) c ct cs r (nI od) (nI z) sg (nI ln) tr (nI lf) (nI rg) (bI bd) wi ol orr sf (nI rl) nb)) (st' := [.int (taC c a b)]) rfl rfl ?_
      refine g_top (y := (paV c x y w)) (by rw [paV, c5, px, py, if_pos rfl, if_neg t11_0, if_neg t11_1, if_pos t11_2]) ?_
      exact g_iret C hr hQ dX5_pair_72 rfl ⟨_, _, _, _, _, rfl, rfl, hrl⟩
    by_cases t11_3 : w = nI 3
    · refine g_top (y := nI 3) t11_3 ?_
      refine g_tabIn (pc := 11) C 73 dX5_pair_11 (by decide) (by decide) rfl (by decide) ?_
      refine g_aload_n (pc := 73) C dX5_pair_73 0 rfl rfl ?_
      refine g_iload_n (pc := 74) C dX5_pair_74 1 rfl rfl ?_
      refine g_iload_n (pc := 75) C dX5_pair_75 2 rfl rfl ?_
      refine g_callV (pc := 76) (st := []) (As := [.int (nI a), .int (nI b)]) (nn := 2) (ci := 5) (q0 := 0) C (m_X5_reasonAgainst l D cI cC x0 n0 n1 t0 t1 s0 s1 g0 g1 w0 w1 w2 m0 m1 m2 m3 m4 p0 p1 c ct cs r sg tr wi ol orr sf nb hs od z ln lf rg bd rl a b (by first | assumption | omega) (by first | assumption | omega) (by first | assumption | omega) (by first | assumption | omega)) gX5_pair_X5_reasonAgainst rfl rfl rfl yd_X5_reasonAgainst ⟨Nat.le_of_ble_eq_true rfl, Nat.le_of_ble_eq_true rfl⟩ rfl [0, 1, 2, 3, 4, 5, 6, 7, 8, 9, 10, 11, 12, 13, 14, 15, 16, 17, 18] rfl rfl rfl rfl rfl (Nat.le_of_ble_eq_true rfl) ⟨Nat.le_of_ble_eq_true rfl, Nat.le_of_ble_eq_true rfl⟩ dX5_pair_76 ?_
      rintro _ _ ⟨wi2a, ol2a, orr2a, sf2a, rl2a, rfl, rfl, h9⟩
      refine g_eq (ws' := (xW cI cC x0 n0 n1 t0 t1 s0 s1 g0 g1 w0 w1 w2 m0 m1 m2 m3 m4 p0 p1 (bI hs) c ct cs r (nI od) (nI z) sg (nI ln) tr (nI lf) (nI rg) (bI bd) wi2a ol2a orr2a sf2a (nI rl2a) nb)) (st' := [.int (whV c a b)]) rfl rfl ?_
      refine g_top (y := (paV c x y w)) (by rw [paV, c5, px, py, if_pos rfl, if_neg t11_0, if_neg t11_1, if_neg t11_2, if_pos t11_3]) ?_
      exact g_iret C hr hQ dX5_pair_79 rfl ⟨_, _, _, _, _, rfl, rfl, h9⟩
    refine g_tabOut (pc := 11) C 80 dX5_pair_11 (g_out 0 3 (by decide) (by intro k h1 h2; rcases (show k = 0 ∨ k = 1 ∨ k = 2 ∨ k = 3 by omega) with rfl | rfl | rfl | rfl <;> assumption)) (by decide) ?_
    refine g_bipush (pc := 80) (v := (-2)) C dX5_pair_80 (by decide) ?_
    refine g_top (y := (paV c x y w)) (by rw [paV, c5, if_pos rfl, if_neg t11_0, if_neg t11_1, if_neg t11_2, if_neg t11_3]) ?_
    exact g_iret C hr hQ dX5_pair_82 rfl ⟨_, _, _, _, _, rfl, rfl, hrl⟩
  · refine g_iconst (pc := 8) (v := (-1)) C dX5_pair_8 (by decide) ?_
    refine g_top (y := (paV c x y w)) (by rw [paV, c5]; rfl) ?_
    exact g_iret C hr hQ dX5_pair_9 rfl ⟨_, _, _, _, _, rfl, rfl, hrl⟩

abbrev rm_X5_isLinked : Room := { frames := 2, cells := 0, slots := 0, locals := 43 }
theorem yd_X5_isLinked : yX5_isLinked.cls = RX5 ∧ yX5_isLinked.cls ≠ "java/lang/invoke/MethodHandle" ∧ yX5_isLinked.cls ≠ "java/lang/invoke/VarHandle" ∧ (parseMethodDescriptor yX5_isLinked.desc).map (fun d => d.parameters.length) = some 2 := by decide +kernel
theorem in_X5_isLinked_X5 : ∀ w ∈ u_ws RX5 TX5 8, w ∈ wsX5_isLinked := by decide +kernel
theorem fl_X5_isLinked_12 : Cond.fieldLink RX5 12 "FenceHandshakes" "now" "LFenceHandshakes$Clans;" ∈ wsX5_isLinked := by decide +kernel
set_option maxHeartbeats 4000000 in
set_option maxRecDepth 100000 in
theorem m_X5_isLinked (l : Launch) (D : va_G) (cI cC : ClassId) (x0 n0 n1 t0 t1 s0 s1 g0 g1 w0 w1 w2 m0 m1 m2 m3 m4 p0 p1 : Nat) (c : Nat → Int32) (ct : Nat → Int32) (cs : Nat → Int32) (r : Nat → Int32) (sg : Nat → Int32) (tr : Nat → Int32) (wi : Nat → Int32) (ol : Nat → Int32) (orr : Nat → Int32) (sf : Nat → Int32) (nb : Nat → Int32) (hs : Bool) (od : Nat) (z : Nat) (ln : Nat) (lf : Nat) (rg : Nat) (bd : Bool) (rl : Nat) (x : Int32) (y : Int32) (hc : cOK c) : g_M l yX5_isLinked wsX5_isLinked rm_X5_isLinked D cI cC [.ref x0, .int x, .int y] (xW cI cC x0 n0 n1 t0 t1 s0 s1 g0 g1 w0 w1 w2 m0 m1 m2 m3 m4 p0 p1 (bI hs) c ct cs r (nI od) (nI z) sg (nI ln) tr (nI lf) (nI rg) (bI bd) wi ol orr sf (nI rl) nb) (fun vv ww => vv = some (.int (lkV c x y)) ∧ ww = (xW cI cC x0 n0 n1 t0 t1 s0 s1 g0 g1 w0 w1 w2 m0 m1 m2 m3 m4 p0 p1 (bI hs) c ct cs r (nI od) (nI z) sg (nI ln) tr (nI lf) (nI rg) (bI bd) wi ol orr sf (nI rl) nb)) := by
  refine g_entry (lv := [(0, .ref x0), (1, .int x), (2, .int y)]) (own := RX5) (by decide) rfl rfl (Nat.le_of_ble_eq_true rfl) rfl ?_
  intro p e s m args below meth co A Q C hr hQ
  refine g_iload_n (pc := 0) C dX5_isLinked_0 1 rfl rfl ?_
  refine g_callS (pc := 1) (st := []) (As := [.int x]) (nn := 1) C (m_X5_isGate l D cI cC x) gX5_isLinked_X5_isGate rfl rfl rfl yd_X5_isGate.2 ⟨Nat.le_of_ble_eq_true rfl, Nat.le_of_ble_eq_true rfl⟩ rfl [] rfl rfl rfl (Nat.le_of_ble_eq_true rfl) ⟨Nat.le_of_ble_eq_true rfl, Nat.le_of_ble_eq_true rfl⟩ dX5_isLinked_1 ?_
  rintro _ _ ⟨rfl, rfl⟩
  refine g_eq (ws' := (xW cI cC x0 n0 n1 t0 t1 s0 s1 g0 g1 w0 w1 w2 m0 m1 m2 m3 m4 p0 p1 (bI hs) c ct cs r (nI od) (nI z) sg (nI ln) tr (nI lf) (nI rg) (bI bd) wi ol orr sf (nI rl) nb)) (st' := [.int (bI (isG x))]) rfl rfl ?_
  refine g_if_eqB (pc := 4) C 14 dX5_isLinked_4 (by decide) (fun c4 => ?_) (fun c4 => ?_)
  · refine g_iconst (pc := 14) (v := (-1)) C dX5_isLinked_14 (by decide) ?_
    refine g_top (y := (lkV c x y)) (by rw [lkV, show twG x y = false from by rw [twG, c4]; rfl]; rfl) ?_
    exact g_iret C hr hQ dX5_isLinked_15 rfl ⟨rfl, rfl⟩
  · refine g_iload_n (pc := 7) C dX5_isLinked_7 2 rfl rfl ?_
    refine g_callS (pc := 8) (st := []) (As := [.int y]) (nn := 1) C (m_X5_isGate l D cI cC y) gX5_isLinked_X5_isGate rfl rfl rfl yd_X5_isGate.2 ⟨Nat.le_of_ble_eq_true rfl, Nat.le_of_ble_eq_true rfl⟩ rfl [] rfl rfl rfl (Nat.le_of_ble_eq_true rfl) ⟨Nat.le_of_ble_eq_true rfl, Nat.le_of_ble_eq_true rfl⟩ dX5_isLinked_8 ?_
    rintro _ _ ⟨rfl, rfl⟩
    refine g_eq (ws' := (xW cI cC x0 n0 n1 t0 t1 s0 s1 g0 g1 w0 w1 w2 m0 m1 m2 m3 m4 p0 p1 (bI hs) c ct cs r (nI od) (nI z) sg (nI ln) tr (nI lf) (nI rg) (bI bd) wi ol orr sf (nI rl) nb)) (st' := [.int (bI (isG y))]) rfl rfl ?_
    refine g_if_neB (pc := 11) C 16 dX5_isLinked_11 (by decide) (fun c11 => ?_) (fun c11 => ?_)
    · have tg : twG x y = true := by rw [twG, c4, c11]; rfl
      obtain ⟨a, b, ha, hb, ex, ey, px, py⟩ := twG_ex tg
      refine g_lveq (lv' := [(0, .ref x0), (1, .int (nI a)), (2, .int y)]) (by rw [ex]) ?_
      refine g_lveq (lv' := [(0, .ref x0), (1, .int (nI a)), (2, .int (nI b))]) (by rw [ey]) ?_
      refine g_aload_n (pc := 16) C dX5_isLinked_16 0 rfl rfl ?_
      refine g_get (pc := 17) (ci := 5) (T := TX5) (N := 8) (v := .ref n0) C in_X5_isLinked_X5 0 rfl rfl 0 (by decide) fl_X5_isLinked_12 rfl rfl dX5_isLinked_17 ?_
      refine g_iload_n (pc := 20) C dX5_isLinked_20 1 rfl rfl ?_
      refine g_iload_n (pc := 21) C dX5_isLinked_21 2 rfl rfl ?_
      refine g_callV (pc := 22) (st := []) (As := [.int (nI a), .int (nI b)]) (nn := 2) (ci := 0) (q0 := 0) C (m_X0_areLinked l D cI cC n0 n1 c a b (by first | assumption | omega) (by first | assumption | omega) (by first | assumption | omega)) gX5_isLinked_X0_areLinked rfl rfl rfl yd_X0_areLinked ⟨Nat.le_of_ble_eq_true rfl, Nat.le_of_ble_eq_true rfl⟩ rfl [1, 2] rfl rfl rfl rfl rfl (Nat.le_of_ble_eq_true rfl) ⟨Nat.le_of_ble_eq_true rfl, Nat.le_of_ble_eq_true rfl⟩ dX5_isLinked_22 ?_
      rintro _ _ ⟨rfl, rfl⟩
      refine g_eq (ws' := (xW cI cC x0 n0 n1 t0 t1 s0 s1 g0 g1 w0 w1 w2 m0 m1 m2 m3 m4 p0 p1 (bI hs) c ct cs r (nI od) (nI z) sg (nI ln) tr (nI lf) (nI rg) (bI bd) wi ol orr sf (nI rl) nb)) (st' := [.int (bI (lkC c a b))]) rfl rfl ?_
      refine g_callS (pc := 25) (st := []) (As := [.int (bI (lkC c a b))]) (nn := 1) C (m_X5_asNumber l D cI cC (lkC c a b)) gX5_isLinked_X5_asNumber rfl rfl rfl yd_X5_asNumber.2 ⟨Nat.le_of_ble_eq_true rfl, Nat.le_of_ble_eq_true rfl⟩ rfl [] rfl rfl rfl (Nat.le_of_ble_eq_true rfl) ⟨Nat.le_of_ble_eq_true rfl, Nat.le_of_ble_eq_true rfl⟩ dX5_isLinked_25 ?_
      rintro _ _ ⟨rfl, rfl⟩
      refine g_eq (ws' := (xW cI cC x0 n0 n1 t0 t1 s0 s1 g0 g1 w0 w1 w2 m0 m1 m2 m3 m4 p0 p1 (bI hs) c ct cs r (nI od) (nI z) sg (nI ln) tr (nI lf) (nI rg) (bI bd) wi ol orr sf (nI rl) nb)) (st' := [.int (bI (lkC c a b))]) rfl rfl ?_
      refine g_top (y := (lkV c x y)) (by rw [lkV, tg, px, py]; rfl) ?_
      exact g_iret C hr hQ dX5_isLinked_28 rfl ⟨rfl, rfl⟩
    · refine g_iconst (pc := 14) (v := (-1)) C dX5_isLinked_14 (by decide) ?_
      refine g_top (y := (lkV c x y)) (by rw [lkV, show twG x y = false from by rw [twG, c4, c11]; rfl]; rfl) ?_
      exact g_iret C hr hQ dX5_isLinked_15 rfl ⟨rfl, rfl⟩

abbrev rm_X5_partner : Room := { frames := 5, cells := 0, slots := 0, locals := 126 }
theorem yd_X5_partner : yX5_partner.cls = RX5 ∧ yX5_partner.cls ≠ "java/lang/invoke/MethodHandle" ∧ yX5_partner.cls ≠ "java/lang/invoke/VarHandle" ∧ (parseMethodDescriptor yX5_partner.desc).map (fun d => d.parameters.length) = some 2 := by decide +kernel
theorem in_X5_partner_X5 : ∀ w ∈ u_ws RX5 TX5 8, w ∈ wsX5_partner := by decide +kernel
theorem fl_X5_partner_12 : Cond.fieldLink RX5 12 "FenceHandshakes" "now" "LFenceHandshakes$Clans;" ∈ wsX5_partner := by decide +kernel
theorem fl_X5_partner_39 : Cond.fieldLink RX5 39 "FenceHandshakes" "matching" "LFenceHandshakes$Matching;" ∈ wsX5_partner := by decide +kernel
set_option maxHeartbeats 4000000 in
set_option maxRecDepth 100000 in
theorem m_X5_partner (l : Launch) (D : va_G) (cI cC : ClassId) (x0 n0 n1 t0 t1 s0 s1 g0 g1 w0 w1 w2 m0 m1 m2 m3 m4 p0 p1 : Nat) (c : Nat → Int32) (ct : Nat → Int32) (cs : Nat → Int32) (r : Nat → Int32) (sg : Nat → Int32) (tr : Nat → Int32) (wi : Nat → Int32) (ol : Nat → Int32) (orr : Nat → Int32) (sf : Nat → Int32) (nb : Nat → Int32) (hs : Bool) (od : Nat) (z : Nat) (ln : Nat) (lf : Nat) (rg : Nat) (bd : Bool) (rl : Nat) (q : Bool) (x : Int32) (hc : cOK c) (hrl : rl < 256) : g_M l yX5_partner wsX5_partner rm_X5_partner D cI cC [.ref x0, .int (bI q), .int x] (xW cI cC x0 n0 n1 t0 t1 s0 s1 g0 g1 w0 w1 w2 m0 m1 m2 m3 m4 p0 p1 (bI hs) c ct cs r (nI od) (nI z) sg (nI ln) tr (nI lf) (nI rg) (bI bd) wi ol orr sf (nI rl) nb) (fun vv ww => ∃ (wi2 : Nat → Int32) (ol2 : Nat → Int32) (orr2 : Nat → Int32) (sf2 : Nat → Int32) (rl2 : Nat), vv = some (.int (ptV c q x)) ∧ ww = (xW cI cC x0 n0 n1 t0 t1 s0 s1 g0 g1 w0 w1 w2 m0 m1 m2 m3 m4 p0 p1 (bI hs) c ct cs r (nI od) (nI z) sg (nI ln) tr (nI lf) (nI rg) (bI bd) wi2 ol2 orr2 sf2 (nI rl2) nb) ∧ rl2 < 256) := by
  refine g_entry (lv := [(0, .ref x0), (1, .int (bI q)), (2, .int x)]) (own := RX5) (by decide) rfl rfl (Nat.le_of_ble_eq_true rfl) rfl ?_
  intro p e s m args below meth co A Q C hr hQ
  refine g_iload_n (pc := 0) C dX5_partner_0 2 rfl rfl ?_
  refine g_callS (pc := 1) (st := []) (As := [.int x]) (nn := 1) C (m_X5_isPerson l D cI cC x) gX5_partner_X5_isPerson rfl rfl rfl yd_X5_isPerson.2 ⟨Nat.le_of_ble_eq_true rfl, Nat.le_of_ble_eq_true rfl⟩ rfl [] rfl rfl rfl (Nat.le_of_ble_eq_true rfl) ⟨Nat.le_of_ble_eq_true rfl, Nat.le_of_ble_eq_true rfl⟩ dX5_partner_1 ?_
  rintro _ _ ⟨rfl, rfl⟩
  refine g_eq (ws' := (xW cI cC x0 n0 n1 t0 t1 s0 s1 g0 g1 w0 w1 w2 m0 m1 m2 m3 m4 p0 p1 (bI hs) c ct cs r (nI od) (nI z) sg (nI ln) tr (nI lf) (nI rg) (bI bd) wi ol orr sf (nI rl) nb)) (st' := [.int (bI (isP x))]) rfl rfl ?_
  refine g_if_neB (pc := 4) C 9 dX5_partner_4 (by decide) (fun c4 => ?_) (fun c4 => ?_)
  · obtain ⟨a, ha, ex⟩ := isP_ex c4
    have px : pN x = a := by rw [ex]; exact pN_nI ha
    refine g_lveq (lv' := [(0, .ref x0), (1, .int (bI q)), (2, .int (nI a))]) (by rw [ex]) ?_
    refine g_aload_n (pc := 9) C dX5_partner_9 0 rfl rfl ?_
    refine g_get (pc := 10) (ci := 5) (T := TX5) (N := 8) (v := .ref m0) C in_X5_partner_X5 0 rfl rfl 6 (by decide) fl_X5_partner_39 rfl rfl dX5_partner_10 ?_
    refine g_aload_n (pc := 13) C dX5_partner_13 0 rfl rfl ?_
    refine g_get (pc := 14) (ci := 5) (T := TX5) (N := 8) (v := .ref n0) C in_X5_partner_X5 0 rfl rfl 0 (by decide) fl_X5_partner_12 rfl rfl dX5_partner_14 ?_
    refine g_callV (pc := 17) (st := []) (As := [.ref n0]) (nn := 1) (ci := 2) (q0 := 0) C (m_X2_takeFirst l D cI cC m0 m1 m2 m3 m4 n0 n1 wi ol orr sf c rl (by first | assumption | omega) (by first | assumption | omega)) gX5_partner_X2_takeFirst rfl rfl rfl yd_X2_takeFirst ⟨Nat.le_of_ble_eq_true rfl, Nat.le_of_ble_eq_true rfl⟩ rfl [12, 13, 14, 15, 16, 1, 2] rfl rfl rfl rfl rfl (Nat.le_of_ble_eq_true rfl) ⟨Nat.le_of_ble_eq_true rfl, Nat.le_of_ble_eq_true rfl⟩ dX5_partner_17 ?_
    rintro _ _ ⟨wi2, ol2, orr2, sf2, rl2, R2, rfl, rfl, u1, u2⟩
    refine g_eq (ws' := (xW cI cC x0 n0 n1 t0 t1 s0 s1 g0 g1 w0 w1 w2 m0 m1 m2 m3 m4 p0 p1 (bI hs) c ct cs r (nI od) (nI z) sg (nI ln) tr (nI lf) (nI rg) (bI bd) wi2 ol2 orr2 sf2 (nI rl2) nb)) (st' := []) rfl rfl ?_
    have hsp : ∀ a, a < 8 → ol2 a = pI (spE (EC c) a) := fun a ha => by rw [← sp_of u1 ha]; exact u2.1 a ha
    refine g_aload_n (pc := 20) C dX5_partner_20 0 rfl rfl ?_
    refine g_get (pc := 21) (ci := 5) (T := TX5) (N := 8) (v := .ref m0) C in_X5_partner_X5 0 rfl rfl 6 (by decide) fl_X5_partner_39 rfl rfl dX5_partner_21 ?_
    refine g_iload_n (pc := 24) C dX5_partner_24 1 rfl rfl ?_
    refine g_iload_n (pc := 25) C dX5_partner_25 2 rfl rfl ?_
    refine g_callV (pc := 26) (st := []) (As := [.int (bI q), .int (nI a)]) (nn := 2) (ci := 2) (q0 := 0) C (m_X2_partnerOf l D cI cC m0 m1 m2 m3 m4 wi2 ol2 orr2 sf2 rl2 q a (by first | assumption | omega)) gX5_partner_X2_partnerOf rfl rfl rfl yd_X2_partnerOf ⟨Nat.le_of_ble_eq_true rfl, Nat.le_of_ble_eq_true rfl⟩ rfl [12, 13, 14, 15, 16] rfl rfl rfl rfl rfl (Nat.le_of_ble_eq_true rfl) ⟨Nat.le_of_ble_eq_true rfl, Nat.le_of_ble_eq_true rfl⟩ dX5_partner_26 ?_
    rintro _ _ ⟨rfl, rfl⟩
    refine g_eq (ws' := (xW cI cC x0 n0 n1 t0 t1 s0 s1 g0 g1 w0 w1 w2 m0 m1 m2 m3 m4 p0 p1 (bI hs) c ct cs r (nI od) (nI z) sg (nI ln) tr (nI lf) (nI rg) (bI bd) wi2 ol2 orr2 sf2 (nI rl2) nb)) (st' := [.int ((if q then ol2 else orr2) a)]) rfl rfl ?_
    refine g_top (y := (ptV c q x)) (by rw [ptV, c4, px, if_pos rfl]; cases q with | true => exact hsp a ha | false => exact (u2.2.1 a ha).trans (by rw [spR_of u2.2.2.1 (fun x hx => sp_of u1 hx) ha]; rfl)) ?_
    exact g_iret C hr hQ dX5_partner_29 rfl ⟨_, _, _, _, _, rfl, rfl, u2.2.2.2⟩
  · refine g_iconst (pc := 7) (v := (-1)) C dX5_partner_7 (by decide) ?_
    refine g_top (y := (ptV c q x)) (by rw [ptV, c4]; rfl) ?_
    exact g_iret C hr hQ dX5_partner_8 rfl ⟨_, _, _, _, _, rfl, rfl, hrl⟩

abbrev rm_X5_hindered : Room := { frames := 4, cells := 0, slots := 0, locals := 99 }
theorem yd_X5_hindered : yX5_hindered.cls = RX5 ∧ yX5_hindered.cls ≠ "java/lang/invoke/MethodHandle" ∧ yX5_hindered.cls ≠ "java/lang/invoke/VarHandle" ∧ (parseMethodDescriptor yX5_hindered.desc).map (fun d => d.parameters.length) = some 0 := by decide +kernel
theorem in_X5_hindered_X5 : ∀ w ∈ u_ws RX5 TX5 8, w ∈ wsX5_hindered := by decide +kernel
theorem fl_X5_hindered_12 : Cond.fieldLink RX5 12 "FenceHandshakes" "now" "LFenceHandshakes$Clans;" ∈ wsX5_hindered := by decide +kernel
theorem fl_X5_hindered_39 : Cond.fieldLink RX5 39 "FenceHandshakes" "matching" "LFenceHandshakes$Matching;" ∈ wsX5_hindered := by decide +kernel
set_option maxHeartbeats 4000000 in
set_option maxRecDepth 100000 in
theorem m_X5_hindered (l : Launch) (D : va_G) (cI cC : ClassId) (x0 n0 n1 t0 t1 s0 s1 g0 g1 w0 w1 w2 m0 m1 m2 m3 m4 p0 p1 : Nat) (c : Nat → Int32) (ct : Nat → Int32) (cs : Nat → Int32) (r : Nat → Int32) (sg : Nat → Int32) (tr : Nat → Int32) (wi : Nat → Int32) (ol : Nat → Int32) (orr : Nat → Int32) (sf : Nat → Int32) (nb : Nat → Int32) (hs : Bool) (od : Nat) (z : Nat) (ln : Nat) (lf : Nat) (rg : Nat) (bd : Bool) (rl : Nat) (hc : cOK c) (hrl : rl < 256) : g_M l yX5_hindered wsX5_hindered rm_X5_hindered D cI cC [.ref x0] (xW cI cC x0 n0 n1 t0 t1 s0 s1 g0 g1 w0 w1 w2 m0 m1 m2 m3 m4 p0 p1 (bI hs) c ct cs r (nI od) (nI z) sg (nI ln) tr (nI lf) (nI rg) (bI bd) wi ol orr sf (nI rl) nb) (fun vv ww => ∃ (wi2 : Nat → Int32) (ol2 : Nat → Int32) (orr2 : Nat → Int32) (sf2 : Nat → Int32) (rl2 : Nat), vv = some (.int (nI (hnN c))) ∧ ww = (xW cI cC x0 n0 n1 t0 t1 s0 s1 g0 g1 w0 w1 w2 m0 m1 m2 m3 m4 p0 p1 (bI hs) c ct cs r (nI od) (nI z) sg (nI ln) tr (nI lf) (nI rg) (bI bd) wi2 ol2 orr2 sf2 (nI rl2) nb) ∧ rl2 < 256 ∧ HW (cN wi2) ∧ (∀ a, a < 8 → wi2 a = nI (pmask (poC c a) 8))) := by
  refine g_entry (lv := [(0, .ref x0)]) (own := RX5) (by decide) rfl rfl (Nat.le_of_ble_eq_true rfl) rfl ?_
  intro p e s m args below meth co A Q C hr hQ
  refine g_aload_n (pc := 0) C dX5_hindered_0 0 rfl rfl ?_
  refine g_get (pc := 1) (ci := 5) (T := TX5) (N := 8) (v := .ref m0) C in_X5_hindered_X5 0 rfl rfl 6 (by decide) fl_X5_hindered_39 rfl rfl dX5_hindered_1 ?_
  refine g_aload_n (pc := 4) C dX5_hindered_4 0 rfl rfl ?_
  refine g_get (pc := 5) (ci := 5) (T := TX5) (N := 8) (v := .ref n0) C in_X5_hindered_X5 0 rfl rfl 0 (by decide) fl_X5_hindered_12 rfl rfl dX5_hindered_5 ?_
  refine g_callV (pc := 8) (st := []) (As := [.ref n0]) (nn := 1) (ci := 2) (q0 := 0) C (m_X2_takeGreatest l D cI cC m0 m1 m2 m3 m4 n0 n1 wi ol orr sf c rl (by first | assumption | omega) (by first | assumption | omega)) gX5_hindered_X2_takeGreatest rfl rfl rfl yd_X2_takeGreatest ⟨Nat.le_of_ble_eq_true rfl, Nat.le_of_ble_eq_true rfl⟩ rfl [12, 13, 14, 15, 16, 1, 2] rfl rfl rfl rfl rfl (Nat.le_of_ble_eq_true rfl) ⟨Nat.le_of_ble_eq_true rfl, Nat.le_of_ble_eq_true rfl⟩ dX5_hindered_8 ?_
  rintro _ _ ⟨wi2, ol2, orr2, sf2, rl2, L2, R2, rfl, rfl, u1, u2, u3⟩
  refine g_eq (ws' := (xW cI cC x0 n0 n1 t0 t1 s0 s1 g0 g1 w0 w1 w2 m0 m1 m2 m3 m4 p0 p1 (bI hs) c ct cs r (nI od) (nI z) sg (nI ln) tr (nI lf) (nI rg) (bI bd) wi2 ol2 orr2 sf2 (nI rl2) nb)) (st' := []) rfl rfl ?_
  refine g_aload_n (pc := 11) C dX5_hindered_11 0 rfl rfl ?_
  refine g_get (pc := 12) (ci := 5) (T := TX5) (N := 8) (v := .ref m0) C in_X5_hindered_X5 0 rfl rfl 6 (by decide) fl_X5_hindered_39 rfl rfl dX5_hindered_12 ?_
  refine g_callV (pc := 15) (st := []) (As := []) (nn := 0) (ci := 2) (q0 := 0) C (m_X2_leftsWhoMayBeLeftOut l D cI cC m0 m1 m2 m3 m4 wi2 ol2 orr2 sf2 rl2 L2 R2 (aw_of u1) (u2.1) (u2.2.1) (u2.2.2.1) (u3)) gX5_hindered_X2_leftsWhoMayBeLeftOut rfl rfl rfl yd_X2_leftsWhoMayBeLeftOut ⟨Nat.le_of_ble_eq_true rfl, Nat.le_of_ble_eq_true rfl⟩ rfl [12, 13, 14, 15, 16] rfl rfl rfl rfl rfl (Nat.le_of_ble_eq_true rfl) ⟨Nat.le_of_ble_eq_true rfl, Nat.le_of_ble_eq_true rfl⟩ dX5_hindered_15 ?_
  rintro _ _ ⟨sf3, rl3, rfl, rfl, h9, h10⟩
  refine g_eq (ws' := (xW cI cC x0 n0 n1 t0 t1 s0 s1 g0 g1 w0 w1 w2 m0 m1 m2 m3 m4 p0 p1 (bI hs) c ct cs r (nI od) (nI z) sg (nI ln) tr (nI lf) (nI rg) (bI bd) wi2 ol2 orr2 sf3 (nI rl3) nb)) (st' := [.int (nI (pmask (fun a => decide (szN (eOut (Ew (cN wi2)) a) 8 255 = szN (Ew (cN wi2)) 8 255) && decide (cN wi2 a ≠ 0)) 8))]) rfl rfl ?_
  refine g_top (y := nI (hnN c)) (by rw [hn_of u1]) ?_
  exact g_iret C hr hQ dX5_hindered_18 rfl ⟨_, _, _, _, _, rfl, rfl, h9, h10, u1⟩

abbrev rm_X5_count : Room := { frames := 6, cells := 0, slots := 0, locals := 138 }
theorem yd_X5_count : yX5_count.cls = RX5 ∧ yX5_count.cls ≠ "java/lang/invoke/MethodHandle" ∧ yX5_count.cls ≠ "java/lang/invoke/VarHandle" ∧ (parseMethodDescriptor yX5_count.desc).map (fun d => d.parameters.length) = some 1 := by decide +kernel
theorem in_X5_count_X5 : ∀ w ∈ u_ws RX5 TX5 8, w ∈ wsX5_count := by decide +kernel
theorem fl_X5_count_12 : Cond.fieldLink RX5 12 "FenceHandshakes" "now" "LFenceHandshakes$Clans;" ∈ wsX5_count := by decide +kernel
theorem fl_X5_count_25 : Cond.fieldLink RX5 25 "FenceHandshakes" "history" "LFenceHandshakes$History;" ∈ wsX5_count := by decide +kernel
theorem fl_X5_count_32 : Cond.fieldLink RX5 32 "FenceHandshakes" "text" "LFenceHandshakes$WishText;" ∈ wsX5_count := by decide +kernel
set_option maxHeartbeats 4000000 in
set_option maxRecDepth 100000 in
theorem m_X5_count (l : Launch) (D : va_G) (cI cC : ClassId) (x0 n0 n1 t0 t1 s0 s1 g0 g1 w0 w1 w2 m0 m1 m2 m3 m4 p0 p1 : Nat) (c : Nat → Int32) (ct : Nat → Int32) (cs : Nat → Int32) (r : Nat → Int32) (sg : Nat → Int32) (tr : Nat → Int32) (wi : Nat → Int32) (ol : Nat → Int32) (orr : Nat → Int32) (sf : Nat → Int32) (nb : Nat → Int32) (hs : Bool) (od : Nat) (z : Nat) (ln : Nat) (lf : Nat) (rg : Nat) (bd : Bool) (rl : Nat) (w : Int32) (hc : cOK c) (hrl : rl < 256) : g_M l yX5_count wsX5_count rm_X5_count D cI cC [.ref x0, .int w] (xW cI cC x0 n0 n1 t0 t1 s0 s1 g0 g1 w0 w1 w2 m0 m1 m2 m3 m4 p0 p1 (bI hs) c ct cs r (nI od) (nI z) sg (nI ln) tr (nI lf) (nI rg) (bI bd) wi ol orr sf (nI rl) nb) (fun vv ww => ∃ (wi2 : Nat → Int32) (ol2 : Nat → Int32) (orr2 : Nat → Int32) (sf2 : Nat → Int32) (rl2 : Nat), vv = some (.int (coV c z ln w)) ∧ ww = (xW cI cC x0 n0 n1 t0 t1 s0 s1 g0 g1 w0 w1 w2 m0 m1 m2 m3 m4 p0 p1 (bI hs) c ct cs r (nI od) (nI z) sg (nI ln) tr (nI lf) (nI rg) (bI bd) wi2 ol2 orr2 sf2 (nI rl2) nb) ∧ rl2 < 256) := by
  refine g_entry (lv := [(0, .ref x0), (1, .int w)]) (own := RX5) (by decide) rfl rfl (Nat.le_of_ble_eq_true rfl) rfl ?_
  intro p e s m args below meth co A Q C hr hQ
  refine g_iload_n (pc := 0) C dX5_count_0 1 rfl rfl ?_
  by_cases t1_0 : w = nI 0
  · refine g_top (y := nI 0) t1_0 ?_
    refine g_tabIn (pc := 1) C 56 dX5_count_1 (by decide) (by decide) rfl (by decide) ?_
    refine g_aload_n (pc := 56) C dX5_count_56 0 rfl rfl ?_
    refine g_get (pc := 57) (ci := 5) (T := TX5) (N := 8) (v := .ref n0) C in_X5_count_X5 0 rfl rfl 0 (by decide) fl_X5_count_12 rfl rfl dX5_count_57 ?_
    refine g_callV (pc := 60) (st := []) (As := []) (nn := 0) (ci := 0) (q0 := 0) C (m_X0_numberOfWishes l D cI cC n0 n1 c (by first | assumption | omega)) gX5_count_X0_numberOfWishes rfl rfl rfl yd_X0_numberOfWishes ⟨Nat.le_of_ble_eq_true rfl, Nat.le_of_ble_eq_true rfl⟩ rfl [1, 2] rfl rfl rfl rfl rfl (Nat.le_of_ble_eq_true rfl) ⟨Nat.le_of_ble_eq_true rfl, Nat.le_of_ble_eq_true rfl⟩ dX5_count_60 ?_
    rintro _ _ ⟨rfl, rfl⟩
    refine g_eq (ws' := (xW cI cC x0 n0 n1 t0 t1 s0 s1 g0 g1 w0 w1 w2 m0 m1 m2 m3 m4 p0 p1 (bI hs) c ct cs r (nI od) (nI z) sg (nI ln) tr (nI lf) (nI rg) (bI bd) wi ol orr sf (nI rl) nb)) (st' := [.int (nI (nwC c 8))]) rfl rfl ?_
    refine g_top (y := (coV c z ln w)) (by rw [coV, if_pos t1_0]) ?_
    exact g_iret C hr hQ dX5_count_63 rfl ⟨_, _, _, _, _, rfl, rfl, hrl⟩
  by_cases t1_1 : w = nI 1
  · refine g_top (y := nI 1) t1_1 ?_
    refine g_tabIn (pc := 1) C 64 dX5_count_1 (by decide) (by decide) rfl (by decide) ?_
    refine g_aload_n (pc := 64) C dX5_count_64 0 rfl rfl ?_
    refine g_get (pc := 65) (ci := 5) (T := TX5) (N := 8) (v := .ref n0) C in_X5_count_X5 0 rfl rfl 0 (by decide) fl_X5_count_12 rfl rfl dX5_count_65 ?_
    refine g_iconst (pc := 68) (v := nI 2) C dX5_count_68 (by decide) ?_
    refine g_callV (pc := 69) (st := []) (As := [.int (nI 2)]) (nn := 1) (ci := 0) (q0 := 0) C (m_X0_amountOfAll l D cI cC n0 n1 c (nI 2) (by first | assumption | omega)) gX5_count_X0_amountOfAll rfl rfl rfl yd_X0_amountOfAll ⟨Nat.le_of_ble_eq_true rfl, Nat.le_of_ble_eq_true rfl⟩ rfl [1, 2] rfl rfl rfl rfl rfl (Nat.le_of_ble_eq_true rfl) ⟨Nat.le_of_ble_eq_true rfl, Nat.le_of_ble_eq_true rfl⟩ dX5_count_69 ?_
    rintro _ _ ⟨rfl, rfl⟩
    refine g_eq (ws' := (xW cI cC x0 n0 n1 t0 t1 s0 s1 g0 g1 w0 w1 w2 m0 m1 m2 m3 m4 p0 p1 (bI hs) c ct cs r (nI od) (nI z) sg (nI ln) tr (nI lf) (nI rg) (bI bd) wi ol orr sf (nI rl) nb)) (st' := [.int (sI (amA c (nI 2)) 8)]) rfl rfl ?_
    refine g_top (y := (coV c z ln w)) (by rw [coV, if_neg t1_0, if_pos t1_1]) ?_
    exact g_iret C hr hQ dX5_count_72 rfl ⟨_, _, _, _, _, rfl, rfl, hrl⟩
  by_cases t1_2 : w = nI 2
  · refine g_top (y := nI 2) t1_2 ?_
    refine g_tabIn (pc := 1) C 73 dX5_count_1 (by decide) (by decide) rfl (by decide) ?_
    refine g_aload_n (pc := 73) C dX5_count_73 0 rfl rfl ?_
    refine g_get (pc := 74) (ci := 5) (T := TX5) (N := 8) (v := .ref n0) C in_X5_count_X5 0 rfl rfl 0 (by decide) fl_X5_count_12 rfl rfl dX5_count_74 ?_
    refine g_iconst (pc := 77) (v := nI 3) C dX5_count_77 (by decide) ?_
    refine g_callV (pc := 78) (st := []) (As := [.int (nI 3)]) (nn := 1) (ci := 0) (q0 := 0) C (m_X0_amountOfAll l D cI cC n0 n1 c (nI 3) (by first | assumption | omega)) gX5_count_X0_amountOfAll rfl rfl rfl yd_X0_amountOfAll ⟨Nat.le_of_ble_eq_true rfl, Nat.le_of_ble_eq_true rfl⟩ rfl [1, 2] rfl rfl rfl rfl rfl (Nat.le_of_ble_eq_true rfl) ⟨Nat.le_of_ble_eq_true rfl, Nat.le_of_ble_eq_true rfl⟩ dX5_count_78 ?_
    rintro _ _ ⟨rfl, rfl⟩
    refine g_eq (ws' := (xW cI cC x0 n0 n1 t0 t1 s0 s1 g0 g1 w0 w1 w2 m0 m1 m2 m3 m4 p0 p1 (bI hs) c ct cs r (nI od) (nI z) sg (nI ln) tr (nI lf) (nI rg) (bI bd) wi ol orr sf (nI rl) nb)) (st' := [.int (sI (amA c (nI 3)) 8)]) rfl rfl ?_
    refine g_top (y := (coV c z ln w)) (by rw [coV, if_neg t1_0, if_neg t1_1, if_pos t1_2]) ?_
    exact g_iret C hr hQ dX5_count_81 rfl ⟨_, _, _, _, _, rfl, rfl, hrl⟩
  by_cases t1_3 : w = nI 3
  · refine g_top (y := nI 3) t1_3 ?_
    refine g_tabIn (pc := 1) C 82 dX5_count_1 (by decide) (by decide) rfl (by decide) ?_
    refine g_aload_n (pc := 82) C dX5_count_82 0 rfl rfl ?_
    refine g_get (pc := 83) (ci := 5) (T := TX5) (N := 8) (v := .ref n0) C in_X5_count_X5 0 rfl rfl 0 (by decide) fl_X5_count_12 rfl rfl dX5_count_83 ?_
    refine g_callV (pc := 86) (st := []) (As := []) (nn := 0) (ci := 0) (q0 := 0) C (m_X0_linkedPairsOfGates l D cI cC n0 n1 c (by first | assumption | omega)) gX5_count_X0_linkedPairsOfGates rfl rfl rfl yd_X0_linkedPairsOfGates ⟨Nat.le_of_ble_eq_true rfl, Nat.le_of_ble_eq_true rfl⟩ rfl [1, 2] rfl rfl rfl rfl rfl (Nat.le_of_ble_eq_true rfl) ⟨Nat.le_of_ble_eq_true rfl, Nat.le_of_ble_eq_true rfl⟩ dX5_count_86 ?_
    rintro _ _ ⟨rfl, rfl⟩
    refine g_eq (ws' := (xW cI cC x0 n0 n1 t0 t1 s0 s1 g0 g1 w0 w1 w2 m0 m1 m2 m3 m4 p0 p1 (bI hs) c ct cs r (nI od) (nI z) sg (nI ln) tr (nI lf) (nI rg) (bI bd) wi ol orr sf (nI rl) nb)) (st' := [.int (nI (bcN (cN c 152)))]) rfl rfl ?_
    refine g_top (y := (coV c z ln w)) (by rw [coV, if_neg t1_0, if_neg t1_1, if_neg t1_2, if_pos t1_3]) ?_
    exact g_iret C hr hQ dX5_count_89 rfl ⟨_, _, _, _, _, rfl, rfl, hrl⟩
  by_cases t1_4 : w = nI 4
  · refine g_top (y := nI 4) t1_4 ?_
    refine g_tabIn (pc := 1) C 90 dX5_count_1 (by decide) (by decide) rfl (by decide) ?_
    refine g_aload_n (pc := 90) C dX5_count_90 0 rfl rfl ?_
    refine g_get (pc := 91) (ci := 5) (T := TX5) (N := 8) (v := .ref n0) C in_X5_count_X5 0 rfl rfl 0 (by decide) fl_X5_count_12 rfl rfl dX5_count_91 ?_
    refine g_callV (pc := 94) (st := []) (As := []) (nn := 0) (ci := 0) (q0 := 0) C (m_X0_roundsSoFar l D cI cC n0 n1 c) gX5_count_X0_roundsSoFar rfl rfl rfl yd_X0_roundsSoFar ⟨Nat.le_of_ble_eq_true rfl, Nat.le_of_ble_eq_true rfl⟩ rfl [1, 2] rfl rfl rfl rfl rfl (Nat.le_of_ble_eq_true rfl) ⟨Nat.le_of_ble_eq_true rfl, Nat.le_of_ble_eq_true rfl⟩ dX5_count_94 ?_
    rintro _ _ ⟨rfl, rfl⟩
    refine g_eq (ws' := (xW cI cC x0 n0 n1 t0 t1 s0 s1 g0 g1 w0 w1 w2 m0 m1 m2 m3 m4 p0 p1 (bI hs) c ct cs r (nI od) (nI z) sg (nI ln) tr (nI lf) (nI rg) (bI bd) wi ol orr sf (nI rl) nb)) (st' := [.int (c 153)]) rfl rfl ?_
    refine g_top (y := (coV c z ln w)) (by rw [coV, if_neg t1_0, if_neg t1_1, if_neg t1_2, if_neg t1_3, if_pos t1_4]) ?_
    exact g_iret C hr hQ dX5_count_97 rfl ⟨_, _, _, _, _, rfl, rfl, hrl⟩
  by_cases t1_5 : w = nI 5
  · refine g_top (y := nI 5) t1_5 ?_
    refine g_tabIn (pc := 1) C 98 dX5_count_1 (by decide) (by decide) rfl (by decide) ?_
    refine g_aload_n (pc := 98) C dX5_count_98 0 rfl rfl ?_
    refine g_get (pc := 99) (ci := 5) (T := TX5) (N := 8) (v := .ref n0) C in_X5_count_X5 0 rfl rfl 0 (by decide) fl_X5_count_12 rfl rfl dX5_count_99 ?_
    refine g_iconst (pc := 102) (v := nI 4) C dX5_count_102 (by decide) ?_
    refine g_callV (pc := 103) (st := []) (As := [.int (nI 4)]) (nn := 1) (ci := 0) (q0 := 0) C (m_X0_amountOfAll l D cI cC n0 n1 c (nI 4) (by first | assumption | omega)) gX5_count_X0_amountOfAll rfl rfl rfl yd_X0_amountOfAll ⟨Nat.le_of_ble_eq_true rfl, Nat.le_of_ble_eq_true rfl⟩ rfl [1, 2] rfl rfl rfl rfl rfl (Nat.le_of_ble_eq_true rfl) ⟨Nat.le_of_ble_eq_true rfl, Nat.le_of_ble_eq_true rfl⟩ dX5_count_103 ?_
    rintro _ _ ⟨rfl, rfl⟩
    refine g_eq (ws' := (xW cI cC x0 n0 n1 t0 t1 s0 s1 g0 g1 w0 w1 w2 m0 m1 m2 m3 m4 p0 p1 (bI hs) c ct cs r (nI od) (nI z) sg (nI ln) tr (nI lf) (nI rg) (bI bd) wi ol orr sf (nI rl) nb)) (st' := [.int (sI (amA c (nI 4)) 8)]) rfl rfl ?_
    refine g_top (y := (coV c z ln w)) (by rw [coV, if_neg t1_0, if_neg t1_1, if_neg t1_2, if_neg t1_3, if_neg t1_4, if_pos t1_5]) ?_
    exact g_iret C hr hQ dX5_count_106 rfl ⟨_, _, _, _, _, rfl, rfl, hrl⟩
  by_cases t1_6 : w = nI 6
  · refine g_top (y := nI 6) t1_6 ?_
    refine g_tabIn (pc := 1) C 107 dX5_count_1 (by decide) (by decide) rfl (by decide) ?_
    refine g_aload_n (pc := 107) C dX5_count_107 0 rfl rfl ?_
    refine g_aload_n (pc := 108) C dX5_count_108 0 rfl rfl ?_
    refine g_get (pc := 109) (ci := 5) (T := TX5) (N := 8) (v := .ref n0) C in_X5_count_X5 0 rfl rfl 0 (by decide) fl_X5_count_12 rfl rfl dX5_count_109 ?_
    refine g_callV (pc := 112) (st := []) (As := [.ref n0]) (nn := 1) (ci := 5) (q0 := 0) C (m_X5_greatestSize l D cI cC x0 n0 t0 s0 g0 w0 m0 m1 m2 m3 m4 p0 n0 n1 wi ol orr sf c hs rl (by first | assumption | omega) (by first | assumption | omega)) gX5_count_X5_greatestSize rfl rfl rfl yd_X5_greatestSize ⟨Nat.le_of_ble_eq_true rfl, Nat.le_of_ble_eq_true rfl⟩ rfl [0, 12, 13, 14, 15, 16, 1, 2] rfl rfl rfl rfl rfl (Nat.le_of_ble_eq_true rfl) ⟨Nat.le_of_ble_eq_true rfl, Nat.le_of_ble_eq_true rfl⟩ dX5_count_112 ?_
    rintro _ _ ⟨wi2a, ol2a, orr2a, sf2a, rl2a, rfl, rfl, h9⟩
    refine g_eq (ws' := (xW cI cC x0 n0 n1 t0 t1 s0 s1 g0 g1 w0 w1 w2 m0 m1 m2 m3 m4 p0 p1 (bI hs) c ct cs r (nI od) (nI z) sg (nI ln) tr (nI lf) (nI rg) (bI bd) wi2a ol2a orr2a sf2a (nI rl2a) nb)) (st' := [.int (nI (szC c))]) rfl rfl ?_
    refine g_top (y := (coV c z ln w)) (by rw [coV, if_neg t1_0, if_neg t1_1, if_neg t1_2, if_neg t1_3, if_neg t1_4, if_neg t1_5, if_pos t1_6]) ?_
    exact g_iret C hr hQ dX5_count_115 rfl ⟨_, _, _, _, _, rfl, rfl, h9⟩
  by_cases t1_7 : w = nI 7
  · refine g_top (y := nI 7) t1_7 ?_
    refine g_tabIn (pc := 1) C 116 dX5_count_1 (by decide) (by decide) rfl (by decide) ?_
    refine g_aload_n (pc := 116) C dX5_count_116 0 rfl rfl ?_
    refine g_callV (pc := 117) (st := []) (As := []) (nn := 0) (ci := 5) (q0 := 0) C (m_X5_mostPossibleOfAPerson l D cI cC x0 n0 n1 t0 t1 s0 s1 g0 g1 w0 w1 w2 m0 m1 m2 m3 m4 p0 p1 c ct cs r sg tr wi ol orr sf nb hs od z ln lf rg bd rl (by first | assumption | omega)) gX5_count_X5_mostPossibleOfAPerson rfl rfl rfl yd_X5_mostPossibleOfAPerson ⟨Nat.le_of_ble_eq_true rfl, Nat.le_of_ble_eq_true rfl⟩ rfl [0, 1, 2, 3, 4, 5, 6, 7, 8, 9, 10, 11, 12, 13, 14, 15, 16, 17, 18] rfl rfl rfl rfl rfl (Nat.le_of_ble_eq_true rfl) ⟨Nat.le_of_ble_eq_true rfl, Nat.le_of_ble_eq_true rfl⟩ dX5_count_117 ?_
    rintro _ _ ⟨rfl, rfl⟩
    refine g_eq (ws' := (xW cI cC x0 n0 n1 t0 t1 s0 s1 g0 g1 w0 w1 w2 m0 m1 m2 m3 m4 p0 p1 (bI hs) c ct cs r (nI od) (nI z) sg (nI ln) tr (nI lf) (nI rg) (bI bd) wi ol orr sf (nI rl) nb)) (st' := [.int (nI (mxF c 8))]) rfl rfl ?_
    refine g_top (y := (coV c z ln w)) (by rw [coV, if_neg t1_0, if_neg t1_1, if_neg t1_2, if_neg t1_3, if_neg t1_4, if_neg t1_5, if_neg t1_6, if_pos t1_7]) ?_
    exact g_iret C hr hQ dX5_count_120 rfl ⟨_, _, _, _, _, rfl, rfl, hrl⟩
  by_cases t1_8 : w = nI 8
  · refine g_top (y := nI 8) t1_8 ?_
    refine g_tabIn (pc := 1) C 121 dX5_count_1 (by decide) (by decide) rfl (by decide) ?_
    refine g_aload_n (pc := 121) C dX5_count_121 0 rfl rfl ?_
    refine g_get (pc := 122) (ci := 5) (T := TX5) (N := 8) (v := .ref g0) C in_X5_count_X5 0 rfl rfl 4 (by decide) fl_X5_count_25 rfl rfl dX5_count_122 ?_
    refine g_callV (pc := 125) (st := []) (As := []) (nn := 0) (ci := 1) (q0 := 0) C (m_X1_size l D cI cC g0 g1 r od z) gX5_count_X1_size rfl rfl rfl yd_X1_size ⟨Nat.le_of_ble_eq_true rfl, Nat.le_of_ble_eq_true rfl⟩ rfl [7, 8] rfl rfl rfl rfl rfl (Nat.le_of_ble_eq_true rfl) ⟨Nat.le_of_ble_eq_true rfl, Nat.le_of_ble_eq_true rfl⟩ dX5_count_125 ?_
    rintro _ _ ⟨rfl, rfl⟩
    refine g_eq (ws' := (xW cI cC x0 n0 n1 t0 t1 s0 s1 g0 g1 w0 w1 w2 m0 m1 m2 m3 m4 p0 p1 (bI hs) c ct cs r (nI od) (nI z) sg (nI ln) tr (nI lf) (nI rg) (bI bd) wi ol orr sf (nI rl) nb)) (st' := [.int (nI z)]) rfl rfl ?_
    refine g_top (y := (coV c z ln w)) (by rw [coV, if_neg t1_0, if_neg t1_1, if_neg t1_2, if_neg t1_3, if_neg t1_4, if_neg t1_5, if_neg t1_6, if_neg t1_7, if_pos t1_8]) ?_
    exact g_iret C hr hQ dX5_count_128 rfl ⟨_, _, _, _, _, rfl, rfl, hrl⟩
  by_cases t1_9 : w = nI 9
  · refine g_top (y := nI 9) t1_9 ?_
    refine g_tabIn (pc := 1) C 129 dX5_count_1 (by decide) (by decide) rfl (by decide) ?_
    refine g_aload_n (pc := 129) C dX5_count_129 0 rfl rfl ?_
    refine g_get (pc := 130) (ci := 5) (T := TX5) (N := 8) (v := .ref w0) C in_X5_count_X5 0 rfl rfl 5 (by decide) fl_X5_count_32 rfl rfl dX5_count_130 ?_
    refine g_callV (pc := 133) (st := []) (As := []) (nn := 0) (ci := 4) (q0 := 0) C (m_X4_length l D cI cC w0 w1 w2 sg tr ln lf rg bd) gX5_count_X4_length rfl rfl rfl yd_X4_length ⟨Nat.le_of_ble_eq_true rfl, Nat.le_of_ble_eq_true rfl⟩ rfl [9, 10, 11] rfl rfl rfl rfl rfl (Nat.le_of_ble_eq_true rfl) ⟨Nat.le_of_ble_eq_true rfl, Nat.le_of_ble_eq_true rfl⟩ dX5_count_133 ?_
    rintro _ _ ⟨rfl, rfl⟩
    refine g_eq (ws' := (xW cI cC x0 n0 n1 t0 t1 s0 s1 g0 g1 w0 w1 w2 m0 m1 m2 m3 m4 p0 p1 (bI hs) c ct cs r (nI od) (nI z) sg (nI ln) tr (nI lf) (nI rg) (bI bd) wi ol orr sf (nI rl) nb)) (st' := [.int (nI ln)]) rfl rfl ?_
    refine g_top (y := (coV c z ln w)) (by rw [coV, if_neg t1_0, if_neg t1_1, if_neg t1_2, if_neg t1_3, if_neg t1_4, if_neg t1_5, if_neg t1_6, if_neg t1_7, if_neg t1_8, if_pos t1_9]) ?_
    exact g_iret C hr hQ dX5_count_136 rfl ⟨_, _, _, _, _, rfl, rfl, hrl⟩
  refine g_tabOut (pc := 1) C 137 dX5_count_1 (g_out 0 9 (by decide) (by intro k h1 h2; rcases (show k = 0 ∨ k = 1 ∨ k = 2 ∨ k = 3 ∨ k = 4 ∨ k = 5 ∨ k = 6 ∨ k = 7 ∨ k = 8 ∨ k = 9 by omega) with rfl | rfl | rfl | rfl | rfl | rfl | rfl | rfl | rfl | rfl <;> assumption)) (by decide) ?_
  refine g_bipush (pc := 137) (v := (-2)) C dX5_count_137 (by decide) ?_
  refine g_top (y := (coV c z ln w)) (by rw [coV, if_neg t1_0, if_neg t1_1, if_neg t1_2, if_neg t1_3, if_neg t1_4, if_neg t1_5, if_neg t1_6, if_neg t1_7, if_neg t1_8, if_neg t1_9]) ?_
  exact g_iret C hr hQ dX5_count_139 rfl ⟨_, _, _, _, _, rfl, rfl, hrl⟩

abbrev rm_X5_doneIn : Room := { frames := 6, cells := 0, slots := 0, locals := 149 }
theorem yd_X5_doneIn : yX5_doneIn.cls = RX5 ∧ yX5_doneIn.cls ≠ "java/lang/invoke/MethodHandle" ∧ yX5_doneIn.cls ≠ "java/lang/invoke/VarHandle" ∧ (parseMethodDescriptor yX5_doneIn.desc).map (fun d => d.parameters.length) = some 0 := by decide +kernel
theorem in_X5_doneIn_X5 : ∀ w ∈ u_ws RX5 TX5 8, w ∈ wsX5_doneIn := by decide +kernel
theorem fl_X5_doneIn_12 : Cond.fieldLink RX5 12 "FenceHandshakes" "now" "LFenceHandshakes$Clans;" ∈ wsX5_doneIn := by decide +kernel
theorem fl_X5_doneIn_16 : Cond.fieldLink RX5 16 "FenceHandshakes" "trial" "LFenceHandshakes$Clans;" ∈ wsX5_doneIn := by decide +kernel
set_option maxHeartbeats 4000000 in
set_option maxRecDepth 100000 in
theorem m_X5_doneIn (l : Launch) (D : va_G) (cI cC : ClassId) (x0 n0 n1 t0 t1 s0 s1 g0 g1 w0 w1 w2 m0 m1 m2 m3 m4 p0 p1 : Nat) (c : Nat → Int32) (ct : Nat → Int32) (cs : Nat → Int32) (r : Nat → Int32) (sg : Nat → Int32) (tr : Nat → Int32) (wi : Nat → Int32) (ol : Nat → Int32) (orr : Nat → Int32) (sf : Nat → Int32) (nb : Nat → Int32) (hs : Bool) (od : Nat) (z : Nat) (ln : Nat) (lf : Nat) (rg : Nat) (bd : Bool) (rl : Nat) (hc : cOK c) (hrl : rl < 256) : g_M l yX5_doneIn wsX5_doneIn rm_X5_doneIn D cI cC [.ref x0] (xW cI cC x0 n0 n1 t0 t1 s0 s1 g0 g1 w0 w1 w2 m0 m1 m2 m3 m4 p0 p1 (bI hs) c ct cs r (nI od) (nI z) sg (nI ln) tr (nI lf) (nI rg) (bI bd) wi ol orr sf (nI rl) nb) (fun vv ww => ∃ (ct2 : Nat → Int32) (v : Int32) (wi2 : Nat → Int32) (ol2 : Nat → Int32) (orr2 : Nat → Int32) (sf2 : Nat → Int32) (rl2 : Nat), vv = some (.int v) ∧ ww = (xW cI cC x0 n0 n1 t0 t1 s0 s1 g0 g1 w0 w1 w2 m0 m1 m2 m3 m4 p0 p1 (bI hs) c ct2 cs r (nI od) (nI z) sg (nI ln) tr (nI lf) (nI rg) (bI bd) wi2 ol2 orr2 sf2 (nI rl2) nb) ∧ rl2 < 256 ∧ (unl c → v = -5) ∧ (¬ unl c → v = dnW (va_cpy c ct 0 0 154))) := by
  refine g_entry (lv := [(0, .ref x0)]) (own := RX5) (by decide) rfl rfl (Nat.le_of_ble_eq_true rfl) rfl ?_
  intro p e s m args below meth co A Q C hr hQ
  refine g_aload_n (pc := 0) C dX5_doneIn_0 0 rfl rfl ?_
  refine g_get (pc := 1) (ci := 5) (T := TX5) (N := 8) (v := .ref n0) C in_X5_doneIn_X5 0 rfl rfl 0 (by decide) fl_X5_doneIn_12 rfl rfl dX5_doneIn_1 ?_
  refine g_callV (pc := 4) (st := []) (As := []) (nn := 0) (ci := 0) (q0 := 0) C (m_X0_hasWishOverUnlinkedGates l D cI cC n0 n1 c (by first | assumption | omega)) gX5_doneIn_X0_hasWishOverUnlinkedGates rfl rfl rfl yd_X0_hasWishOverUnlinkedGates ⟨Nat.le_of_ble_eq_true rfl, Nat.le_of_ble_eq_true rfl⟩ rfl [1, 2] rfl rfl rfl rfl rfl (Nat.le_of_ble_eq_true rfl) ⟨Nat.le_of_ble_eq_true rfl, Nat.le_of_ble_eq_true rfl⟩ dX5_doneIn_4 ?_
  rintro _ _ ⟨qq, rfl, rfl, f1⟩
  refine g_eq (ws' := (xW cI cC x0 n0 n1 t0 t1 s0 s1 g0 g1 w0 w1 w2 m0 m1 m2 m3 m4 p0 p1 (bI hs) c ct cs r (nI od) (nI z) sg (nI ln) tr (nI lf) (nI rg) (bI bd) wi ol orr sf (nI rl) nb)) (st' := [.int (bI qq)]) rfl rfl ?_
  refine g_if_eqB (pc := 7) C 13 dX5_doneIn_7 (by decide) (fun c7 => ?_) (fun c7 => ?_)
  · refine g_aload_n (pc := 13) C dX5_doneIn_13 0 rfl rfl ?_
    refine g_get (pc := 14) (ci := 5) (T := TX5) (N := 8) (v := .ref t0) C in_X5_doneIn_X5 0 rfl rfl 1 (by decide) fl_X5_doneIn_16 rfl rfl dX5_doneIn_14 ?_
    refine g_aload_n (pc := 17) C dX5_doneIn_17 0 rfl rfl ?_
    refine g_get (pc := 18) (ci := 5) (T := TX5) (N := 8) (v := .ref n0) C in_X5_doneIn_X5 0 rfl rfl 0 (by decide) fl_X5_doneIn_12 rfl rfl dX5_doneIn_18 ?_
    refine g_callV (pc := 21) (st := []) (As := [.ref n0]) (nn := 1) (ci := 0) (q0 := 0) C (m_X0_copyFrom l D cI cC t0 t1 n0 n1 ct c) gX5_doneIn_X0_copyFrom rfl rfl rfl yd_X0_copyFrom ⟨Nat.le_of_ble_eq_true rfl, Nat.le_of_ble_eq_true rfl⟩ rfl [3, 4, 1, 2] rfl rfl rfl rfl rfl (Nat.le_of_ble_eq_true rfl) ⟨Nat.le_of_ble_eq_true rfl, Nat.le_of_ble_eq_true rfl⟩ dX5_doneIn_21 ?_
    rintro _ _ ⟨rfl, rfl⟩
    refine g_eq (ws' := (xW cI cC x0 n0 n1 t0 t1 s0 s1 g0 g1 w0 w1 w2 m0 m1 m2 m3 m4 p0 p1 (bI hs) c (va_cpy c ct 0 0 154) cs r (nI od) (nI z) sg (nI ln) tr (nI lf) (nI rg) (bI bd) wi ol orr sf (nI rl) nb)) (st' := []) rfl rfl ?_
    have hct : cOK (va_cpy c ct 0 0 154) := cOK_cpy hc
    have hnu : ¬ unl c := fun h => by rw [f1.mpr h] at c7; cases c7
    refine g_iconst (pc := 24) (v := nI 0) C dX5_doneIn_24 (by decide) ?_
    refine g_istore_n (pc := 25) (lv' := [(1, .int (nI 0)), (0, .ref x0)]) C dX5_doneIn_25 rfl (by decide) rfl ?_
    have L26 : ∀ (NZ : Nat) (k : Nat) (wi1 : Nat → Int32) (ol1 : Nat → Int32) (orr1 : Nat → Int32) (sf1 : Nat → Int32) (rl1 : Nat), 202 - k < NZ → (k ≤ 201) → (rl1 < 256) → (∀ j, j < k → nwC (rnds (va_cpy c ct 0 0 154) j) 8 ≠ 0) → g_J p l e rm_X5_doneIn s m args below meth co Q D A 2 0 0 (xW cI cC x0 n0 n1 t0 t1 s0 s1 g0 g1 w0 w1 w2 m0 m1 m2 m3 m4 p0 p1 (bI hs) c (rnds (va_cpy c ct 0 0 154) k) cs r (nI od) (nI z) sg (nI ln) tr (nI lf) (nI rg) (bI bd) wi1 ol1 orr1 sf1 (nI rl1) nb) 26 [(0, .ref x0), (1, .int (nI k))] [] := by
      intro NZ
      induction NZ with
      | zero => intro k wi1 ol1 orr1 sf1 rl1 hN; exact absurd hN (Nat.not_lt_zero _)
      | succ NZ ih26 =>
        intro k wi1 ol1 orr1 sf1 rl1 hN26 hk hrl1 hj
        refine g_iload_n (pc := 26) C dX5_doneIn_26 1 rfl rfl ?_
        refine g_sipush (pc := 27) (v := nI 200) C dX5_doneIn_27 (by decide) ?_
        refine g_icmp_gtN (pc := 30) C 60 (by omega) (by omega) dX5_doneIn_30 (by decide) (fun c30 => ?_) (fun c30 => ?_)
        · refine g_bipush (pc := 60) (v := (-5)) C dX5_doneIn_60 (by decide) ?_
          exact g_iret C hr hQ dX5_doneIn_62 rfl ⟨_, -5, _, _, _, _, _, rfl, rfl, hrl1, fun _ => rfl, fun _ => (dnW_no hj (by omega)).symm⟩
        · refine g_aload_n (pc := 33) C dX5_doneIn_33 0 rfl rfl ?_
          refine g_get (pc := 34) (ci := 5) (T := TX5) (N := 8) (v := .ref t0) C in_X5_doneIn_X5 0 rfl rfl 1 (by decide) fl_X5_doneIn_16 rfl rfl dX5_doneIn_34 ?_
          refine g_callV (pc := 37) (st := []) (As := []) (nn := 0) (ci := 0) (q0 := 0) C (m_X0_numberOfWishes l D cI cC t0 t1 (rnds (va_cpy c ct 0 0 154) k) (rnds_ok hct k)) gX5_doneIn_X0_numberOfWishes rfl rfl rfl yd_X0_numberOfWishes ⟨Nat.le_of_ble_eq_true rfl, Nat.le_of_ble_eq_true rfl⟩ rfl [3, 4] rfl rfl rfl rfl rfl (Nat.le_of_ble_eq_true rfl) ⟨Nat.le_of_ble_eq_true rfl, Nat.le_of_ble_eq_true rfl⟩ dX5_doneIn_37 ?_
          rintro _ _ ⟨rfl, rfl⟩
          refine g_eq (ws' := (xW cI cC x0 n0 n1 t0 t1 s0 s1 g0 g1 w0 w1 w2 m0 m1 m2 m3 m4 p0 p1 (bI hs) c (rnds (va_cpy c ct 0 0 154) k) cs r (nI od) (nI z) sg (nI ln) tr (nI lf) (nI rg) (bI bd) wi1 ol1 orr1 sf1 (nI rl1) nb)) (st' := [.int (nI (nwC (rnds (va_cpy c ct 0 0 154) k) 8))]) rfl rfl ?_
          refine g_if_neN (pc := 40) C 45 (Nat.lt_of_le_of_lt (nwC_le _ 8) (by decide)) dX5_doneIn_40 (by decide) (fun c40 => ?_) (fun c40 => ?_)
          · refine g_aload_n (pc := 45) C dX5_doneIn_45 0 rfl rfl ?_
            refine g_aload_n (pc := 46) C dX5_doneIn_46 0 rfl rfl ?_
            refine g_get (pc := 47) (ci := 5) (T := TX5) (N := 8) (v := .ref t0) C in_X5_doneIn_X5 0 rfl rfl 1 (by decide) fl_X5_doneIn_16 rfl rfl dX5_doneIn_47 ?_
            refine g_callV (pc := 50) (st := []) (As := [.ref t0]) (nn := 1) (ci := 5) (q0 := 0) C (m_X5_makeRound l D cI cC x0 n0 t0 s0 g0 w0 m0 m1 m2 m3 m4 p0 t0 t1 wi1 ol1 orr1 sf1 (rnds (va_cpy c ct 0 0 154) k) hs rl1 (rnds_ok hct k) (hrl1)) gX5_doneIn_X5_makeRound rfl rfl rfl yd_X5_makeRound ⟨Nat.le_of_ble_eq_true rfl, Nat.le_of_ble_eq_true rfl⟩ rfl [0, 12, 13, 14, 15, 16, 3, 4] rfl rfl rfl rfl rfl (Nat.le_of_ble_eq_true rfl) ⟨Nat.le_of_ble_eq_true rfl, Nat.le_of_ble_eq_true rfl⟩ dX5_doneIn_50 ?_
            rintro _ _ ⟨wi3, ol3, orr3, sf3, rl3, rfl, rfl, h9⟩
            refine g_eq (ws' := (xW cI cC x0 n0 n1 t0 t1 s0 s1 g0 g1 w0 w1 w2 m0 m1 m2 m3 m4 p0 p1 (bI hs) c (rnd (rnds (va_cpy c ct 0 0 154) k)) cs r (nI od) (nI z) sg (nI ln) tr (nI lf) (nI rg) (bI bd) wi3 ol3 orr3 sf3 (nI rl3) nb)) (st' := [.int (rnV (rnds (va_cpy c ct 0 0 154) k))]) rfl rfl ?_
            refine g_pop (pc := 53) C dX5_doneIn_53 rfl ?_
            refine g_iinc (pc := 54) (lv' := [(1, .int (nI (k + 1))), (0, .ref x0)]) C dX5_doneIn_54 1 rfl (nI_add k 1) (by decide) rfl ?_
            refine g_goto (pc := 57) C 26 dX5_doneIn_57 (by decide) ?_
            refine g_ws (ws' := (xW cI cC x0 n0 n1 t0 t1 s0 s1 g0 g1 w0 w1 w2 m0 m1 m2 m3 m4 p0 p1 (bI hs) c (rnds (va_cpy c ct 0 0 154) (k + 1)) cs r (nI od) (nI z) sg (nI ln) tr (nI lf) (nI rg) (bI bd) wi3 ol3 orr3 sf3 (nI rl3) nb)) (rfl) ?_
            refine g_lvp (lv' := [(0, .ref x0), (1, .int (nI (k + 1)))]) [1, 0] rfl ?_
            exact ih26 (k + 1) wi3 ol3 orr3 sf3 rl3 (by omega) (by first | assumption | omega) (by first | assumption | omega) (fun j h => (Nat.lt_succ_iff_lt_or_eq.mp h).elim (hj j) (fun e => by subst e; exact c40))
          · refine g_iload_n (pc := 43) C dX5_doneIn_43 1 rfl rfl ?_
            refine g_top (y := (nI k)) (rfl) ?_
            exact g_iret C hr hQ dX5_doneIn_44 rfl ⟨_, nI k, _, _, _, _, _, rfl, rfl, hrl1, fun h => absurd h hnu, fun _ => (dnW_at hj c40 (by omega)).symm⟩
    refine g_lvp (lv' := [(0, .ref x0), (1, .int (nI 0))]) [1, 0] rfl ?_
    exact L26 _ 0 wi ol orr sf rl (Nat.lt_succ_self _) (by first | assumption | omega) (by first | assumption | omega) (fun j h => absurd h (Nat.not_lt_zero _))
  · refine g_bipush (pc := 10) (v := (-5)) C dX5_doneIn_10 (by decide) ?_
    exact g_iret C hr hQ dX5_doneIn_12 rfl ⟨ct, -5, _, _, _, _, _, rfl, rfl, hrl, fun _ => rfl, fun h => absurd (f1.mp c7) h⟩

abbrev rm_X5_mean : Room := { frames := 6, cells := 0, slots := 0, locals := 138 }
theorem yd_X5_mean : yX5_mean.cls = RX5 ∧ yX5_mean.cls ≠ "java/lang/invoke/MethodHandle" ∧ yX5_mean.cls ≠ "java/lang/invoke/VarHandle" ∧ (parseMethodDescriptor yX5_mean.desc).map (fun d => d.parameters.length) = some 0 := by decide +kernel
theorem in_X5_mean_X5 : ∀ w ∈ u_ws RX5 TX5 8, w ∈ wsX5_mean := by decide +kernel
theorem fl_X5_mean_12 : Cond.fieldLink RX5 12 "FenceHandshakes" "now" "LFenceHandshakes$Clans;" ∈ wsX5_mean := by decide +kernel
set_option maxHeartbeats 4000000 in
set_option maxRecDepth 100000 in
theorem m_X5_mean (l : Launch) (D : va_G) (cI cC : ClassId) (x0 n0 n1 t0 t1 s0 s1 g0 g1 w0 w1 w2 m0 m1 m2 m3 m4 p0 p1 : Nat) (c : Nat → Int32) (ct : Nat → Int32) (cs : Nat → Int32) (r : Nat → Int32) (sg : Nat → Int32) (tr : Nat → Int32) (wi : Nat → Int32) (ol : Nat → Int32) (orr : Nat → Int32) (sf : Nat → Int32) (nb : Nat → Int32) (hs : Bool) (od : Nat) (z : Nat) (ln : Nat) (lf : Nat) (rg : Nat) (bd : Bool) (rl : Nat) (hc : cOK c) : g_M l yX5_mean wsX5_mean rm_X5_mean D cI cC [.ref x0] (xW cI cC x0 n0 n1 t0 t1 s0 s1 g0 g1 w0 w1 w2 m0 m1 m2 m3 m4 p0 p1 (bI hs) c ct cs r (nI od) (nI z) sg (nI ln) tr (nI lf) (nI rg) (bI bd) wi ol orr sf (nI rl) nb) (fun vv ww => vv = some (.double ((meV c))) ∧ ww = (xW cI cC x0 n0 n1 t0 t1 s0 s1 g0 g1 w0 w1 w2 m0 m1 m2 m3 m4 p0 p1 (bI hs) c ct cs r (nI od) (nI z) sg (nI ln) tr (nI lf) (nI rg) (bI bd) wi ol orr sf (nI rl) nb)) := by
  refine g_entry (lv := [(0, .ref x0)]) (own := RX5) (by decide) rfl rfl (Nat.le_of_ble_eq_true rfl) rfl ?_
  intro p e s m args below meth co A Q C hr hQ
  refine g_aload_n (pc := 0) C dX5_mean_0 0 rfl rfl ?_
  refine g_get (pc := 1) (ci := 5) (T := TX5) (N := 8) (v := .ref n0) C in_X5_mean_X5 0 rfl rfl 0 (by decide) fl_X5_mean_12 rfl rfl dX5_mean_1 ?_
  refine g_callV (pc := 4) (st := []) (As := []) (nn := 0) (ci := 0) (q0 := 0) C (m_X0_roundsSoFar l D cI cC n0 n1 c) gX5_mean_X0_roundsSoFar rfl rfl rfl yd_X0_roundsSoFar ⟨Nat.le_of_ble_eq_true rfl, Nat.le_of_ble_eq_true rfl⟩ rfl [1, 2] rfl rfl rfl rfl rfl (Nat.le_of_ble_eq_true rfl) ⟨Nat.le_of_ble_eq_true rfl, Nat.le_of_ble_eq_true rfl⟩ dX5_mean_4 ?_
  rintro _ _ ⟨rfl, rfl⟩
  refine g_eq (ws' := (xW cI cC x0 n0 n1 t0 t1 s0 s1 g0 g1 w0 w1 w2 m0 m1 m2 m3 m4 p0 p1 (bI hs) c ct cs r (nI od) (nI z) sg (nI ln) tr (nI lf) (nI rg) (bI bd) wi ol orr sf (nI rl) nb)) (st' := [.int (c 153)]) rfl rfl ?_
  refine g_istore_n (pc := 7) (lv' := [(1, .int (c 153)), (0, .ref x0)]) C dX5_mean_7 rfl (by decide) rfl ?_
  refine g_iload_n (pc := 8) C dX5_mean_8 0 rfl rfl ?_
  refine g_if_ne (pc := 9) C 14 dX5_mean_9 (by decide) (fun c9 => ?_) (fun c9 => ?_)
  · refine g_aload_n (pc := 14) C dX5_mean_14 1 rfl rfl ?_
    refine g_get (pc := 15) (ci := 5) (T := TX5) (N := 8) (v := .ref n0) C in_X5_mean_X5 0 rfl rfl 0 (by decide) fl_X5_mean_12 rfl rfl dX5_mean_15 ?_
    refine g_iconst (pc := 18) (v := nI 4) C dX5_mean_18 (by decide) ?_
    refine g_callV (pc := 19) (st := []) (As := [.int (nI 4)]) (nn := 1) (ci := 0) (q0 := 0) C (m_X0_amountOfAll l D cI cC n0 n1 c (nI 4) (by first | assumption | omega)) gX5_mean_X0_amountOfAll rfl rfl rfl yd_X0_amountOfAll ⟨Nat.le_of_ble_eq_true rfl, Nat.le_of_ble_eq_true rfl⟩ rfl [1, 2] rfl rfl rfl rfl rfl (Nat.le_of_ble_eq_true rfl) ⟨Nat.le_of_ble_eq_true rfl, Nat.le_of_ble_eq_true rfl⟩ dX5_mean_19 ?_
    rintro _ _ ⟨rfl, rfl⟩
    refine g_eq (ws' := (xW cI cC x0 n0 n1 t0 t1 s0 s1 g0 g1 w0 w1 w2 m0 m1 m2 m3 m4 p0 p1 (bI hs) c ct cs r (nI od) (nI z) sg (nI ln) tr (nI lf) (nI rg) (bI bd) wi ol orr sf (nI rl) nb)) (st' := [.int (sI (amA c (nI 4)) 8)]) rfl rfl ?_
    refine g_i2d (pc := 22) C dX5_mean_22 ?_
    refine g_iload_n (pc := 23) C dX5_mean_23 0 rfl rfl ?_
    refine g_i2d (pc := 24) C dX5_mean_24 ?_
    refine g_ddiv (pc := 25) C dX5_mean_25 (g_mean c9) ?_
    refine g_topd (y := (meV c)) (by rw [meV, if_neg c9]) ?_
    exact g_dret C hr hQ dX5_mean_26 rfl ⟨rfl, rfl⟩
  · refine g_dconst0 (pc := 12) C dX5_mean_12 ?_
    refine g_topd (y := (meV c)) (by rw [meV, if_pos c9]) ?_
    exact g_dret C hr hQ dX5_mean_13 rfl ⟨rfl, rfl⟩
