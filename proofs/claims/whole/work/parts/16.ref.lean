/-! the reference's state over the class's cells -/
def SR (c ss : Nat → Int32) : Prop := cOK c ∧ (∀ k, k < 16 → ss (1 + k) = c k) ∧ (∀ a b, a < 4 → b < 4 → ss (17 + 4 * a + b) = bI (lkC c a b)) ∧ (∀ k, k < 64 → ss (33 + k) = c (24 + k)) ∧ (∀ a b, a < 8 → b < 8 → ss (97 + 8 * a + b) = bI (wiC c a b)) ∧ (∀ k, k < 64 → ss (161 + k) = c (88 + k)) ∧ ss 0 = c 153
theorem SR.ok {c ss : Nat → Int32} (h : SR c ss) : cOK c := h.1
theorem SR.g {c ss : Nat → Int32} (h : SR c ss) {k : Nat} (hk : k < 16) : ss (1 + k) = c k := h.2.1 k hk
theorem SR.gN {c ss : Nat → Int32} (h : SR c ss) {k : Nat} (hk : k < 16) : ss (1 + k) = nI (cN c k) := (h.2.1 k hk).trans (h.1.g hk)
theorem SR.l {c ss : Nat → Int32} (h : SR c ss) {a b : Nat} (ha : a < 4) (hb : b < 4) : ss (17 + 4 * a + b) = bI (lkC c a b) := h.2.2.1 a b ha hb
theorem SR.f {c ss : Nat → Int32} (h : SR c ss) {k : Nat} (hk : k < 64) : ss (33 + k) = c (24 + k) := h.2.2.2.1 k hk
theorem SR.w {c ss : Nat → Int32} (h : SR c ss) {a b : Nat} (ha : a < 8) (hb : b < 8) : ss (97 + 8 * a + b) = bI (wiC c a b) := h.2.2.2.2.1 a b ha hb
theorem SR.t {c ss : Nat → Int32} (h : SR c ss) {k : Nat} (hk : k < 64) : ss (161 + k) = c (88 + k) := h.2.2.2.2.2.1 k hk
theorem SR.r {c ss : Nat → Int32} (h : SR c ss) : ss 0 = c 153 := h.2.2.2.2.2.2
theorem SR.fe {c ss : Nat → Int32} (h : SR c ss) {a b : Nat} (ha : a < 8) (hb : b < 8) : ss (33 + 8 * a + b) = feC c a b := by
  rw [Nat.add_assoc, h.f (by omega), feC, Nat.add_assoc]
theorem SR.ta {c ss : Nat → Int32} (h : SR c ss) {a b : Nat} (ha : a < 8) (hb : b < 8) : ss (161 + 8 * a + b) = taC c a b := by
  rw [Nat.add_assoc, h.t (by omega), taC, Nat.add_assoc]
def wq (c : Nat → Int32) (k : Nat) : Bool := wiC c (k / 8) (k % 8)
theorem SR.wk {c ss : Nat → Int32} (h : SR c ss) {k : Nat} (hk : k < 64) : ss (97 + k) = bI (wq c k) := by
  have := h.w (a := k / 8) (b := k % 8) (by omega) (by omega)
  rw [show 97 + 8 * (k / 8) + k % 8 = 97 + k by omega] at this
  exact this
theorem SR.lk {c ss : Nat → Int32} (h : SR c ss) {k : Nat} (hk : k < 16) : ss (17 + k) = bI (lkC c (k / 4) (k % 4)) := by
  have := h.l (a := k / 4) (b := k % 4) (by omega) (by omega)
  rw [show 17 + 4 * (k / 4) + k % 4 = 17 + k by omega] at this
  exact this
theorem SR.same {c ss ss2 : Nat → Int32} (h : SR c ss) (e : ∀ k, k < 225 → ss2 k = ss k) : SR c ss2 :=
  ⟨h.1, fun k hk => by rw [e _ (by omega)]; exact h.g hk, fun a b ha hb => by rw [e _ (by omega)]; exact h.l ha hb, fun k hk => by rw [e _ (by omega)]; exact h.f hk, fun a b ha hb => by rw [e _ (by omega)]; exact h.w ha hb, fun k hk => by rw [e _ (by omega)]; exact h.t hk, by rw [e _ (by omega)]; exact h.r⟩
theorem wi_of {c c2 : Nat → Int32} {a b : Nat} (h : c2 (16 + a) = c (16 + a)) : wiC c2 a b = wiC c a b := by rw [wiC, wiC, cN, cN, h]
theorem lk_of {c c2 : Nat → Int32} {a b : Nat} (h : c2 152 = c 152) : lkC c2 a b = lkC c a b := by rw [lkC, lkC, cN, cN, h]
theorem SR.cells {c ss c2 : Nat → Int32} (h : SR c ss) (e : ∀ k, k < 154 → c2 k = c k) : SR c2 ss :=
  ⟨cOK_of h.1 (fun k hk => e k (by omega)) (e 152 (by omega)), fun k hk => by rw [e _ (by omega)]; exact h.g hk, fun a b ha hb => by rw [lk_of (e 152 (by omega))]; exact h.l ha hb, fun k hk => by rw [e _ (by omega)]; exact h.f hk, fun a b ha hb => by rw [wi_of (e _ (by omega))]; exact h.w ha hb, fun k hk => by rw [e _ (by omega)]; exact h.t hk, by rw [e _ (by omega)]; exact h.r⟩
/-- one mask changes in one place -/
theorem SR.mask {c ss : Nat → Int32} (h : SR c ss) {a b w : Nat} {q : Bool} (ha : a < 8) (hb : b < 8) (hw : w < 256) (hbit : ∀ j, j < 8 → w.testBit j = if j = b then q else wiC c a j) : SR (upd c (16 + a) (nI w)) (upd ss (97 + 8 * a + b) (bI q)) := by
  refine ⟨cOK_w h.ok ha hw, fun k hk => ?_, fun x y hx hy => ?_, fun k hk => ?_, fun x y hx hy => ?_, fun k hk => ?_, ?_⟩
  · rw [upd_ne (by omega), upd_ne (by omega)]; exact h.g hk
  · rw [upd_ne (by omega), lk_of (upd_ne (by omega))]; exact h.l hx hy
  · rw [upd_ne (by omega), upd_ne (by omega)]; exact h.f hk
  · by_cases e : x = a
    · subst e
      rw [wiC, cN_upd_eq (by omega), hbit y hy]
      by_cases e2 : y = b
      · subst e2
        rw [upd_eq, if_pos rfl]
      · rw [upd_ne (by omega), if_neg e2]; exact h.w hx hy
    · rw [upd_ne (by omega), wi_of (upd_ne (by omega))]; exact h.w hx hy
  · rw [upd_ne (by omega), upd_ne (by omega)]; exact h.t hk
  · rw [upd_ne (by omega), upd_ne (by omega)]; exact h.r
theorem SR.wish {c ss : Nat → Int32} (h : SR c ss) {a b : Nat} (ha : a < 8) (hb : b < 8) : SR (upd c (16 + a) (nI (cN c (16 + a) ||| (1 <<< b)))) (upd ss (97 + 8 * a + b) (nI 1)) := by
  refine h.mask (q := true) ha hb (or_lt (h.ok.w8 ha) (sh_lt hb)) (fun j hj => ?_)
  rw [Nat.testBit_or, bit_one]
  by_cases e : j = b
  · subst e; simp
  · rw [if_neg e, decide_eq_false (fun z => e z.symm), Bool.or_false]; rfl
theorem SR.close {c ss : Nat → Int32} (h : SR c ss) {a b : Nat} (ha : a < 8) (hb : b < 8) : SR (upd c (16 + a) (nI (g_nand (cN c (16 + a)) (1 <<< b)))) (upd ss (97 + 8 * a + b) (nI 0)) := by
  refine h.mask (q := false) ha hb (Nat.lt_of_le_of_lt Nat.and_le_left (h.ok.w8 ha)) (fun j hj => ?_)
  rw [g_nand_bit _ _ _ (by omega), bit_one]
  by_cases e : j = b
  · subst e; simp
  · rw [if_neg e, decide_eq_false (fun z => e z.symm), Bool.not_false, Bool.and_true]; rfl
theorem SR.feud {c ss : Nat → Int32} (h : SR c ss) {a b : Nat} (x : Int32) (ha : a < 8) (hb : b < 8) : SR (upd c (24 + 8 * a + b) x) (upd ss (33 + 8 * a + b) x) := by
  refine ⟨cOK_of h.ok (fun k hk => upd_ne (by omega)) (upd_ne (by omega)), fun k hk => ?_, fun x y hx hy => ?_, fun k hk => ?_, fun x y hx hy => ?_, fun k hk => ?_, ?_⟩
  · rw [upd_ne (by omega), upd_ne (by omega)]; exact h.g hk
  · rw [upd_ne (by omega), lk_of (upd_ne (by omega))]; exact h.l hx hy
  · by_cases e : k = 8 * a + b
    · subst e
      rw [← Nat.add_assoc, ← Nat.add_assoc, upd_eq, upd_eq]
    · rw [upd_ne (by omega), upd_ne (by omega)]; exact h.f hk
  · rw [upd_ne (by omega), wi_of (upd_ne (by omega))]; exact h.w hx hy
  · rw [upd_ne (by omega), upd_ne (by omega)]; exact h.t hk
  · rw [upd_ne (by omega), upd_ne (by omega)]; exact h.r
theorem SR.tally {c ss : Nat → Int32} (h : SR c ss) {a b : Nat} (x : Int32) (ha : a < 8) (hb : b < 8) : SR (upd c (88 + 8 * a + b) x) (upd ss (161 + 8 * a + b) x) := by
  refine ⟨cOK_of h.ok (fun k hk => upd_ne (by omega)) (upd_ne (by omega)), fun k hk => ?_, fun x y hx hy => ?_, fun k hk => ?_, fun x y hx hy => ?_, fun k hk => ?_, ?_⟩
  · rw [upd_ne (by omega), upd_ne (by omega)]; exact h.g hk
  · rw [upd_ne (by omega), lk_of (upd_ne (by omega))]; exact h.l hx hy
  · rw [upd_ne (by omega), upd_ne (by omega)]; exact h.f hk
  · rw [upd_ne (by omega), wi_of (upd_ne (by omega))]; exact h.w hx hy
  · by_cases e : k = 8 * a + b
    · subst e
      rw [← Nat.add_assoc, ← Nat.add_assoc, upd_eq, upd_eq]
    · rw [upd_ne (by omega), upd_ne (by omega)]; exact h.t hk
  · rw [upd_ne (by omega), upd_ne (by omega)]; exact h.r
theorem SR.gate {c ss : Nat → Int32} (h : SR c ss) {k0 g : Nat} (hk0 : k0 < 16) (hg : g < 4) : SR (upd c k0 (nI g)) (upd ss (1 + k0) (nI g)) := by
  refine ⟨cOK_gate h.ok hk0 hg, fun k hk => ?_, fun x y hx hy => ?_, fun k hk => ?_, fun x y hx hy => ?_, fun k hk => ?_, ?_⟩
  · by_cases e : k = k0
    · subst e; rw [upd_eq, upd_eq]
    · rw [upd_ne (by omega), upd_ne (by omega)]; exact h.g hk
  · rw [upd_ne (by omega), lk_of (upd_ne (by omega))]; exact h.l hx hy
  · rw [upd_ne (by omega), upd_ne (by omega)]; exact h.f hk
  · rw [upd_ne (by omega), wi_of (upd_ne (by omega))]; exact h.w hx hy
  · rw [upd_ne (by omega), upd_ne (by omega)]; exact h.t hk
  · rw [upd_ne (by omega), upd_ne (by omega)]; exact h.r
theorem lk_link {c : Nat → Int32} (h : cOK c) {a b x y : Nat} (ha : a < 4) (hb : b < 4) (hx : x < 4) (hy : y < 4) (q : Bool) : lkC (cLink c a b q) x y = if x = a ∧ y = b then q else lkC c x y := by
  have h16 := h.l16
  have hs : (1 : Nat) <<< (4 * a + b) < 2 ^ 16 := by
    rw [Nat.shiftLeft_eq, Nat.one_mul]; exact Nat.pow_lt_pow_right (by decide) (by omega)
  have hor : cN c 152 ||| 1 <<< (4 * a + b) < 2 ^ 16 := Nat.or_lt_two_pow h16 hs
  have hna : g_nand (cN c 152) (1 <<< (4 * a + b)) < 65536 := Nat.lt_of_le_of_lt Nat.and_le_left h16
  cases q with
  | true =>
    rw [lkC, cLink, if_pos rfl, cN_upd_eq (by omega), Nat.testBit_or, bit_one]
    by_cases e : x = a ∧ y = b
    · rw [if_pos e, e.1, e.2, decide_eq_true rfl, Bool.or_true]
    · rw [if_neg e, decide_eq_false (by omega), Bool.or_false]; rfl
  | false =>
    rw [lkC, cLink, if_neg (by decide), cN_upd_eq (by omega), g_nand_bit _ _ _ (by omega), bit_one]
    by_cases e : x = a ∧ y = b
    · rw [if_pos e, e.1, e.2, decide_eq_true rfl, Bool.not_true, Bool.and_false]
    · rw [if_neg e, decide_eq_false (by omega), Bool.not_false, Bool.and_true]; rfl
theorem SR.link {c ss : Nat → Int32} (h : SR c ss) {a b : Nat} (ha : a < 4) (hb : b < 4) (q : Bool) : SR (cLink c a b q) (upd ss (17 + 4 * a + b) (bI q)) := by
  have n : ∀ k, k ≠ 152 → cLink c a b q k = c k := fun k hk => upd_ne hk
  refine ⟨cOK_link h.ok ha hb q, fun k hk => ?_, fun x y hx hy => ?_, fun k hk => ?_, fun x y hx hy => ?_, fun k hk => ?_, ?_⟩
  · rw [upd_ne (by omega), n _ (by omega)]; exact h.g hk
  · rw [lk_link h.ok ha hb hx hy]
    by_cases e : x = a ∧ y = b
    · rw [if_pos e, e.1, e.2, upd_eq]
    · rw [if_neg e, upd_ne (by omega)]; exact h.l hx hy
  · rw [upd_ne (by omega), n _ (by omega)]; exact h.f hk
  · rw [upd_ne (by omega), wi_of (n _ (by omega))]; exact h.w hx hy
  · rw [upd_ne (by omega), n _ (by omega)]; exact h.t hk
  · rw [upd_ne (by omega), n _ (by omega)]; exact h.r
/-- bits are counted one by one -/
theorem bc_pop : ∀ w, w < 256 → bcN w = cnt (fun k => w.testBit k) 8 := by decide +kernel
theorem cnt_add (p : Nat → Bool) (m : Nat) : ∀ n, cnt p (m + n) = cnt p m + cnt (fun k => p (m + k)) n
  | 0 => rfl
  | n + 1 => by
    show cnt p (m + n) + (if p (m + n) then 1 else 0) = _
    rw [cnt_add p m n, Nat.add_assoc]
    rfl
theorem cnt_nw {c : Nat → Int32} (h : cOK c) : ∀ n, n ≤ 8 → cnt (wq c) (8 * n) = nwC c n
  | 0, _ => rfl
  | n + 1, hn => by
    rw [Nat.mul_succ, cnt_add, cnt_nw h n (by omega)]
    show nwC c n + _ = nwC c n + bcN (cN c (16 + n))
    rw [bc_pop _ (h.w8 (by omega))]
    refine congrArg _ (cnt_cong 8 (fun k hk => ?_))
    show wiC c ((8 * n + k) / 8) ((8 * n + k) % 8) = _
    rw [show (8 * n + k) / 8 = n by omega, show (8 * n + k) % 8 = k by omega]
    rfl
/-- ranges -/
def inI (v a b : Int32) : Bool := decide (a ≤ v) && decide (v ≤ b)
theorem inI_f1 {v a b : Int32} (h : v < a) : inI v a b = false := by rw [inI, decide_eq_false (Int32.not_le.mpr h), Bool.false_and]
theorem inI_f2 {v a b : Int32} (h : b < v) : inI v a b = false := by rw [inI, decide_eq_false (Int32.not_le.mpr h), Bool.and_false]
theorem inI_t {v a b : Int32} (h1 : ¬ v < a) (h2 : ¬ b < v) : inI v a b = true := by rw [inI, decide_eq_true (Int32.not_lt.mp h1), decide_eq_true (Int32.not_lt.mp h2)]; rfl
theorem le_sc (x : Int32) {n : Nat} (h : n + 1 < 2 ^ 31) : decide (x ≤ nI n) = !decide (nI (n + 1) ≤ x) := by
  have e : x ≤ nI n ↔ ¬ nI (n + 1) ≤ x := by
    rw [Int32.le_iff_toInt_le, Int32.le_iff_toInt_le, nI_toInt (by omega), nI_toInt h]
    omega
  by_cases q : nI (n + 1) ≤ x
  · rw [decide_eq_true q, decide_eq_false (fun z => e.mp z q)]; rfl
  · rw [decide_eq_false q, decide_eq_true (e.mpr q)]; rfl
theorem ge_nl (x a : Int32) : decide (a ≤ x) = !decide (x < a) := by
  by_cases q : x < a
  · rw [decide_eq_true q, decide_eq_false (Int32.not_le.mpr q)]; rfl
  · rw [decide_eq_false q, decide_eq_true (Int32.not_lt.mp q)]; rfl
theorem in_P (x : Int32) : inI x (nI 0) (nI 7) = isP x := by rw [inI, isP, ge_nl, le_sc x (by decide)]; rfl
theorem in_G (x : Int32) : inI x (nI 0) (nI 3) = isG x := by rw [inI, isG, ge_nl, le_sc x (by decide)]; rfl
theorem in_R (x : Int32) : inI x (nI 1) (nI 50) = inR x := by rw [inI, inR, ge_nl]
theorem in_A (x : Int32) : inI x (nI 32) (nI 126) = apx x := by rw [inI, apx, ge_nl]
theorem ite_lt (b : Bool) : (if b = true then 1 else 0) < 2 ^ 31 := by cases b <;> decide
theorem b1_t {b : Bool} (h : (if b = true then 1 else 0) = 1) : b = true := by cases b with | true => rfl | false => cases h
theorem b1_f {b : Bool} (h : (if b = true then 1 else 0) ≠ 1) : b = false := by cases b with | false => rfl | true => exact absurd rfl h
/-- rows copied -/
def cpF (f g : Nat → Int32) (i : Nat) : Nat → Int32 := fun k => if k < i then f k else g k
theorem cpF_0 (f g : Nat → Int32) : cpF f g 0 = g := by funext k; exact if_neg (Nat.not_lt_zero _)
theorem cpF_s (f g : Nat → Int32) (i : Nat) : upd (cpF f g i) i (f i) = cpF f g (i + 1) := by
  funext k
  by_cases h : k = i
  · subst h; rw [upd_eq]; exact (if_pos (Nat.lt_succ_self _)).symm
  · rw [upd_ne h, cpF, cpF]
    by_cases h2 : k < i
    · rw [if_pos h2, if_pos (by omega)]
    · rw [if_neg h2, if_neg (by omega)]
theorem cpF_in {f g : Nat → Int32} {i k : Nat} (h : k < i) : cpF f g i k = f k := if_pos h
def shF (f : Nat → Int32) (i : Nat) : Nat → Int32 := fun k => if k < i then f (k + 225) else f k
theorem shF_0 (f : Nat → Int32) : shF f 0 = f := by funext k; exact if_neg (Nat.not_lt_zero _)
theorem shF_s (f : Nat → Int32) (i : Nat) : upd (shF f i) i (shF f i (i + 225)) = shF f (i + 1) := by
  have e : shF f i (i + 225) = f (i + 225) := if_neg (by omega)
  rw [e]
  funext k
  by_cases h : k = i
  · subst h; rw [upd_eq]; exact (if_pos (Nat.lt_succ_self _)).symm
  · rw [upd_ne h, shF, shF]
    by_cases h2 : k < i
    · rw [if_pos h2, if_pos (by omega)]
    · rw [if_neg h2, if_neg (by omega)]
def wrF (f g : Nat → Int32) (z i : Nat) : Nat → Int32 := fun k => if 225 * z ≤ k ∧ k < 225 * z + i then f (k - 225 * z) else g k
theorem wrF_0 (f g : Nat → Int32) (z : Nat) : wrF f g z 0 = g := by funext k; exact if_neg (by omega)
theorem wrF_s (f g : Nat → Int32) (z i : Nat) : upd (wrF f g z i) (225 * z + i) (f i) = wrF f g z (i + 1) := by
  funext k
  by_cases h : k = 225 * z + i
  · subst h
    rw [upd_eq, wrF, if_pos ⟨by omega, by omega⟩, show 225 * z + i - 225 * z = i by omega]
  · rw [upd_ne h, wrF, wrF]
    by_cases h2 : 225 * z ≤ k ∧ k < 225 * z + i
    · rw [if_pos h2, if_pos ⟨h2.1, by omega⟩]
    · rw [if_neg h2, if_neg (fun q => h2 ⟨q.1, by omega⟩)]
def rcS (ss sts : Nat → Int32) (z : Nat) : Nat → Int32 := wrF ss (if z = 5 then shF sts 900 else sts) (kpS z - 1) 225
theorem kp5 {z : Nat} (h : z = 5) : z - 1 = kpS z - 1 := by rw [kpS, if_pos h, h]
theorem kpn {z : Nat} (h : z ≠ 5) : z = kpS z - 1 := by rw [kpS, if_neg h]; omega
/-- what an action of the reference does -/
def RA (q : Bool) (cn ss sts : Nat → Int32) (z : Nat) (ss2 sts2 : Nat → Int32) (z2 : Nat) : Prop := (q = true → SR cn ss2 ∧ sts2 = rcS ss sts z ∧ z2 = kpS z) ∧ (q = false → ss2 = ss ∧ sts2 = sts ∧ z2 = z)
theorem RA_t {cn ss sn sts : Nat → Int32} {z : Nat} (h : SR cn sn) : RA true cn ss sts z sn (rcS ss sts z) (kpS z) := ⟨fun _ => ⟨h, rfl, rfl⟩, fun h => (by cases h)⟩
theorem RA_f {cn ss sts : Nat → Int32} {z : Nat} : RA false cn ss sts z ss sts z := ⟨fun h => (by cases h), fun _ => ⟨rfl, rfl, rfl⟩⟩
theorem rc_s {z : Nat} (h : z = 5) (ss sts : Nat → Int32) : wrF ss (shF sts 900) (z - 1) 225 = rcS ss sts z := by rw [rcS, if_pos h, ← kp5 h]
theorem rc_n {z : Nat} (h : z ≠ 5) (ss sts : Nat → Int32) : wrF ss sts z 225 = rcS ss sts z := by rw [rcS, if_neg h, ← kpn h]
theorem kp_s {z : Nat} (h : z = 5) : z - 1 + 1 = kpS z := by rw [kpS, if_pos h]; omega
theorem kp_n {z : Nat} (h : z ≠ 5) : z + 1 = kpS z := by rw [kpS, if_neg h]
abbrev rW (cI cC : ClassId) (q0 q1 q2 q3 q4 q5 q6 q7 q8 q9 q10 q11 : Nat) (th : Int32) (ss : Nat → Int32) (asd : Nat → Int32) (sts : Nat → Int32) (sm : Int32) (snp : Nat → Int32) (hx : Int32) (tx : Nat → Int32) (lgt : Int32) (can : Nat → Int32) (szs : Nat → Int32) (ptn : Nat → Int32) (nms : Nat → Int32) (pth : Nat → Int32) (att : Int32) (isw : Int32) (rdd : Nat → Int32) (rmy : Int32) : va_W := [(q0, .inr (6, [.int th, .ref q1, .ref q2, .ref q3, .int sm, .ref q4, .int hx, .ref q5, .int lgt, .ref q6, .ref q7, .ref q8, .ref q9, .ref q10, .int att, .int isw, .ref q11, .int rmy])), (q1, .inl (cI, 225, .inl ss)), (q2, .inl (cI, 225, .inl asd)), (q3, .inl (cI, 1125, .inl sts)), (q4, .inl (cI, 225, .inl snp)), (q5, .inl (cI, 80, .inl tx)), (q6, .inl (cI, 8, .inl can)), (q7, .inl (cI, 2304, .inl szs)), (q8, .inl (cI, 8, .inl ptn)), (q9, .inl (cI, 64, .inl nms)), (q10, .inl (cI, 64, .inl pth)), (q11, .inl (cI, 64, .inl rdd))]
abbrev rm_X6_in : Room := { frames := 0, cells := 0, slots := 0, locals := 0 }
theorem yd_X6_in : yX6_in.cls = RX6 ∧ yX6_in.cls ≠ "java/lang/invoke/MethodHandle" ∧ yX6_in.cls ≠ "java/lang/invoke/VarHandle" ∧ (parseMethodDescriptor yX6_in.desc).map (fun d => d.parameters.length) = some 3 := by decide +kernel
set_option maxHeartbeats 4000000 in
set_option maxRecDepth 100000 in
theorem m_X6_in (l : Launch) (D : va_G) (cI cC : ClassId) (v : Int32) (a : Int32) (b : Int32) : g_M l yX6_in wsX6_in rm_X6_in D cI cC [.int v, .int a, .int b] [] (fun vv ww => vv = some (.int (bI (inI v a b))) ∧ ww = []) := by
  refine g_entry (lv := [(0, .int v), (1, .int a), (2, .int b)]) (own := RX6) (by decide) rfl rfl (Nat.le_of_ble_eq_true rfl) rfl ?_
  intro p e s m args below meth co A Q C hr hQ
  refine g_iload_n (pc := 0) C dX6_in_0 0 rfl rfl ?_
  refine g_iload_n (pc := 1) C dX6_in_1 1 rfl rfl ?_
  refine g_icmp_lt (pc := 2) C 14 dX6_in_2 (by decide) (fun c2 => ?_) (fun c2 => ?_)
  · refine g_iconst (pc := 14) (v := nI 0) C dX6_in_14 (by decide) ?_
    refine g_top (y := bI (inI v a b)) (by rw [inI_f1 c2]; rfl) ?_
    exact g_zret C hr hQ dX6_in_15 rfl ⟨rfl, rfl⟩
  · refine g_iload_n (pc := 5) C dX6_in_5 0 rfl rfl ?_
    refine g_iload_n (pc := 6) C dX6_in_6 2 rfl rfl ?_
    refine g_icmp_gt (pc := 7) C 14 dX6_in_7 (by decide) (fun c7 => ?_) (fun c7 => ?_)
    · refine g_iconst (pc := 14) (v := nI 0) C dX6_in_14 (by decide) ?_
      refine g_top (y := bI (inI v a b)) (by rw [inI_f2 c7]; rfl) ?_
      exact g_zret C hr hQ dX6_in_15 rfl ⟨rfl, rfl⟩
    · refine g_iconst (pc := 10) (v := nI 1) C dX6_in_10 (by decide) ?_
      refine g_goto (pc := 11) C 15 dX6_in_11 (by decide) ?_
      refine g_top (y := bI (inI v a b)) (by rw [inI_t c2 c7]; rfl) ?_
      exact g_zret C hr hQ dX6_in_15 rfl ⟨rfl, rfl⟩

abbrev rm_X6_isPerson : Room := { frames := 1, cells := 0, slots := 0, locals := 22 }
theorem yd_X6_isPerson : yX6_isPerson.cls = RX6 ∧ yX6_isPerson.cls ≠ "java/lang/invoke/MethodHandle" ∧ yX6_isPerson.cls ≠ "java/lang/invoke/VarHandle" ∧ (parseMethodDescriptor yX6_isPerson.desc).map (fun d => d.parameters.length) = some 1 := by decide +kernel
set_option maxHeartbeats 4000000 in
set_option maxRecDepth 100000 in
theorem m_X6_isPerson (l : Launch) (D : va_G) (cI cC : ClassId) (x : Int32) : g_M l yX6_isPerson wsX6_isPerson rm_X6_isPerson D cI cC [.int x] [] (fun vv ww => vv = some (.int (bI (isP x))) ∧ ww = []) := by
  refine g_entry (lv := [(0, .int x)]) (own := RX6) (by decide) rfl rfl (Nat.le_of_ble_eq_true rfl) rfl ?_
  intro p e s m args below meth co A Q C hr hQ
  refine g_iload_n (pc := 0) C dX6_isPerson_0 0 rfl rfl ?_
  refine g_iconst (pc := 1) (v := nI 0) C dX6_isPerson_1 (by decide) ?_
  refine g_bipush (pc := 2) (v := nI 7) C dX6_isPerson_2 (by decide) ?_
  refine g_callS (pc := 4) (st := []) (As := [.int x, .int (nI 0), .int (nI 7)]) (nn := 3) C (m_X6_in l D cI cC x (nI 0) (nI 7)) gX6_isPerson_X6_in rfl rfl rfl yd_X6_in.2 ⟨Nat.le_of_ble_eq_true rfl, Nat.le_of_ble_eq_true rfl⟩ rfl [] rfl rfl rfl (Nat.le_of_ble_eq_true rfl) ⟨Nat.le_of_ble_eq_true rfl, Nat.le_of_ble_eq_true rfl⟩ dX6_isPerson_4 ?_
  rintro _ _ ⟨rfl, rfl⟩
  refine g_eq (ws' := []) (st' := [.int (bI (inI x (nI 0) (nI 7)))]) rfl rfl ?_
  refine g_top (y := bI (isP x)) (by rw [in_P]) ?_
  exact g_zret C hr hQ dX6_isPerson_7 rfl ⟨rfl, rfl⟩

abbrev rm_X6_isGate : Room := { frames := 1, cells := 0, slots := 0, locals := 22 }
theorem yd_X6_isGate : yX6_isGate.cls = RX6 ∧ yX6_isGate.cls ≠ "java/lang/invoke/MethodHandle" ∧ yX6_isGate.cls ≠ "java/lang/invoke/VarHandle" ∧ (parseMethodDescriptor yX6_isGate.desc).map (fun d => d.parameters.length) = some 1 := by decide +kernel
set_option maxHeartbeats 4000000 in
set_option maxRecDepth 100000 in
theorem m_X6_isGate (l : Launch) (D : va_G) (cI cC : ClassId) (x : Int32) : g_M l yX6_isGate wsX6_isGate rm_X6_isGate D cI cC [.int x] [] (fun vv ww => vv = some (.int (bI (isG x))) ∧ ww = []) := by
  refine g_entry (lv := [(0, .int x)]) (own := RX6) (by decide) rfl rfl (Nat.le_of_ble_eq_true rfl) rfl ?_
  intro p e s m args below meth co A Q C hr hQ
  refine g_iload_n (pc := 0) C dX6_isGate_0 0 rfl rfl ?_
  refine g_iconst (pc := 1) (v := nI 0) C dX6_isGate_1 (by decide) ?_
  refine g_iconst (pc := 2) (v := nI 3) C dX6_isGate_2 (by decide) ?_
  refine g_callS (pc := 3) (st := []) (As := [.int x, .int (nI 0), .int (nI 3)]) (nn := 3) C (m_X6_in l D cI cC x (nI 0) (nI 3)) gX6_isGate_X6_in rfl rfl rfl yd_X6_in.2 ⟨Nat.le_of_ble_eq_true rfl, Nat.le_of_ble_eq_true rfl⟩ rfl [] rfl rfl rfl (Nat.le_of_ble_eq_true rfl) ⟨Nat.le_of_ble_eq_true rfl, Nat.le_of_ble_eq_true rfl⟩ dX6_isGate_3 ?_
  rintro _ _ ⟨rfl, rfl⟩
  refine g_eq (ws' := []) (st' := [.int (bI (inI x (nI 0) (nI 3)))]) rfl rfl ?_
  refine g_top (y := bI (isG x)) (by rw [in_G]) ?_
  exact g_zret C hr hQ dX6_isGate_6 rfl ⟨rfl, rfl⟩

abbrev rm_X6_isPair : Room := { frames := 2, cells := 0, slots := 0, locals := 42 }
theorem yd_X6_isPair : yX6_isPair.cls = RX6 ∧ yX6_isPair.cls ≠ "java/lang/invoke/MethodHandle" ∧ yX6_isPair.cls ≠ "java/lang/invoke/VarHandle" ∧ (parseMethodDescriptor yX6_isPair.desc).map (fun d => d.parameters.length) = some 2 := by decide +kernel
set_option maxHeartbeats 4000000 in
set_option maxRecDepth 100000 in
theorem m_X6_isPair (l : Launch) (D : va_G) (cI cC : ClassId) (x : Int32) (y : Int32) : g_M l yX6_isPair wsX6_isPair rm_X6_isPair D cI cC [.int x, .int y] [] (fun vv ww => vv = some (.int (bI (two x y))) ∧ ww = []) := by
  refine g_entry (lv := [(0, .int x), (1, .int y)]) (own := RX6) (by decide) rfl rfl (Nat.le_of_ble_eq_true rfl) rfl ?_
  intro p e s m args below meth co A Q C hr hQ
  refine g_iload_n (pc := 0) C dX6_isPair_0 0 rfl rfl ?_
  refine g_callS (pc := 1) (st := []) (As := [.int x]) (nn := 1) C (m_X6_isPerson l D cI cC x) gX6_isPair_X6_isPerson rfl rfl rfl yd_X6_isPerson.2 ⟨Nat.le_of_ble_eq_true rfl, Nat.le_of_ble_eq_true rfl⟩ rfl [] rfl rfl rfl (Nat.le_of_ble_eq_true rfl) ⟨Nat.le_of_ble_eq_true rfl, Nat.le_of_ble_eq_true rfl⟩ dX6_isPair_1 ?_
  rintro _ _ ⟨rfl, rfl⟩
  refine g_eq (ws' := []) (st' := [.int (bI (isP x))]) rfl rfl ?_
  refine g_if_eqB (pc := 4) C 18 dX6_isPair_4 (by decide) (fun c4 => ?_) (fun c4 => ?_)
  · refine g_iconst (pc := 18) (v := nI 0) C dX6_isPair_18 (by decide) ?_
    refine g_top (y := bI (two x y)) (by rw [two, c4]; rfl) ?_
    exact g_zret C hr hQ dX6_isPair_19 rfl ⟨rfl, rfl⟩
  · refine g_iload_n (pc := 7) C dX6_isPair_7 1 rfl rfl ?_
    refine g_callS (pc := 8) (st := []) (As := [.int y]) (nn := 1) C (m_X6_isPerson l D cI cC y) gX6_isPair_X6_isPerson rfl rfl rfl yd_X6_isPerson.2 ⟨Nat.le_of_ble_eq_true rfl, Nat.le_of_ble_eq_true rfl⟩ rfl [] rfl rfl rfl (Nat.le_of_ble_eq_true rfl) ⟨Nat.le_of_ble_eq_true rfl, Nat.le_of_ble_eq_true rfl⟩ dX6_isPair_8 ?_
    rintro _ _ ⟨rfl, rfl⟩
    refine g_eq (ws' := []) (st' := [.int (bI (isP y))]) rfl rfl ?_
    refine g_if_eqB (pc := 11) C 18 dX6_isPair_11 (by decide) (fun c11 => ?_) (fun c11 => ?_)
    · refine g_iconst (pc := 18) (v := nI 0) C dX6_isPair_18 (by decide) ?_
      refine g_top (y := bI (two x y)) (by rw [two, c4, c11]; rfl) ?_
      exact g_zret C hr hQ dX6_isPair_19 rfl ⟨rfl, rfl⟩
    · refine g_iconst (pc := 14) (v := nI 1) C dX6_isPair_14 (by decide) ?_
      refine g_goto (pc := 15) C 19 dX6_isPair_15 (by decide) ?_
      refine g_top (y := bI (two x y)) (by rw [two, c4, c11]; rfl) ?_
      exact g_zret C hr hQ dX6_isPair_19 rfl ⟨rfl, rfl⟩

abbrev rm_X6_records : Room := { frames := 0, cells := 0, slots := 0, locals := 0 }
theorem yd_X6_records : yX6_records.cls = RX6 ∧ yX6_records.cls ≠ "java/lang/invoke/MethodHandle" ∧ yX6_records.cls ≠ "java/lang/invoke/VarHandle" ∧ (parseMethodDescriptor yX6_records.desc).map (fun d => d.parameters.length) = some 0 := by decide +kernel
theorem in_X6_records_X6 : ∀ w ∈ u_ws RX6 TX6 18, w ∈ wsX6_records := by decide +kernel
theorem fl_X6_records_7 : Cond.fieldLink RX6 7 "FenceHandshakesModel" "s" "[I" ∈ wsX6_records := by decide +kernel
theorem fl_X6_records_16 : Cond.fieldLink RX6 16 "FenceHandshakesModel" "states" "[I" ∈ wsX6_records := by decide +kernel
theorem fl_X6_records_55 : Cond.fieldLink RX6 55 "FenceHandshakesModel" "stateMany" "I" ∈ wsX6_records := by decide +kernel
set_option maxHeartbeats 4000000 in
set_option maxRecDepth 100000 in
theorem m_X6_records (l : Launch) (D : va_G) (cI cC : ClassId) (q0 q1 q2 q3 q4 q5 q6 q7 q8 q9 q10 q11 : Nat) (th : Int32) (ss : Nat → Int32) (asd : Nat → Int32) (sts : Nat → Int32) (snp : Nat → Int32) (hx : Int32) (tx : Nat → Int32) (lgt : Int32) (can : Nat → Int32) (szs : Nat → Int32) (ptn : Nat → Int32) (nms : Nat → Int32) (pth : Nat → Int32) (att : Int32) (isw : Int32) (rdd : Nat → Int32) (rmy : Int32) (z : Nat) (hz : z ≤ 5) : g_M l yX6_records wsX6_records rm_X6_records D cI cC [.ref q0] (rW cI cC q0 q1 q2 q3 q4 q5 q6 q7 q8 q9 q10 q11 th ss asd sts (nI z) snp hx tx lgt can szs ptn nms pth att isw rdd rmy) (fun vv ww => vv = none ∧ ww = (rW cI cC q0 q1 q2 q3 q4 q5 q6 q7 q8 q9 q10 q11 th ss asd (rcS ss sts z) (nI (kpS z)) snp hx tx lgt can szs ptn nms pth att isw rdd rmy)) := by
  refine g_entry (lv := [(0, .ref q0)]) (own := RX6) (by decide) rfl rfl (Nat.le_of_ble_eq_true rfl) rfl ?_
  intro p e s m args below meth co A Q C hr hQ
  refine g_aload_n (pc := 0) C dX6_records_0 0 rfl rfl ?_
  refine g_get (pc := 1) (ci := 6) (T := TX6) (N := 18) (v := .int (nI z)) C in_X6_records_X6 0 rfl rfl 4 (by decide) fl_X6_records_55 rfl rfl dX6_records_1 ?_
  refine g_iconst (pc := 4) (v := nI 5) C dX6_records_4 (by decide) ?_
  refine g_icmp_neN (pc := 5) C 49 (by omega) (by omega) dX6_records_5 (by decide) (fun c5 => ?_) (fun c5 => ?_)
  · refine g_ws (ws' := (rW cI cC q0 q1 q2 q3 q4 q5 q6 q7 q8 q9 q10 q11 th ss asd (wrF ss sts z 0) (nI z) snp hx tx lgt can szs ptn nms pth att isw rdd rmy)) (by rw [wrF_0]) ?_
    refine g_iconst (pc := 49) (v := nI 0) C dX6_records_49 (by decide) ?_
    refine g_istore_n (pc := 50) (lv' := [(1, .int (nI 0)), (0, .ref q0)]) C dX6_records_50 rfl (by decide) rfl ?_
    have L51 : ∀ (NZ : Nat) (j : Nat), 225 - j < NZ → (j ≤ 225) → g_J p l e rm_X6_records s m args below meth co Q D A 2 0 0 (rW cI cC q0 q1 q2 q3 q4 q5 q6 q7 q8 q9 q10 q11 th ss asd (wrF ss sts z j) (nI z) snp hx tx lgt can szs ptn nms pth att isw rdd rmy) 51 [(0, .ref q0), (1, .int (nI j))] [] := by
      intro NZ
      induction NZ with
      | zero => intro j hN; exact absurd hN (Nat.not_lt_zero _)
      | succ NZ ih51 =>
        intro j hN51 hj
        refine g_iload_n (pc := 51) C dX6_records_51 1 rfl rfl ?_
        refine g_sipush (pc := 52) (v := nI 225) C dX6_records_52 (by decide) ?_
        refine g_icmp_geN (pc := 55) C 85 (by omega) (by omega) dX6_records_55 (by decide) (fun c55 => ?_) (fun c55 => ?_)
        · refine g_aload_n (pc := 85) C dX6_records_85 0 rfl rfl ?_
          refine g_dup (pc := 86) C dX6_records_86 rfl ?_
          refine g_get (pc := 87) (ci := 6) (T := TX6) (N := 18) (v := .int (nI z)) C in_X6_records_X6 0 rfl rfl 4 (by decide) fl_X6_records_55 rfl rfl dX6_records_87 ?_
          refine g_iconst (pc := 90) (v := nI 1) C dX6_records_90 (by decide) ?_
          refine g_iaddN (pc := 91) C dX6_records_91 ?_
          refine g_put (pc := 92) (ci := 6) (T := TX6) (N := 18) (ws' := (rW cI cC q0 q1 q2 q3 q4 q5 q6 q7 q8 q9 q10 q11 th ss asd (wrF ss sts z j) (nI (z + 1)) snp hx tx lgt can szs ptn nms pth att isw rdd rmy)) (ty := .int) (v := .int (nI (z + 1))) C in_X6_records_X6 tyX6 tyX6_ok nmX6 0 rfl rfl 4 (by decide) fl_X6_records_55 rfl rfl (by decide +kernel) rfl rfl (Nat.le_of_ble_eq_true rfl) dX6_records_92 rfl ?_
          refine g_ws (ws' := (rW cI cC q0 q1 q2 q3 q4 q5 q6 q7 q8 q9 q10 q11 th ss asd (rcS ss sts z) (nI (z + 1)) snp hx tx lgt can szs ptn nms pth att isw rdd rmy)) (by rw [show j = 225 by omega, rc_n c5]) ?_
          refine g_ws (ws' := (rW cI cC q0 q1 q2 q3 q4 q5 q6 q7 q8 q9 q10 q11 th ss asd (rcS ss sts z) (nI (kpS z)) snp hx tx lgt can szs ptn nms pth att isw rdd rmy)) (by rw [kp_n c5]) ?_
          exact g_vret C hr hQ dX6_records_95 rfl ⟨rfl, rfl⟩
        · refine g_aload_n (pc := 58) C dX6_records_58 0 rfl rfl ?_
          refine g_get (pc := 59) (ci := 6) (T := TX6) (N := 18) (v := .ref q3) C in_X6_records_X6 0 rfl rfl 3 (by decide) fl_X6_records_16 rfl rfl dX6_records_59 ?_
          refine g_sipush (pc := 62) (v := nI 225) C dX6_records_62 (by decide) ?_
          refine g_aload_n (pc := 65) C dX6_records_65 0 rfl rfl ?_
          refine g_get (pc := 66) (ci := 6) (T := TX6) (N := 18) (v := .int (nI z)) C in_X6_records_X6 0 rfl rfl 4 (by decide) fl_X6_records_55 rfl rfl dX6_records_66 ?_
          refine g_imulN (pc := 69) C dX6_records_69 ?_
          refine g_iload_n (pc := 70) C dX6_records_70 1 rfl rfl ?_
          refine g_iaddN (pc := 71) C dX6_records_71 ?_
          refine g_aload_n (pc := 72) C dX6_records_72 0 rfl rfl ?_
          refine g_get (pc := 73) (ci := 6) (T := TX6) (N := 18) (v := .ref q1) C in_X6_records_X6 0 rfl rfl 1 (by decide) fl_X6_records_7 rfl rfl dX6_records_73 ?_
          refine g_iload_n (pc := 76) C dX6_records_76 1 rfl rfl ?_
          refine g_ialdN (pc := 77) (f := ss) C 1 rfl (by omega) (by decide) dX6_records_77 ?_
          refine g_iastN (pc := 78) (f := (wrF ss sts z j)) (ws' := (rW cI cC q0 q1 q2 q3 q4 q5 q6 q7 q8 q9 q10 q11 th ss asd (upd (wrF ss sts z j) ((225 * z) + j) ((ss j))) (nI z) snp hx tx lgt can szs ptn nms pth att isw rdd rmy)) C 3 rfl (by omega) (by decide) dX6_records_78 rfl ?_
          refine g_iinc (pc := 79) (lv' := [(1, .int (nI (j + 1))), (0, .ref q0)]) C dX6_records_79 1 rfl (nI_add j 1) (by decide) rfl ?_
          refine g_goto (pc := 82) C 51 dX6_records_82 (by decide) ?_
          refine g_ws (ws' := (rW cI cC q0 q1 q2 q3 q4 q5 q6 q7 q8 q9 q10 q11 th ss asd (wrF ss sts z (j + 1)) (nI z) snp hx tx lgt can szs ptn nms pth att isw rdd rmy)) (by rw [wrF_s]) ?_
          refine g_lvp (lv' := [(0, .ref q0), (1, .int (nI (j + 1)))]) [1, 0] rfl ?_
          exact ih51 (j + 1) (by omega) (by first | assumption | omega)
    refine g_lvp (lv' := [(0, .ref q0), (1, .int (nI 0))]) [1, 0] rfl ?_
    exact L51 _ 0 (Nat.lt_succ_self _) (by first | assumption | omega)
  · refine g_ws (ws' := (rW cI cC q0 q1 q2 q3 q4 q5 q6 q7 q8 q9 q10 q11 th ss asd (shF sts 0) (nI z) snp hx tx lgt can szs ptn nms pth att isw rdd rmy)) (by rw [shF_0]) ?_
    refine g_iconst (pc := 8) (v := nI 0) C dX6_records_8 (by decide) ?_
    refine g_istore_n (pc := 9) (lv' := [(1, .int (nI 0)), (0, .ref q0)]) C dX6_records_9 rfl (by decide) rfl ?_
    have L10 : ∀ (NZ : Nat) (i : Nat), 900 - i < NZ → (i ≤ 900) → g_J p l e rm_X6_records s m args below meth co Q D A 2 0 0 (rW cI cC q0 q1 q2 q3 q4 q5 q6 q7 q8 q9 q10 q11 th ss asd (shF sts i) (nI z) snp hx tx lgt can szs ptn nms pth att isw rdd rmy) 10 [(0, .ref q0), (1, .int (nI i))] [] := by
      intro NZ
      induction NZ with
      | zero => intro i hN; exact absurd hN (Nat.not_lt_zero _)
      | succ NZ ih10 =>
        intro i hN10 hi
        refine g_iload_n (pc := 10) C dX6_records_10 1 rfl rfl ?_
        refine g_sipush (pc := 11) (v := nI 900) C dX6_records_11 (by decide) ?_
        refine g_icmp_geN (pc := 14) C 39 (by omega) (by omega) dX6_records_14 (by decide) (fun c14 => ?_) (fun c14 => ?_)
        · refine g_ws (ws' := (rW cI cC q0 q1 q2 q3 q4 q5 q6 q7 q8 q9 q10 q11 th ss asd (shF sts 900) (nI z) snp hx tx lgt can szs ptn nms pth att isw rdd rmy)) (by rw [show i = 900 by omega]) ?_
          refine g_aload_n (pc := 39) C dX6_records_39 0 rfl rfl ?_
          refine g_dup (pc := 40) C dX6_records_40 rfl ?_
          refine g_get (pc := 41) (ci := 6) (T := TX6) (N := 18) (v := .int (nI z)) C in_X6_records_X6 0 rfl rfl 4 (by decide) fl_X6_records_55 rfl rfl dX6_records_41 ?_
          refine g_iconst (pc := 44) (v := nI 1) C dX6_records_44 (by decide) ?_
          refine g_isubN (pc := 45) C dX6_records_45 (by omega) ?_
          refine g_put (pc := 46) (ci := 6) (T := TX6) (N := 18) (ws' := (rW cI cC q0 q1 q2 q3 q4 q5 q6 q7 q8 q9 q10 q11 th ss asd (shF sts 900) (nI (z - 1)) snp hx tx lgt can szs ptn nms pth att isw rdd rmy)) (ty := .int) (v := .int (nI (z - 1))) C in_X6_records_X6 tyX6 tyX6_ok nmX6 0 rfl rfl 4 (by decide) fl_X6_records_55 rfl rfl (by decide +kernel) rfl rfl (Nat.le_of_ble_eq_true rfl) dX6_records_46 rfl ?_
          refine g_ws (ws' := (rW cI cC q0 q1 q2 q3 q4 q5 q6 q7 q8 q9 q10 q11 th ss asd (wrF ss (shF sts 900) (z - 1) 0) (nI (z - 1)) snp hx tx lgt can szs ptn nms pth att isw rdd rmy)) (by rw [wrF_0]) ?_
          refine g_iconst (pc := 49) (v := nI 0) C dX6_records_49 (by decide) ?_
          refine g_istore_n (pc := 50) (lv' := [(1, .int (nI 0)), (0, .ref q0)]) C dX6_records_50 rfl (by decide) rfl ?_
          have L51 : ∀ (NZ : Nat) (j : Nat), 225 - j < NZ → (j ≤ 225) → g_J p l e rm_X6_records s m args below meth co Q D A 2 0 0 (rW cI cC q0 q1 q2 q3 q4 q5 q6 q7 q8 q9 q10 q11 th ss asd (wrF ss (shF sts 900) (z - 1) j) (nI (z - 1)) snp hx tx lgt can szs ptn nms pth att isw rdd rmy) 51 [(0, .ref q0), (1, .int (nI j))] [] := by
            intro NZ
            induction NZ with
            | zero => intro j hN; exact absurd hN (Nat.not_lt_zero _)
            | succ NZ ih51 =>
              intro j hN51 hj
              refine g_iload_n (pc := 51) C dX6_records_51 1 rfl rfl ?_
              refine g_sipush (pc := 52) (v := nI 225) C dX6_records_52 (by decide) ?_
              refine g_icmp_geN (pc := 55) C 85 (by omega) (by omega) dX6_records_55 (by decide) (fun c55 => ?_) (fun c55 => ?_)
              · refine g_aload_n (pc := 85) C dX6_records_85 0 rfl rfl ?_
                refine g_dup (pc := 86) C dX6_records_86 rfl ?_
                refine g_get (pc := 87) (ci := 6) (T := TX6) (N := 18) (v := .int (nI (z - 1))) C in_X6_records_X6 0 rfl rfl 4 (by decide) fl_X6_records_55 rfl rfl dX6_records_87 ?_
                refine g_iconst (pc := 90) (v := nI 1) C dX6_records_90 (by decide) ?_
                refine g_iaddN (pc := 91) C dX6_records_91 ?_
                refine g_put (pc := 92) (ci := 6) (T := TX6) (N := 18) (ws' := (rW cI cC q0 q1 q2 q3 q4 q5 q6 q7 q8 q9 q10 q11 th ss asd (wrF ss (shF sts 900) (z - 1) j) (nI ((z - 1) + 1)) snp hx tx lgt can szs ptn nms pth att isw rdd rmy)) (ty := .int) (v := .int (nI ((z - 1) + 1))) C in_X6_records_X6 tyX6 tyX6_ok nmX6 0 rfl rfl 4 (by decide) fl_X6_records_55 rfl rfl (by decide +kernel) rfl rfl (Nat.le_of_ble_eq_true rfl) dX6_records_92 rfl ?_
                refine g_ws (ws' := (rW cI cC q0 q1 q2 q3 q4 q5 q6 q7 q8 q9 q10 q11 th ss asd (rcS ss sts z) (nI ((z - 1) + 1)) snp hx tx lgt can szs ptn nms pth att isw rdd rmy)) (by rw [show j = 225 by omega, rc_s c5]) ?_
                refine g_ws (ws' := (rW cI cC q0 q1 q2 q3 q4 q5 q6 q7 q8 q9 q10 q11 th ss asd (rcS ss sts z) (nI (kpS z)) snp hx tx lgt can szs ptn nms pth att isw rdd rmy)) (by rw [kp_s c5]) ?_
                exact g_vret C hr hQ dX6_records_95 rfl ⟨rfl, rfl⟩
              · refine g_aload_n (pc := 58) C dX6_records_58 0 rfl rfl ?_
                refine g_get (pc := 59) (ci := 6) (T := TX6) (N := 18) (v := .ref q3) C in_X6_records_X6 0 rfl rfl 3 (by decide) fl_X6_records_16 rfl rfl dX6_records_59 ?_
                refine g_sipush (pc := 62) (v := nI 225) C dX6_records_62 (by decide) ?_
                refine g_aload_n (pc := 65) C dX6_records_65 0 rfl rfl ?_
                refine g_get (pc := 66) (ci := 6) (T := TX6) (N := 18) (v := .int (nI (z - 1))) C in_X6_records_X6 0 rfl rfl 4 (by decide) fl_X6_records_55 rfl rfl dX6_records_66 ?_
                refine g_imulN (pc := 69) C dX6_records_69 ?_
                refine g_iload_n (pc := 70) C dX6_records_70 1 rfl rfl ?_
                refine g_iaddN (pc := 71) C dX6_records_71 ?_
                refine g_aload_n (pc := 72) C dX6_records_72 0 rfl rfl ?_
                refine g_get (pc := 73) (ci := 6) (T := TX6) (N := 18) (v := .ref q1) C in_X6_records_X6 0 rfl rfl 1 (by decide) fl_X6_records_7 rfl rfl dX6_records_73 ?_
                refine g_iload_n (pc := 76) C dX6_records_76 1 rfl rfl ?_
                refine g_ialdN (pc := 77) (f := ss) C 1 rfl (by omega) (by decide) dX6_records_77 ?_
                refine g_iastN (pc := 78) (f := (wrF ss (shF sts 900) (z - 1) j)) (ws' := (rW cI cC q0 q1 q2 q3 q4 q5 q6 q7 q8 q9 q10 q11 th ss asd (upd (wrF ss (shF sts 900) (z - 1) j) ((225 * (z - 1)) + j) ((ss j))) (nI (z - 1)) snp hx tx lgt can szs ptn nms pth att isw rdd rmy)) C 3 rfl (by omega) (by decide) dX6_records_78 rfl ?_
                refine g_iinc (pc := 79) (lv' := [(1, .int (nI (j + 1))), (0, .ref q0)]) C dX6_records_79 1 rfl (nI_add j 1) (by decide) rfl ?_
                refine g_goto (pc := 82) C 51 dX6_records_82 (by decide) ?_
                refine g_ws (ws' := (rW cI cC q0 q1 q2 q3 q4 q5 q6 q7 q8 q9 q10 q11 th ss asd (wrF ss (shF sts 900) (z - 1) (j + 1)) (nI (z - 1)) snp hx tx lgt can szs ptn nms pth att isw rdd rmy)) (by rw [wrF_s]) ?_
                refine g_lvp (lv' := [(0, .ref q0), (1, .int (nI (j + 1)))]) [1, 0] rfl ?_
                exact ih51 (j + 1) (by omega) (by first | assumption | omega)
          refine g_lvp (lv' := [(0, .ref q0), (1, .int (nI 0))]) [1, 0] rfl ?_
          exact L51 _ 0 (Nat.lt_succ_self _) (by first | assumption | omega)
        · refine g_aload_n (pc := 17) C dX6_records_17 0 rfl rfl ?_
          refine g_get (pc := 18) (ci := 6) (T := TX6) (N := 18) (v := .ref q3) C in_X6_records_X6 0 rfl rfl 3 (by decide) fl_X6_records_16 rfl rfl dX6_records_18 ?_
          refine g_iload_n (pc := 21) C dX6_records_21 1 rfl rfl ?_
          refine g_aload_n (pc := 22) C dX6_records_22 0 rfl rfl ?_
          refine g_get (pc := 23) (ci := 6) (T := TX6) (N := 18) (v := .ref q3) C in_X6_records_X6 0 rfl rfl 3 (by decide) fl_X6_records_16 rfl rfl dX6_records_23 ?_
          refine g_iload_n (pc := 26) C dX6_records_26 1 rfl rfl ?_
          refine g_sipush (pc := 27) (v := nI 225) C dX6_records_27 (by decide) ?_
          refine g_iaddN (pc := 30) C dX6_records_30 ?_
          refine g_ialdN (pc := 31) (f := (shF sts i)) C 3 rfl (by omega) (by decide) dX6_records_31 ?_
          refine g_iastN (pc := 32) (f := (shF sts i)) (ws' := (rW cI cC q0 q1 q2 q3 q4 q5 q6 q7 q8 q9 q10 q11 th ss asd (upd (shF sts i) i (((shF sts i) (i + 225)))) (nI z) snp hx tx lgt can szs ptn nms pth att isw rdd rmy)) C 3 rfl (by omega) (by decide) dX6_records_32 rfl ?_
          refine g_iinc (pc := 33) (lv' := [(1, .int (nI (i + 1))), (0, .ref q0)]) C dX6_records_33 1 rfl (nI_add i 1) (by decide) rfl ?_
          refine g_goto (pc := 36) C 10 dX6_records_36 (by decide) ?_
          refine g_ws (ws' := (rW cI cC q0 q1 q2 q3 q4 q5 q6 q7 q8 q9 q10 q11 th ss asd (shF sts (i + 1)) (nI z) snp hx tx lgt can szs ptn nms pth att isw rdd rmy)) (by rw [shF_s]) ?_
          refine g_lvp (lv' := [(0, .ref q0), (1, .int (nI (i + 1)))]) [1, 0] rfl ?_
          exact ih10 (i + 1) (by omega) (by first | assumption | omega)
    refine g_lvp (lv' := [(0, .ref q0), (1, .int (nI 0))]) [1, 0] rfl ?_
    exact L10 _ 0 (Nat.lt_succ_self _) (by first | assumption | omega)

abbrev rm_X6_putAside : Room := { frames := 0, cells := 0, slots := 0, locals := 0 }
theorem yd_X6_putAside : yX6_putAside.cls = RX6 ∧ yX6_putAside.cls ≠ "java/lang/invoke/MethodHandle" ∧ yX6_putAside.cls ≠ "java/lang/invoke/VarHandle" ∧ (parseMethodDescriptor yX6_putAside.desc).map (fun d => d.parameters.length) = some 0 := by decide +kernel
theorem in_X6_putAside_X6 : ∀ w ∈ u_ws RX6 TX6 18, w ∈ wsX6_putAside := by decide +kernel
theorem fl_X6_putAside_7 : Cond.fieldLink RX6 7 "FenceHandshakesModel" "s" "[I" ∈ wsX6_putAside := by decide +kernel
theorem fl_X6_putAside_13 : Cond.fieldLink RX6 13 "FenceHandshakesModel" "aside" "[I" ∈ wsX6_putAside := by decide +kernel
set_option maxHeartbeats 4000000 in
set_option maxRecDepth 100000 in
theorem m_X6_putAside (l : Launch) (D : va_G) (cI cC : ClassId) (q0 q1 q2 q3 q4 q5 q6 q7 q8 q9 q10 q11 : Nat) (th : Int32) (ss : Nat → Int32) (asd : Nat → Int32) (sts : Nat → Int32) (sm : Int32) (snp : Nat → Int32) (hx : Int32) (tx : Nat → Int32) (lgt : Int32) (can : Nat → Int32) (szs : Nat → Int32) (ptn : Nat → Int32) (nms : Nat → Int32) (pth : Nat → Int32) (att : Int32) (isw : Int32) (rdd : Nat → Int32) (rmy : Int32) : g_M l yX6_putAside wsX6_putAside rm_X6_putAside D cI cC [.ref q0] (rW cI cC q0 q1 q2 q3 q4 q5 q6 q7 q8 q9 q10 q11 th ss asd sts sm snp hx tx lgt can szs ptn nms pth att isw rdd rmy) (fun vv ww => vv = none ∧ ww = (rW cI cC q0 q1 q2 q3 q4 q5 q6 q7 q8 q9 q10 q11 th ss (cpF ss asd 225) sts sm snp hx tx lgt can szs ptn nms pth att isw rdd rmy)) := by
  refine g_entry (lv := [(0, .ref q0)]) (own := RX6) (by decide) rfl rfl (Nat.le_of_ble_eq_true rfl) rfl ?_
  intro p e s m args below meth co A Q C hr hQ
  refine g_ws (ws' := (rW cI cC q0 q1 q2 q3 q4 q5 q6 q7 q8 q9 q10 q11 th ss (cpF ss asd 0) sts sm snp hx tx lgt can szs ptn nms pth att isw rdd rmy)) (by rw [cpF_0]) ?_
  refine g_iconst (pc := 0) (v := nI 0) C dX6_putAside_0 (by decide) ?_
  refine g_istore_n (pc := 1) (lv' := [(1, .int (nI 0)), (0, .ref q0)]) C dX6_putAside_1 rfl (by decide) rfl ?_
  have L2 : ∀ (NZ : Nat) (i : Nat), 225 - i < NZ → (i ≤ 225) → g_J p l e rm_X6_putAside s m args below meth co Q D A 2 0 0 (rW cI cC q0 q1 q2 q3 q4 q5 q6 q7 q8 q9 q10 q11 th ss (cpF ss asd i) sts sm snp hx tx lgt can szs ptn nms pth att isw rdd rmy) 2 [(0, .ref q0), (1, .int (nI i))] [] := by
    intro NZ
    induction NZ with
    | zero => intro i hN; exact absurd hN (Nat.not_lt_zero _)
    | succ NZ ih2 =>
      intro i hN2 hi
      refine g_iload_n (pc := 2) C dX6_putAside_2 1 rfl rfl ?_
      refine g_sipush (pc := 3) (v := nI 225) C dX6_putAside_3 (by decide) ?_
      refine g_icmp_geN (pc := 6) C 27 (by omega) (by omega) dX6_putAside_6 (by decide) (fun c6 => ?_) (fun c6 => ?_)
      · refine g_ws (ws' := (rW cI cC q0 q1 q2 q3 q4 q5 q6 q7 q8 q9 q10 q11 th ss (cpF ss asd 225) sts sm snp hx tx lgt can szs ptn nms pth att isw rdd rmy)) (by rw [show i = 225 by omega]) ?_
        exact g_vret C hr hQ dX6_putAside_27 rfl ⟨rfl, rfl⟩
      · refine g_aload_n (pc := 9) C dX6_putAside_9 0 rfl rfl ?_
        refine g_get (pc := 10) (ci := 6) (T := TX6) (N := 18) (v := .ref q2) C in_X6_putAside_X6 0 rfl rfl 2 (by decide) fl_X6_putAside_13 rfl rfl dX6_putAside_10 ?_
        refine g_iload_n (pc := 13) C dX6_putAside_13 1 rfl rfl ?_
        refine g_aload_n (pc := 14) C dX6_putAside_14 0 rfl rfl ?_
        refine g_get (pc := 15) (ci := 6) (T := TX6) (N := 18) (v := .ref q1) C in_X6_putAside_X6 0 rfl rfl 1 (by decide) fl_X6_putAside_7 rfl rfl dX6_putAside_15 ?_
        refine g_iload_n (pc := 18) C dX6_putAside_18 1 rfl rfl ?_
        refine g_ialdN (pc := 19) (f := ss) C 1 rfl (by omega) (by decide) dX6_putAside_19 ?_
        refine g_iastN (pc := 20) (f := (cpF ss asd i)) (ws' := (rW cI cC q0 q1 q2 q3 q4 q5 q6 q7 q8 q9 q10 q11 th ss (upd (cpF ss asd i) i ((ss i))) sts sm snp hx tx lgt can szs ptn nms pth att isw rdd rmy)) C 2 rfl (by omega) (by decide) dX6_putAside_20 rfl ?_
        refine g_iinc (pc := 21) (lv' := [(1, .int (nI (i + 1))), (0, .ref q0)]) C dX6_putAside_21 1 rfl (nI_add i 1) (by decide) rfl ?_
        refine g_goto (pc := 24) C 2 dX6_putAside_24 (by decide) ?_
        refine g_ws (ws' := (rW cI cC q0 q1 q2 q3 q4 q5 q6 q7 q8 q9 q10 q11 th ss (cpF ss asd (i + 1)) sts sm snp hx tx lgt can szs ptn nms pth att isw rdd rmy)) (by rw [cpF_s]) ?_
        refine g_lvp (lv' := [(0, .ref q0), (1, .int (nI (i + 1)))]) [1, 0] rfl ?_
        exact ih2 (i + 1) (by omega) (by first | assumption | omega)
  refine g_lvp (lv' := [(0, .ref q0), (1, .int (nI 0))]) [1, 0] rfl ?_
  exact L2 _ 0 (Nat.lt_succ_self _) (by first | assumption | omega)

abbrev rm_X6_takeBack : Room := { frames := 0, cells := 0, slots := 0, locals := 0 }
theorem yd_X6_takeBack : yX6_takeBack.cls = RX6 ∧ yX6_takeBack.cls ≠ "java/lang/invoke/MethodHandle" ∧ yX6_takeBack.cls ≠ "java/lang/invoke/VarHandle" ∧ (parseMethodDescriptor yX6_takeBack.desc).map (fun d => d.parameters.length) = some 0 := by decide +kernel
theorem in_X6_takeBack_X6 : ∀ w ∈ u_ws RX6 TX6 18, w ∈ wsX6_takeBack := by decide +kernel
theorem fl_X6_takeBack_7 : Cond.fieldLink RX6 7 "FenceHandshakesModel" "s" "[I" ∈ wsX6_takeBack := by decide +kernel
theorem fl_X6_takeBack_13 : Cond.fieldLink RX6 13 "FenceHandshakesModel" "aside" "[I" ∈ wsX6_takeBack := by decide +kernel
set_option maxHeartbeats 4000000 in
set_option maxRecDepth 100000 in
theorem m_X6_takeBack (l : Launch) (D : va_G) (cI cC : ClassId) (q0 q1 q2 q3 q4 q5 q6 q7 q8 q9 q10 q11 : Nat) (th : Int32) (ss : Nat → Int32) (asd : Nat → Int32) (sts : Nat → Int32) (sm : Int32) (snp : Nat → Int32) (hx : Int32) (tx : Nat → Int32) (lgt : Int32) (can : Nat → Int32) (szs : Nat → Int32) (ptn : Nat → Int32) (nms : Nat → Int32) (pth : Nat → Int32) (att : Int32) (isw : Int32) (rdd : Nat → Int32) (rmy : Int32) : g_M l yX6_takeBack wsX6_takeBack rm_X6_takeBack D cI cC [.ref q0] (rW cI cC q0 q1 q2 q3 q4 q5 q6 q7 q8 q9 q10 q11 th ss asd sts sm snp hx tx lgt can szs ptn nms pth att isw rdd rmy) (fun vv ww => vv = none ∧ ww = (rW cI cC q0 q1 q2 q3 q4 q5 q6 q7 q8 q9 q10 q11 th (cpF asd ss 225) asd sts sm snp hx tx lgt can szs ptn nms pth att isw rdd rmy)) := by
  refine g_entry (lv := [(0, .ref q0)]) (own := RX6) (by decide) rfl rfl (Nat.le_of_ble_eq_true rfl) rfl ?_
  intro p e s m args below meth co A Q C hr hQ
  refine g_ws (ws' := (rW cI cC q0 q1 q2 q3 q4 q5 q6 q7 q8 q9 q10 q11 th (cpF asd ss 0) asd sts sm snp hx tx lgt can szs ptn nms pth att isw rdd rmy)) (by rw [cpF_0]) ?_
  refine g_iconst (pc := 0) (v := nI 0) C dX6_takeBack_0 (by decide) ?_
  refine g_istore_n (pc := 1) (lv' := [(1, .int (nI 0)), (0, .ref q0)]) C dX6_takeBack_1 rfl (by decide) rfl ?_
  have L2 : ∀ (NZ : Nat) (i : Nat), 225 - i < NZ → (i ≤ 225) → g_J p l e rm_X6_takeBack s m args below meth co Q D A 2 0 0 (rW cI cC q0 q1 q2 q3 q4 q5 q6 q7 q8 q9 q10 q11 th (cpF asd ss i) asd sts sm snp hx tx lgt can szs ptn nms pth att isw rdd rmy) 2 [(0, .ref q0), (1, .int (nI i))] [] := by
    intro NZ
    induction NZ with
    | zero => intro i hN; exact absurd hN (Nat.not_lt_zero _)
    | succ NZ ih2 =>
      intro i hN2 hi
      refine g_iload_n (pc := 2) C dX6_takeBack_2 1 rfl rfl ?_
      refine g_sipush (pc := 3) (v := nI 225) C dX6_takeBack_3 (by decide) ?_
      refine g_icmp_geN (pc := 6) C 27 (by omega) (by omega) dX6_takeBack_6 (by decide) (fun c6 => ?_) (fun c6 => ?_)
      · refine g_ws (ws' := (rW cI cC q0 q1 q2 q3 q4 q5 q6 q7 q8 q9 q10 q11 th (cpF asd ss 225) asd sts sm snp hx tx lgt can szs ptn nms pth att isw rdd rmy)) (by rw [show i = 225 by omega]) ?_
        exact g_vret C hr hQ dX6_takeBack_27 rfl ⟨rfl, rfl⟩
      · refine g_aload_n (pc := 9) C dX6_takeBack_9 0 rfl rfl ?_
        refine g_get (pc := 10) (ci := 6) (T := TX6) (N := 18) (v := .ref q1) C in_X6_takeBack_X6 0 rfl rfl 1 (by decide) fl_X6_takeBack_7 rfl rfl dX6_takeBack_10 ?_
        refine g_iload_n (pc := 13) C dX6_takeBack_13 1 rfl rfl ?_
        refine g_aload_n (pc := 14) C dX6_takeBack_14 0 rfl rfl ?_
        refine g_get (pc := 15) (ci := 6) (T := TX6) (N := 18) (v := .ref q2) C in_X6_takeBack_X6 0 rfl rfl 2 (by decide) fl_X6_takeBack_13 rfl rfl dX6_takeBack_15 ?_
        refine g_iload_n (pc := 18) C dX6_takeBack_18 1 rfl rfl ?_
        refine g_ialdN (pc := 19) (f := asd) C 2 rfl (by omega) (by decide) dX6_takeBack_19 ?_
        refine g_iastN (pc := 20) (f := (cpF asd ss i)) (ws' := (rW cI cC q0 q1 q2 q3 q4 q5 q6 q7 q8 q9 q10 q11 th (upd (cpF asd ss i) i ((asd i))) asd sts sm snp hx tx lgt can szs ptn nms pth att isw rdd rmy)) C 1 rfl (by omega) (by decide) dX6_takeBack_20 rfl ?_
        refine g_iinc (pc := 21) (lv' := [(1, .int (nI (i + 1))), (0, .ref q0)]) C dX6_takeBack_21 1 rfl (nI_add i 1) (by decide) rfl ?_
        refine g_goto (pc := 24) C 2 dX6_takeBack_24 (by decide) ?_
        refine g_ws (ws' := (rW cI cC q0 q1 q2 q3 q4 q5 q6 q7 q8 q9 q10 q11 th (cpF asd ss (i + 1)) asd sts sm snp hx tx lgt can szs ptn nms pth att isw rdd rmy)) (by rw [cpF_s]) ?_
        refine g_lvp (lv' := [(0, .ref q0), (1, .int (nI (i + 1)))]) [1, 0] rfl ?_
        exact ih2 (i + 1) (by omega) (by first | assumption | omega)
  refine g_lvp (lv' := [(0, .ref q0), (1, .int (nI 0))]) [1, 0] rfl ?_
  exact L2 _ 0 (Nat.lt_succ_self _) (by first | assumption | omega)

abbrev rm_X6_areLinked : Room := { frames := 0, cells := 0, slots := 0, locals := 0 }
theorem yd_X6_areLinked : yX6_areLinked.cls = RX6 ∧ yX6_areLinked.cls ≠ "java/lang/invoke/MethodHandle" ∧ yX6_areLinked.cls ≠ "java/lang/invoke/VarHandle" ∧ (parseMethodDescriptor yX6_areLinked.desc).map (fun d => d.parameters.length) = some 2 := by decide +kernel
theorem in_X6_areLinked_X6 : ∀ w ∈ u_ws RX6 TX6 18, w ∈ wsX6_areLinked := by decide +kernel
theorem fl_X6_areLinked_7 : Cond.fieldLink RX6 7 "FenceHandshakesModel" "s" "[I" ∈ wsX6_areLinked := by decide +kernel
set_option maxHeartbeats 4000000 in
set_option maxRecDepth 100000 in
theorem m_X6_areLinked (l : Launch) (D : va_G) (cI cC : ClassId) (q0 q1 q2 q3 q4 q5 q6 q7 q8 q9 q10 q11 : Nat) (th : Int32) (ss : Nat → Int32) (asd : Nat → Int32) (sts : Nat → Int32) (sm : Int32) (snp : Nat → Int32) (hx : Int32) (tx : Nat → Int32) (lgt : Int32) (can : Nat → Int32) (szs : Nat → Int32) (ptn : Nat → Int32) (nms : Nat → Int32) (pth : Nat → Int32) (att : Int32) (isw : Int32) (rdd : Nat → Int32) (rmy : Int32) (c : Nat → Int32) (a : Nat) (b : Nat) (ha : a < 8) (hb : b < 8) (hS : SR c ss) : g_M l yX6_areLinked wsX6_areLinked rm_X6_areLinked D cI cC [.ref q0, .int (nI a), .int (nI b)] (rW cI cC q0 q1 q2 q3 q4 q5 q6 q7 q8 q9 q10 q11 th ss asd sts sm snp hx tx lgt can szs ptn nms pth att isw rdd rmy) (fun vv ww => vv = some (.int (bI (glC c a b))) ∧ ww = (rW cI cC q0 q1 q2 q3 q4 q5 q6 q7 q8 q9 q10 q11 th ss asd sts sm snp hx tx lgt can szs ptn nms pth att isw rdd rmy)) := by
  refine g_entry (lv := [(0, .ref q0), (1, .int (nI a)), (2, .int (nI b))]) (own := RX6) (by decide) rfl rfl (Nat.le_of_ble_eq_true rfl) rfl ?_
  intro p e s m args below meth co A Q C hr hQ
  have g1 := hS.ok.g4 (k := a) (by omega)
  have g2 := hS.ok.g4 (k := 8 + b) (by omega)
  refine g_aload_n (pc := 0) C dX6_areLinked_0 0 rfl rfl ?_
  refine g_get (pc := 1) (ci := 6) (T := TX6) (N := 18) (v := .ref q1) C in_X6_areLinked_X6 0 rfl rfl 1 (by decide) fl_X6_areLinked_7 rfl rfl dX6_areLinked_1 ?_
  refine g_bipush (pc := 4) (v := nI 17) C dX6_areLinked_4 (by decide) ?_
  refine g_iconst (pc := 6) (v := nI 4) C dX6_areLinked_6 (by decide) ?_
  refine g_aload_n (pc := 7) C dX6_areLinked_7 0 rfl rfl ?_
  refine g_get (pc := 8) (ci := 6) (T := TX6) (N := 18) (v := .ref q1) C in_X6_areLinked_X6 0 rfl rfl 1 (by decide) fl_X6_areLinked_7 rfl rfl dX6_areLinked_8 ?_
  refine g_iconst (pc := 11) (v := nI 1) C dX6_areLinked_11 (by decide) ?_
  refine g_iload_n (pc := 12) C dX6_areLinked_12 1 rfl rfl ?_
  refine g_iaddN (pc := 13) C dX6_areLinked_13 ?_
  refine g_ialdN (pc := 14) (f := ss) C 1 rfl (by omega) (by decide) dX6_areLinked_14 ?_
  refine g_top (y := nI (cN c a)) (hS.gN (by omega)) ?_
  refine g_imulN (pc := 15) C dX6_areLinked_15 ?_
  refine g_iaddN (pc := 16) C dX6_areLinked_16 ?_
  refine g_aload_n (pc := 17) C dX6_areLinked_17 0 rfl rfl ?_
  refine g_get (pc := 18) (ci := 6) (T := TX6) (N := 18) (v := .ref q1) C in_X6_areLinked_X6 0 rfl rfl 1 (by decide) fl_X6_areLinked_7 rfl rfl dX6_areLinked_18 ?_
  refine g_bipush (pc := 21) (v := nI 9) C dX6_areLinked_21 (by decide) ?_
  refine g_iload_n (pc := 23) C dX6_areLinked_23 2 rfl rfl ?_
  refine g_iaddN (pc := 24) C dX6_areLinked_24 ?_
  refine g_ialdN (pc := 25) (f := ss) C 1 rfl (by omega) (by decide) dX6_areLinked_25 ?_
  refine g_top (y := nI (cN c (8 + b))) (by rw [show 9 + b = 1 + (8 + b) by omega]; exact hS.gN (by omega)) ?_
  refine g_iaddN (pc := 26) C dX6_areLinked_26 ?_
  refine g_ialdN (pc := 27) (f := ss) C 1 rfl (by omega) (by decide) dX6_areLinked_27 ?_
  refine g_top (y := bI (glC c a b)) (hS.l g1 g2) ?_
  refine g_iconst (pc := 28) (v := nI 1) C dX6_areLinked_28 (by decide) ?_
  refine g_top2 (y := nI (if (glC c a b) then 1 else 0)) (bI_nI _) ?_
  refine g_icmp_neN (pc := 29) C 36 (ite_lt _) (by decide) dX6_areLinked_29 (by decide) (fun c29 => ?_) (fun c29 => ?_)
  · refine g_iconst (pc := 36) (v := nI 0) C dX6_areLinked_36 (by decide) ?_
    refine g_top (y := bI (glC c a b)) (by rw [b1_f c29]; rfl) ?_
    exact g_zret C hr hQ dX6_areLinked_37 rfl ⟨rfl, rfl⟩
  · refine g_iconst (pc := 32) (v := nI 1) C dX6_areLinked_32 (by decide) ?_
    refine g_goto (pc := 33) C 37 dX6_areLinked_33 (by decide) ?_
    refine g_top (y := bI (glC c a b)) (by rw [b1_t c29]; rfl) ?_
    exact g_zret C hr hQ dX6_areLinked_37 rfl ⟨rfl, rfl⟩

abbrev rm_X6_isOpen : Room := { frames := 0, cells := 0, slots := 0, locals := 0 }
theorem yd_X6_isOpen : yX6_isOpen.cls = RX6 ∧ yX6_isOpen.cls ≠ "java/lang/invoke/MethodHandle" ∧ yX6_isOpen.cls ≠ "java/lang/invoke/VarHandle" ∧ (parseMethodDescriptor yX6_isOpen.desc).map (fun d => d.parameters.length) = some 2 := by decide +kernel
theorem in_X6_isOpen_X6 : ∀ w ∈ u_ws RX6 TX6 18, w ∈ wsX6_isOpen := by decide +kernel
theorem fl_X6_isOpen_7 : Cond.fieldLink RX6 7 "FenceHandshakesModel" "s" "[I" ∈ wsX6_isOpen := by decide +kernel
set_option maxHeartbeats 4000000 in
set_option maxRecDepth 100000 in
theorem m_X6_isOpen (l : Launch) (D : va_G) (cI cC : ClassId) (q0 q1 q2 q3 q4 q5 q6 q7 q8 q9 q10 q11 : Nat) (th : Int32) (ss : Nat → Int32) (asd : Nat → Int32) (sts : Nat → Int32) (sm : Int32) (snp : Nat → Int32) (hx : Int32) (tx : Nat → Int32) (lgt : Int32) (can : Nat → Int32) (szs : Nat → Int32) (ptn : Nat → Int32) (nms : Nat → Int32) (pth : Nat → Int32) (att : Int32) (isw : Int32) (rdd : Nat → Int32) (rmy : Int32) (c : Nat → Int32) (a : Nat) (b : Nat) (ha : a < 8) (hb : b < 8) (hS : SR c ss) : g_M l yX6_isOpen wsX6_isOpen rm_X6_isOpen D cI cC [.ref q0, .int (nI a), .int (nI b)] (rW cI cC q0 q1 q2 q3 q4 q5 q6 q7 q8 q9 q10 q11 th ss asd sts sm snp hx tx lgt can szs ptn nms pth att isw rdd rmy) (fun vv ww => vv = some (.int (bI (wiC c a b))) ∧ ww = (rW cI cC q0 q1 q2 q3 q4 q5 q6 q7 q8 q9 q10 q11 th ss asd sts sm snp hx tx lgt can szs ptn nms pth att isw rdd rmy)) := by
  refine g_entry (lv := [(0, .ref q0), (1, .int (nI a)), (2, .int (nI b))]) (own := RX6) (by decide) rfl rfl (Nat.le_of_ble_eq_true rfl) rfl ?_
  intro p e s m args below meth co A Q C hr hQ
  refine g_aload_n (pc := 0) C dX6_isOpen_0 0 rfl rfl ?_
  refine g_get (pc := 1) (ci := 6) (T := TX6) (N := 18) (v := .ref q1) C in_X6_isOpen_X6 0 rfl rfl 1 (by decide) fl_X6_isOpen_7 rfl rfl dX6_isOpen_1 ?_
  refine g_bipush (pc := 4) (v := nI 97) C dX6_isOpen_4 (by decide) ?_
  refine g_bipush (pc := 6) (v := nI 8) C dX6_isOpen_6 (by decide) ?_
  refine g_iload_n (pc := 8) C dX6_isOpen_8 1 rfl rfl ?_
  refine g_imulN (pc := 9) C dX6_isOpen_9 ?_
  refine g_iaddN (pc := 10) C dX6_isOpen_10 ?_
  refine g_iload_n (pc := 11) C dX6_isOpen_11 2 rfl rfl ?_
  refine g_iaddN (pc := 12) C dX6_isOpen_12 ?_
  refine g_ialdN (pc := 13) (f := ss) C 1 rfl (by omega) (by decide) dX6_isOpen_13 ?_
  refine g_top (y := bI (wiC c a b)) (hS.w ha hb) ?_
  refine g_iconst (pc := 14) (v := nI 1) C dX6_isOpen_14 (by decide) ?_
  refine g_top2 (y := nI (if (wiC c a b) then 1 else 0)) (bI_nI _) ?_
  refine g_icmp_neN (pc := 15) C 22 (ite_lt _) (by decide) dX6_isOpen_15 (by decide) (fun c15 => ?_) (fun c15 => ?_)
  · refine g_iconst (pc := 22) (v := nI 0) C dX6_isOpen_22 (by decide) ?_
    refine g_top (y := bI (wiC c a b)) (by rw [b1_f c15]; rfl) ?_
    exact g_zret C hr hQ dX6_isOpen_23 rfl ⟨rfl, rfl⟩
  · refine g_iconst (pc := 18) (v := nI 1) C dX6_isOpen_18 (by decide) ?_
    refine g_goto (pc := 19) C 23 dX6_isOpen_19 (by decide) ?_
    refine g_top (y := bI (wiC c a b)) (by rw [b1_t c15]; rfl) ?_
    exact g_zret C hr hQ dX6_isOpen_23 rfl ⟨rfl, rfl⟩

abbrev rm_X6_canMeet : Room := { frames := 1, cells := 0, slots := 0, locals := 22 }
theorem yd_X6_canMeet : yX6_canMeet.cls = RX6 ∧ yX6_canMeet.cls ≠ "java/lang/invoke/MethodHandle" ∧ yX6_canMeet.cls ≠ "java/lang/invoke/VarHandle" ∧ (parseMethodDescriptor yX6_canMeet.desc).map (fun d => d.parameters.length) = some 2 := by decide +kernel
theorem in_X6_canMeet_X6 : ∀ w ∈ u_ws RX6 TX6 18, w ∈ wsX6_canMeet := by decide +kernel
theorem fl_X6_canMeet_7 : Cond.fieldLink RX6 7 "FenceHandshakesModel" "s" "[I" ∈ wsX6_canMeet := by decide +kernel
set_option maxHeartbeats 4000000 in
set_option maxRecDepth 100000 in
theorem m_X6_canMeet (l : Launch) (D : va_G) (cI cC : ClassId) (q0 q1 q2 q3 q4 q5 q6 q7 q8 q9 q10 q11 : Nat) (th : Int32) (ss : Nat → Int32) (asd : Nat → Int32) (sts : Nat → Int32) (sm : Int32) (snp : Nat → Int32) (hx : Int32) (tx : Nat → Int32) (lgt : Int32) (can : Nat → Int32) (szs : Nat → Int32) (ptn : Nat → Int32) (nms : Nat → Int32) (pth : Nat → Int32) (att : Int32) (isw : Int32) (rdd : Nat → Int32) (rmy : Int32) (c : Nat → Int32) (a : Nat) (b : Nat) (ha : a < 8) (hb : b < 8) (hS : SR c ss) : g_M l yX6_canMeet wsX6_canMeet rm_X6_canMeet D cI cC [.ref q0, .int (nI a), .int (nI b)] (rW cI cC q0 q1 q2 q3 q4 q5 q6 q7 q8 q9 q10 q11 th ss asd sts sm snp hx tx lgt can szs ptn nms pth att isw rdd rmy) (fun vv ww => vv = some (.int (bI (caC c a b))) ∧ ww = (rW cI cC q0 q1 q2 q3 q4 q5 q6 q7 q8 q9 q10 q11 th ss asd sts sm snp hx tx lgt can szs ptn nms pth att isw rdd rmy)) := by
  refine g_entry (lv := [(0, .ref q0), (1, .int (nI a)), (2, .int (nI b))]) (own := RX6) (by decide) rfl rfl (Nat.le_of_ble_eq_true rfl) rfl ?_
  intro p e s m args below meth co A Q C hr hQ
  refine g_aload_n (pc := 0) C dX6_canMeet_0 0 rfl rfl ?_
  refine g_iload_n (pc := 1) C dX6_canMeet_1 1 rfl rfl ?_
  refine g_iload_n (pc := 2) C dX6_canMeet_2 2 rfl rfl ?_
  refine g_callV (pc := 3) (st := []) (As := [.int (nI a), .int (nI b)]) (nn := 2) (ci := 6) (q0 := 0) C (m_X6_areLinked l D cI cC q0 q1 q2 q3 q4 q5 q6 q7 q8 q9 q10 q11 th ss asd sts sm snp hx tx lgt can szs ptn nms pth att isw rdd rmy c a b (by first | assumption | omega) (by first | assumption | omega) (by first | assumption | omega)) gX6_canMeet_X6_areLinked rfl rfl rfl yd_X6_areLinked ⟨Nat.le_of_ble_eq_true rfl, Nat.le_of_ble_eq_true rfl⟩ rfl [0, 1, 2, 3, 4, 5, 6, 7, 8, 9, 10, 11] rfl rfl rfl rfl rfl (Nat.le_of_ble_eq_true rfl) ⟨Nat.le_of_ble_eq_true rfl, Nat.le_of_ble_eq_true rfl⟩ dX6_canMeet_3 ?_
  rintro _ _ ⟨rfl, rfl⟩
  refine g_eq (ws' := (rW cI cC q0 q1 q2 q3 q4 q5 q6 q7 q8 q9 q10 q11 th ss asd sts sm snp hx tx lgt can szs ptn nms pth att isw rdd rmy)) (st' := [.int (bI (glC c a b))]) rfl rfl ?_
  refine g_if_eqB (pc := 6) C 30 dX6_canMeet_6 (by decide) (fun c6 => ?_) (fun c6 => ?_)
  · refine g_iconst (pc := 30) (v := nI 0) C dX6_canMeet_30 (by decide) ?_
    refine g_top (y := bI (caC c a b)) (by rw [caC, c6, Bool.and_false]; rfl) ?_
    exact g_zret C hr hQ dX6_canMeet_31 rfl ⟨rfl, rfl⟩
  · refine g_aload_n (pc := 9) C dX6_canMeet_9 0 rfl rfl ?_
    refine g_get (pc := 10) (ci := 6) (T := TX6) (N := 18) (v := .ref q1) C in_X6_canMeet_X6 0 rfl rfl 1 (by decide) fl_X6_canMeet_7 rfl rfl dX6_canMeet_10 ?_
    refine g_bipush (pc := 13) (v := nI 33) C dX6_canMeet_13 (by decide) ?_
    refine g_bipush (pc := 15) (v := nI 8) C dX6_canMeet_15 (by decide) ?_
    refine g_iload_n (pc := 17) C dX6_canMeet_17 1 rfl rfl ?_
    refine g_imulN (pc := 18) C dX6_canMeet_18 ?_
    refine g_iaddN (pc := 19) C dX6_canMeet_19 ?_
    refine g_iload_n (pc := 20) C dX6_canMeet_20 2 rfl rfl ?_
    refine g_iaddN (pc := 21) C dX6_canMeet_21 ?_
    refine g_ialdN (pc := 22) (f := ss) C 1 rfl (by omega) (by decide) dX6_canMeet_22 ?_
    refine g_top (y := (feC c a b)) (hS.fe ha hb) ?_
    refine g_if_ne (pc := 23) C 30 dX6_canMeet_23 (by decide) (fun c23 => ?_) (fun c23 => ?_)
    · refine g_iconst (pc := 30) (v := nI 0) C dX6_canMeet_30 (by decide) ?_
      refine g_top (y := bI (caC c a b)) (by rw [caC, decide_eq_false c23]; rfl) ?_
      exact g_zret C hr hQ dX6_canMeet_31 rfl ⟨rfl, rfl⟩
    · refine g_iconst (pc := 26) (v := nI 1) C dX6_canMeet_26 (by decide) ?_
      refine g_goto (pc := 27) C 31 dX6_canMeet_27 (by decide) ?_
      refine g_top (y := bI (caC c a b)) (by rw [caC, c6, decide_eq_true c23]; rfl) ?_
      exact g_zret C hr hQ dX6_canMeet_31 rfl ⟨rfl, rfl⟩

abbrev rm_X6_isPossible : Room := { frames := 2, cells := 0, slots := 0, locals := 44 }
theorem yd_X6_isPossible : yX6_isPossible.cls = RX6 ∧ yX6_isPossible.cls ≠ "java/lang/invoke/MethodHandle" ∧ yX6_isPossible.cls ≠ "java/lang/invoke/VarHandle" ∧ (parseMethodDescriptor yX6_isPossible.desc).map (fun d => d.parameters.length) = some 2 := by decide +kernel
set_option maxHeartbeats 4000000 in
set_option maxRecDepth 100000 in
theorem m_X6_isPossible (l : Launch) (D : va_G) (cI cC : ClassId) (q0 q1 q2 q3 q4 q5 q6 q7 q8 q9 q10 q11 : Nat) (th : Int32) (ss : Nat → Int32) (asd : Nat → Int32) (sts : Nat → Int32) (sm : Int32) (snp : Nat → Int32) (hx : Int32) (tx : Nat → Int32) (lgt : Int32) (can : Nat → Int32) (szs : Nat → Int32) (ptn : Nat → Int32) (nms : Nat → Int32) (pth : Nat → Int32) (att : Int32) (isw : Int32) (rdd : Nat → Int32) (rmy : Int32) (c : Nat → Int32) (a : Nat) (b : Nat) (ha : a < 8) (hb : b < 8) (hS : SR c ss) : g_M l yX6_isPossible wsX6_isPossible rm_X6_isPossible D cI cC [.ref q0, .int (nI a), .int (nI b)] (rW cI cC q0 q1 q2 q3 q4 q5 q6 q7 q8 q9 q10 q11 th ss asd sts sm snp hx tx lgt can szs ptn nms pth att isw rdd rmy) (fun vv ww => vv = some (.int (bI (poC c a b))) ∧ ww = (rW cI cC q0 q1 q2 q3 q4 q5 q6 q7 q8 q9 q10 q11 th ss asd sts sm snp hx tx lgt can szs ptn nms pth att isw rdd rmy)) := by
  refine g_entry (lv := [(0, .ref q0), (1, .int (nI a)), (2, .int (nI b))]) (own := RX6) (by decide) rfl rfl (Nat.le_of_ble_eq_true rfl) rfl ?_
  intro p e s m args below meth co A Q C hr hQ
  refine g_aload_n (pc := 0) C dX6_isPossible_0 0 rfl rfl ?_
  refine g_iload_n (pc := 1) C dX6_isPossible_1 1 rfl rfl ?_
  refine g_iload_n (pc := 2) C dX6_isPossible_2 2 rfl rfl ?_
  refine g_callV (pc := 3) (st := []) (As := [.int (nI a), .int (nI b)]) (nn := 2) (ci := 6) (q0 := 0) C (m_X6_isOpen l D cI cC q0 q1 q2 q3 q4 q5 q6 q7 q8 q9 q10 q11 th ss asd sts sm snp hx tx lgt can szs ptn nms pth att isw rdd rmy c a b (by first | assumption | omega) (by first | assumption | omega) (by first | assumption | omega)) gX6_isPossible_X6_isOpen rfl rfl rfl yd_X6_isOpen ⟨Nat.le_of_ble_eq_true rfl, Nat.le_of_ble_eq_true rfl⟩ rfl [0, 1, 2, 3, 4, 5, 6, 7, 8, 9, 10, 11] rfl rfl rfl rfl rfl (Nat.le_of_ble_eq_true rfl) ⟨Nat.le_of_ble_eq_true rfl, Nat.le_of_ble_eq_true rfl⟩ dX6_isPossible_3 ?_
  rintro _ _ ⟨rfl, rfl⟩
  refine g_eq (ws' := (rW cI cC q0 q1 q2 q3 q4 q5 q6 q7 q8 q9 q10 q11 th ss asd sts sm snp hx tx lgt can szs ptn nms pth att isw rdd rmy)) (st' := [.int (bI (wiC c a b))]) rfl rfl ?_
  refine g_if_eqB (pc := 6) C 22 dX6_isPossible_6 (by decide) (fun c6 => ?_) (fun c6 => ?_)
  · refine g_iconst (pc := 22) (v := nI 0) C dX6_isPossible_22 (by decide) ?_
    refine g_top (y := bI (poC c a b)) (by rw [poC, c6]; rfl) ?_
    exact g_zret C hr hQ dX6_isPossible_23 rfl ⟨rfl, rfl⟩
  · refine g_aload_n (pc := 9) C dX6_isPossible_9 0 rfl rfl ?_
    refine g_iload_n (pc := 10) C dX6_isPossible_10 1 rfl rfl ?_
    refine g_iload_n (pc := 11) C dX6_isPossible_11 2 rfl rfl ?_
    refine g_callV (pc := 12) (st := []) (As := [.int (nI a), .int (nI b)]) (nn := 2) (ci := 6) (q0 := 0) C (m_X6_canMeet l D cI cC q0 q1 q2 q3 q4 q5 q6 q7 q8 q9 q10 q11 th ss asd sts sm snp hx tx lgt can szs ptn nms pth att isw rdd rmy c a b (by first | assumption | omega) (by first | assumption | omega) (by first | assumption | omega)) gX6_isPossible_X6_canMeet rfl rfl rfl yd_X6_canMeet ⟨Nat.le_of_ble_eq_true rfl, Nat.le_of_ble_eq_true rfl⟩ rfl [0, 1, 2, 3, 4, 5, 6, 7, 8, 9, 10, 11] rfl rfl rfl rfl rfl (Nat.le_of_ble_eq_true rfl) ⟨Nat.le_of_ble_eq_true rfl, Nat.le_of_ble_eq_true rfl⟩ dX6_isPossible_12 ?_
    rintro _ _ ⟨rfl, rfl⟩
    refine g_eq (ws' := (rW cI cC q0 q1 q2 q3 q4 q5 q6 q7 q8 q9 q10 q11 th ss asd sts sm snp hx tx lgt can szs ptn nms pth att isw rdd rmy)) (st' := [.int (bI (caC c a b))]) rfl rfl ?_
    refine g_if_eqB (pc := 15) C 22 dX6_isPossible_15 (by decide) (fun c15 => ?_) (fun c15 => ?_)
    · refine g_iconst (pc := 22) (v := nI 0) C dX6_isPossible_22 (by decide) ?_
      refine g_top (y := bI (poC c a b)) (by rw [poC, c6, c15]; rfl) ?_
      exact g_zret C hr hQ dX6_isPossible_23 rfl ⟨rfl, rfl⟩
    · refine g_iconst (pc := 18) (v := nI 1) C dX6_isPossible_18 (by decide) ?_
      refine g_goto (pc := 19) C 23 dX6_isPossible_19 (by decide) ?_
      refine g_top (y := bI (poC c a b)) (by rw [poC, c6, c15]; rfl) ?_
      exact g_zret C hr hQ dX6_isPossible_23 rfl ⟨rfl, rfl⟩

abbrev rm_X6_openMany : Room := { frames := 0, cells := 0, slots := 0, locals := 0 }
theorem yd_X6_openMany : yX6_openMany.cls = RX6 ∧ yX6_openMany.cls ≠ "java/lang/invoke/MethodHandle" ∧ yX6_openMany.cls ≠ "java/lang/invoke/VarHandle" ∧ (parseMethodDescriptor yX6_openMany.desc).map (fun d => d.parameters.length) = some 0 := by decide +kernel
theorem in_X6_openMany_X6 : ∀ w ∈ u_ws RX6 TX6 18, w ∈ wsX6_openMany := by decide +kernel
theorem fl_X6_openMany_7 : Cond.fieldLink RX6 7 "FenceHandshakesModel" "s" "[I" ∈ wsX6_openMany := by decide +kernel
set_option maxHeartbeats 4000000 in
set_option maxRecDepth 100000 in
theorem m_X6_openMany (l : Launch) (D : va_G) (cI cC : ClassId) (q0 q1 q2 q3 q4 q5 q6 q7 q8 q9 q10 q11 : Nat) (th : Int32) (ss : Nat → Int32) (asd : Nat → Int32) (sts : Nat → Int32) (sm : Int32) (snp : Nat → Int32) (hx : Int32) (tx : Nat → Int32) (lgt : Int32) (can : Nat → Int32) (szs : Nat → Int32) (ptn : Nat → Int32) (nms : Nat → Int32) (pth : Nat → Int32) (att : Int32) (isw : Int32) (rdd : Nat → Int32) (rmy : Int32) (c : Nat → Int32) (hS : SR c ss) : g_M l yX6_openMany wsX6_openMany rm_X6_openMany D cI cC [.ref q0] (rW cI cC q0 q1 q2 q3 q4 q5 q6 q7 q8 q9 q10 q11 th ss asd sts sm snp hx tx lgt can szs ptn nms pth att isw rdd rmy) (fun vv ww => vv = some (.int (nI (nwC c 8))) ∧ ww = (rW cI cC q0 q1 q2 q3 q4 q5 q6 q7 q8 q9 q10 q11 th ss asd sts sm snp hx tx lgt can szs ptn nms pth att isw rdd rmy)) := by
  refine g_entry (lv := [(0, .ref q0)]) (own := RX6) (by decide) rfl rfl (Nat.le_of_ble_eq_true rfl) rfl ?_
  intro p e s m args below meth co A Q C hr hQ
  refine g_iconst (pc := 0) (v := nI 0) C dX6_openMany_0 (by decide) ?_
  refine g_istore_n (pc := 1) (lv' := [(1, .int (nI 0)), (0, .ref q0)]) C dX6_openMany_1 rfl (by decide) rfl ?_
  refine g_iconst (pc := 2) (v := nI 0) C dX6_openMany_2 (by decide) ?_
  refine g_istore_n (pc := 3) (lv' := [(2, .int (nI 0)), (1, .int (nI 0)), (0, .ref q0)]) C dX6_openMany_3 rfl (by decide) rfl ?_
  have L4 : ∀ (NZ : Nat) (i : Nat) (u : Nat), 64 - i < NZ → (i ≤ 64) → (u = cnt (wq c) i) → g_J p l e rm_X6_openMany s m args below meth co Q D A 3 0 0 (rW cI cC q0 q1 q2 q3 q4 q5 q6 q7 q8 q9 q10 q11 th ss asd sts sm snp hx tx lgt can szs ptn nms pth att isw rdd rmy) 4 [(0, .ref q0), (1, .int (nI u)), (2, .int (nI i))] [] := by
    intro NZ
    induction NZ with
    | zero => intro i u hN; exact absurd hN (Nat.not_lt_zero _)
    | succ NZ ih4 =>
      intro i u hN4 hi hu
      refine g_iload_n (pc := 4) C dX6_openMany_4 2 rfl rfl ?_
      refine g_bipush (pc := 5) (v := nI 64) C dX6_openMany_5 (by decide) ?_
      refine g_icmp_geN (pc := 7) C 28 (by omega) (by omega) dX6_openMany_7 (by decide) (fun c7 => ?_) (fun c7 => ?_)
      · refine g_iload_n (pc := 28) C dX6_openMany_28 1 rfl rfl ?_
        refine g_top (y := nI (nwC c 8)) (by rw [hu, show i = 8 * 8 by omega, cnt_nw hS.ok 8 (Nat.le_refl _)]) ?_
        exact g_iret C hr hQ dX6_openMany_29 rfl ⟨rfl, rfl⟩
      · refine g_iload_n (pc := 10) C dX6_openMany_10 1 rfl rfl ?_
        refine g_aload_n (pc := 11) C dX6_openMany_11 0 rfl rfl ?_
        refine g_get (pc := 12) (ci := 6) (T := TX6) (N := 18) (v := .ref q1) C in_X6_openMany_X6 0 rfl rfl 1 (by decide) fl_X6_openMany_7 rfl rfl dX6_openMany_12 ?_
        refine g_bipush (pc := 15) (v := nI 97) C dX6_openMany_15 (by decide) ?_
        refine g_iload_n (pc := 17) C dX6_openMany_17 2 rfl rfl ?_
        refine g_iaddN (pc := 18) C dX6_openMany_18 ?_
        refine g_ialdN (pc := 19) (f := ss) C 1 rfl (by omega) (by decide) dX6_openMany_19 ?_
        refine g_top (y := bI (wq c i)) (hS.wk (by omega)) ?_
        refine g_top (y := nI (if (wq c i) then 1 else 0)) (bI_nI _) ?_
        refine g_iaddN (pc := 20) C dX6_openMany_20 ?_
        refine g_istore_n (pc := 21) (lv' := [(1, .int (nI (u + (if (wq c i) then 1 else 0)))), (0, .ref q0), (2, .int (nI i))]) C dX6_openMany_21 rfl (by decide) rfl ?_
        refine g_iinc (pc := 22) (lv' := [(2, .int (nI (i + 1))), (1, .int (nI (u + (if (wq c i) then 1 else 0)))), (0, .ref q0)]) C dX6_openMany_22 2 rfl (nI_add i 1) (by decide) rfl ?_
        refine g_goto (pc := 25) C 4 dX6_openMany_25 (by decide) ?_
        refine g_lvp (lv' := [(0, .ref q0), (1, .int (nI (u + (if (wq c i) then 1 else 0)))), (2, .int (nI (i + 1)))]) [2, 1, 0] rfl ?_
        exact ih4 (i + 1) (u + (if (wq c i) then 1 else 0)) (by omega) (by first | assumption | omega) (by rw [hu]; rfl)
  refine g_lvp (lv' := [(0, .ref q0), (1, .int (nI 0)), (2, .int (nI 0))]) [2, 1, 0] rfl ?_
  exact L4 _ 0 0 (Nat.lt_succ_self _) (by first | assumption | omega) (rfl)

abbrev rm_X6_wish : Room := { frames := 3, cells := 0, slots := 0, locals := 63 }
theorem yd_X6_wish : yX6_wish.cls = RX6 ∧ yX6_wish.cls ≠ "java/lang/invoke/MethodHandle" ∧ yX6_wish.cls ≠ "java/lang/invoke/VarHandle" ∧ (parseMethodDescriptor yX6_wish.desc).map (fun d => d.parameters.length) = some 2 := by decide +kernel
theorem in_X6_wish_X6 : ∀ w ∈ u_ws RX6 TX6 18, w ∈ wsX6_wish := by decide +kernel
theorem fl_X6_wish_7 : Cond.fieldLink RX6 7 "FenceHandshakesModel" "s" "[I" ∈ wsX6_wish := by decide +kernel
theorem fl_X6_wish_43 : Cond.fieldLink RX6 43 "FenceHandshakesModel" "thrown" "I" ∈ wsX6_wish := by decide +kernel
set_option maxHeartbeats 4000000 in
set_option maxRecDepth 100000 in
theorem m_X6_wish (l : Launch) (D : va_G) (cI cC : ClassId) (q0 q1 q2 q3 q4 q5 q6 q7 q8 q9 q10 q11 : Nat) (th : Int32) (ss : Nat → Int32) (asd : Nat → Int32) (sts : Nat → Int32) (snp : Nat → Int32) (hx : Int32) (tx : Nat → Int32) (lgt : Int32) (can : Nat → Int32) (szs : Nat → Int32) (ptn : Nat → Int32) (nms : Nat → Int32) (pth : Nat → Int32) (att : Int32) (isw : Int32) (rdd : Nat → Int32) (rmy : Int32) (z : Nat) (c : Nat → Int32) (x : Int32) (y : Int32) (hS : SR c ss) (hz : z ≤ 5) : g_M l yX6_wish wsX6_wish rm_X6_wish D cI cC [.ref q0, .int x, .int y] (rW cI cC q0 q1 q2 q3 q4 q5 q6 q7 q8 q9 q10 q11 th ss asd sts (nI z) snp hx tx lgt can szs ptn nms pth att isw rdd rmy) (fun vv ww => ∃ (ss2 : Nat → Int32) (sts2 : Nat → Int32) (z2 : Nat), vv = some (.int (xwV c x y)) ∧ ww = (rW cI cC q0 q1 q2 q3 q4 q5 q6 q7 q8 q9 q10 q11 (nI 0) ss2 asd sts2 (nI z2) snp hx tx lgt can szs ptn nms pth att isw rdd rmy) ∧ RA (xwQ c x y) (xwC c x y) ss sts z ss2 sts2 z2) := by
  refine g_entry (lv := [(0, .ref q0), (1, .int x), (2, .int y)]) (own := RX6) (by decide) rfl rfl (Nat.le_of_ble_eq_true rfl) rfl ?_
  intro p e s m args below meth co A Q C hr hQ
  refine g_aload_n (pc := 0) C dX6_wish_0 0 rfl rfl ?_
  refine g_iconst (pc := 1) (v := nI 0) C dX6_wish_1 (by decide) ?_
  refine g_put (pc := 2) (ci := 6) (T := TX6) (N := 18) (ws' := (rW cI cC q0 q1 q2 q3 q4 q5 q6 q7 q8 q9 q10 q11 (nI 0) ss asd sts (nI z) snp hx tx lgt can szs ptn nms pth att isw rdd rmy)) (ty := .int) (v := .int (nI 0)) C in_X6_wish_X6 tyX6 tyX6_ok nmX6 0 rfl rfl 0 (by decide) fl_X6_wish_43 rfl rfl (by decide +kernel) rfl rfl (Nat.le_of_ble_eq_true rfl) dX6_wish_2 rfl ?_
  refine g_iload_n (pc := 5) C dX6_wish_5 1 rfl rfl ?_
  refine g_iload_n (pc := 6) C dX6_wish_6 2 rfl rfl ?_
  refine g_callS (pc := 7) (st := []) (As := [.int x, .int y]) (nn := 2) C (m_X6_isPair l D cI cC x y) gX6_wish_X6_isPair rfl rfl rfl yd_X6_isPair.2 ⟨Nat.le_of_ble_eq_true rfl, Nat.le_of_ble_eq_true rfl⟩ rfl [] rfl rfl rfl (Nat.le_of_ble_eq_true rfl) ⟨Nat.le_of_ble_eq_true rfl, Nat.le_of_ble_eq_true rfl⟩ dX6_wish_7 ?_
  rintro _ _ ⟨rfl, rfl⟩
  refine g_eq (ws' := (rW cI cC q0 q1 q2 q3 q4 q5 q6 q7 q8 q9 q10 q11 (nI 0) ss asd sts (nI z) snp hx tx lgt can szs ptn nms pth att isw rdd rmy)) (st' := [.int (bI (two x y))]) rfl rfl ?_
  refine g_if_neB (pc := 10) C 15 dX6_wish_10 (by decide) (fun c10 => ?_) (fun c10 => ?_)
  · obtain ⟨a, b, ha, hb, ex, ey, px, py⟩ := two_ex c10
    refine g_lveq (lv' := [(0, .ref q0), (1, .int (nI a)), (2, .int y)]) (by rw [ex]) ?_
    refine g_lveq (lv' := [(0, .ref q0), (1, .int (nI a)), (2, .int (nI b))]) (by rw [ey]) ?_
    refine g_aload_n (pc := 15) C dX6_wish_15 0 rfl rfl ?_
    refine g_iload_n (pc := 16) C dX6_wish_16 1 rfl rfl ?_
    refine g_iload_n (pc := 17) C dX6_wish_17 2 rfl rfl ?_
    refine g_callV (pc := 18) (st := []) (As := [.int (nI a), .int (nI b)]) (nn := 2) (ci := 6) (q0 := 0) C (m_X6_isOpen l D cI cC q0 q1 q2 q3 q4 q5 q6 q7 q8 q9 q10 q11 (nI 0) ss asd sts (nI z) snp hx tx lgt can szs ptn nms pth att isw rdd rmy c a b (by first | assumption | omega) (by first | assumption | omega) (by first | assumption | omega)) gX6_wish_X6_isOpen rfl rfl rfl yd_X6_isOpen ⟨Nat.le_of_ble_eq_true rfl, Nat.le_of_ble_eq_true rfl⟩ rfl [0, 1, 2, 3, 4, 5, 6, 7, 8, 9, 10, 11] rfl rfl rfl rfl rfl (Nat.le_of_ble_eq_true rfl) ⟨Nat.le_of_ble_eq_true rfl, Nat.le_of_ble_eq_true rfl⟩ dX6_wish_18 ?_
    rintro _ _ ⟨rfl, rfl⟩
    refine g_eq (ws' := (rW cI cC q0 q1 q2 q3 q4 q5 q6 q7 q8 q9 q10 q11 (nI 0) ss asd sts (nI z) snp hx tx lgt can szs ptn nms pth att isw rdd rmy)) (st' := [.int (bI (wiC c a b))]) rfl rfl ?_
    refine g_if_eqB (pc := 21) C 27 dX6_wish_21 (by decide) (fun c21 => ?_) (fun c21 => ?_)
    · refine g_aload_n (pc := 27) C dX6_wish_27 0 rfl rfl ?_
      refine g_callV (pc := 28) (st := []) (As := []) (nn := 0) (ci := 6) (q0 := 0) C (m_X6_records l D cI cC q0 q1 q2 q3 q4 q5 q6 q7 q8 q9 q10 q11 (nI 0) ss asd sts snp hx tx lgt can szs ptn nms pth att isw rdd rmy z (by first | assumption | omega)) gX6_wish_X6_records rfl rfl rfl yd_X6_records ⟨Nat.le_of_ble_eq_true rfl, Nat.le_of_ble_eq_true rfl⟩ rfl [0, 1, 2, 3, 4, 5, 6, 7, 8, 9, 10, 11] rfl rfl rfl rfl rfl (Nat.le_of_ble_eq_true rfl) ⟨Nat.le_of_ble_eq_true rfl, Nat.le_of_ble_eq_true rfl⟩ dX6_wish_28 ?_
      rintro _ _ ⟨rfl, rfl⟩
      refine g_eq (ws' := (rW cI cC q0 q1 q2 q3 q4 q5 q6 q7 q8 q9 q10 q11 (nI 0) ss asd (rcS ss sts z) (nI (kpS z)) snp hx tx lgt can szs ptn nms pth att isw rdd rmy)) (st' := []) rfl rfl ?_
      refine g_aload_n (pc := 31) C dX6_wish_31 0 rfl rfl ?_
      refine g_get (pc := 32) (ci := 6) (T := TX6) (N := 18) (v := .ref q1) C in_X6_wish_X6 0 rfl rfl 1 (by decide) fl_X6_wish_7 rfl rfl dX6_wish_32 ?_
      refine g_bipush (pc := 35) (v := nI 97) C dX6_wish_35 (by decide) ?_
      refine g_bipush (pc := 37) (v := nI 8) C dX6_wish_37 (by decide) ?_
      refine g_iload_n (pc := 39) C dX6_wish_39 1 rfl rfl ?_
      refine g_imulN (pc := 40) C dX6_wish_40 ?_
      refine g_iaddN (pc := 41) C dX6_wish_41 ?_
      refine g_iload_n (pc := 42) C dX6_wish_42 2 rfl rfl ?_
      refine g_iaddN (pc := 43) C dX6_wish_43 ?_
      refine g_iconst (pc := 44) (v := nI 1) C dX6_wish_44 (by decide) ?_
      refine g_iastN (pc := 45) (f := ss) (ws' := (rW cI cC q0 q1 q2 q3 q4 q5 q6 q7 q8 q9 q10 q11 (nI 0) (upd ss ((97 + (8 * a)) + b) (nI 1)) asd (rcS ss sts z) (nI (kpS z)) snp hx tx lgt can szs ptn nms pth att isw rdd rmy)) C 1 rfl (by omega) (by decide) dX6_wish_45 rfl ?_
      refine g_aload_n (pc := 46) C dX6_wish_46 0 rfl rfl ?_
      refine g_callV (pc := 47) (st := []) (As := []) (nn := 0) (ci := 6) (q0 := 0) C (m_X6_openMany l D cI cC q0 q1 q2 q3 q4 q5 q6 q7 q8 q9 q10 q11 (nI 0) (upd ss ((97 + (8 * a)) + b) (nI 1)) asd (rcS ss sts z) (nI (kpS z)) snp hx tx lgt can szs ptn nms pth att isw rdd rmy (upd c (16 + a) (nI (cN c (16 + a) ||| (1 <<< b)))) (hS.wish ha hb)) gX6_wish_X6_openMany rfl rfl rfl yd_X6_openMany ⟨Nat.le_of_ble_eq_true rfl, Nat.le_of_ble_eq_true rfl⟩ rfl [0, 1, 2, 3, 4, 5, 6, 7, 8, 9, 10, 11] rfl rfl rfl rfl rfl (Nat.le_of_ble_eq_true rfl) ⟨Nat.le_of_ble_eq_true rfl, Nat.le_of_ble_eq_true rfl⟩ dX6_wish_47 ?_
      rintro _ _ ⟨rfl, rfl⟩
      refine g_eq (ws' := (rW cI cC q0 q1 q2 q3 q4 q5 q6 q7 q8 q9 q10 q11 (nI 0) (upd ss ((97 + (8 * a)) + b) (nI 1)) asd (rcS ss sts z) (nI (kpS z)) snp hx tx lgt can szs ptn nms pth att isw rdd rmy)) (st' := [.int (nI (nwC (upd c (16 + a) (nI (cN c (16 + a) ||| (1 <<< b)))) 8))]) rfl rfl ?_
      refine g_top (y := (xwV c x y)) (by rw [xwV, xwC, c10, px, py, c21]; rfl) ?_
      exact g_iret C hr hQ dX6_wish_50 rfl ⟨_, _, _, rfl, rfl, by rw [xwQ, xwC, c10, px, py, c21]; exact RA_t (hS.wish ha hb)⟩
    · refine g_bipush (pc := 24) (v := (-4)) C dX6_wish_24 (by decide) ?_
      refine g_top (y := (xwV c x y)) (by rw [xwV, c10, px, py, c21]; rfl) ?_
      exact g_iret C hr hQ dX6_wish_26 rfl ⟨_, _, _, rfl, rfl, by rw [xwQ, c10, px, py, c21]; exact RA_f⟩
  · refine g_iconst (pc := 13) (v := (-1)) C dX6_wish_13 (by decide) ?_
    refine g_top (y := (xwV c x y)) (by rw [xwV, c10]; rfl) ?_
    exact g_iret C hr hQ dX6_wish_14 rfl ⟨_, _, _, rfl, rfl, by rw [xwQ, c10]; exact RA_f⟩

abbrev rm_X6_withdraw : Room := { frames := 3, cells := 0, slots := 0, locals := 63 }
theorem yd_X6_withdraw : yX6_withdraw.cls = RX6 ∧ yX6_withdraw.cls ≠ "java/lang/invoke/MethodHandle" ∧ yX6_withdraw.cls ≠ "java/lang/invoke/VarHandle" ∧ (parseMethodDescriptor yX6_withdraw.desc).map (fun d => d.parameters.length) = some 2 := by decide +kernel
theorem in_X6_withdraw_X6 : ∀ w ∈ u_ws RX6 TX6 18, w ∈ wsX6_withdraw := by decide +kernel
theorem fl_X6_withdraw_7 : Cond.fieldLink RX6 7 "FenceHandshakesModel" "s" "[I" ∈ wsX6_withdraw := by decide +kernel
theorem fl_X6_withdraw_43 : Cond.fieldLink RX6 43 "FenceHandshakesModel" "thrown" "I" ∈ wsX6_withdraw := by decide +kernel
set_option maxHeartbeats 4000000 in
set_option maxRecDepth 100000 in
theorem m_X6_withdraw (l : Launch) (D : va_G) (cI cC : ClassId) (q0 q1 q2 q3 q4 q5 q6 q7 q8 q9 q10 q11 : Nat) (th : Int32) (ss : Nat → Int32) (asd : Nat → Int32) (sts : Nat → Int32) (snp : Nat → Int32) (hx : Int32) (tx : Nat → Int32) (lgt : Int32) (can : Nat → Int32) (szs : Nat → Int32) (ptn : Nat → Int32) (nms : Nat → Int32) (pth : Nat → Int32) (att : Int32) (isw : Int32) (rdd : Nat → Int32) (rmy : Int32) (z : Nat) (c : Nat → Int32) (x : Int32) (y : Int32) (hS : SR c ss) (hz : z ≤ 5) : g_M l yX6_withdraw wsX6_withdraw rm_X6_withdraw D cI cC [.ref q0, .int x, .int y] (rW cI cC q0 q1 q2 q3 q4 q5 q6 q7 q8 q9 q10 q11 th ss asd sts (nI z) snp hx tx lgt can szs ptn nms pth att isw rdd rmy) (fun vv ww => ∃ (ss2 : Nat → Int32) (sts2 : Nat → Int32) (z2 : Nat), vv = some (.int (wdV c x y)) ∧ ww = (rW cI cC q0 q1 q2 q3 q4 q5 q6 q7 q8 q9 q10 q11 (nI 0) ss2 asd sts2 (nI z2) snp hx tx lgt can szs ptn nms pth att isw rdd rmy) ∧ RA (wdQ c x y) (wdC c x y) ss sts z ss2 sts2 z2) := by
  refine g_entry (lv := [(0, .ref q0), (1, .int x), (2, .int y)]) (own := RX6) (by decide) rfl rfl (Nat.le_of_ble_eq_true rfl) rfl ?_
  intro p e s m args below meth co A Q C hr hQ
  refine g_aload_n (pc := 0) C dX6_withdraw_0 0 rfl rfl ?_
  refine g_iconst (pc := 1) (v := nI 0) C dX6_withdraw_1 (by decide) ?_
  refine g_put (pc := 2) (ci := 6) (T := TX6) (N := 18) (ws' := (rW cI cC q0 q1 q2 q3 q4 q5 q6 q7 q8 q9 q10 q11 (nI 0) ss asd sts (nI z) snp hx tx lgt can szs ptn nms pth att isw rdd rmy)) (ty := .int) (v := .int (nI 0)) C in_X6_withdraw_X6 tyX6 tyX6_ok nmX6 0 rfl rfl 0 (by decide) fl_X6_withdraw_43 rfl rfl (by decide +kernel) rfl rfl (Nat.le_of_ble_eq_true rfl) dX6_withdraw_2 rfl ?_
  refine g_iload_n (pc := 5) C dX6_withdraw_5 1 rfl rfl ?_
  refine g_iload_n (pc := 6) C dX6_withdraw_6 2 rfl rfl ?_
  refine g_callS (pc := 7) (st := []) (As := [.int x, .int y]) (nn := 2) C (m_X6_isPair l D cI cC x y) gX6_withdraw_X6_isPair rfl rfl rfl yd_X6_isPair.2 ⟨Nat.le_of_ble_eq_true rfl, Nat.le_of_ble_eq_true rfl⟩ rfl [] rfl rfl rfl (Nat.le_of_ble_eq_true rfl) ⟨Nat.le_of_ble_eq_true rfl, Nat.le_of_ble_eq_true rfl⟩ dX6_withdraw_7 ?_
  rintro _ _ ⟨rfl, rfl⟩
  refine g_eq (ws' := (rW cI cC q0 q1 q2 q3 q4 q5 q6 q7 q8 q9 q10 q11 (nI 0) ss asd sts (nI z) snp hx tx lgt can szs ptn nms pth att isw rdd rmy)) (st' := [.int (bI (two x y))]) rfl rfl ?_
  refine g_if_neB (pc := 10) C 15 dX6_withdraw_10 (by decide) (fun c10 => ?_) (fun c10 => ?_)
  · obtain ⟨a, b, ha, hb, ex, ey, px, py⟩ := two_ex c10
    refine g_lveq (lv' := [(0, .ref q0), (1, .int (nI a)), (2, .int y)]) (by rw [ex]) ?_
    refine g_lveq (lv' := [(0, .ref q0), (1, .int (nI a)), (2, .int (nI b))]) (by rw [ey]) ?_
    refine g_aload_n (pc := 15) C dX6_withdraw_15 0 rfl rfl ?_
    refine g_iload_n (pc := 16) C dX6_withdraw_16 1 rfl rfl ?_
    refine g_iload_n (pc := 17) C dX6_withdraw_17 2 rfl rfl ?_
    refine g_callV (pc := 18) (st := []) (As := [.int (nI a), .int (nI b)]) (nn := 2) (ci := 6) (q0 := 0) C (m_X6_isOpen l D cI cC q0 q1 q2 q3 q4 q5 q6 q7 q8 q9 q10 q11 (nI 0) ss asd sts (nI z) snp hx tx lgt can szs ptn nms pth att isw rdd rmy c a b (by first | assumption | omega) (by first | assumption | omega) (by first | assumption | omega)) gX6_withdraw_X6_isOpen rfl rfl rfl yd_X6_isOpen ⟨Nat.le_of_ble_eq_true rfl, Nat.le_of_ble_eq_true rfl⟩ rfl [0, 1, 2, 3, 4, 5, 6, 7, 8, 9, 10, 11] rfl rfl rfl rfl rfl (Nat.le_of_ble_eq_true rfl) ⟨Nat.le_of_ble_eq_true rfl, Nat.le_of_ble_eq_true rfl⟩ dX6_withdraw_18 ?_
    rintro _ _ ⟨rfl, rfl⟩
    refine g_eq (ws' := (rW cI cC q0 q1 q2 q3 q4 q5 q6 q7 q8 q9 q10 q11 (nI 0) ss asd sts (nI z) snp hx tx lgt can szs ptn nms pth att isw rdd rmy)) (st' := [.int (bI (wiC c a b))]) rfl rfl ?_
    refine g_if_neB (pc := 21) C 27 dX6_withdraw_21 (by decide) (fun c21 => ?_) (fun c21 => ?_)
    · refine g_aload_n (pc := 27) C dX6_withdraw_27 0 rfl rfl ?_
      refine g_callV (pc := 28) (st := []) (As := []) (nn := 0) (ci := 6) (q0 := 0) C (m_X6_records l D cI cC q0 q1 q2 q3 q4 q5 q6 q7 q8 q9 q10 q11 (nI 0) ss asd sts snp hx tx lgt can szs ptn nms pth att isw rdd rmy z (by first | assumption | omega)) gX6_withdraw_X6_records rfl rfl rfl yd_X6_records ⟨Nat.le_of_ble_eq_true rfl, Nat.le_of_ble_eq_true rfl⟩ rfl [0, 1, 2, 3, 4, 5, 6, 7, 8, 9, 10, 11] rfl rfl rfl rfl rfl (Nat.le_of_ble_eq_true rfl) ⟨Nat.le_of_ble_eq_true rfl, Nat.le_of_ble_eq_true rfl⟩ dX6_withdraw_28 ?_
      rintro _ _ ⟨rfl, rfl⟩
      refine g_eq (ws' := (rW cI cC q0 q1 q2 q3 q4 q5 q6 q7 q8 q9 q10 q11 (nI 0) ss asd (rcS ss sts z) (nI (kpS z)) snp hx tx lgt can szs ptn nms pth att isw rdd rmy)) (st' := []) rfl rfl ?_
      refine g_aload_n (pc := 31) C dX6_withdraw_31 0 rfl rfl ?_
      refine g_get (pc := 32) (ci := 6) (T := TX6) (N := 18) (v := .ref q1) C in_X6_withdraw_X6 0 rfl rfl 1 (by decide) fl_X6_withdraw_7 rfl rfl dX6_withdraw_32 ?_
      refine g_bipush (pc := 35) (v := nI 97) C dX6_withdraw_35 (by decide) ?_
      refine g_bipush (pc := 37) (v := nI 8) C dX6_withdraw_37 (by decide) ?_
      refine g_iload_n (pc := 39) C dX6_withdraw_39 1 rfl rfl ?_
      refine g_imulN (pc := 40) C dX6_withdraw_40 ?_
      refine g_iaddN (pc := 41) C dX6_withdraw_41 ?_
      refine g_iload_n (pc := 42) C dX6_withdraw_42 2 rfl rfl ?_
      refine g_iaddN (pc := 43) C dX6_withdraw_43 ?_
      refine g_iconst (pc := 44) (v := nI 0) C dX6_withdraw_44 (by decide) ?_
      refine g_iastN (pc := 45) (f := ss) (ws' := (rW cI cC q0 q1 q2 q3 q4 q5 q6 q7 q8 q9 q10 q11 (nI 0) (upd ss ((97 + (8 * a)) + b) (nI 0)) asd (rcS ss sts z) (nI (kpS z)) snp hx tx lgt can szs ptn nms pth att isw rdd rmy)) C 1 rfl (by omega) (by decide) dX6_withdraw_45 rfl ?_
      refine g_aload_n (pc := 46) C dX6_withdraw_46 0 rfl rfl ?_
      refine g_callV (pc := 47) (st := []) (As := []) (nn := 0) (ci := 6) (q0 := 0) C (m_X6_openMany l D cI cC q0 q1 q2 q3 q4 q5 q6 q7 q8 q9 q10 q11 (nI 0) (upd ss ((97 + (8 * a)) + b) (nI 0)) asd (rcS ss sts z) (nI (kpS z)) snp hx tx lgt can szs ptn nms pth att isw rdd rmy (upd c (16 + a) (nI (g_nand (cN c (16 + a)) (1 <<< b)))) (hS.close ha hb)) gX6_withdraw_X6_openMany rfl rfl rfl yd_X6_openMany ⟨Nat.le_of_ble_eq_true rfl, Nat.le_of_ble_eq_true rfl⟩ rfl [0, 1, 2, 3, 4, 5, 6, 7, 8, 9, 10, 11] rfl rfl rfl rfl rfl (Nat.le_of_ble_eq_true rfl) ⟨Nat.le_of_ble_eq_true rfl, Nat.le_of_ble_eq_true rfl⟩ dX6_withdraw_47 ?_
      rintro _ _ ⟨rfl, rfl⟩
      refine g_eq (ws' := (rW cI cC q0 q1 q2 q3 q4 q5 q6 q7 q8 q9 q10 q11 (nI 0) (upd ss ((97 + (8 * a)) + b) (nI 0)) asd (rcS ss sts z) (nI (kpS z)) snp hx tx lgt can szs ptn nms pth att isw rdd rmy)) (st' := [.int (nI (nwC (upd c (16 + a) (nI (g_nand (cN c (16 + a)) (1 <<< b)))) 8))]) rfl rfl ?_
      refine g_top (y := (wdV c x y)) (by rw [wdV, wdC, c10, px, py, c21]; rfl) ?_
      exact g_iret C hr hQ dX6_withdraw_50 rfl ⟨_, _, _, rfl, rfl, by rw [wdQ, wdC, c10, px, py, c21]; exact RA_t (hS.close ha hb)⟩
    · refine g_bipush (pc := 24) (v := (-4)) C dX6_withdraw_24 (by decide) ?_
      refine g_top (y := (wdV c x y)) (by rw [wdV, c10, px, py, c21]; rfl) ?_
      exact g_iret C hr hQ dX6_withdraw_26 rfl ⟨_, _, _, rfl, rfl, by rw [wdQ, c10, px, py, c21]; exact RA_f⟩
  · refine g_iconst (pc := 13) (v := (-1)) C dX6_withdraw_13 (by decide) ?_
    refine g_top (y := (wdV c x y)) (by rw [wdV, c10]; rfl) ?_
    exact g_iret C hr hQ dX6_withdraw_14 rfl ⟨_, _, _, rfl, rfl, by rw [wdQ, c10]; exact RA_f⟩

abbrev rm_X6_quarrel : Room := { frames := 3, cells := 0, slots := 0, locals := 63 }
theorem yd_X6_quarrel : yX6_quarrel.cls = RX6 ∧ yX6_quarrel.cls ≠ "java/lang/invoke/MethodHandle" ∧ yX6_quarrel.cls ≠ "java/lang/invoke/VarHandle" ∧ (parseMethodDescriptor yX6_quarrel.desc).map (fun d => d.parameters.length) = some 3 := by decide +kernel
theorem in_X6_quarrel_X6 : ∀ w ∈ u_ws RX6 TX6 18, w ∈ wsX6_quarrel := by decide +kernel
theorem fl_X6_quarrel_7 : Cond.fieldLink RX6 7 "FenceHandshakesModel" "s" "[I" ∈ wsX6_quarrel := by decide +kernel
theorem fl_X6_quarrel_43 : Cond.fieldLink RX6 43 "FenceHandshakesModel" "thrown" "I" ∈ wsX6_quarrel := by decide +kernel
set_option maxHeartbeats 4000000 in
set_option maxRecDepth 100000 in
theorem m_X6_quarrel (l : Launch) (D : va_G) (cI cC : ClassId) (q0 q1 q2 q3 q4 q5 q6 q7 q8 q9 q10 q11 : Nat) (th : Int32) (ss : Nat → Int32) (asd : Nat → Int32) (sts : Nat → Int32) (snp : Nat → Int32) (hx : Int32) (tx : Nat → Int32) (lgt : Int32) (can : Nat → Int32) (szs : Nat → Int32) (ptn : Nat → Int32) (nms : Nat → Int32) (pth : Nat → Int32) (att : Int32) (isw : Int32) (rdd : Nat → Int32) (rmy : Int32) (z : Nat) (c : Nat → Int32) (x : Int32) (y : Int32) (w : Int32) (hS : SR c ss) (hz : z ≤ 5) : g_M l yX6_quarrel wsX6_quarrel rm_X6_quarrel D cI cC [.ref q0, .int x, .int y, .int w] (rW cI cC q0 q1 q2 q3 q4 q5 q6 q7 q8 q9 q10 q11 th ss asd sts (nI z) snp hx tx lgt can szs ptn nms pth att isw rdd rmy) (fun vv ww => ∃ (ss2 : Nat → Int32) (sts2 : Nat → Int32) (z2 : Nat), vv = some (.int (quV c x y w)) ∧ ww = (rW cI cC q0 q1 q2 q3 q4 q5 q6 q7 q8 q9 q10 q11 (nI 0) ss2 asd sts2 (nI z2) snp hx tx lgt can szs ptn nms pth att isw rdd rmy) ∧ RA (quQ x y w) (fdC c x y w) ss sts z ss2 sts2 z2) := by
  refine g_entry (lv := [(0, .ref q0), (1, .int x), (2, .int y), (3, .int w)]) (own := RX6) (by decide) rfl rfl (Nat.le_of_ble_eq_true rfl) rfl ?_
  intro p e s m args below meth co A Q C hr hQ
  refine g_aload_n (pc := 0) C dX6_quarrel_0 0 rfl rfl ?_
  refine g_iconst (pc := 1) (v := nI 0) C dX6_quarrel_1 (by decide) ?_
  refine g_put (pc := 2) (ci := 6) (T := TX6) (N := 18) (ws' := (rW cI cC q0 q1 q2 q3 q4 q5 q6 q7 q8 q9 q10 q11 (nI 0) ss asd sts (nI z) snp hx tx lgt can szs ptn nms pth att isw rdd rmy)) (ty := .int) (v := .int (nI 0)) C in_X6_quarrel_X6 tyX6 tyX6_ok nmX6 0 rfl rfl 0 (by decide) fl_X6_quarrel_43 rfl rfl (by decide +kernel) rfl rfl (Nat.le_of_ble_eq_true rfl) dX6_quarrel_2 rfl ?_
  refine g_iload_n (pc := 5) C dX6_quarrel_5 1 rfl rfl ?_
  refine g_iload_n (pc := 6) C dX6_quarrel_6 2 rfl rfl ?_
  refine g_callS (pc := 7) (st := []) (As := [.int x, .int y]) (nn := 2) C (m_X6_isPair l D cI cC x y) gX6_quarrel_X6_isPair rfl rfl rfl yd_X6_isPair.2 ⟨Nat.le_of_ble_eq_true rfl, Nat.le_of_ble_eq_true rfl⟩ rfl [] rfl rfl rfl (Nat.le_of_ble_eq_true rfl) ⟨Nat.le_of_ble_eq_true rfl, Nat.le_of_ble_eq_true rfl⟩ dX6_quarrel_7 ?_
  rintro _ _ ⟨rfl, rfl⟩
  refine g_eq (ws' := (rW cI cC q0 q1 q2 q3 q4 q5 q6 q7 q8 q9 q10 q11 (nI 0) ss asd sts (nI z) snp hx tx lgt can szs ptn nms pth att isw rdd rmy)) (st' := [.int (bI (two x y))]) rfl rfl ?_
  refine g_if_neB (pc := 10) C 15 dX6_quarrel_10 (by decide) (fun c10 => ?_) (fun c10 => ?_)
  · obtain ⟨a, b, ha, hb, ex, ey, px, py⟩ := two_ex c10
    refine g_lveq (lv' := [(0, .ref q0), (1, .int (nI a)), (2, .int y), (3, .int w)]) (by rw [ex]) ?_
    refine g_lveq (lv' := [(0, .ref q0), (1, .int (nI a)), (2, .int (nI b)), (3, .int w)]) (by rw [ey]) ?_
    refine g_iload_n (pc := 15) C dX6_quarrel_15 3 rfl rfl ?_
    refine g_iconst (pc := 16) (v := nI 1) C dX6_quarrel_16 (by decide) ?_
    refine g_bipush (pc := 17) (v := nI 50) C dX6_quarrel_17 (by decide) ?_
    refine g_callS (pc := 19) (st := []) (As := [.int w, .int (nI 1), .int (nI 50)]) (nn := 3) C (m_X6_in l D cI cC w (nI 1) (nI 50)) gX6_quarrel_X6_in rfl rfl rfl yd_X6_in.2 ⟨Nat.le_of_ble_eq_true rfl, Nat.le_of_ble_eq_true rfl⟩ rfl [] rfl rfl rfl (Nat.le_of_ble_eq_true rfl) ⟨Nat.le_of_ble_eq_true rfl, Nat.le_of_ble_eq_true rfl⟩ dX6_quarrel_19 ?_
    rintro _ _ ⟨rfl, rfl⟩
    refine g_eq (ws' := (rW cI cC q0 q1 q2 q3 q4 q5 q6 q7 q8 q9 q10 q11 (nI 0) ss asd sts (nI z) snp hx tx lgt can szs ptn nms pth att isw rdd rmy)) (st' := [.int (bI (inI w (nI 1) (nI 50)))]) rfl rfl ?_
    refine g_top (y := bI (inR w)) (by rw [in_R]) ?_
    refine g_if_neB (pc := 22) C 28 dX6_quarrel_22 (by decide) (fun c22 => ?_) (fun c22 => ?_)
    · refine g_aload_n (pc := 28) C dX6_quarrel_28 0 rfl rfl ?_
      refine g_callV (pc := 29) (st := []) (As := []) (nn := 0) (ci := 6) (q0 := 0) C (m_X6_records l D cI cC q0 q1 q2 q3 q4 q5 q6 q7 q8 q9 q10 q11 (nI 0) ss asd sts snp hx tx lgt can szs ptn nms pth att isw rdd rmy z (by first | assumption | omega)) gX6_quarrel_X6_records rfl rfl rfl yd_X6_records ⟨Nat.le_of_ble_eq_true rfl, Nat.le_of_ble_eq_true rfl⟩ rfl [0, 1, 2, 3, 4, 5, 6, 7, 8, 9, 10, 11] rfl rfl rfl rfl rfl (Nat.le_of_ble_eq_true rfl) ⟨Nat.le_of_ble_eq_true rfl, Nat.le_of_ble_eq_true rfl⟩ dX6_quarrel_29 ?_
      rintro _ _ ⟨rfl, rfl⟩
      refine g_eq (ws' := (rW cI cC q0 q1 q2 q3 q4 q5 q6 q7 q8 q9 q10 q11 (nI 0) ss asd (rcS ss sts z) (nI (kpS z)) snp hx tx lgt can szs ptn nms pth att isw rdd rmy)) (st' := []) rfl rfl ?_
      refine g_aload_n (pc := 32) C dX6_quarrel_32 0 rfl rfl ?_
      refine g_get (pc := 33) (ci := 6) (T := TX6) (N := 18) (v := .ref q1) C in_X6_quarrel_X6 0 rfl rfl 1 (by decide) fl_X6_quarrel_7 rfl rfl dX6_quarrel_33 ?_
      refine g_bipush (pc := 36) (v := nI 33) C dX6_quarrel_36 (by decide) ?_
      refine g_bipush (pc := 38) (v := nI 8) C dX6_quarrel_38 (by decide) ?_
      refine g_iload_n (pc := 40) C dX6_quarrel_40 1 rfl rfl ?_
      refine g_imulN (pc := 41) C dX6_quarrel_41 ?_
      refine g_iaddN (pc := 42) C dX6_quarrel_42 ?_
      refine g_iload_n (pc := 43) C dX6_quarrel_43 2 rfl rfl ?_
      refine g_iaddN (pc := 44) C dX6_quarrel_44 ?_
      refine g_ialdN (pc := 45) (f := ss) C 1 rfl (by omega) (by decide) dX6_quarrel_45 ?_
      refine g_top (y := (feC c a b)) (hS.fe ha hb) ?_
      refine g_istore (pc := 46) (lv' := [(4, .int (feC c a b)), (0, .ref q0), (1, .int (nI a)), (2, .int (nI b)), (3, .int w)]) C dX6_quarrel_46 (by decide) rfl ?_
      refine g_aload_n (pc := 48) C dX6_quarrel_48 1 rfl rfl ?_
      refine g_get (pc := 49) (ci := 6) (T := TX6) (N := 18) (v := .ref q1) C in_X6_quarrel_X6 0 rfl rfl 1 (by decide) fl_X6_quarrel_7 rfl rfl dX6_quarrel_49 ?_
      refine g_bipush (pc := 52) (v := nI 33) C dX6_quarrel_52 (by decide) ?_
      refine g_bipush (pc := 54) (v := nI 8) C dX6_quarrel_54 (by decide) ?_
      refine g_iload_n (pc := 56) C dX6_quarrel_56 2 rfl rfl ?_
      refine g_imulN (pc := 57) C dX6_quarrel_57 ?_
      refine g_iaddN (pc := 58) C dX6_quarrel_58 ?_
      refine g_iload_n (pc := 59) C dX6_quarrel_59 3 rfl rfl ?_
      refine g_iaddN (pc := 60) C dX6_quarrel_60 ?_
      refine g_iload_n (pc := 61) C dX6_quarrel_61 4 rfl rfl ?_
      refine g_iastN (pc := 62) (f := ss) (ws' := (rW cI cC q0 q1 q2 q3 q4 q5 q6 q7 q8 q9 q10 q11 (nI 0) (upd ss ((33 + (8 * a)) + b) (w)) asd (rcS ss sts z) (nI (kpS z)) snp hx tx lgt can szs ptn nms pth att isw rdd rmy)) C 1 rfl (by omega) (by decide) dX6_quarrel_62 rfl ?_
      refine g_iload (pc := 63) C dX6_quarrel_63 0 rfl ?_
      refine g_top (y := (quV c x y w)) (by rw [quV, c10, c22, px, py]; rfl) ?_
      exact g_iret C hr hQ dX6_quarrel_65 rfl ⟨_, _, _, rfl, rfl, by rw [quQ, fdC, c10, c22, px, py]; exact RA_t (hS.feud w ha hb)⟩
    · refine g_bipush (pc := 25) (v := (-2)) C dX6_quarrel_25 (by decide) ?_
      refine g_top (y := (quV c x y w)) (by rw [quV, c10, c22]; rfl) ?_
      exact g_iret C hr hQ dX6_quarrel_27 rfl ⟨_, _, _, rfl, rfl, by rw [quQ, c10, c22]; exact RA_f⟩
  · refine g_iconst (pc := 13) (v := (-1)) C dX6_quarrel_13 (by decide) ?_
    refine g_top (y := (quV c x y w)) (by rw [quV, c10]; rfl) ?_
    exact g_iret C hr hQ dX6_quarrel_14 rfl ⟨_, _, _, rfl, rfl, by rw [quQ, c10]; exact RA_f⟩

abbrev rm_X6_reconcile : Room := { frames := 3, cells := 0, slots := 0, locals := 63 }
theorem yd_X6_reconcile : yX6_reconcile.cls = RX6 ∧ yX6_reconcile.cls ≠ "java/lang/invoke/MethodHandle" ∧ yX6_reconcile.cls ≠ "java/lang/invoke/VarHandle" ∧ (parseMethodDescriptor yX6_reconcile.desc).map (fun d => d.parameters.length) = some 2 := by decide +kernel
theorem in_X6_reconcile_X6 : ∀ w ∈ u_ws RX6 TX6 18, w ∈ wsX6_reconcile := by decide +kernel
theorem fl_X6_reconcile_7 : Cond.fieldLink RX6 7 "FenceHandshakesModel" "s" "[I" ∈ wsX6_reconcile := by decide +kernel
theorem fl_X6_reconcile_43 : Cond.fieldLink RX6 43 "FenceHandshakesModel" "thrown" "I" ∈ wsX6_reconcile := by decide +kernel
set_option maxHeartbeats 4000000 in
set_option maxRecDepth 100000 in
theorem m_X6_reconcile (l : Launch) (D : va_G) (cI cC : ClassId) (q0 q1 q2 q3 q4 q5 q6 q7 q8 q9 q10 q11 : Nat) (th : Int32) (ss : Nat → Int32) (asd : Nat → Int32) (sts : Nat → Int32) (snp : Nat → Int32) (hx : Int32) (tx : Nat → Int32) (lgt : Int32) (can : Nat → Int32) (szs : Nat → Int32) (ptn : Nat → Int32) (nms : Nat → Int32) (pth : Nat → Int32) (att : Int32) (isw : Int32) (rdd : Nat → Int32) (rmy : Int32) (z : Nat) (c : Nat → Int32) (x : Int32) (y : Int32) (hS : SR c ss) (hz : z ≤ 5) : g_M l yX6_reconcile wsX6_reconcile rm_X6_reconcile D cI cC [.ref q0, .int x, .int y] (rW cI cC q0 q1 q2 q3 q4 q5 q6 q7 q8 q9 q10 q11 th ss asd sts (nI z) snp hx tx lgt can szs ptn nms pth att isw rdd rmy) (fun vv ww => ∃ (ss2 : Nat → Int32) (sts2 : Nat → Int32) (z2 : Nat), vv = some (.int (rcV c x y)) ∧ ww = (rW cI cC q0 q1 q2 q3 q4 q5 q6 q7 q8 q9 q10 q11 (nI 0) ss2 asd sts2 (nI z2) snp hx tx lgt can szs ptn nms pth att isw rdd rmy) ∧ RA (rcQ c x y) (fdC c x y (nI 0)) ss sts z ss2 sts2 z2) := by
  refine g_entry (lv := [(0, .ref q0), (1, .int x), (2, .int y)]) (own := RX6) (by decide) rfl rfl (Nat.le_of_ble_eq_true rfl) rfl ?_
  intro p e s m args below meth co A Q C hr hQ
  refine g_aload_n (pc := 0) C dX6_reconcile_0 0 rfl rfl ?_
  refine g_iconst (pc := 1) (v := nI 0) C dX6_reconcile_1 (by decide) ?_
  refine g_put (pc := 2) (ci := 6) (T := TX6) (N := 18) (ws' := (rW cI cC q0 q1 q2 q3 q4 q5 q6 q7 q8 q9 q10 q11 (nI 0) ss asd sts (nI z) snp hx tx lgt can szs ptn nms pth att isw rdd rmy)) (ty := .int) (v := .int (nI 0)) C in_X6_reconcile_X6 tyX6 tyX6_ok nmX6 0 rfl rfl 0 (by decide) fl_X6_reconcile_43 rfl rfl (by decide +kernel) rfl rfl (Nat.le_of_ble_eq_true rfl) dX6_reconcile_2 rfl ?_
  refine g_iload_n (pc := 5) C dX6_reconcile_5 1 rfl rfl ?_
  refine g_iload_n (pc := 6) C dX6_reconcile_6 2 rfl rfl ?_
  refine g_callS (pc := 7) (st := []) (As := [.int x, .int y]) (nn := 2) C (m_X6_isPair l D cI cC x y) gX6_reconcile_X6_isPair rfl rfl rfl yd_X6_isPair.2 ⟨Nat.le_of_ble_eq_true rfl, Nat.le_of_ble_eq_true rfl⟩ rfl [] rfl rfl rfl (Nat.le_of_ble_eq_true rfl) ⟨Nat.le_of_ble_eq_true rfl, Nat.le_of_ble_eq_true rfl⟩ dX6_reconcile_7 ?_
  rintro _ _ ⟨rfl, rfl⟩
  refine g_eq (ws' := (rW cI cC q0 q1 q2 q3 q4 q5 q6 q7 q8 q9 q10 q11 (nI 0) ss asd sts (nI z) snp hx tx lgt can szs ptn nms pth att isw rdd rmy)) (st' := [.int (bI (two x y))]) rfl rfl ?_
  refine g_if_neB (pc := 10) C 15 dX6_reconcile_10 (by decide) (fun c10 => ?_) (fun c10 => ?_)
  · obtain ⟨a, b, ha, hb, ex, ey, px, py⟩ := two_ex c10
    refine g_lveq (lv' := [(0, .ref q0), (1, .int (nI a)), (2, .int y)]) (by rw [ex]) ?_
    refine g_lveq (lv' := [(0, .ref q0), (1, .int (nI a)), (2, .int (nI b))]) (by rw [ey]) ?_
    refine g_aload_n (pc := 15) C dX6_reconcile_15 0 rfl rfl ?_
    refine g_get (pc := 16) (ci := 6) (T := TX6) (N := 18) (v := .ref q1) C in_X6_reconcile_X6 0 rfl rfl 1 (by decide) fl_X6_reconcile_7 rfl rfl dX6_reconcile_16 ?_
    refine g_bipush (pc := 19) (v := nI 33) C dX6_reconcile_19 (by decide) ?_
    refine g_bipush (pc := 21) (v := nI 8) C dX6_reconcile_21 (by decide) ?_
    refine g_iload_n (pc := 23) C dX6_reconcile_23 1 rfl rfl ?_
    refine g_imulN (pc := 24) C dX6_reconcile_24 ?_
    refine g_iaddN (pc := 25) C dX6_reconcile_25 ?_
    refine g_iload_n (pc := 26) C dX6_reconcile_26 2 rfl rfl ?_
    refine g_iaddN (pc := 27) C dX6_reconcile_27 ?_
    refine g_ialdN (pc := 28) (f := ss) C 1 rfl (by omega) (by decide) dX6_reconcile_28 ?_
    refine g_top (y := (feC c a b)) (hS.fe ha hb) ?_
    refine g_istore_n (pc := 29) (lv' := [(3, .int (feC c a b)), (0, .ref q0), (1, .int (nI a)), (2, .int (nI b))]) C dX6_reconcile_29 rfl (by decide) rfl ?_
    refine g_iload_n (pc := 30) C dX6_reconcile_30 0 rfl rfl ?_
    refine g_if_ne (pc := 31) C 37 dX6_reconcile_31 (by decide) (fun c31 => ?_) (fun c31 => ?_)
    · refine g_aload_n (pc := 37) C dX6_reconcile_37 1 rfl rfl ?_
      refine g_callV (pc := 38) (st := []) (As := []) (nn := 0) (ci := 6) (q0 := 0) C (m_X6_records l D cI cC q0 q1 q2 q3 q4 q5 q6 q7 q8 q9 q10 q11 (nI 0) ss asd sts snp hx tx lgt can szs ptn nms pth att isw rdd rmy z (by first | assumption | omega)) gX6_reconcile_X6_records rfl rfl rfl yd_X6_records ⟨Nat.le_of_ble_eq_true rfl, Nat.le_of_ble_eq_true rfl⟩ rfl [0, 1, 2, 3, 4, 5, 6, 7, 8, 9, 10, 11] rfl rfl rfl rfl rfl (Nat.le_of_ble_eq_true rfl) ⟨Nat.le_of_ble_eq_true rfl, Nat.le_of_ble_eq_true rfl⟩ dX6_reconcile_38 ?_
      rintro _ _ ⟨rfl, rfl⟩
      refine g_eq (ws' := (rW cI cC q0 q1 q2 q3 q4 q5 q6 q7 q8 q9 q10 q11 (nI 0) ss asd (rcS ss sts z) (nI (kpS z)) snp hx tx lgt can szs ptn nms pth att isw rdd rmy)) (st' := []) rfl rfl ?_
      refine g_aload_n (pc := 41) C dX6_reconcile_41 1 rfl rfl ?_
      refine g_get (pc := 42) (ci := 6) (T := TX6) (N := 18) (v := .ref q1) C in_X6_reconcile_X6 0 rfl rfl 1 (by decide) fl_X6_reconcile_7 rfl rfl dX6_reconcile_42 ?_
      refine g_bipush (pc := 45) (v := nI 33) C dX6_reconcile_45 (by decide) ?_
      refine g_bipush (pc := 47) (v := nI 8) C dX6_reconcile_47 (by decide) ?_
      refine g_iload_n (pc := 49) C dX6_reconcile_49 2 rfl rfl ?_
      refine g_imulN (pc := 50) C dX6_reconcile_50 ?_
      refine g_iaddN (pc := 51) C dX6_reconcile_51 ?_
      refine g_iload_n (pc := 52) C dX6_reconcile_52 3 rfl rfl ?_
      refine g_iaddN (pc := 53) C dX6_reconcile_53 ?_
      refine g_iconst (pc := 54) (v := nI 0) C dX6_reconcile_54 (by decide) ?_
      refine g_iastN (pc := 55) (f := ss) (ws' := (rW cI cC q0 q1 q2 q3 q4 q5 q6 q7 q8 q9 q10 q11 (nI 0) (upd ss ((33 + (8 * a)) + b) (nI 0)) asd (rcS ss sts z) (nI (kpS z)) snp hx tx lgt can szs ptn nms pth att isw rdd rmy)) C 1 rfl (by omega) (by decide) dX6_reconcile_55 rfl ?_
      refine g_iload_n (pc := 56) C dX6_reconcile_56 0 rfl rfl ?_
      refine g_top (y := (rcV c x y)) (by rw [rcV, c10, px, py, if_pos rfl, if_neg c31]) ?_
      exact g_iret C hr hQ dX6_reconcile_57 rfl ⟨_, _, _, rfl, rfl, by rw [rcQ, fdC, c10, px, py, decide_eq_false c31]; exact RA_t (hS.feud _ ha hb)⟩
    · refine g_bipush (pc := 34) (v := (-4)) C dX6_reconcile_34 (by decide) ?_
      refine g_top (y := (rcV c x y)) (by rw [rcV, c10, px, py, if_pos rfl, if_pos c31]) ?_
      exact g_iret C hr hQ dX6_reconcile_36 rfl ⟨_, _, _, rfl, rfl, by rw [rcQ, c10, px, py, decide_eq_true c31]; exact RA_f⟩
  · refine g_iconst (pc := 13) (v := (-1)) C dX6_reconcile_13 (by decide) ?_
    refine g_top (y := (rcV c x y)) (by rw [rcV, c10]; rfl) ?_
    exact g_iret C hr hQ dX6_reconcile_14 rfl ⟨_, _, _, rfl, rfl, by rw [rcQ, c10]; exact RA_f⟩

abbrev rm_X6_link : Room := { frames := 2, cells := 0, slots := 0, locals := 42 }
theorem yd_X6_link : yX6_link.cls = RX6 ∧ yX6_link.cls ≠ "java/lang/invoke/MethodHandle" ∧ yX6_link.cls ≠ "java/lang/invoke/VarHandle" ∧ (parseMethodDescriptor yX6_link.desc).map (fun d => d.parameters.length) = some 3 := by decide +kernel
theorem in_X6_link_X6 : ∀ w ∈ u_ws RX6 TX6 18, w ∈ wsX6_link := by decide +kernel
theorem fl_X6_link_7 : Cond.fieldLink RX6 7 "FenceHandshakesModel" "s" "[I" ∈ wsX6_link := by decide +kernel
theorem fl_X6_link_43 : Cond.fieldLink RX6 43 "FenceHandshakesModel" "thrown" "I" ∈ wsX6_link := by decide +kernel
set_option maxHeartbeats 4000000 in
set_option maxRecDepth 100000 in
theorem m_X6_link (l : Launch) (D : va_G) (cI cC : ClassId) (q0 q1 q2 q3 q4 q5 q6 q7 q8 q9 q10 q11 : Nat) (th : Int32) (ss : Nat → Int32) (asd : Nat → Int32) (sts : Nat → Int32) (snp : Nat → Int32) (hx : Int32) (tx : Nat → Int32) (lgt : Int32) (can : Nat → Int32) (szs : Nat → Int32) (ptn : Nat → Int32) (nms : Nat → Int32) (pth : Nat → Int32) (att : Int32) (isw : Int32) (rdd : Nat → Int32) (rmy : Int32) (z : Nat) (c : Nat → Int32) (x : Int32) (y : Int32) (q : Bool) (hS : SR c ss) (hz : z ≤ 5) : g_M l yX6_link wsX6_link rm_X6_link D cI cC [.ref q0, .int x, .int y, .int (bI q)] (rW cI cC q0 q1 q2 q3 q4 q5 q6 q7 q8 q9 q10 q11 th ss asd sts (nI z) snp hx tx lgt can szs ptn nms pth att isw rdd rmy) (fun vv ww => ∃ (ss2 : Nat → Int32) (sts2 : Nat → Int32) (z2 : Nat), vv = some (.int (lkV c x y)) ∧ ww = (rW cI cC q0 q1 q2 q3 q4 q5 q6 q7 q8 q9 q10 q11 (nI 0) ss2 asd sts2 (nI z2) snp hx tx lgt can szs ptn nms pth att isw rdd rmy) ∧ RA (twG x y) (cLink c (pN x) (pN y) q) ss sts z ss2 sts2 z2) := by
  refine g_entry (lv := [(0, .ref q0), (1, .int x), (2, .int y), (3, .int (bI q))]) (own := RX6) (by decide) rfl rfl (Nat.le_of_ble_eq_true rfl) rfl ?_
  intro p e s m args below meth co A Q C hr hQ
  refine g_aload_n (pc := 0) C dX6_link_0 0 rfl rfl ?_
  refine g_iconst (pc := 1) (v := nI 0) C dX6_link_1 (by decide) ?_
  refine g_put (pc := 2) (ci := 6) (T := TX6) (N := 18) (ws' := (rW cI cC q0 q1 q2 q3 q4 q5 q6 q7 q8 q9 q10 q11 (nI 0) ss asd sts (nI z) snp hx tx lgt can szs ptn nms pth att isw rdd rmy)) (ty := .int) (v := .int (nI 0)) C in_X6_link_X6 tyX6 tyX6_ok nmX6 0 rfl rfl 0 (by decide) fl_X6_link_43 rfl rfl (by decide +kernel) rfl rfl (Nat.le_of_ble_eq_true rfl) dX6_link_2 rfl ?_
  refine g_iload_n (pc := 5) C dX6_link_5 1 rfl rfl ?_
  refine g_callS (pc := 6) (st := []) (As := [.int x]) (nn := 1) C (m_X6_isGate l D cI cC x) gX6_link_X6_isGate rfl rfl rfl yd_X6_isGate.2 ⟨Nat.le_of_ble_eq_true rfl, Nat.le_of_ble_eq_true rfl⟩ rfl [] rfl rfl rfl (Nat.le_of_ble_eq_true rfl) ⟨Nat.le_of_ble_eq_true rfl, Nat.le_of_ble_eq_true rfl⟩ dX6_link_6 ?_
  rintro _ _ ⟨rfl, rfl⟩
  refine g_eq (ws' := (rW cI cC q0 q1 q2 q3 q4 q5 q6 q7 q8 q9 q10 q11 (nI 0) ss asd sts (nI z) snp hx tx lgt can szs ptn nms pth att isw rdd rmy)) (st' := [.int (bI (isG x))]) rfl rfl ?_
  refine g_if_eqB (pc := 9) C 19 dX6_link_9 (by decide) (fun c9 => ?_) (fun c9 => ?_)
  · refine g_iconst (pc := 19) (v := (-1)) C dX6_link_19 (by decide) ?_
    refine g_top (y := (lkV c x y)) (by rw [lkV, show twG x y = false from by rw [twG, c9]; rfl]; rfl) ?_
    exact g_iret C hr hQ dX6_link_20 rfl ⟨_, _, _, rfl, rfl, by rw [show twG x y = false from by rw [twG, c9]; rfl]; exact RA_f⟩
  · refine g_iload_n (pc := 12) C dX6_link_12 2 rfl rfl ?_
    refine g_callS (pc := 13) (st := []) (As := [.int y]) (nn := 1) C (m_X6_isGate l D cI cC y) gX6_link_X6_isGate rfl rfl rfl yd_X6_isGate.2 ⟨Nat.le_of_ble_eq_true rfl, Nat.le_of_ble_eq_true rfl⟩ rfl [] rfl rfl rfl (Nat.le_of_ble_eq_true rfl) ⟨Nat.le_of_ble_eq_true rfl, Nat.le_of_ble_eq_true rfl⟩ dX6_link_13 ?_
    rintro _ _ ⟨rfl, rfl⟩
    refine g_eq (ws' := (rW cI cC q0 q1 q2 q3 q4 q5 q6 q7 q8 q9 q10 q11 (nI 0) ss asd sts (nI z) snp hx tx lgt can szs ptn nms pth att isw rdd rmy)) (st' := [.int (bI (isG y))]) rfl rfl ?_
    refine g_if_neB (pc := 16) C 21 dX6_link_16 (by decide) (fun c16 => ?_) (fun c16 => ?_)
    · have tg : twG x y = true := by rw [twG, c9, c16]; rfl
      obtain ⟨a, b, ha, hb, ex, ey, px, py⟩ := twG_ex tg
      refine g_lveq (lv' := [(0, .ref q0), (1, .int (nI a)), (2, .int y), (3, .int (bI q))]) (by rw [ex]) ?_
      refine g_lveq (lv' := [(0, .ref q0), (1, .int (nI a)), (2, .int (nI b)), (3, .int (bI q))]) (by rw [ey]) ?_
      refine g_aload_n (pc := 21) C dX6_link_21 0 rfl rfl ?_
      refine g_callV (pc := 22) (st := []) (As := []) (nn := 0) (ci := 6) (q0 := 0) C (m_X6_records l D cI cC q0 q1 q2 q3 q4 q5 q6 q7 q8 q9 q10 q11 (nI 0) ss asd sts snp hx tx lgt can szs ptn nms pth att isw rdd rmy z (by first | assumption | omega)) gX6_link_X6_records rfl rfl rfl yd_X6_records ⟨Nat.le_of_ble_eq_true rfl, Nat.le_of_ble_eq_true rfl⟩ rfl [0, 1, 2, 3, 4, 5, 6, 7, 8, 9, 10, 11] rfl rfl rfl rfl rfl (Nat.le_of_ble_eq_true rfl) ⟨Nat.le_of_ble_eq_true rfl, Nat.le_of_ble_eq_true rfl⟩ dX6_link_22 ?_
      rintro _ _ ⟨rfl, rfl⟩
      refine g_eq (ws' := (rW cI cC q0 q1 q2 q3 q4 q5 q6 q7 q8 q9 q10 q11 (nI 0) ss asd (rcS ss sts z) (nI (kpS z)) snp hx tx lgt can szs ptn nms pth att isw rdd rmy)) (st' := []) rfl rfl ?_
      refine g_aload_n (pc := 25) C dX6_link_25 0 rfl rfl ?_
      refine g_get (pc := 26) (ci := 6) (T := TX6) (N := 18) (v := .ref q1) C in_X6_link_X6 0 rfl rfl 1 (by decide) fl_X6_link_7 rfl rfl dX6_link_26 ?_
      refine g_bipush (pc := 29) (v := nI 17) C dX6_link_29 (by decide) ?_
      refine g_iconst (pc := 31) (v := nI 4) C dX6_link_31 (by decide) ?_
      refine g_iload_n (pc := 32) C dX6_link_32 1 rfl rfl ?_
      refine g_imulN (pc := 33) C dX6_link_33 ?_
      refine g_iaddN (pc := 34) C dX6_link_34 ?_
      refine g_iload_n (pc := 35) C dX6_link_35 2 rfl rfl ?_
      refine g_iaddN (pc := 36) C dX6_link_36 ?_
      refine g_ialdN (pc := 37) (f := ss) C 1 rfl (by omega) (by decide) dX6_link_37 ?_
      refine g_top (y := bI (lkC c a b)) (hS.l ha hb) ?_
      refine g_istore (pc := 38) (lv' := [(4, .int (bI (lkC c a b))), (0, .ref q0), (1, .int (nI a)), (2, .int (nI b)), (3, .int (bI q))]) C dX6_link_38 (by decide) rfl ?_
      refine g_aload_n (pc := 40) C dX6_link_40 1 rfl rfl ?_
      refine g_get (pc := 41) (ci := 6) (T := TX6) (N := 18) (v := .ref q1) C in_X6_link_X6 0 rfl rfl 1 (by decide) fl_X6_link_7 rfl rfl dX6_link_41 ?_
      refine g_bipush (pc := 44) (v := nI 17) C dX6_link_44 (by decide) ?_
      refine g_iconst (pc := 46) (v := nI 4) C dX6_link_46 (by decide) ?_
      refine g_iload_n (pc := 47) C dX6_link_47 2 rfl rfl ?_
      refine g_imulN (pc := 48) C dX6_link_48 ?_
      refine g_iaddN (pc := 49) C dX6_link_49 ?_
      refine g_iload_n (pc := 50) C dX6_link_50 3 rfl rfl ?_
      refine g_iaddN (pc := 51) C dX6_link_51 ?_
      refine g_iload_n (pc := 52) C dX6_link_52 4 rfl rfl ?_
      refine g_if_eqB (pc := 53) C 60 dX6_link_53 (by decide) (fun c53 => ?_) (fun c53 => ?_)
      · refine g_iconst (pc := 60) (v := nI 0) C dX6_link_60 (by decide) ?_
        refine g_iastN (pc := 61) (f := ss) (ws' := (rW cI cC q0 q1 q2 q3 q4 q5 q6 q7 q8 q9 q10 q11 (nI 0) (upd ss ((17 + (4 * a)) + b) (nI 0)) asd (rcS ss sts z) (nI (kpS z)) snp hx tx lgt can szs ptn nms pth att isw rdd rmy)) C 1 rfl (by omega) (by decide) dX6_link_61 rfl ?_
        refine g_iload (pc := 62) C dX6_link_62 0 rfl ?_
        refine g_top (y := (lkV c x y)) (by rw [lkV, tg, px, py]; rfl) ?_
        exact g_iret C hr hQ dX6_link_64 rfl ⟨_, _, _, rfl, rfl, by rw [tg, px, py, c53]; exact RA_t (hS.link ha hb false)⟩
      · refine g_iconst (pc := 56) (v := nI 1) C dX6_link_56 (by decide) ?_
        refine g_goto (pc := 57) C 61 dX6_link_57 (by decide) ?_
        refine g_iastN (pc := 61) (f := ss) (ws' := (rW cI cC q0 q1 q2 q3 q4 q5 q6 q7 q8 q9 q10 q11 (nI 0) (upd ss ((17 + (4 * a)) + b) (nI 1)) asd (rcS ss sts z) (nI (kpS z)) snp hx tx lgt can szs ptn nms pth att isw rdd rmy)) C 1 rfl (by omega) (by decide) dX6_link_61 rfl ?_
        refine g_iload (pc := 62) C dX6_link_62 0 rfl ?_
        refine g_top (y := (lkV c x y)) (by rw [lkV, tg, px, py]; rfl) ?_
        exact g_iret C hr hQ dX6_link_64 rfl ⟨_, _, _, rfl, rfl, by rw [tg, px, py, c53]; exact RA_t (hS.link ha hb true)⟩
    · refine g_iconst (pc := 19) (v := (-1)) C dX6_link_19 (by decide) ?_
      refine g_top (y := (lkV c x y)) (by rw [lkV, show twG x y = false from by rw [twG, c9, c16]; rfl]; rfl) ?_
      exact g_iret C hr hQ dX6_link_20 rfl ⟨_, _, _, rfl, rfl, by rw [show twG x y = false from by rw [twG, c9, c16]; rfl]; exact RA_f⟩

abbrev rm_X6_move : Room := { frames := 2, cells := 0, slots := 0, locals := 42 }
theorem yd_X6_move : yX6_move.cls = RX6 ∧ yX6_move.cls ≠ "java/lang/invoke/MethodHandle" ∧ yX6_move.cls ≠ "java/lang/invoke/VarHandle" ∧ (parseMethodDescriptor yX6_move.desc).map (fun d => d.parameters.length) = some 3 := by decide +kernel
theorem in_X6_move_X6 : ∀ w ∈ u_ws RX6 TX6 18, w ∈ wsX6_move := by decide +kernel
theorem fl_X6_move_7 : Cond.fieldLink RX6 7 "FenceHandshakesModel" "s" "[I" ∈ wsX6_move := by decide +kernel
theorem fl_X6_move_43 : Cond.fieldLink RX6 43 "FenceHandshakesModel" "thrown" "I" ∈ wsX6_move := by decide +kernel
set_option maxHeartbeats 4000000 in
set_option maxRecDepth 100000 in
theorem m_X6_move (l : Launch) (D : va_G) (cI cC : ClassId) (q0 q1 q2 q3 q4 q5 q6 q7 q8 q9 q10 q11 : Nat) (th : Int32) (ss : Nat → Int32) (asd : Nat → Int32) (sts : Nat → Int32) (snp : Nat → Int32) (hx : Int32) (tx : Nat → Int32) (lgt : Int32) (can : Nat → Int32) (szs : Nat → Int32) (ptn : Nat → Int32) (nms : Nat → Int32) (pth : Nat → Int32) (att : Int32) (isw : Int32) (rdd : Nat → Int32) (rmy : Int32) (z : Nat) (c : Nat → Int32) (q : Bool) (x : Int32) (y : Int32) (hS : SR c ss) (hz : z ≤ 5) : g_M l yX6_move wsX6_move rm_X6_move D cI cC [.ref q0, .int (bI q), .int x, .int y] (rW cI cC q0 q1 q2 q3 q4 q5 q6 q7 q8 q9 q10 q11 th ss asd sts (nI z) snp hx tx lgt can szs ptn nms pth att isw rdd rmy) (fun vv ww => ∃ (ss2 : Nat → Int32) (sts2 : Nat → Int32) (z2 : Nat), vv = some (.int (mvV c q x y)) ∧ ww = (rW cI cC q0 q1 q2 q3 q4 q5 q6 q7 q8 q9 q10 q11 (nI 0) ss2 asd sts2 (nI z2) snp hx tx lgt can szs ptn nms pth att isw rdd rmy) ∧ RA (mvQ x y) (mvC c q x y) ss sts z ss2 sts2 z2) := by
  refine g_entry (lv := [(0, .ref q0), (1, .int (bI q)), (2, .int x), (3, .int y)]) (own := RX6) (by decide) rfl rfl (Nat.le_of_ble_eq_true rfl) rfl ?_
  intro p e s m args below meth co A Q C hr hQ
  refine g_aload_n (pc := 0) C dX6_move_0 0 rfl rfl ?_
  refine g_iconst (pc := 1) (v := nI 0) C dX6_move_1 (by decide) ?_
  refine g_put (pc := 2) (ci := 6) (T := TX6) (N := 18) (ws' := (rW cI cC q0 q1 q2 q3 q4 q5 q6 q7 q8 q9 q10 q11 (nI 0) ss asd sts (nI z) snp hx tx lgt can szs ptn nms pth att isw rdd rmy)) (ty := .int) (v := .int (nI 0)) C in_X6_move_X6 tyX6 tyX6_ok nmX6 0 rfl rfl 0 (by decide) fl_X6_move_43 rfl rfl (by decide +kernel) rfl rfl (Nat.le_of_ble_eq_true rfl) dX6_move_2 rfl ?_
  refine g_iload_n (pc := 5) C dX6_move_5 2 rfl rfl ?_
  refine g_callS (pc := 6) (st := []) (As := [.int x]) (nn := 1) C (m_X6_isPerson l D cI cC x) gX6_move_X6_isPerson rfl rfl rfl yd_X6_isPerson.2 ⟨Nat.le_of_ble_eq_true rfl, Nat.le_of_ble_eq_true rfl⟩ rfl [] rfl rfl rfl (Nat.le_of_ble_eq_true rfl) ⟨Nat.le_of_ble_eq_true rfl, Nat.le_of_ble_eq_true rfl⟩ dX6_move_6 ?_
  rintro _ _ ⟨rfl, rfl⟩
  refine g_eq (ws' := (rW cI cC q0 q1 q2 q3 q4 q5 q6 q7 q8 q9 q10 q11 (nI 0) ss asd sts (nI z) snp hx tx lgt can szs ptn nms pth att isw rdd rmy)) (st' := [.int (bI (isP x))]) rfl rfl ?_
  refine g_if_eqB (pc := 9) C 19 dX6_move_9 (by decide) (fun c9 => ?_) (fun c9 => ?_)
  · refine g_iconst (pc := 19) (v := (-1)) C dX6_move_19 (by decide) ?_
    refine g_top (y := (mvV c q x y)) (by rw [mvV, show mvQ x y = false from by rw [mvQ, c9]; rfl]; rfl) ?_
    exact g_iret C hr hQ dX6_move_20 rfl ⟨_, _, _, rfl, rfl, by rw [show mvQ x y = false from by rw [mvQ, c9]; rfl]; exact RA_f⟩
  · refine g_iload_n (pc := 12) C dX6_move_12 3 rfl rfl ?_
    refine g_callS (pc := 13) (st := []) (As := [.int y]) (nn := 1) C (m_X6_isGate l D cI cC y) gX6_move_X6_isGate rfl rfl rfl yd_X6_isGate.2 ⟨Nat.le_of_ble_eq_true rfl, Nat.le_of_ble_eq_true rfl⟩ rfl [] rfl rfl rfl (Nat.le_of_ble_eq_true rfl) ⟨Nat.le_of_ble_eq_true rfl, Nat.le_of_ble_eq_true rfl⟩ dX6_move_13 ?_
    rintro _ _ ⟨rfl, rfl⟩
    refine g_eq (ws' := (rW cI cC q0 q1 q2 q3 q4 q5 q6 q7 q8 q9 q10 q11 (nI 0) ss asd sts (nI z) snp hx tx lgt can szs ptn nms pth att isw rdd rmy)) (st' := [.int (bI (isG y))]) rfl rfl ?_
    refine g_if_neB (pc := 16) C 21 dX6_move_16 (by decide) (fun c16 => ?_) (fun c16 => ?_)
    · have tg : mvQ x y = true := by rw [mvQ, c9, c16]; rfl
      obtain ⟨a, b, ha, hb, ex, ey, px, py⟩ := mvQ_ex tg
      refine g_lveq (lv' := [(0, .ref q0), (1, .int (bI q)), (2, .int (nI a)), (3, .int y)]) (by rw [ex]) ?_
      refine g_lveq (lv' := [(0, .ref q0), (1, .int (bI q)), (2, .int (nI a)), (3, .int (nI b))]) (by rw [ey]) ?_
      refine g_aload_n (pc := 21) C dX6_move_21 0 rfl rfl ?_
      refine g_callV (pc := 22) (st := []) (As := []) (nn := 0) (ci := 6) (q0 := 0) C (m_X6_records l D cI cC q0 q1 q2 q3 q4 q5 q6 q7 q8 q9 q10 q11 (nI 0) ss asd sts snp hx tx lgt can szs ptn nms pth att isw rdd rmy z (by first | assumption | omega)) gX6_move_X6_records rfl rfl rfl yd_X6_records ⟨Nat.le_of_ble_eq_true rfl, Nat.le_of_ble_eq_true rfl⟩ rfl [0, 1, 2, 3, 4, 5, 6, 7, 8, 9, 10, 11] rfl rfl rfl rfl rfl (Nat.le_of_ble_eq_true rfl) ⟨Nat.le_of_ble_eq_true rfl, Nat.le_of_ble_eq_true rfl⟩ dX6_move_22 ?_
      rintro _ _ ⟨rfl, rfl⟩
      refine g_eq (ws' := (rW cI cC q0 q1 q2 q3 q4 q5 q6 q7 q8 q9 q10 q11 (nI 0) ss asd (rcS ss sts z) (nI (kpS z)) snp hx tx lgt can szs ptn nms pth att isw rdd rmy)) (st' := []) rfl rfl ?_
      refine g_iconst (pc := 25) (v := nI 1) C dX6_move_25 (by decide) ?_
      refine g_iload_n (pc := 26) C dX6_move_26 1 rfl rfl ?_
      refine g_if_eqB (pc := 27) C 34 dX6_move_27 (by decide) (fun c27 => ?_) (fun c27 => ?_)
      · refine g_bipush (pc := 34) (v := nI 8) C dX6_move_34 (by decide) ?_
        refine g_iaddN (pc := 36) C dX6_move_36 ?_
        refine g_iload_n (pc := 37) C dX6_move_37 2 rfl rfl ?_
        refine g_iaddN (pc := 38) C dX6_move_38 ?_
        refine g_istore (pc := 39) (lv' := [(4, .int (nI ((1 + 8) + a))), (0, .ref q0), (1, .int (bI q)), (2, .int (nI a)), (3, .int (nI b))]) C dX6_move_39 (by decide) rfl ?_
        refine g_aload_n (pc := 41) C dX6_move_41 1 rfl rfl ?_
        refine g_get (pc := 42) (ci := 6) (T := TX6) (N := 18) (v := .ref q1) C in_X6_move_X6 0 rfl rfl 1 (by decide) fl_X6_move_7 rfl rfl dX6_move_42 ?_
        refine g_iload (pc := 45) C dX6_move_45 0 rfl ?_
        refine g_ialdN (pc := 47) (f := ss) C 1 rfl (by omega) (by decide) dX6_move_47 ?_
        refine g_top (y := (c (8 + a))) (by rw [Nat.add_assoc]; exact hS.g (by omega)) ?_
        refine g_istore (pc := 48) (lv' := [(5, .int (c (8 + a))), (4, .int (nI ((1 + 8) + a))), (0, .ref q0), (1, .int (bI q)), (2, .int (nI a)), (3, .int (nI b))]) C dX6_move_48 (by decide) rfl ?_
        refine g_aload_n (pc := 50) C dX6_move_50 2 rfl rfl ?_
        refine g_get (pc := 51) (ci := 6) (T := TX6) (N := 18) (v := .ref q1) C in_X6_move_X6 0 rfl rfl 1 (by decide) fl_X6_move_7 rfl rfl dX6_move_51 ?_
        refine g_iload (pc := 54) C dX6_move_54 1 rfl ?_
        refine g_iload_n (pc := 56) C dX6_move_56 5 rfl rfl ?_
        refine g_iastN (pc := 57) (f := ss) (ws' := (rW cI cC q0 q1 q2 q3 q4 q5 q6 q7 q8 q9 q10 q11 (nI 0) (upd ss ((1 + 8) + a) (nI b)) asd (rcS ss sts z) (nI (kpS z)) snp hx tx lgt can szs ptn nms pth att isw rdd rmy)) C 1 rfl (by omega) (by decide) dX6_move_57 rfl ?_
        refine g_iload (pc := 58) C dX6_move_58 0 rfl ?_
        refine g_top (y := (mvV c q x y)) (by rw [mvV, tg, px, c27]; rfl) ?_
        exact g_iret C hr hQ dX6_move_60 rfl ⟨_, _, _, rfl, rfl, by rw [tg, mvC, px, c27, ey, Nat.add_assoc]; exact RA_t (hS.gate (k0 := 8 + a) (by omega) hb)⟩
      · refine g_iconst (pc := 30) (v := nI 0) C dX6_move_30 (by decide) ?_
        refine g_goto (pc := 31) C 36 dX6_move_31 (by decide) ?_
        refine g_iaddN (pc := 36) C dX6_move_36 ?_
        refine g_iload_n (pc := 37) C dX6_move_37 2 rfl rfl ?_
        refine g_iaddN (pc := 38) C dX6_move_38 ?_
        refine g_istore (pc := 39) (lv' := [(4, .int (nI ((1 + 0) + a))), (0, .ref q0), (1, .int (bI q)), (2, .int (nI a)), (3, .int (nI b))]) C dX6_move_39 (by decide) rfl ?_
        refine g_aload_n (pc := 41) C dX6_move_41 1 rfl rfl ?_
        refine g_get (pc := 42) (ci := 6) (T := TX6) (N := 18) (v := .ref q1) C in_X6_move_X6 0 rfl rfl 1 (by decide) fl_X6_move_7 rfl rfl dX6_move_42 ?_
        refine g_iload (pc := 45) C dX6_move_45 0 rfl ?_
        refine g_ialdN (pc := 47) (f := ss) C 1 rfl (by omega) (by decide) dX6_move_47 ?_
        refine g_top (y := (c (0 + a))) (by rw [Nat.add_assoc]; exact hS.g (by omega)) ?_
        refine g_istore (pc := 48) (lv' := [(5, .int (c (0 + a))), (4, .int (nI ((1 + 0) + a))), (0, .ref q0), (1, .int (bI q)), (2, .int (nI a)), (3, .int (nI b))]) C dX6_move_48 (by decide) rfl ?_
        refine g_aload_n (pc := 50) C dX6_move_50 2 rfl rfl ?_
        refine g_get (pc := 51) (ci := 6) (T := TX6) (N := 18) (v := .ref q1) C in_X6_move_X6 0 rfl rfl 1 (by decide) fl_X6_move_7 rfl rfl dX6_move_51 ?_
        refine g_iload (pc := 54) C dX6_move_54 1 rfl ?_
        refine g_iload_n (pc := 56) C dX6_move_56 5 rfl rfl ?_
        refine g_iastN (pc := 57) (f := ss) (ws' := (rW cI cC q0 q1 q2 q3 q4 q5 q6 q7 q8 q9 q10 q11 (nI 0) (upd ss ((1 + 0) + a) (nI b)) asd (rcS ss sts z) (nI (kpS z)) snp hx tx lgt can szs ptn nms pth att isw rdd rmy)) C 1 rfl (by omega) (by decide) dX6_move_57 rfl ?_
        refine g_iload (pc := 58) C dX6_move_58 0 rfl ?_
        refine g_top (y := (mvV c q x y)) (by rw [mvV, tg, px, c27]; rfl) ?_
        exact g_iret C hr hQ dX6_move_60 rfl ⟨_, _, _, rfl, rfl, by rw [tg, mvC, px, c27, ey, Nat.add_assoc]; exact RA_t (hS.gate (k0 := 0 + a) (by omega) hb)⟩
    · refine g_iconst (pc := 19) (v := (-1)) C dX6_move_19 (by decide) ?_
      refine g_top (y := (mvV c q x y)) (by rw [mvV, show mvQ x y = false from by rw [mvQ, c9, c16]; rfl]; rfl) ?_
      exact g_iret C hr hQ dX6_move_20 rfl ⟨_, _, _, rfl, rfl, by rw [show mvQ x y = false from by rw [mvQ, c9, c16]; rfl]; exact RA_f⟩
