/-! the reference's state over the class's cells -/
def SR (c ss : Nat → Int32) : Prop := cOK c ∧ (∀ k, k < 16 → ss (1 + k) = c k) ∧ (∀ a b, a < 4 → b < 4 → ss (17 + 4 * a + b) = bI (lkC c a b)) ∧ (∀ k, k < 64 → ss (33 + k) = c (24 + k)) ∧ (∀ a b, a < 8 → b < 8 → ss (97 + 8 * a + b) = bI (wiC c a b)) ∧ (∀ k, k < 64 → ss (161 + k) = c (88 + k)) ∧ ss 0 = c 153
theorem SR.ok {c ss : Nat → Int32} (h : SR c ss) : cOK c := h.1
theorem SR.g {c ss : Nat → Int32} (h : SR c ss) {k : Nat} (hk : k < 16) : ss (1 + k) = c k := h.2.1 k hk
theorem SR.gN {c ss : Nat → Int32} (h : SR c ss) {k : Nat} (hk : k < 16) : ss (1 + k) = nI (cN c k) := (h.2.1 k hk).trans (h.1.g hk)
theorem SR.l {c ss : Nat → Int32} (h : SR c ss) {a b : Nat} (ha : a < 4) (hb : b < 4) : ss (17 + 4 * a + b) = bI (lkC c a b) := h.2.2.1 a b ha hb
theorem SR.f {c ss : Nat → Int32} (h : SR c ss) {k : Nat} (hk : k < 64) : ss (33 + k) = c (24 + k) := h.2.2.2.1 k hk
theorem SR.w {c ss : Nat → Int32} (h : SR c ss) {a b : Nat} (ha : a < 8) (hb : b < 8) : ss (97 + 8 * a + b) = bI (wiC c a b) := h.2.2.2.2.1 a b ha hb
theorem SR.t {c ss : Nat → Int32} (h : SR c ss) {k : Nat} (hk : k < 64) : ss (161 + k) = c (88 + k) := h.2.2.2.2.2.1 k hk
theorem SR.r {c ss : Nat → Int32} (h : SR c ss) : ss 0 = c 153 := h.2.2.2.2.2.2
theorem SR.fe {c ss : Nat → Int32} (h : SR c ss) {a b : Nat} (ha : a < 8) (hb : b < 8) : ss (33 + 8 * a + b) = feC c a b := by
  rw [Nat.add_assoc, h.f (by omega), feC, Nat.add_assoc]
theorem SR.ta {c ss : Nat → Int32} (h : SR c ss) {a b : Nat} (ha : a < 8) (hb : b < 8) : ss (161 + 8 * a + b) = taC c a b := by
  rw [Nat.add_assoc, h.t (by omega), taC, Nat.add_assoc]
def wq (c : Nat → Int32) (k : Nat) : Bool := wiC c (k / 8) (k % 8)
theorem SR.wk {c ss : Nat → Int32} (h : SR c ss) {k : Nat} (hk : k < 64) : ss (97 + k) = bI (wq c k) := by
  have := h.w (a := k / 8) (b := k % 8) (by omega) (by omega)
  rw [show 97 + 8 * (k / 8) + k % 8 = 97 + k by omega] at this
  exact this
theorem SR.lk {c ss : Nat → Int32} (h : SR c ss) {k : Nat} (hk : k < 16) : ss (17 + k) = bI (lkC c (k / 4) (k % 4)) := by
  have := h.l (a := k / 4) (b := k % 4) (by omega) (by omega)
  rw [show 17 + 4 * (k / 4) + k % 4 = 17 + k by omega] at this
  exact this
theorem SR.same {c ss ss2 : Nat → Int32} (h : SR c ss) (e : ∀ k, k < 225 → ss2 k = ss k) : SR c ss2 :=
  ⟨h.1, fun k hk => by rw [e _ (by omega)]; exact h.g hk, fun a b ha hb => by rw [e _ (by omega)]; exact h.l ha hb, fun k hk => by rw [e _ (by omega)]; exact h.f hk, fun a b ha hb => by rw [e _ (by omega)]; exact h.w ha hb, fun k hk => by rw [e _ (by omega)]; exact h.t hk, by rw [e _ (by omega)]; exact h.r⟩
theorem wi_of {c c2 : Nat → Int32} {a b : Nat} (h : c2 (16 + a) = c (16 + a)) : wiC c2 a b = wiC c a b := by rw [wiC, wiC, cN, cN, h]
theorem lk_of {c c2 : Nat → Int32} {a b : Nat} (h : c2 152 = c 152) : lkC c2 a b = lkC c a b := by rw [lkC, lkC, cN, cN, h]
theorem SR.cells {c ss c2 : Nat → Int32} (h : SR c ss) (e : ∀ k, k < 154 → c2 k = c k) : SR c2 ss :=
  ⟨cOK_of h.1 (fun k hk => e k (by omega)) (e 152 (by omega)), fun k hk => by rw [e _ (by omega)]; exact h.g hk, fun a b ha hb => by rw [lk_of (e 152 (by omega))]; exact h.l ha hb, fun k hk => by rw [e _ (by omega)]; exact h.f hk, fun a b ha hb => by rw [wi_of (e _ (by omega))]; exact h.w ha hb, fun k hk => by rw [e _ (by omega)]; exact h.t hk, by rw [e _ (by omega)]; exact h.r⟩
/-- one mask changes in one place -/
theorem SR.mask {c ss : Nat → Int32} (h : SR c ss) {a b w : Nat} {q : Bool} (ha : a < 8) (hb : b < 8) (hw : w < 256) (hbit : ∀ j, j < 8 → w.testBit j = if j = b then q else wiC c a j) : SR (upd c (16 + a) (nI w)) (upd ss (97 + 8 * a + b) (bI q)) := by
  refine ⟨cOK_w h.ok ha hw, fun k hk => ?_, fun x y hx hy => ?_, fun k hk => ?_, fun x y hx hy => ?_, fun k hk => ?_, ?_⟩
  · rw [upd_ne (by omega), upd_ne (by omega)]; exact h.g hk
  · rw [upd_ne (by omega), lk_of (upd_ne (by omega))]; exact h.l hx hy
  · rw [upd_ne (by omega), upd_ne (by omega)]; exact h.f hk
  · by_cases e : x = a
    · subst e
      rw [wiC, cN_upd_eq (by omega), hbit y hy]
      by_cases e2 : y = b
      · subst e2
        rw [upd_eq, if_pos rfl]
      · rw [upd_ne (by omega), if_neg e2]; exact h.w hx hy
    · rw [upd_ne (by omega), wi_of (upd_ne (by omega))]; exact h.w hx hy
  · rw [upd_ne (by omega), upd_ne (by omega)]; exact h.t hk
  · rw [upd_ne (by omega), upd_ne (by omega)]; exact h.r
theorem SR.wish {c ss : Nat → Int32} (h : SR c ss) {a b : Nat} (ha : a < 8) (hb : b < 8) : SR (upd c (16 + a) (nI (cN c (16 + a) ||| (1 <<< b)))) (upd ss (97 + 8 * a + b) (nI 1)) := by
  refine h.mask (q := true) ha hb (or_lt (h.ok.w8 ha) (sh_lt hb)) (fun j hj => ?_)
  rw [Nat.testBit_or, bit_one]
  by_cases e : j = b
  · subst e; simp
  · rw [if_neg e, decide_eq_false (fun z => e z.symm), Bool.or_false]; rfl
theorem SR.close {c ss : Nat → Int32} (h : SR c ss) {a b : Nat} (ha : a < 8) (hb : b < 8) : SR (upd c (16 + a) (nI (g_nand (cN c (16 + a)) (1 <<< b)))) (upd ss (97 + 8 * a + b) (nI 0)) := by
  refine h.mask (q := false) ha hb (Nat.lt_of_le_of_lt Nat.and_le_left (h.ok.w8 ha)) (fun j hj => ?_)
  rw [g_nand_bit _ _ _ (by omega), bit_one]
  by_cases e : j = b
  · subst e; simp
  · rw [if_neg e, decide_eq_false (fun z => e z.symm), Bool.not_false, Bool.and_true]; rfl
theorem SR.feud {c ss : Nat → Int32} (h : SR c ss) {a b : Nat} (x : Int32) (ha : a < 8) (hb : b < 8) : SR (upd c (24 + 8 * a + b) x) (upd ss (33 + 8 * a + b) x) := by
  refine ⟨cOK_of h.ok (fun k hk => upd_ne (by omega)) (upd_ne (by omega)), fun k hk => ?_, fun x y hx hy => ?_, fun k hk => ?_, fun x y hx hy => ?_, fun k hk => ?_, ?_⟩
  · rw [upd_ne (by omega), upd_ne (by omega)]; exact h.g hk
  · rw [upd_ne (by omega), lk_of (upd_ne (by omega))]; exact h.l hx hy
  · by_cases e : k = 8 * a + b
    · subst e
      rw [← Nat.add_assoc, ← Nat.add_assoc, upd_eq, upd_eq]
    · rw [upd_ne (by omega), upd_ne (by omega)]; exact h.f hk
  · rw [upd_ne (by omega), wi_of (upd_ne (by omega))]; exact h.w hx hy
  · rw [upd_ne (by omega), upd_ne (by omega)]; exact h.t hk
  · rw [upd_ne (by omega), upd_ne (by omega)]; exact h.r
theorem SR.tally {c ss : Nat → Int32} (h : SR c ss) {a b : Nat} (x : Int32) (ha : a < 8) (hb : b < 8) : SR (upd c (88 + 8 * a + b) x) (upd ss (161 + 8 * a + b) x) := by
  refine ⟨cOK_of h.ok (fun k hk => upd_ne (by omega)) (upd_ne (by omega)), fun k hk => ?_, fun x y hx hy => ?_, fun k hk => ?_, fun x y hx hy => ?_, fun k hk => ?_, ?_⟩
  · rw [upd_ne (by omega), upd_ne (by omega)]; exact h.g hk
  · rw [upd_ne (by omega), lk_of (upd_ne (by omega))]; exact h.l hx hy
  · rw [upd_ne (by omega), upd_ne (by omega)]; exact h.f hk
  · rw [upd_ne (by omega), wi_of (upd_ne (by omega))]; exact h.w hx hy
  · by_cases e : k = 8 * a + b
    · subst e
      rw [← Nat.add_assoc, ← Nat.add_assoc, upd_eq, upd_eq]
    · rw [upd_ne (by omega), upd_ne (by omega)]; exact h.t hk
  · rw [upd_ne (by omega), upd_ne (by omega)]; exact h.r
theorem SR.gate {c ss : Nat → Int32} (h : SR c ss) {k0 g : Nat} (hk0 : k0 < 16) (hg : g < 4) : SR (upd c k0 (nI g)) (upd ss (1 + k0) (nI g)) := by
  refine ⟨cOK_gate h.ok hk0 hg, fun k hk => ?_, fun x y hx hy => ?_, fun k hk => ?_, fun x y hx hy => ?_, fun k hk => ?_, ?_⟩
  · by_cases e : k = k0
    · subst e; rw [upd_eq, upd_eq]
    · rw [upd_ne (by omega), upd_ne (by omega)]; exact h.g hk
  · rw [upd_ne (by omega), lk_of (upd_ne (by omega))]; exact h.l hx hy
  · rw [upd_ne (by omega), upd_ne (by omega)]; exact h.f hk
  · rw [upd_ne (by omega), wi_of (upd_ne (by omega))]; exact h.w hx hy
  · rw [upd_ne (by omega), upd_ne (by omega)]; exact h.t hk
  · rw [upd_ne (by omega), upd_ne (by omega)]; exact h.r
theorem lk_link {c : Nat → Int32} (h : cOK c) {a b x y : Nat} (ha : a < 4) (hb : b < 4) (hx : x < 4) (hy : y < 4) (q : Bool) : lkC (cLink c a b q) x y = if x = a ∧ y = b then q else lkC c x y := by
  have h16 := h.l16
  have hs : (1 : Nat) <<< (4 * a + b) < 2 ^ 16 := by
    rw [Nat.shiftLeft_eq, Nat.one_mul]; exact Nat.pow_lt_pow_right (by decide) (by omega)
  have hor : cN c 152 ||| 1 <<< (4 * a + b) < 2 ^ 16 := Nat.or_lt_two_pow h16 hs
  have hna : g_nand (cN c 152) (1 <<< (4 * a + b)) < 65536 := Nat.lt_of_le_of_lt Nat.and_le_left h16
  cases q with
  | true =>
    rw [lkC, cLink, if_pos rfl, cN_upd_eq (by omega), Nat.testBit_or, bit_one]
    by_cases e : x = a ∧ y = b
    · rw [if_pos e, e.1, e.2, decide_eq_true rfl, Bool.or_true]
    · rw [if_neg e, decide_eq_false (by omega), Bool.or_false]; rfl
  | false =>
    rw [lkC, cLink, if_neg (by decide), cN_upd_eq (by omega), g_nand_bit _ _ _ (by omega), bit_one]
    by_cases e : x = a ∧ y = b
    · rw [if_pos e, e.1, e.2, decide_eq_true rfl, Bool.not_true, Bool.and_false]
    · rw [if_neg e, decide_eq_false (by omega), Bool.not_false, Bool.and_true]; rfl
theorem SR.link {c ss : Nat → Int32} (h : SR c ss) {a b : Nat} (ha : a < 4) (hb : b < 4) (q : Bool) : SR (cLink c a b q) (upd ss (17 + 4 * a + b) (bI q)) := by
  have n : ∀ k, k ≠ 152 → cLink c a b q k = c k := fun k hk => upd_ne hk
  refine ⟨cOK_link h.ok ha hb q, fun k hk => ?_, fun x y hx hy => ?_, fun k hk => ?_, fun x y hx hy => ?_, fun k hk => ?_, ?_⟩
  · rw [upd_ne (by omega), n _ (by omega)]; exact h.g hk
  · rw [lk_link h.ok ha hb hx hy]
    by_cases e : x = a ∧ y = b
    · rw [if_pos e, e.1, e.2, upd_eq]
    · rw [if_neg e, upd_ne (by omega)]; exact h.l hx hy
  · rw [upd_ne (by omega), n _ (by omega)]; exact h.f hk
  · rw [upd_ne (by omega), wi_of (n _ (by omega))]; exact h.w hx hy
  · rw [upd_ne (by omega), n _ (by omega)]; exact h.t hk
  · rw [upd_ne (by omega), n _ (by omega)]; exact h.r
/-- bits are counted one by one -/
theorem bc_pop : ∀ w, w < 256 → bcN w = cnt (fun k => w.testBit k) 8 := by decide +kernel
theorem cnt_add (p : Nat → Bool) (m : Nat) : ∀ n, cnt p (m + n) = cnt p m + cnt (fun k => p (m + k)) n
  | 0 => rfl
  | n + 1 => by
    show cnt p (m + n) + (if p (m + n) then 1 else 0) = _
    rw [cnt_add p m n, Nat.add_assoc]
    rfl
theorem cnt_nw {c : Nat → Int32} (h : cOK c) : ∀ n, n ≤ 8 → cnt (wq c) (8 * n) = nwC c n
  | 0, _ => rfl
  | n + 1, hn => by
    rw [Nat.mul_succ, cnt_add, cnt_nw h n (by omega)]
    show nwC c n + _ = nwC c n + bcN (cN c (16 + n))
    rw [bc_pop _ (h.w8 (by omega))]
    refine congrArg _ (cnt_cong 8 (fun k hk => ?_))
    show wiC c ((8 * n + k) / 8) ((8 * n + k) % 8) = _
    rw [show (8 * n + k) / 8 = n by omega, show (8 * n + k) % 8 = k by omega]
    rfl
/-- ranges -/
def inI (v a b : Int32) : Bool := decide (a ≤ v) && decide (v ≤ b)
theorem inI_f1 {v a b : Int32} (h : v < a) : inI v a b = false := by rw [inI, decide_eq_false (Int32.not_le.mpr h), Bool.false_and]
theorem inI_f2 {v a b : Int32} (h : b < v) : inI v a b = false := by rw [inI, decide_eq_false (Int32.not_le.mpr h), Bool.and_false]
theorem inI_t {v a b : Int32} (h1 : ¬ v < a) (h2 : ¬ b < v) : inI v a b = true := by rw [inI, decide_eq_true (Int32.not_lt.mp h1), decide_eq_true (Int32.not_lt.mp h2)]; rfl
theorem le_sc (x : Int32) {n : Nat} (h : n + 1 < 2 ^ 31) : decide (x ≤ nI n) = !decide (nI (n + 1) ≤ x) := by
  have e : x ≤ nI n ↔ ¬ nI (n + 1) ≤ x := by
    rw [Int32.le_iff_toInt_le, Int32.le_iff_toInt_le, nI_toInt (by omega), nI_toInt h]
    omega
  by_cases q : nI (n + 1) ≤ x
  · rw [decide_eq_true q, decide_eq_false (fun z => e.mp z q)]; rfl
  · rw [decide_eq_false q, decide_eq_true (e.mpr q)]; rfl
theorem ge_nl (x a : Int32) : decide (a ≤ x) = !decide (x < a) := by
  by_cases q : x < a
  · rw [decide_eq_true q, decide_eq_false (Int32.not_le.mpr q)]; rfl
  · rw [decide_eq_false q, decide_eq_true (Int32.not_lt.mp q)]; rfl
theorem in_P (x : Int32) : inI x (nI 0) (nI 7) = isP x := by rw [inI, isP, ge_nl, le_sc x (by decide)]; rfl
theorem in_G (x : Int32) : inI x (nI 0) (nI 3) = isG x := by rw [inI, isG, ge_nl, le_sc x (by decide)]; rfl
theorem in_R (x : Int32) : inI x (nI 1) (nI 50) = inR x := by rw [inI, inR, ge_nl]
theorem in_A (x : Int32) : inI x (nI 32) (nI 126) = apx x := by rw [inI, apx, ge_nl]
theorem ite_lt (b : Bool) : (if b = true then 1 else 0) < 2 ^ 31 := by cases b <;> decide
theorem b1_t {b : Bool} (h : (if b = true then 1 else 0) = 1) : b = true := by cases b with | true => rfl | false => cases h
theorem b1_f {b : Bool} (h : (if b = true then 1 else 0) ≠ 1) : b = false := by cases b with | false => rfl | true => exact absurd rfl h
/-- rows copied -/
def cpF (f g : Nat → Int32) (i : Nat) : Nat → Int32 := fun k => if k < i then f k else g k
theorem cpF_0 (f g : Nat → Int32) : cpF f g 0 = g := by funext k; exact if_neg (Nat.not_lt_zero _)
theorem cpF_s (f g : Nat → Int32) (i : Nat) : upd (cpF f g i) i (f i) = cpF f g (i + 1) := by
  funext k
  by_cases h : k = i
  · subst h; rw [upd_eq]; exact (if_pos (Nat.lt_succ_self _)).symm
  · rw [upd_ne h, cpF, cpF]
    by_cases h2 : k < i
    · rw [if_pos h2, if_pos (by omega)]
    · rw [if_neg h2, if_neg (by omega)]
theorem cpF_in {f g : Nat → Int32} {i k : Nat} (h : k < i) : cpF f g i k = f k := if_pos h
def shF (f : Nat → Int32) (i : Nat) : Nat → Int32 := fun k => if k < i then f (k + 225) else f k
theorem shF_0 (f : Nat → Int32) : shF f 0 = f := by funext k; exact if_neg (Nat.not_lt_zero _)
theorem shF_s (f : Nat → Int32) (i : Nat) : upd (shF f i) i (shF f i (i + 225)) = shF f (i + 1) := by
  have e : shF f i (i + 225) = f (i + 225) := if_neg (by omega)
  rw [e]
  funext k
  by_cases h : k = i
  · subst h; rw [upd_eq]; exact (if_pos (Nat.lt_succ_self _)).symm
  · rw [upd_ne h, shF, shF]
    by_cases h2 : k < i
    · rw [if_pos h2, if_pos (by omega)]
    · rw [if_neg h2, if_neg (by omega)]
def wrF (f g : Nat → Int32) (z i : Nat) : Nat → Int32 := fun k => if 225 * z ≤ k ∧ k < 225 * z + i then f (k - 225 * z) else g k
theorem wrF_0 (f g : Nat → Int32) (z : Nat) : wrF f g z 0 = g := by funext k; exact if_neg (by omega)
theorem wrF_s (f g : Nat → Int32) (z i : Nat) : upd (wrF f g z i) (225 * z + i) (f i) = wrF f g z (i + 1) := by
  funext k
  by_cases h : k = 225 * z + i
  · subst h
    rw [upd_eq, wrF, if_pos ⟨by omega, by omega⟩, show 225 * z + i - 225 * z = i by omega]
  · rw [upd_ne h, wrF, wrF]
    by_cases h2 : 225 * z ≤ k ∧ k < 225 * z + i
    · rw [if_pos h2, if_pos ⟨h2.1, by omega⟩]
    · rw [if_neg h2, if_neg (fun q => h2 ⟨q.1, by omega⟩)]
def rcS (ss sts : Nat → Int32) (z : Nat) : Nat → Int32 := wrF ss (if z = 5 then shF sts 900 else sts) (kpS z - 1) 225
theorem kp5 {z : Nat} (h : z = 5) : z - 1 = kpS z - 1 := by rw [kpS, if_pos h, h]
theorem kpn {z : Nat} (h : z ≠ 5) : z = kpS z - 1 := by rw [kpS, if_neg h]; omega
/-- what an action of the reference does -/
def RA (q : Bool) (cn ss sts : Nat → Int32) (z : Nat) (ss2 sts2 : Nat → Int32) (z2 : Nat) : Prop := (q = true → SR cn ss2 ∧ sts2 = rcS ss sts z ∧ z2 = kpS z) ∧ (q = false → ss2 = ss ∧ sts2 = sts ∧ z2 = z)
theorem RA_t {cn ss sn sts : Nat → Int32} {z : Nat} (h : SR cn sn) : RA true cn ss sts z sn (rcS ss sts z) (kpS z) := ⟨fun _ => ⟨h, rfl, rfl⟩, fun h => (by cases h)⟩
theorem RA_f {cn ss sts : Nat → Int32} {z : Nat} : RA false cn ss sts z ss sts z := ⟨fun h => (by cases h), fun _ => ⟨rfl, rfl, rfl⟩⟩
theorem rc_s {z : Nat} (h : z = 5) (ss sts : Nat → Int32) : wrF ss (shF sts 900) (z - 1) 225 = rcS ss sts z := by rw [rcS, if_pos h, ← kp5 h]
theorem rc_n {z : Nat} (h : z ≠ 5) (ss sts : Nat → Int32) : wrF ss sts z 225 = rcS ss sts z := by rw [rcS, if_neg h, ← kpn h]
theorem kp_s {z : Nat} (h : z = 5) : z - 1 + 1 = kpS z := by rw [kpS, if_pos h]; omega
theorem kp_n {z : Nat} (h : z ≠ 5) : z + 1 = kpS z := by rw [kpS, if_neg h]
