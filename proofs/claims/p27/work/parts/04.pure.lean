/-! pure words: the state of the class's clans, read off its cells -/
def cN (c : Nat → Int32) (k : Nat) : Nat := (c k).toNatClampNeg
theorem cN_nI {n : Nat} (h : n < 2 ^ 31) : (nI n).toNatClampNeg = n := nI_clamp h
/-- gates are gates, wishes and links are masks -/
def cOK (c : Nat → Int32) : Prop := (∀ k, k < 16 → c k = nI (cN c k) ∧ cN c k < 4) ∧ (∀ k, k < 8 → c (16 + k) = nI (cN c (16 + k)) ∧ cN c (16 + k) < 256) ∧ c 152 = nI (cN c 152) ∧ cN c 152 < 65536
def wiC (c : Nat → Int32) (a b : Nat) : Bool := (cN c (16 + a)).testBit b
def lkC (c : Nat → Int32) (a b : Nat) : Bool := (cN c 152).testBit (4 * a + b)
def feC (c : Nat → Int32) (a b : Nat) : Int32 := c (24 + 8 * a + b)
def taC (c : Nat → Int32) (a b : Nat) : Int32 := c (88 + 8 * a + b)
def glC (c : Nat → Int32) (a b : Nat) : Bool := lkC c (cN c a) (cN c (8 + b))
def caC (c : Nat → Int32) (a b : Nat) : Bool := decide (feC c a b = 0) && glC c a b
def poC (c : Nat → Int32) (a b : Nat) : Bool := wiC c a b && caC c a b
theorem cOK.g {c : Nat → Int32} (h : cOK c) {k : Nat} (hk : k < 16) : c k = nI (cN c k) := (h.1 k hk).1
theorem cOK.g4 {c : Nat → Int32} (h : cOK c) {k : Nat} (hk : k < 16) : cN c k < 4 := (h.1 k hk).2
theorem cOK.w {c : Nat → Int32} (h : cOK c) {k : Nat} (hk : k < 8) : c (16 + k) = nI (cN c (16 + k)) := (h.2.1 k hk).1
theorem cOK.w8 {c : Nat → Int32} (h : cOK c) {k : Nat} (hk : k < 8) : cN c (16 + k) < 256 := (h.2.1 k hk).2
theorem cOK.l {c : Nat → Int32} (h : cOK c) : c 152 = nI (cN c 152) := h.2.2.1
theorem cOK.l16 {c : Nat → Int32} (h : cOK c) : cN c 152 < 65536 := h.2.2.2
theorem hb_t {m b : Nat} (h : (m >>> b) &&& 1 = 1) : nI 1 = bI (m.testBit b) := by
  have : m.testBit b = true := by
    rw [Nat.testBit, Nat.and_comm, h]; rfl
  rw [this]; rfl
theorem hb_f {m b : Nat} (h : (m >>> b) &&& 1 ≠ 1) : nI 0 = bI (m.testBit b) := by
  have h2 : (m >>> b) &&& 1 = 0 := by
    have := Nat.and_one_is_mod (m >>> b)
    omega
  have : m.testBit b = false := by
    rw [Nat.testBit, Nat.and_comm, h2]; rfl
  rw [this]; rfl
/-- a number is a person's -/
def isP (x : Int32) : Bool := !(decide (x < 0)) && !(decide (nI 8 ≤ x))
theorem isP_t {x : Int32} (h1 : ¬ x < 0) (h2 : ¬ nI 8 ≤ x) : isP x = true := by simp [isP, h1, h2]
theorem isP_f1 {x : Int32} (h1 : x < 0) : isP x = false := by simp [isP, h1]
theorem isP_f2 {x : Int32} (h2 : nI 8 ≤ x) : isP x = false := by simp [isP, h2]
theorem isP_nI {k : Nat} (h : k < 8) : isP (nI k) = true := isP_t (nI_pos (by omega)) (nI_ge h (by decide))
theorem isP_ex {x : Int32} (h : isP x = true) : ∃ k, k < 8 ∧ x = nI k := by
  simp only [isP, Bool.and_eq_true, Bool.not_eq_true', decide_eq_false_iff_not] at h
  rcases pk_ix x (show 8 < 2 ^ 31 by decide) with a | a | a
  · exact absurd a h.1
  · exact absurd a h.2
  · exact a
theorem isP_no {x : Int32} (h : isP x = false) : ∀ k, k < 8 → x ≠ nI k := fun k hk e => by rw [e, isP_nI hk] at h; cases h
theorem isP_none : isP (-5) = false := by decide
/-- sums -/
def sI (f : Nat → Int32) : Nat → Int32
  | 0 => 0
  | n + 1 => sI f n + f n
/-- how many bits are set -/
def popc (w : Nat) : Nat → Nat
  | 0 => 0
  | n + 1 => popc w n + if w.testBit n then 1 else 0
def bcN (w : Nat) : Nat :=
  let x1 := w - ((w >>> 1) &&& 1431655765)
  let x2 := (x1 &&& 858993459) + ((x1 >>> 2) &&& 858993459)
  let x3 := (x2 + (x2 >>> 4)) &&& 252645135
  let x4 := x3 + (x3 >>> 8)
  let x5 := x4 + (x4 >>> 16)
  x5 &&& 63
def fillF (c : Nat → Int32) (v : Int32) (i : Nat) : Nat → Int32 := fun k => if k < i then v else c k
theorem fillF_0 (c : Nat → Int32) (v : Int32) : fillF c v 0 = c := by funext k; simp [fillF]
theorem fillF_s (c : Nat → Int32) (v : Int32) (i : Nat) : upd (fillF c v i) i v = fillF c v (i + 1) := by
  funext k
  simp only [upd, fillF]
  by_cases h : k = i
  · subst h; simp
  · by_cases h2 : k < i
    · rw [if_neg h, if_pos h2, if_pos (by omega)]
    · rw [if_neg h, if_neg h2, if_neg (by omega)]
theorem fillF_in {c : Nat → Int32} {v : Int32} {i k : Nat} (h : k < i) : fillF c v i k = v := if_pos h
/-- changes of the cells -/
def cLink (c : Nat → Int32) (a b : Nat) (q : Bool) : Nat → Int32 := upd c 152 (nI (if q then cN c 152 ||| 1 <<< (4 * a + b) else g_nand (cN c 152) (1 <<< (4 * a + b))))
def cShk (c : Nat → Int32) (a b : Nat) : Nat → Int32 := upd c (88 + 8 * a + b) (c (88 + 8 * a + b) + nI 1)
def cClose (c : Nat → Int32) (a b : Nat) : Nat → Int32 := upd c (16 + a) (nI (g_nand (cN c (16 + a)) (1 <<< b)))
def cFe (c : Nat → Int32) (i : Nat) : Nat → Int32 := fun k => if 24 ≤ k ∧ k < i ∧ 0 < c k then c k - nI 1 else c k
theorem cFe_0 (c : Nat → Int32) : cFe c 24 = c := by
  funext k
  exact if_neg (fun h => by omega)
theorem cFe_at (c : Nat → Int32) (i : Nat) : cFe c i i = c i := if_neg (fun h => by omega)
theorem cFe_s (c : Nat → Int32) {i : Nat} (hi : 24 ≤ i) (h : 0 < c i) : upd (cFe c i) i (cFe c i i - nI 1) = cFe c (i + 1) := by
  funext k
  rw [cFe_at]
  simp only [upd, cFe]
  by_cases hk : k = i
  · subst hk
    rw [if_pos rfl, if_pos ⟨hi, by omega, h⟩]
  · rw [if_neg hk]
    by_cases h2 : 24 ≤ k ∧ k < i ∧ 0 < c k
    · rw [if_pos h2, if_pos ⟨h2.1, by omega, h2.2.2⟩]
    · rw [if_neg h2, if_neg (fun z => h2 ⟨z.1, by omega, z.2.2⟩)]
theorem cFe_n (c : Nat → Int32) {i : Nat} (h : ¬ 0 < c i) : cFe c i = cFe c (i + 1) := by
  funext k
  simp only [cFe]
  by_cases hk : k = i
  · subst hk
    rw [if_neg (fun z => h z.2.2), if_neg (fun z => h z.2.2)]
  · by_cases h2 : 24 ≤ k ∧ k < i ∧ 0 < c k
    · rw [if_pos h2, if_pos ⟨h2.1, by omega, h2.2.2⟩]
    · rw [if_neg h2, if_neg (fun z => h2 ⟨z.1, by omega, z.2.2⟩)]
def cEnd (c : Nat → Int32) : Nat → Int32 := upd (cFe c 88) 153 (cFe c 88 153 + nI 1)
def amP (c : Nat → Int32) (a b : Nat) (w : Int32) : Int32 := if w = nI 1 then bI (wiC c a b) else if w = nI 2 then bI (poC c a b) else if w = nI 3 then bI (decide (0 < feC c a b)) else if w = nI 4 then taC c a b else nI 0
def amF (c : Nat → Int32) (q : Bool) (a : Nat) (w : Int32) (o : Nat) : Int32 := if q then amP c a o w else amP c o a w
def amA (c : Nat → Int32) (w : Int32) (a : Nat) : Int32 := sI (amF c true a w) 8
/-- masks of what holds -/
def pmask (f : Nat → Bool) : Nat → Nat
  | 0 => 0
  | n + 1 => if f n then pmask f n ||| (1 <<< n) else pmask f n
theorem pmask_bit (f : Nat → Bool) : ∀ n i, (pmask f n).testBit i = (decide (i < n) && f i)
  | 0, i => by simp [pmask]
  | n + 1, i => by
    simp only [pmask]
    by_cases h : f n = true
    · rw [if_pos h, Nat.testBit_or, pmask_bit f n i, Nat.shiftLeft_eq, Nat.one_mul, Nat.testBit_two_pow]
      by_cases h2 : n = i
      · subst h2; simp [h]
      · rw [decide_eq_false h2]
        by_cases h3 : i < n
        · rw [decide_eq_true h3, decide_eq_true (show i < n + 1 by omega)]; simp
        · rw [decide_eq_false h3, decide_eq_false (show ¬ i < n + 1 by omega)]; simp
    · rw [if_neg h, pmask_bit f n i]
      by_cases h2 : n = i
      · subst h2; simp [h]
      · by_cases h3 : i < n
        · rw [decide_eq_true h3, decide_eq_true (show i < n + 1 by omega)]
        · rw [decide_eq_false h3, decide_eq_false (show ¬ i < n + 1 by omega)]
theorem pmask_lt (f : Nat → Bool) : ∀ n, pmask f n < 2 ^ n
  | 0 => by simp [pmask]
  | n + 1 => by
    have h := pmask_lt f n
    have h2 : (2 : Nat) ^ n < 2 ^ (n + 1) := Nat.pow_lt_pow_right (by decide) (by omega)
    simp only [pmask]
    split
    · exact Nat.or_lt_two_pow (by omega) (by rw [Nat.shiftLeft_eq, Nat.one_mul]; exact h2)
    · omega
def nwC (c : Nat → Int32) : Nat → Nat
  | 0 => 0
  | n + 1 => nwC c n + bcN (cN c (16 + n))
theorem bcN_le (w : Nat) : bcN w ≤ 63 := Nat.and_le_right
theorem nwC_le (c : Nat → Int32) : ∀ n, nwC c n ≤ 63 * n
  | 0 => Nat.le_refl _
  | n + 1 => by
    have h1 := nwC_le c n
    have h2 := bcN_le (cN c (16 + n))
    simp only [nwC]
    omega
theorem cN_upd_ne {c : Nat → Int32} {i k : Nat} {x : Int32} (h : k ≠ i) : cN (upd c i x) k = cN c k := by rw [cN, upd, if_neg h]; rfl
theorem upd_ne {c : Nat → Int32} {i k : Nat} {x : Int32} (h : k ≠ i) : upd c i x k = c k := if_neg h
theorem upd_eq {c : Nat → Int32} {i : Nat} {x : Int32} : upd c i x i = x := if_pos rfl
theorem cN_upd_eq {c : Nat → Int32} {i n : Nat} (h : n < 2 ^ 31) : cN (upd c i (nI n)) i = n := by rw [cN, upd_eq, nI_clamp h]
/-- a change of cells that are no gates, masks, links keeps cOK -/
theorem cOK_of {c c2 : Nat → Int32} (hc : cOK c) (h1 : ∀ k, k < 24 → c2 k = c k) (h2 : c2 152 = c 152) : cOK c2 := by
  have e : ∀ k, c2 k = c k → cN c2 k = cN c k := fun k h => by rw [cN, h]; rfl
  refine ⟨fun k hk => ?_, fun k hk => ?_, ?_⟩
  · rw [e k (h1 k (by omega)), h1 k (by omega)]; exact hc.1 k hk
  · rw [e _ (h1 (16 + k) (by omega)), h1 (16 + k) (by omega)]; exact hc.2.1 k hk
  · rw [e _ h2, h2]; exact hc.2.2
theorem cShk_ok {c : Nat → Int32} (hc : cOK c) {a b : Nat} (ha : a < 8) (hb : b < 8) : cOK (cShk c a b) :=
  cOK_of hc (fun k hk => upd_ne (by omega)) (upd_ne (by omega))
