/-! the reference's table of greatest matchings -/
def Eb (c : Nat → Int32) (x : Int32) : Nat → Nat → Bool := fun a b => !decide (nI a = x) && poC c a b
def cnO (can : Nat → Int32) (E : Nat → Nat → Bool) : Prop := ∀ a, a < 8 → can a = nI (pmask (E a) 8)
def tbO (szs : Nat → Int32) (E : Nat → Nat → Bool) (k : Nat) : Prop := ∀ a S, k ≤ a → a ≤ 8 → S < 256 → szs (256 * a + S) = nI (szN E (8 - a) S)
theorem pmask_no {f : Nat → Bool} (h : ∀ j, f j = false) : ∀ n, pmask f n = 0
  | 0 => rfl
  | n + 1 => by simp only [pmask]; rw [if_neg (by rw [h n]; decide), pmask_no h n]
theorem pmask_s1 {f : Nat → Bool} {n : Nat} (h : f n = true) : pmask f n ||| (1 <<< n) = pmask f (n + 1) := by simp only [pmask]; rw [if_pos h]
theorem pmask_s0 {f : Nat → Bool} {n : Nat} (h : f n = false) : pmask f n ||| 0 = pmask f (n + 1) := by simp only [pmask]; rw [if_neg (by rw [h]; decide), Nat.or_zero]
theorem Eb_out {c : Nat → Int32} {x : Int32} {i : Nat} (h : nI i = x) (j : Nat) : Eb c x i j = false := by rw [Eb, decide_eq_true h]; rfl
theorem Eb_in {c : Nat → Int32} {x : Int32} {i j : Nat} {q : Bool} (h : ¬ nI i = x) (hp : poC c i j = q) : Eb c x i j = q := by rw [Eb, decide_eq_false h, hp]; rfl
theorem Eb_row {c : Nat → Int32} {x : Int32} {i j : Nat} (h : nI i = x) : pmask (Eb c x i) j = pmask (Eb c x i) 8 := by rw [pmask_no (Eb_out h), pmask_no (Eb_out h)]
theorem EC_at {c : Nat → Int32} {a b : Nat} (hb : b < 8) : EC c a b = poC c a b := by
  show (pmask (poC c a) 8).testBit b = _
  rw [pmask_bit, decide_eq_true hb, Bool.true_and]
theorem cnO_EC {c can : Nat → Int32} (h : cnO can (Eb c (-5))) : cnO can (EC c) := fun a ha => by
  rw [h a ha, pmask_cong (f := Eb c (-5) a) (g := EC c a) 8 (fun k hk => by rw [Eb_in (nI_m5 (by omega)) rfl, EC_at hk])]
theorem and3_lt {f : Nat → Bool} {S j : Nat} : (pmask f 8 &&& S) &&& (1 <<< j) < 2 ^ 31 := Nat.lt_of_le_of_lt Nat.and_le_left (Nat.lt_of_le_of_lt Nat.and_le_left (Nat.lt_trans pm_lt (by decide)))
theorem and_one_bit {x j : Nat} : x &&& (1 <<< j) = 0 ↔ x.testBit j = false := by
  constructor
  · intro h
    have this : (x &&& (1 <<< j)).testBit j = (0 : Nat).testBit j := by rw [h]
    rw [Nat.testBit_and, bit_one, Nat.zero_testBit, decide_eq_true rfl, Bool.and_true] at this
    exact this
  · intro h
    apply Nat.eq_of_testBit_eq
    intro i
    rw [Nat.testBit_and, bit_one, Nat.zero_testBit]
    by_cases e : j = i
    · subst e; rw [h]; rfl
    · rw [decide_eq_false e, Bool.and_false]
theorem cb_f {f : Nat → Bool} {S j : Nat} (hj : j < 8) (h : (pmask f 8 &&& S) &&& (1 <<< j) = 0) : (f j && S.testBit j) = false := by
  have := and_one_bit.mp h
  rw [Nat.testBit_and, pmask_bit, decide_eq_true hj, Bool.true_and] at this
  exact this
theorem cb_t {f : Nat → Bool} {S j : Nat} (hj : j < 8) (h : (pmask f 8 &&& S) &&& (1 <<< j) ≠ 0) : (f j && S.testBit j) = true := by
  cases q : (f j && S.testBit j) with
  | true => rfl
  | false =>
    refine absurd (and_one_bit.mpr ?_) h
    rw [Nat.testBit_and, pmask_bit, decide_eq_true hj, Bool.true_and]
    exact q
theorem bst_t {q : Nat → Bool} {f : Nat → Nat} {b0 n : Nat} (h : q n = true) : bstF q f b0 (n + 1) = max (bstF q f b0 n) (f n) := if_pos h
theorem bst_f {q : Nat → Bool} {f : Nat → Nat} {b0 n : Nat} (h : q n = false) : bstF q f b0 (n + 1) = bstF q f b0 n := if_neg (by rw [h]; decide)
def bqE (E : Nat → Nat → Bool) (a S : Nat) : Nat → Bool := fun j => E a j && S.testBit j
def bfE (E : Nat → Nat → Bool) (a S : Nat) : Nat → Nat := fun j => 1 + szN E (7 - a) (clr S j)
theorem szN_at (E : Nat → Nat → Bool) {a : Nat} (S : Nat) (ha : a < 8) : szN E (8 - a) S = bstF (bqE E a S) (bfE E a S) (szN E (7 - a) S) 8 := by
  rw [show 8 - a = (7 - a) + 1 by omega]
  show bstF (fun j => E (7 - (7 - a)) j && S.testBit j) (fun j => 1 + szN E (7 - a) (clr S j)) (szN E (7 - a) S) 8 = _
  rw [show 7 - (7 - a) = a by omega]
  rfl
theorem bst_att (q : Nat → Bool) (f : Nat → Nat) (b0 : Nat) : ∀ n, bstF q f b0 n = b0 ∨ ∃ j, j < n ∧ q j = true ∧ bstF q f b0 n = f j
  | 0 => Or.inl rfl
  | n + 1 => by
    cases hq : q n with
    | true =>
      rw [bst_t hq]
      by_cases h : f n ≤ bstF q f b0 n
      · rw [Nat.max_eq_left h]
        rcases bst_att q f b0 n with e | ⟨j, h1, h2, h3⟩
        · exact Or.inl e
        · exact Or.inr ⟨j, by omega, h2, h3⟩
      · rw [Nat.max_eq_right (by omega)]
        exact Or.inr ⟨n, by omega, hq, rfl⟩
    | false =>
      rw [bst_f hq]
      rcases bst_att q f b0 n with e | ⟨j, h1, h2, h3⟩
      · exact Or.inl e
      · exact Or.inr ⟨j, by omega, h2, h3⟩
theorem stS_s {E : Nat → Nat → Bool} {a j : Nat} (h : spE E a = some j) : stS E (a + 1) = clr (stS E a) j := by
  show (match spE E a with | none => stS E a | some j => clr (stS E a) j) = _
  rw [h]
theorem stS_n {E : Nat → Nat → Bool} {a : Nat} (h : spE E a = none) : stS E (a + 1) = stS E a := by
  show (match spE E a with | none => stS E a | some j => clr (stS E a) j) = _
  rw [h]
theorem sp_step (E : Nat → Nat → Bool) {a : Nat} (ha : a < 8) : szN E (8 - a) (stS E a) = szN E (7 - a) (stS E (a + 1)) + if (spE E a).isSome then 1 else 0 := by
  cases h : spE E a with
  | some j =>
    rw [stS_s h, ← (spE_some h).2.2.2, Nat.add_comm]
    rfl
  | none =>
    rw [stS_n h]
    have hn := (fstU_none _ 8).mp h
    rcases bst_att (bqE E a (stS E a)) (bfE E a (stS E a)) (szN E (7 - a) (stS E a)) 8 with e | ⟨j, h1, h2, h3⟩
    · rw [szN_at E _ ha, e]; rfl
    · have h4 := hn j h1
      rw [← szN_at E _ ha] at h3
      rw [show (E a j && (stS E a).testBit j) = true from h2, Bool.true_and] at h4
      exact absurd h3.symm (of_decide_eq_false h4)
theorem sp_count (E : Nat → Nat → Bool) : ∀ a, a ≤ 8 → szN E (8 - a) (stS E a) + cnt (fun x => (spE E x).isSome) a = szN E 8 255
  | 0, _ => rfl
  | a + 1, ha => by
    have h := sp_count E a (by omega)
    rw [sp_step E (show a < 8 by omega)] at h
    show szN E (8 - (a + 1)) (stS E (a + 1)) + (cnt (fun x => (spE E x).isSome) a + (if (spE E a).isSome then 1 else 0)) = _
    rw [show 8 - (a + 1) = 7 - a by omega]
    omega
theorem rnV_sz (c : Nat → Int32) : rnV c = nI (szC c) := by
  have h := sp_count (EC c) 8 (Nat.le_refl _)
  rw [show szN (EC c) (8 - 8) (stS (EC c) 8) = 0 from rfl, Nat.zero_add] at h
  rw [rnV, h]; rfl
theorem fst_at {p : Nat → Bool} {j : Nat} (hj : j < 8) (h : p j = true) (hf : ∀ i, i < j → p i = false) : fstU p 8 = some j := (fstU_some p 8 j).mpr ⟨hj, h, hf⟩
theorem fst_no {p : Nat → Bool} (hf : ∀ i, i < 8 → p i = false) : fstU p 8 = none := (fstU_none p 8).mpr hf
/-- feuds grow shorter in the reference -/
def fdF (f : Nat → Int32) (i : Nat) : Nat → Int32 := fun k => if 33 ≤ k ∧ k < 33 + i ∧ 0 < f k then f k - nI 1 else f k
theorem fdF_0 (f : Nat → Int32) : fdF f 0 = f := by funext k; exact if_neg (fun h => by omega)
theorem fdF_at (f : Nat → Int32) (i : Nat) : fdF f i (33 + i) = f (33 + i) := if_neg (fun h => by omega)
theorem fdF_s (f : Nat → Int32) {i : Nat} (h : 0 < f (33 + i)) : upd (fdF f i) (33 + i) (f (33 + i) - nI 1) = fdF f (i + 1) := by
  funext k
  by_cases hk : k = 33 + i
  · subst hk
    rw [upd_eq, fdF, if_pos ⟨by omega, by omega, h⟩]
  · rw [upd_ne hk, fdF, fdF]
    by_cases h2 : 33 ≤ k ∧ k < 33 + i ∧ 0 < f k
    · rw [if_pos h2, if_pos ⟨h2.1, by omega, h2.2.2⟩]
    · rw [if_neg h2, if_neg (fun z => h2 ⟨z.1, by omega, z.2.2⟩)]
theorem fdF_n (f : Nat → Int32) {i : Nat} (h : ¬ 0 < f (33 + i)) : upd (fdF f i) (33 + i) (f (33 + i) - nI 0) = fdF f (i + 1) := by
  funext k
  by_cases hk : k = 33 + i
  · subst hk
    rw [upd_eq, fdF, if_neg (fun z => h z.2.2)]
    exact Int32.sub_zero _
  · rw [upd_ne hk, fdF, fdF]
    by_cases h2 : 33 ≤ k ∧ k < 33 + i ∧ 0 < f k
    · rw [if_pos h2, if_pos ⟨h2.1, by omega, h2.2.2⟩]
    · rw [if_neg h2, if_neg (fun z => h2 ⟨z.1, by omega, z.2.2⟩)]
theorem fdF_o (f : Nat → Int32) {i k : Nat} (h : k < 33 ∨ 97 ≤ k) (hi : i ≤ 64) : fdF f i k = f k := if_neg (fun h => by omega)
theorem cEnd_o (c : Nat → Int32) {k : Nat} (h : k < 24 ∨ 88 ≤ k) (h2 : k ≠ 153) : cEnd c k = c k := by
  rw [cEnd, upd_ne h2]; exact if_neg (fun z => by omega)
theorem SR.fin {c ss : Nat → Int32} (h : SR c ss) : SR (cEnd c) (upd (fdF ss 64) 0 (ss 0 + nI 1)) := by
  refine ⟨cOK_end h.ok, fun k hk => ?_, fun x y hx hy => ?_, fun k hk => ?_, fun x y hx hy => ?_, fun k hk => ?_, ?_⟩
  · rw [upd_ne (by omega), fdF_o _ (by omega) (by omega), cEnd_o _ (by omega) (by omega)]; exact h.g hk
  · rw [upd_ne (by omega), fdF_o _ (by omega) (by omega), lk_of (cEnd_o _ (by omega) (by omega))]; exact h.l hx hy
  · rw [upd_ne (by omega), cEnd, upd_ne (by omega), fdF, cFe, h.f hk]
    by_cases z : 0 < c (24 + k)
    · rw [if_pos ⟨by omega, by omega, z⟩, if_pos ⟨by omega, by omega, z⟩]
    · rw [if_neg (fun q => z q.2.2), if_neg (fun q => z q.2.2)]
  · rw [upd_ne (by omega), fdF_o _ (by omega) (by omega), wi_of (cEnd_o _ (by omega) (by omega))]; exact h.w hx hy
  · rw [upd_ne (by omega), fdF_o _ (by omega) (by omega), cEnd_o _ (by omega) (by omega)]; exact h.t hk
  · rw [upd_eq, cEnd, upd_eq, h.r, show cFe c 88 153 = c 153 from if_neg (fun z => by omega)]
theorem cN_shk {c : Nat → Int32} {a b k : Nat} (h : k < 24) : cN (cShk c a b) k = cN c k := cN_upd_ne (by omega)
theorem SR.shk {c ss : Nat → Int32} (h : SR c ss) {a b : Nat} (ha : a < 8) (hb : b < 8) : SR (cClose (cShk c a b) a b) (upd (upd ss (97 + 8 * a + b) (nI 0)) (161 + 8 * a + b) (taC c a b + nI 1)) := by
  refine ((h.tally (taC c a b + nI 1) ha hb).close ha hb).same (fun k _ => ?_)
  by_cases h1 : k = 161 + 8 * a + b
  · rw [h1, upd_eq, upd_ne (by omega), upd_eq]
  · rw [upd_ne h1]
    by_cases h2 : k = 97 + 8 * a + b
    · rw [h2, upd_eq, upd_eq]
    · rw [upd_ne h2, upd_ne h2, upd_ne h1]
theorem SR_cp {c ss d t : Nat → Int32} (h : SR c ss) (e : same d c) : SR d (cpF ss t 225) := (h.cells e).same (fun k hk => cpF_in hk)
