/-! p27: what the law's holds reads -/
theorem isP2 {p q : Nat} (hp : p < 8) (hq : q < 8) : two (nI p) (nI q) = true := by rw [two, isP_nI hp, isP_nI hq]; rfl
theorem pa_0 {c : Nat → Int32} {p q : Nat} (hp : p < 8) (hq : q < 8) : paV c (nI p) (nI q) (nI 0) = bI (wiC c p q) := by rw [paV, isP2 hp hq, if_pos rfl, if_pos rfl, pN_nI hp, pN_nI hq]
theorem pa_1 {c : Nat → Int32} {p q : Nat} (hp : p < 8) (hq : q < 8) : paV c (nI p) (nI q) (nI 1) = feC c p q := by rw [paV, isP2 hp hq, if_pos rfl, if_neg (n7 (by decide) (by decide) (by decide)), if_pos rfl, pN_nI hp, pN_nI hq]
theorem pa_3 {c : Nat → Int32} {p q : Nat} (hp : p < 8) (hq : q < 8) : paV c (nI p) (nI q) (nI 3) = whV c p q := by rw [paV, isP2 hp hq, if_pos rfl, if_neg (n7 (by decide) (by decide) (by decide)), if_neg (n7 (by decide) (by decide) (by decide)), if_neg (n7 (by decide) (by decide) (by decide)), if_pos rfl, pN_nI hp, pN_nI hq]
theorem amP_1 (c : Nat → Int32) (a b : Nat) : amP c a b (nI 1) = bI (wiC c a b) := if_pos rfl
theorem sI_wi (c : Nat → Int32) (q : Bool) (a : Nat) : sI (amF c q a (nI 1)) 8 = nI (cnt (fun o => if q then wiC c a o else wiC c o a) 8) := by
  refine (sI_cong 8 (fun o _ => ?_)).trans (sI_bI _ 8)
  cases q
  · rw [amF_f, amP_1, if_neg Bool.false_ne_true]
  · rw [amF_t, amP_1, if_pos rfl]
theorem pe_4 {c : Nat → Int32} {p : Nat} (q : Bool) (hp : p < 8) : peV c q (nI p) (nI 4) = sI (amF c q p (nI 4)) 8 := by
  rw [peV, isP_nI hp, if_pos rfl, if_neg (n7 (by decide) (by decide) (by decide)), if_neg (n7 (by decide) (by decide) (by decide)), if_neg (n7 (by decide) (by decide) (by decide)), if_neg (n7 (by decide) (by decide) (by decide)), if_pos rfl, pN_nI hp]
theorem pe_2 {c : Nat → Int32} {p : Nat} (q : Bool) (hp : p < 8) : peV c q (nI p) (nI 2) = nI (cnt (fun o => if q then poC c p o else poC c o p) 8) := by
  rw [← sI_po, peV, isP_nI hp, if_pos rfl, if_neg (n7 (by decide) (by decide) (by decide)), if_neg (n7 (by decide) (by decide) (by decide)), if_pos rfl, pN_nI hp]
theorem pe_1 {c : Nat → Int32} {p : Nat} (q : Bool) (hp : p < 8) : peV c q (nI p) (nI 1) = nI (cnt (fun o => if q then wiC c p o else wiC c o p) 8) := by
  rw [← sI_wi, peV, isP_nI hp, if_pos rfl, if_neg (n7 (by decide) (by decide) (by decide)), if_pos rfl, pN_nI hp]
theorem pe_5 {c : Nat → Int32} {p : Nat} (q : Bool) (hp : p < 8) : peV c q (nI p) (nI 5) = nI (pmask (fun o => if q then caC c p o else caC c o p) 8) := by
  rw [peV, isP_nI hp, if_pos rfl, if_neg (n7 (by decide) (by decide) (by decide)), if_neg (n7 (by decide) (by decide) (by decide)), if_neg (n7 (by decide) (by decide) (by decide)), if_neg (n7 (by decide) (by decide) (by decide)), if_neg (n7 (by decide) (by decide) (by decide)), if_pos rfl, pN_nI hp]
def isS (c : Nat → Int32) (a : Nat) : Bool := (spE (EC c) a).isSome
def wtF (c : Nat → Int32) (a : Nat) : Bool := decide (cnt (poC c a) 8 ≠ 0)
def amB (c : Nat → Int32) (b : Nat) : Int32 := sI (amF c false b (nI 4)) 8
def nP (c : Nat → Int32) (k : Nat) : Bool := (hnN c).testBit (k / 8) && (wiC c (k / 8) (k % 8) && caC c (k / 8) (k % 8))
theorem cnt31 (f : Nat → Bool) : cnt f 8 < 2 ^ 31 := Nat.lt_of_le_of_lt (cnt_le f 8) (by decide)
theorem pm31 (f : Nat → Bool) : pmask f 8 < 2 ^ 31 := Nat.lt_trans (pmask_lt f 8) (by decide)
theorem pos_dec {n : Nat} (h : n < 2 ^ 31) : decide (0 < nI n) = decide (n ≠ 0) := by
  have : (0 < nI n) ↔ n ≠ 0 := (nI_ltI (a := 0) (by decide) h).trans Nat.pos_iff_ne_zero
  exact decide_eq_decide.mpr this
theorem po_wi (c : Nat → Int32) (a b : Nat) (h : poC c a b = true) : wiC c a b = true := by rw [poC, Bool.and_eq_true] at h; exact h.1
theorem po_le (c : Nat → Int32) (p : Nat) : cnt (poC c p) 8 ≤ cnt (wiC c p) 8 := cnt_mono 8 (fun k _ => po_wi c p k)
theorem po_le2 (c : Nat → Int32) (p : Nat) : cnt (fun o => poC c o p) 8 ≤ cnt (fun o => wiC c o p) 8 := cnt_mono 8 (fun k _ => po_wi c k p)
theorem pt_t {c : Nat → Int32} {p : Nat} (hp : p < 8) : ptV c true (nI p) = pI (spE (EC c) p) := by rw [ptV, isP_nI hp, if_pos rfl, if_pos rfl, pN_nI hp]
theorem pI_neg {o : Option Nat} (hb : ∀ r, o = some r → r < 8) (h : pI o < 0) : o = none := by
  cases o with
  | none => rfl
  | some r => exact absurd h (nI_pos (by have := hb r rfl; omega))
theorem pI_pos {o : Option Nat} (h : ¬ pI o < 0) : ∃ r, o = some r := by
  cases o with
  | none => exact absurd (by decide) h
  | some r => exact ⟨r, rfl⟩
theorem pt_back {c : Nat → Int32} {p r : Nat} (hp : p < 8) (hr : r < 8) (h : spE (EC c) p = some r) : ptV c false (nI r) = nI p := by
  have e : spR (EC c) r = some p := (fstU_some _ 8 p).mpr ⟨hp, decide_eq_true h, fun i hi => decide_eq_false (fun q => sp_inj q h hi)⟩
  rw [ptV, isP_nI hr, if_pos rfl, if_neg Bool.false_ne_true, pN_nI hr, e]
  rfl
theorem tkF_lt {E : Nat → Nat → Bool} : ∀ n, tkF E n < 256
  | 0 => by show 0 < 256; decide
  | n + 1 => by
    have ih := tkF_lt (E := E) n
    simp only [tkF]
    cases e : spE E n with
    | none => exact ih
    | some r => exact or_lt ih (sh_lt (spE_lt n r e))
theorem tk_no {E : Nat → Nat → Bool} {n r : Nat} (h : spE E n = some r) : ¬ (tkF E n >>> r) &&& 1 = 1 := fun q => by
  have h1 := tkF_no E h
  have : (tkF E n).testBit r = true := by rw [Nat.testBit, Nat.and_comm, q]; rfl
  rw [h1] at this; cases this
theorem tk_s {E : Nat → Nat → Bool} {n r : Nat} (h : spE E n = some r) : tkF E (n + 1) = tkF E n ||| (1 <<< r) := by simp only [tkF, h]
theorem tk_n {E : Nat → Nat → Bool} {n : Nat} (h : spE E n = none) : tkF E (n + 1) = tkF E n := by simp only [tkF, h]
theorem is_s {c : Nat → Int32} {n r : Nat} (h : spE (EC c) n = some r) : cnt (isS c) (n + 1) = cnt (isS c) n + 1 := by
  show cnt (isS c) n + (if (spE (EC c) n).isSome then 1 else 0) = _
  rw [h]; rfl
theorem is_n {c : Nat → Int32} {n : Nat} (h : spE (EC c) n = none) : cnt (isS c) (n + 1) = cnt (isS c) n := by
  show cnt (isS c) n + (if (spE (EC c) n).isSome then 1 else 0) = _
  rw [h]; rfl
theorem bit_dec {m q : Nat} : decide (nI ((m >>> q) &&& 1) = nI 1) = m.testBit q := by
  have h1 := Nat.and_one_is_mod (m >>> q)
  have e : (nI ((m >>> q) &&& 1) = nI 1) ↔ (m >>> q) &&& 1 = 1 := nI_eq (by omega) (by decide)
  rw [decide_eq_decide.mpr e]
  cases h : m.testBit q with
  | true =>
    refine decide_eq_true (Classical.byContradiction (fun z => ?_))
    have h2 : (m >>> q) &&& 1 = 0 := by omega
    have : m.testBit q = false := by rw [Nat.testBit, Nat.and_comm, h2]; rfl
    rw [h] at this; cases this
  | false =>
    refine decide_eq_false (fun z => ?_)
    have : m.testBit q = true := by rw [Nat.testBit, Nat.and_comm, z]; rfl
    rw [h] at this; cases this
theorem pm_dec {f : Nat → Bool} {q : Nat} (hq : q < 8) : decide (nI ((pmask f 8 >>> q) &&& 1) = nI 1) = f q := by
  rw [bit_dec, pmask_bit, decide_eq_true hq, Bool.true_and]
/-- why two people don't shake hands -/
theorem wh_some {c : Nat → Int32} {a b : Nat} (h : spE (EC c) a = some b) : whV c a b = nI 0 := by
  obtain ⟨h1, h2⟩ := sp_wi h
  rw [caC, Bool.and_eq_true, decide_eq_true_eq] at h2
  rw [whV, if_neg (by rw [h1]; decide), if_neg (by rw [h2.2]; decide), if_neg (by rw [h2.1]; decide), h]
  exact if_pos rfl
theorem pI_eq {o : Option Nat} {b : Nat} (hb : b < 8) (hr : ∀ r, o = some r → r < 8) (h : pI o = nI b) : o = some b := by
  cases o with
  | none =>
    have h2 : (-5 : Int32) < 0 := by decide
    have h3 : ¬ nI b < 0 := nI_pos (by omega)
    exact absurd (by rw [← h]; exact h2) h3
  | some r => rw [(nI_eq (by have := hr r rfl; omega) (by omega)).mp h]
theorem wh_0 {c : Nat → Int32} {a b : Nat} (hb : b < 8) : whV c a b = 0 ↔ pI (spE (EC c) a) = nI b := by
  constructor
  · intro h
    have h : whV c a b = nI 0 := h
    rw [whV] at h
    by_cases h1 : wiC c a b = false
    · rw [if_pos h1] at h; exact absurd h (n7 (by decide) (by decide) (by decide))
    rw [if_neg h1] at h
    by_cases h2 : glC c a b = false
    · rw [if_pos h2] at h; exact absurd h (n7 (by decide) (by decide) (by decide))
    rw [if_neg h2] at h
    by_cases h3 : 0 < feC c a b
    · rw [if_pos h3] at h; exact absurd h (n7 (by decide) (by decide) (by decide))
    rw [if_neg h3] at h
    by_cases h4 : pI (spE (EC c) a) = nI b
    · exact h4
    · rw [if_neg h4] at h; exact absurd h (n7 (by decide) (by decide) (by decide))
  · intro h
    exact wh_some (pI_eq hb (fun r e => spE_lt a r e) h)
theorem wh_1 {c : Nat → Int32} {a b : Nat} : whV c a b = nI 1 ↔ wiC c a b = false := by
  constructor
  · intro h
    rw [whV] at h
    by_cases h1 : wiC c a b = false
    · exact h1
    rw [if_neg h1] at h
    by_cases h2 : glC c a b = false
    · rw [if_pos h2] at h; exact absurd h (n7 (by decide) (by decide) (by decide))
    rw [if_neg h2] at h
    by_cases h3 : 0 < feC c a b
    · rw [if_pos h3] at h; exact absurd h (n7 (by decide) (by decide) (by decide))
    rw [if_neg h3] at h
    by_cases h4 : pI (spE (EC c) a) = nI b
    · rw [if_pos h4] at h; exact absurd h (n7 (by decide) (by decide) (by decide))
    · rw [if_neg h4] at h; exact absurd h (n7 (by decide) (by decide) (by decide))
  · intro h
    rw [whV, if_pos h]
theorem wh_04 {c : Nat → Int32} {a b : Nat} (hf : fOK c) (ha : a < 8) (hb : b < 8) (h : whV c a b = 0 ∨ whV c a b = nI 4) : caC c a b = true := by
  have hx : whV c a b = nI 0 ∨ whV c a b = nI 4 := h
  rw [whV] at hx
  by_cases h1 : wiC c a b = false
  · rw [if_pos h1] at hx; exact hx.elim (fun e => absurd e (n7 (by decide) (by decide) (by decide))) (fun e => absurd e (n7 (by decide) (by decide) (by decide)))
  rw [if_neg h1] at hx
  by_cases h2 : glC c a b = false
  · rw [if_pos h2] at hx; exact hx.elim (fun e => absurd e (n7 (by decide) (by decide) (by decide))) (fun e => absurd e (n7 (by decide) (by decide) (by decide)))
  rw [if_neg h2] at hx
  by_cases h3 : 0 < feC c a b
  · rw [if_pos h3] at hx; exact hx.elim (fun e => absurd e (n7 (by decide) (by decide) (by decide))) (fun e => absurd e (n7 (by decide) (by decide) (by decide)))
  obtain ⟨n, hn, e⟩ := feN hf ha hb
  rw [e] at h3
  have h0 : n = 0 := Classical.byContradiction (fun z => h3 ((nI_ltI (a := 0) (by decide) (by omega)).mpr (Nat.pos_of_ne_zero z)))
  rw [caC, e, h0]
  simp only [Bool.not_eq_false] at h2
  rw [h2]
  rfl
theorem bI_0 (b : Bool) : bI b = 0 ↔ b = false := bI_ne b
theorem wq_at {c : Nat → Int32} {p q : Nat} (hq : q < 8) : wq c (8 * p + q) = wiC c p q := by rw [wq, show (8 * p + q) / 8 = p by omega, show (8 * p + q) % 8 = q by omega]
theorem wq_s {c : Nat → Int32} {p q : Nat} (hq : q < 8) : cnt (wq c) (8 * p + (q + 1)) = cnt (wq c) (8 * p + q) + if wiC c p q then 1 else 0 := by
  show cnt (wq c) (8 * p + q) + (if wq c (8 * p + q) then 1 else 0) = _
  rw [wq_at hq]
theorem wq_31 {c : Nat → Int32} {n : Nat} (h : n ≤ 64) : cnt (wq c) n < 2 ^ 31 := Nat.lt_of_le_of_lt (cnt_le _ n) (by omega)
theorem nP_at {c : Nat → Int32} {p q : Nat} (hq : q < 8) : nP c (8 * p + q) = ((hnN c).testBit p && (wiC c p q && caC c p q)) := by rw [nP, show (8 * p + q) / 8 = p by omega, show (8 * p + q) % 8 = q by omega]
theorem nr_t {c : Nat → Int32} {p q : Nat} (hq : q < 8) (h : ((hnN c).testBit p && (wiC c p q && caC c p q)) = true) : nrF (nP c) (8 * p + q) ||| 1 <<< q = nrF (nP c) (8 * p + (q + 1)) := by
  show _ = if nP c (8 * p + q) then nrF (nP c) (8 * p + q) ||| (1 <<< ((8 * p + q) % 8)) else nrF (nP c) (8 * p + q)
  rw [nP_at hq, if_pos h, show (8 * p + q) % 8 = q by omega]
theorem nr_f {c : Nat → Int32} {p q : Nat} (hq : q < 8) (h : ((hnN c).testBit p && (wiC c p q && caC c p q)) = false) : nrF (nP c) (8 * p + q) ||| 0 = nrF (nP c) (8 * p + (q + 1)) := by
  show _ = if nP c (8 * p + q) then nrF (nP c) (8 * p + q) ||| (1 <<< ((8 * p + q) % 8)) else nrF (nP c) (8 * p + q)
  rw [nP_at hq, if_neg (by rw [h]; decide), Nat.or_zero]
theorem hb_t1 {m b : Nat} (h : (m >>> b) &&& 1 = 1) : m.testBit b = true := by rw [Nat.testBit, Nat.and_comm, h]; rfl
theorem hb_f1 {m b : Nat} (h : (m >>> b) &&& 1 ≠ 1) : m.testBit b = false := by
  have h1 := Nat.and_one_is_mod (m >>> b)
  have h2 : (m >>> b) &&& 1 = 0 := by omega
  rw [Nat.testBit, Nat.and_comm, h2]; rfl
theorem hn_lt (c : Nat → Int32) : hnN c < 256 := pmask_lt _ 8
theorem sum_swap (c : Nat → Int32) : sI (amA c (nI 4)) 8 = sI (amB c) 8 := by
  have e1 : sI (amA c (nI 4)) 8 = sI (fun a => sI (fun b => taC c a b) 8) 8 := sI_cong 8 (fun a _ => am4_row c a)
  have e2 : sI (amB c) 8 = sI (fun b => sI (fun a => taC c a b) 8) 8 := sI_cong 8 (fun b _ => sI_cong 8 (fun a _ => by rw [amF_f]; exact amP_4 c a b))
  rw [e1, e2]
  exact sI_swap (fun a b => taC c a b) 8 8
theorem pm_ne0 (f : Nat → Bool) : pmask f 8 ≠ 0 ↔ cnt f 8 ≠ 0 := by
  constructor
  · intro h
    obtain ⟨a, ha, hb⟩ := bit_ex (pmask_lt f 8) h
    rw [pmask_bit, decide_eq_true ha, Bool.true_and] at hb
    exact cnt_pos hb ha
  · intro h z
    obtain ⟨j, hj, hp⟩ := cnt_ex f 8 h
    have : (pmask f 8).testBit j = true := by rw [pmask_bit, decide_eq_true hj, hp]; rfl
    rw [z, Nat.zero_testBit] at this
    cases this
theorem isS_sz (c : Nat → Int32) : cnt (isS c) 8 = szC c := sp_cnt (EC c)
/-- what hindered tells, in the words of the law -/
theorem HN {c wi : Nat → Int32} (hu : ∀ a, a < 8 → wi a = nI (pmask (poC c a) 8)) (hW : HW (cN wi)) : (hnN c ≠ 0 → cnt (fun k => (nrF (nP c) 64).testBit k) 8 < cnt (fun k => (hnN c).testBit k) 8 ∧ cnt (isS c) 8 < cnt (wtF c) 8) ∧ (hnN c = 0 → cnt (isS c) 8 = cnt (wtF c) 8) := by
  have hw := wi_cN hu
  have hW8 : ∀ a, a < 8 → cN wi a < 256 := fun a ha => by rw [hw a ha]; exact pmask_lt _ 8
  have hm := hw_main hW8 hW
  have hbit : ∀ a, a < 8 → (hnN c).testBit a = hnW (cN wi) a := fun a ha => by
    rw [← hn_of hu, pmask_bit, decide_eq_true ha, Bool.true_and]
    rfl
  have hwt : cnt (fun a => decide (cN wi a ≠ 0)) 8 = cnt (wtF c) 8 := cnt_cong 8 (fun a ha => by
    rw [wtF, hw a ha]
    exact decide_eq_decide.mpr (pm_ne0 (poC c a)))
  rw [hwt, sz_of hu, ← isS_sz c] at hm
  constructor
  · intro h
    obtain ⟨a, ha, hb⟩ := bit_ex (hn_lt c) h
    obtain ⟨h1, h2⟩ := hm.1 ⟨a, ha, by rw [← hbit a ha]; exact hb⟩
    refine ⟨?_, h2⟩
    rw [cnt_cong (q := hnW (cN wi)) 8 hbit]
    refine Nat.lt_of_le_of_lt (cnt_mono 8 (fun b hb2 hx => ?_)) h1
    obtain ⟨k, hk, hkb, hp⟩ := (nrF_bit (nP c) b 64).mp hx
    rw [nP, Bool.and_eq_true] at hp
    rw [hwN]
    refine decide_eq_true (cnt_pos (j := k / 8) ?_ (by omega))
    show (hnW (cN wi) (k / 8) && (cN wi (k / 8)).testBit b) = true
    rw [← hbit (k / 8) (by omega), hp.1, hw (k / 8) (by omega), pmask_bit, decide_eq_true hb2, ← hkb, poC, hp.2]
    rfl
  · intro h
    exact hm.2 (fun a ha => by rw [← hbit a ha, h, Nat.zero_testBit])
theorem hn_dec {c wi : Nat → Int32} (hu : ∀ a, a < 8 → wi a = nI (pmask (poC c a) 8)) (hW : HW (cN wi)) : decide (nI (hnN c) = 0) = decide (nI (cnt (isS c) 8) = nI (cnt (wtF c) 8)) := by
  have h := HN hu hW
  have e1 : (nI (hnN c) = 0) ↔ hnN c = 0 := nI_eq (by have := hn_lt c; omega) (by decide)
  have e2 : (nI (cnt (isS c) 8) = nI (cnt (wtF c) 8)) ↔ cnt (isS c) 8 = cnt (wtF c) 8 := nI_eq (cnt31 _) (cnt31 _)
  refine decide_eq_decide.mpr (e1.trans (Iff.trans ⟨h.2, fun e => ?_⟩ e2.symm))
  exact Classical.byContradiction (fun z => by have := (h.1 z).2; omega)
theorem hn_le {c wi : Nat → Int32} (hu : ∀ a, a < 8 → wi a = nI (pmask (poC c a) 8)) (hW : HW (cN wi)) : cnt (isS c) 8 ≤ cnt (wtF c) 8 := by
  have h := HN hu hW
  by_cases z : hnN c = 0
  · exact Nat.le_of_eq (h.2 z)
  · exact Nat.le_of_lt (h.1 z).2
theorem co_0 (c : Nat → Int32) (z ln : Nat) : coV c z ln (nI 0) = nI (nwC c 8) := if_pos rfl
theorem co_5 (c : Nat → Int32) (z ln : Nat) : coV c z ln (nI 5) = sI (amA c (nI 4)) 8 := by
  rw [coV, if_neg (n7 (by decide) (by decide) (by decide)), if_neg (n7 (by decide) (by decide) (by decide)), if_neg (n7 (by decide) (by decide) (by decide)), if_neg (n7 (by decide) (by decide) (by decide)), if_neg (n7 (by decide) (by decide) (by decide)), if_pos rfl]
theorem co_6 (c : Nat → Int32) (z ln : Nat) : coV c z ln (nI 6) = nI (szC c) := by
  rw [coV, if_neg (n7 (by decide) (by decide) (by decide)), if_neg (n7 (by decide) (by decide) (by decide)), if_neg (n7 (by decide) (by decide) (by decide)), if_neg (n7 (by decide) (by decide) (by decide)), if_neg (n7 (by decide) (by decide) (by decide)), if_neg (n7 (by decide) (by decide) (by decide)), if_pos rfl]
theorem co_8 (c : Nat → Int32) (z ln : Nat) : coV c z ln (nI 8) = nI z := by
  rw [coV, if_neg (n7 (by decide) (by decide) (by decide)), if_neg (n7 (by decide) (by decide) (by decide)), if_neg (n7 (by decide) (by decide) (by decide)), if_neg (n7 (by decide) (by decide) (by decide)), if_neg (n7 (by decide) (by decide) (by decide)), if_neg (n7 (by decide) (by decide) (by decide)), if_neg (n7 (by decide) (by decide) (by decide)), if_neg (n7 (by decide) (by decide) (by decide)), if_pos rfl]
/-- a round, as isRound reads it -/
theorem rn_sz (c : Nat → Int32) : rnV c = nI (szC c) := congrArg nI (sp_cnt (EC c))
theorem rn_nw {c : Nat → Int32} (hc : cOK c) : nwC (rnd c) 8 + szC c = nwC c 8 := by
  rw [← isS_sz c]
  exact nw_rnd hc 8 (Nat.le_refl _)
theorem rn_am (c : Nat → Int32) : sI (amA (rnd c) (nI 4)) 8 = sI (amA c (nI 4)) 8 + nI (szC c) := by
  rw [← isS_sz c]
  exact am4_rnd c
theorem rn_fp {c : Nat → Int32} {a b : Nat} (ha : a < 8) (hb : b < 8) (h : ¬ feC c a b ≤ 0) : feC (rnd c) a b = feC c a b - nI 1 := by
  show rnd c (24 + 8 * a + b) = _
  rw [rnd_f (by omega) (by omega)]
  exact if_pos (Int32.not_le.mp h)
theorem rn_f0 {c : Nat → Int32} (hf : fOK c) {a b : Nat} (ha : a < 8) (hb : b < 8) (h : feC c a b ≤ 0) : feC (rnd c) a b = nI 0 := by
  show rnd c (24 + 8 * a + b) = _
  rw [rnd_f (by omega) (by omega)]
  refine (if_neg (Int32.not_lt.mpr h)).trans ?_
  obtain ⟨n, hn, e⟩ := feN hf ha hb
  show feC c a b = nI 0
  rw [e] at h ⊢
  rw [Nat.le_zero.mp ((nI_leI (by omega) (by decide : 0 < 2 ^ 31)).mp h)]
