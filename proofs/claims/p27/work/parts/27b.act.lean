/-! what a round does to the wishes, the tallies, the feuds -/
def rowN (c : Nat → Int32) (P : Nat → Option Nat) (a : Nat) : Nat := match P a with
  | some b => clr (cN c (16 + a)) b
  | none => cN c (16 + a)
theorem rowN_s {c : Nat → Int32} {P : Nat → Option Nat} {a b : Nat} (h : P a = some b) : rowN c P a = clr (cN c (16 + a)) b := by rw [rowN, h]
theorem rowN_n {c : Nat → Int32} {P : Nat → Option Nat} {a : Nat} (h : P a = none) : rowN c P a = cN c (16 + a) := by rw [rowN, h]
theorem rsh_w {c : Nat → Int32} {P : Nat → Option Nat} (hc : cOK c) (hP : ∀ a b, P a = some b → b < 8) {a : Nat} (ha : a < 8) : ∀ i, i ≤ 8 → cN (rsh c P i) (16 + a) = if a < i then rowN c P a else cN c (16 + a)
  | 0, _ => (if_neg (Nat.not_lt_zero _)).symm
  | i + 1, hi => by
    have ih := rsh_w hc hP ha i (by omega)
    simp only [rsh]
    cases e : P i with
    | none =>
      show cN (rsh c P i) (16 + a) = _
      rw [ih]
      by_cases h : a < i
      · rw [if_pos h, if_pos (by omega)]
      · rw [if_neg h]
        by_cases h2 : a = i
        · subst h2; rw [if_pos (by omega), rowN_n e]
        · rw [if_neg (by omega)]
    | some j =>
      show cN (cClose (cShk (rsh c P i) i j) i j) (16 + a) = _
      by_cases h2 : a = i
      · subst h2
        rw [if_neg (Nat.lt_irrefl _)] at ih
        have hlt : g_nand (cN c (16 + a)) (1 <<< j) < 2 ^ 31 := Nat.lt_of_le_of_lt Nat.and_le_left (by have := hc.w8 ha; omega)
        rw [cClose, cN_shk (by omega), ih, cN_upd_eq hlt, if_pos (by omega), rowN_s e]
        rfl
      · rw [cClose, cN_upd_ne (by omega), cN_shk (by omega), ih]
        by_cases h : a < i
        · rw [if_pos h, if_pos (by omega)]
        · rw [if_neg h, if_neg (by omega)]
theorem cnt_one : ∀ x, x < 8 → cnt (fun b => decide (x = b)) 8 = 1 := by decide +kernel
theorem bc_clr {w b : Nat} (hw : w < 256) (hb : b < 8) (h : w.testBit b = true) : bcN (clr w b) + 1 = bcN w := by
  rw [bc_pop _ (clr_lt hw), bc_pop w hw, ← cnt_out (fun k => w.testBit k) h 8 hb, cnt_cong (q := fun k => w.testBit k && !decide (b = k)) 8 (fun k hk => clr_bit (by omega))]
theorem rnd_row {c : Nat → Int32} (hc : cOK c) {a : Nat} (ha : a < 8) : cN (rnd c) (16 + a) = rowN c (spE (EC c)) a := by
  rw [cN, rnd, cEnd_o _ (by omega) (by omega)]
  have h := rsh_w hc (spE_lt (E := EC c)) ha 8 (Nat.le_refl _)
  rw [if_pos ha] at h
  exact h
theorem sp_wi {c : Nat → Int32} {a b : Nat} (h : spE (EC c) a = some b) : wiC c a b = true ∧ caC c a b = true := by
  have h1 := (spE_some h).2.1
  rw [EC_at (spE_some h).1, poC, Bool.and_eq_true] at h1
  exact h1
theorem nw_rnd {c : Nat → Int32} (hc : cOK c) : ∀ n, n ≤ 8 → nwC (rnd c) n + cnt (fun a => (spE (EC c) a).isSome) n = nwC c n
  | 0, _ => rfl
  | n + 1, hn => by
    have ih := nw_rnd hc n (by omega)
    have hr := rnd_row hc (a := n) (by omega)
    show nwC (rnd c) n + bcN (cN (rnd c) (16 + n)) + (cnt (fun a => (spE (EC c) a).isSome) n + if (spE (EC c) n).isSome then 1 else 0) = nwC c n + bcN (cN c (16 + n))
    cases e : spE (EC c) n with
    | none =>
      rw [hr, rowN_n e]
      show _ + (_ + 0) = _
      omega
    | some b =>
      have h1 := bc_clr (hc.w8 (show n < 8 by omega)) (spE_lt _ _ e) (sp_wi e).1
      rw [hr, rowN_s e]
      show _ + (_ + 1) = _
      omega
theorem rsh_t {c : Nat → Int32} {P : Nat → Option Nat} (hP : ∀ a b, P a = some b → b < 8) {a b : Nat} (ha : a < 8) (hb : b < 8) : ∀ i, i ≤ 8 → taC (rsh c P i) a b = taC c a b + bI (decide (a < i) && decide (P a = some b))
  | 0, _ => by
    rw [decide_eq_false (Nat.not_lt_zero a), Bool.false_and]
    exact (Int32.add_zero _).symm
  | i + 1, hi => by
    have ih := rsh_t (c := c) hP ha hb i (by omega)
    simp only [rsh]
    cases e : P i with
    | none =>
      show taC (rsh c P i) a b = _
      rw [ih]
      by_cases h : a < i
      · rw [decide_eq_true h, decide_eq_true (show a < i + 1 by omega)]
      · rw [decide_eq_false h]
        by_cases h2 : a = i
        · subst h2; rw [e, decide_eq_false (fun q => by cases q), Bool.and_false, Bool.and_false]
        · rw [decide_eq_false (show ¬ a < i + 1 by omega)]
    | some j =>
      have hj := hP i j e
      show taC (cClose (cShk (rsh c P i) i j) i j) a b = _
      by_cases h2 : a = i
      · subst h2
        by_cases h3 : b = j
        · subst h3
          rw [decide_eq_false (Nat.lt_irrefl _), Bool.false_and] at ih
          rw [taC, cClose, upd_ne (by omega), cShk, upd_eq, show rsh c P a (88 + 8 * a + b) = taC (rsh c P a) a b from rfl, ih, e, decide_eq_true (Nat.lt_succ_self a), decide_eq_true rfl]
          show taC c a b + bI false + nI 1 = taC c a b + bI (true && true)
          rw [show bI false = 0 from rfl, Int32.add_zero]
          rfl
        · rw [taC, cClose, upd_ne (by omega), cShk, upd_ne (by omega), show rsh c P a (88 + 8 * a + b) = taC (rsh c P a) a b from rfl, ih, e, decide_eq_false (fun q => h3 (Option.some.inj q).symm), Bool.and_false, Bool.and_false]
      · rw [taC, cClose, upd_ne (by omega), cShk, upd_ne (by omega), show rsh c P i (88 + 8 * a + b) = taC (rsh c P i) a b from rfl, ih]
        by_cases h : a < i
        · rw [decide_eq_true h, decide_eq_true (show a < i + 1 by omega)]
        · rw [decide_eq_false h, decide_eq_false (show ¬ a < i + 1 by omega)]
theorem rnd_t {c : Nat → Int32} {a b : Nat} (ha : a < 8) (hb : b < 8) : taC (rnd c) a b = taC c a b + bI (decide (spE (EC c) a = some b)) := by
  have h := rsh_t (c := c) (spE_lt (E := EC c)) ha hb 8 (Nat.le_refl _)
  rw [decide_eq_true ha, Bool.true_and] at h
  rw [← h, taC, rnd, cEnd_o _ (by omega) (by omega)]
  rfl
theorem am4_row (c : Nat → Int32) (a : Nat) : amA c (nI 4) a = sI (fun b => taC c a b) 8 := sI_cong 8 (fun b _ => by rw [amF_t]; exact amP_4 c a b)
theorem some_sum {o : Option Nat} (h : ∀ b, o = some b → b < 8) : sI (fun b => bI (decide (o = some b))) 8 = bI o.isSome := by
  rw [sI_bI]
  cases o with
  | none => rw [cnt_cong (q := fun _ => false) 8 (fun k _ => decide_eq_false (fun q => by cases q))]; decide +kernel
  | some x =>
    rw [cnt_cong (q := fun b => decide (x = b)) 8 (fun k _ => by
      by_cases q : x = k
      · rw [decide_eq_true q, q]; exact decide_eq_true rfl
      · rw [decide_eq_false q]; exact decide_eq_false (fun z => q (Option.some.inj z))), cnt_one x (h x rfl)]
    rfl
theorem am4_rnd (c : Nat → Int32) : sI (amA (rnd c) (nI 4)) 8 = sI (amA c (nI 4)) 8 + nI (cnt (fun a => (spE (EC c) a).isSome) 8) := by
  rw [← sI_bI, ← sI_plus]
  refine sI_cong 8 (fun a ha => ?_)
  rw [am4_row, am4_row, ← some_sum (spE_lt (E := EC c) a), ← sI_plus]
  exact sI_cong 8 (fun b hb => rnd_t ha hb)
theorem rsh_f {c : Nat → Int32} {P : Nat → Option Nat} {k : Nat} (h1 : 24 ≤ k) (h2 : k < 88) : ∀ i, i ≤ 8 → rsh c P i k = c k
  | 0, _ => rfl
  | i + 1, hi => by
    have ih := rsh_f (c := c) (P := P) h1 h2 i (by omega)
    simp only [rsh]
    cases e : P i with
    | none => exact ih
    | some j =>
      show cClose (cShk (rsh c P i) i j) i j k = c k
      rw [cClose, upd_ne (by omega), cShk, upd_ne (by omega)]
      exact ih
theorem rnd_f {c : Nat → Int32} {k : Nat} (h1 : 24 ≤ k) (h2 : k < 88) : rnd c k = if 0 < c k then c k - nI 1 else c k := by
  rw [rnd, cEnd, upd_ne (by omega), cFe, rsh_f h1 h2 8 (Nat.le_refl _)]
  by_cases h : 0 < c k
  · rw [if_pos ⟨h1, h2, h⟩, if_pos h]
  · rw [if_neg (fun q => h q.2.2), if_neg h]
/-- feuds last 0 to 50 rounds -/
def fOK (c : Nat → Int32) : Prop := ∀ k, 24 ≤ k → k < 88 → ∃ n, n ≤ 50 ∧ c k = nI n
theorem fOK_rnd {c : Nat → Int32} (h : fOK c) : fOK (rnd c) := fun k h1 h2 => by
  obtain ⟨n, hn, e⟩ := h k h1 h2
  rw [rnd_f h1 h2, e]
  by_cases q : 0 < nI n
  · rw [if_pos q]
    have h0 : 0 < n := (nI_ltI (a := 0) (by decide) (by omega)).mp q
    exact ⟨n - 1, by omega, pk_sub (by omega)⟩
  · rw [if_neg q]; exact ⟨n, hn, rfl⟩
theorem fOK_of {c c2 : Nat → Int32} (h : fOK c) (e : ∀ k, 24 ≤ k → k < 88 → c2 k = c k) : fOK c2 := fun k h1 h2 => by
  obtain ⟨n, hn, q⟩ := h k h1 h2
  exact ⟨n, hn, (e k h1 h2).trans q⟩
theorem fOK_set {c : Nat → Int32} (h : fOK c) {i n : Nat} (hn : n ≤ 50) : fOK (upd c i (nI n)) := fun k h1 h2 => by
  by_cases e : k = i
  · subst e; rw [upd_eq]; exact ⟨n, hn, rfl⟩
  · rw [upd_ne e]; exact h k h1 h2
theorem inR_ex {x : Int32} (h : inR x = true) : ∃ n, 1 ≤ n ∧ n ≤ 50 ∧ x = nI n := by
  simp only [inR, Bool.and_eq_true, Bool.not_eq_true', decide_eq_false_iff_not, decide_eq_true_eq] at h
  have h3 : ¬ x.toInt < (nI 1).toInt := fun z => h.1 (Int32.lt_iff_toInt_lt.mpr z)
  have h4 := Int32.le_iff_toInt_le.mp h.2
  rw [nI_toInt (by decide)] at h3 h4
  refine ⟨x.toInt.toNat, by omega, by omega, ?_⟩
  apply Int32.toInt_inj.mp
  rw [nI_toInt (by omega)]
  omega
/-! p27: what the law's own methods answer -/
theorem n7 {i j : Nat} (hi : i < 16) (hj : j < 16) (h : i ≠ j) : ¬ nI i = nI j := fun e => h ((nI_eq (by omega) (by omega)).mp e)
theorem coV_z (c : Nat → Int32) (z ln : Nat) {k : Nat} (hk : k < 6) : coV c z ln (nI k) = coV c 0 0 (nI k) := by
  have h8 : ¬ nI k = nI 8 := n7 (by omega) (by decide) (by omega)
  have h9 : ¬ nI k = nI 9 := n7 (by omega) (by decide) (by omega)
  simp only [coV, if_neg h8, if_neg h9]
def tA (c : Nat → Int32) : Nat → Int64
  | 0 => 3
  | k + 1 => 31 * tA c k + (coV c 0 0 (nI k)).toInt64
def tB (c : Nat → Int32) : Nat → Int64
  | 0 => tA c 6
  | k + 1 => 31 * (31 * (31 * tB c k + (paV c (nI (k / 8)) (nI (k % 8)) (nI 0)).toInt64) + (paV c (nI (k / 8)) (nI (k % 8)) (nI 1)).toInt64) + (paV c (nI (k / 8)) (nI (k % 8)) (nI 2)).toInt64
def tC (c : Nat → Int32) : Nat → Int64
  | 0 => tB c 64
  | k + 1 => 31 * (31 * tC c k + (lkV c (nI (k / 4)) (nI (k % 4))).toInt64) + (peV c (decide (k < 8)) (nI (k % 8)) (nI 0)).toInt64
def TD (c : Nat → Int32) : Int64 := tC c 16
def lowN (v : Int32) (n : Nat) : Nat := (v &&& 2147483647).toNatClampNeg % n
theorem low_nn (v : Int32) : v &&& 2147483647 = nI (v &&& 2147483647).toNatClampNeg ∧ (v &&& 2147483647).toNatClampNeg < 2 ^ 31 := by
  have hb : (v &&& 2147483647).toBitVec.toNat < 2 ^ 31 := by
    have e : (v &&& 2147483647).toBitVec.toNat = v.toBitVec.toNat &&& 2147483647 := by
      rw [Int32.toBitVec_and, BitVec.toNat_and]; rfl
    rw [e]; exact Nat.lt_of_le_of_lt Nat.and_le_right (by decide)
  obtain ⟨k, hk, e⟩ : ∃ k, k < 2 ^ 31 ∧ v &&& 2147483647 = nI k := ⟨(v &&& 2147483647).toBitVec.toNat, hb, by
    apply Int32.toBitVec_inj.mp
    apply BitVec.eq_of_toNat_eq
    show _ = (BitVec.ofNat 32 _).toNat
    rw [BitVec.toNat_ofNat, Nat.mod_eq_of_lt (by omega)]⟩
  rw [e, nI_clamp hk]
  exact ⟨rfl, hk⟩
theorem low_lt {v : Int32} {n : Nat} (hn : 0 < n) : lowN v n < n := Nat.mod_lt _ hn
/-- an answer, whether it is one, and the clans behind it -/
def tOK (t : Int32 × Bool × (Nat → Int32)) : Prop := (t.2.1 = true → (∃ n, n < 2 ^ 31 ∧ t.1 = nI n) ∧ cOK t.2.2 ∧ fOK t.2.2) ∧ (t.2.1 = false → t.1 < 0)
theorem tOK_t {a : Int32} {q : Bool} {d : Nat → Int32} {n : Nat} (hq : q = true) (hn : n < 2 ^ 31) (ha : a = nI n) (hc : cOK d) (hf : fOK d) : tOK (a, q, d) := ⟨fun _ => ⟨⟨n, hn, ha⟩, hc, hf⟩, fun h => by rw [show q = true from hq] at h; cases h⟩
theorem tOK_f {a : Int32} {q : Bool} {d : Nat → Int32} (hq : q = false) (ha : a < 0) : tOK (a, q, d) := ⟨fun h => (by rw [show q = false from hq] at h; cases h), fun _ => ha⟩
theorem nw31 (c : Nat → Int32) : nwC c 8 < 2 ^ 31 := Nat.lt_of_le_of_lt (nwC_le c 8) (by decide)
theorem feN {c : Nat → Int32} (hf : fOK c) {a b : Nat} (ha : a < 8) (hb : b < 8) : ∃ n, n ≤ 50 ∧ feC c a b = nI n := hf (24 + 8 * a + b) (by omega) (by omega)
theorem aW_ok {c : Nat → Int32} {x y : Int32} (hc : cOK c) (hf : fOK c) : tOK (xwV c x y, xwQ c x y, xwC c x y) := by
  cases ht : two x y with
  | false => exact tOK_f (by rw [xwQ, ht]; rfl) (by rw [xwV, ht, if_neg Bool.false_ne_true]; decide)
  | true =>
    obtain ⟨a, b, ha, hb, ex, ey, px, py⟩ := two_ex ht
    cases hw : wiC c a b with
    | true => exact tOK_f (by rw [xwQ, ht, px, py, hw]; rfl) (by rw [xwV, ht, if_pos rfl, px, py, hw, if_pos rfl]; decide)
    | false =>
      refine tOK_t (n := nwC (xwC c x y) 8) (by rw [xwQ, ht, px, py, hw]; rfl) (nw31 _) (by rw [xwV, ht, if_pos rfl, px, py, hw, if_neg Bool.false_ne_true]) ?_ ?_
      · rw [xwC, px, py]; exact cOK_w hc ha (or_lt (hc.w8 ha) (sh_lt hb))
      · rw [xwC, px, py]; exact fOK_of hf (fun k h1 h2 => upd_ne (by omega))
theorem aD_ok {c : Nat → Int32} {x y : Int32} (hc : cOK c) (hf : fOK c) : tOK (wdV c x y, wdQ c x y, wdC c x y) := by
  cases ht : two x y with
  | false => exact tOK_f (by rw [wdQ, ht]; rfl) (by rw [wdV, ht, if_neg Bool.false_ne_true]; decide)
  | true =>
    obtain ⟨a, b, ha, hb, ex, ey, px, py⟩ := two_ex ht
    cases hw : wiC c a b with
    | false => exact tOK_f (by rw [wdQ, ht, px, py, hw]; rfl) (by rw [wdV, ht, if_pos rfl, px, py, hw, if_neg Bool.false_ne_true]; decide)
    | true =>
      refine tOK_t (n := nwC (wdC c x y) 8) (by rw [wdQ, ht, px, py, hw]; rfl) (nw31 _) (by rw [wdV, ht, if_pos rfl, px, py, hw, if_pos rfl]) ?_ ?_
      · rw [wdC, px, py]; exact cOK_close hc b ha
      · rw [wdC, px, py]; exact fOK_of hf (fun k h1 h2 => upd_ne (by omega))
theorem cOK_fd {c : Nat → Int32} (hc : cOK c) {a b : Nat} (ha : a < 8) (hb : b < 8) (x : Int32) : cOK (upd c (24 + 8 * a + b) x) := cOK_of hc (fun k hk => upd_ne (by omega)) (upd_ne (by omega))
theorem aQ_ok {c : Nat → Int32} {x y w : Int32} (hc : cOK c) (hf : fOK c) : tOK (quV c x y w, quQ x y w, fdC c x y w) := by
  cases ht : two x y with
  | false => exact tOK_f (by rw [quQ, ht]; rfl) (by rw [quV, ht, if_neg Bool.false_ne_true]; decide)
  | true =>
    obtain ⟨a, b, ha, hb, ex, ey, px, py⟩ := two_ex ht
    cases hw : inR w with
    | false => exact tOK_f (by rw [quQ, ht, hw]; rfl) (by rw [quV, ht, if_pos rfl, hw, if_neg Bool.false_ne_true]; decide)
    | true =>
      obtain ⟨n, hn, e⟩ := feN hf ha hb
      obtain ⟨k, h1, h2, rfl⟩ := inR_ex hw
      refine tOK_t (n := n) (by rw [quQ, ht, hw]; rfl) (by omega) (by rw [quV, ht, if_pos rfl, px, py, hw, if_pos rfl, e]) ?_ ?_
      · rw [fdC, px, py]; exact cOK_fd hc ha hb _
      · rw [fdC]; exact fOK_set hf h2
theorem aC_ok {c : Nat → Int32} {x y : Int32} (hc : cOK c) (hf : fOK c) : tOK (rcV c x y, rcQ c x y, fdC c x y (nI 0)) := by
  cases ht : two x y with
  | false => exact tOK_f (by rw [rcQ, ht]; rfl) (by rw [rcV, ht, if_neg Bool.false_ne_true]; decide)
  | true =>
    obtain ⟨a, b, ha, hb, ex, ey, px, py⟩ := two_ex ht
    by_cases h0 : feC c a b = 0
    · exact tOK_f (by rw [rcQ, ht, px, py, decide_eq_true h0]; rfl) (by rw [rcV, ht, if_pos rfl, px, py, if_pos h0]; decide)
    · obtain ⟨n, hn, e⟩ := feN hf ha hb
      refine tOK_t (n := n) (by rw [rcQ, ht, px, py, decide_eq_false h0]; rfl) (by omega) (by rw [rcV, ht, if_pos rfl, px, py, if_neg h0, e]) ?_ ?_
      · rw [fdC, px, py]; exact cOK_fd hc ha hb _
      · rw [fdC]; exact fOK_set hf (by decide)
theorem aS_ok {hs : Bool} {c cs : Nat → Int32} (_ : cOK c) (_ : fOK c) (hcs : hs = true → cOK cs ∧ fOK cs) : tOK ((if hs then nI (nwC (va_cpy cs c 0 0 154) 8) else -4), hs, va_cpy cs c 0 0 154) := by
  cases hs with
  | false => exact tOK_f rfl (by rw [if_neg Bool.false_ne_true]; decide)
  | true =>
    obtain ⟨h1, h2⟩ := hcs rfl
    exact tOK_t rfl (nw31 _) (by rw [if_pos rfl]) (cOK_cpy h1) (fOK_of h2 (fun k _ hk => same_cpy cs c k (by omega)))
theorem bI_n (b : Bool) : bI b = nI (if b then 1 else 0) := bI_nI b
theorem if31 (b : Bool) : (if b then 1 else 0) < 2 ^ 31 := by cases b <;> decide
theorem aL_ok {c : Nat → Int32} {x y : Int32} {q : Bool} (hc : cOK c) (hf : fOK c) : tOK (lkV c x y, twG x y, cLink c (pN x) (pN y) q) := by
  cases ht : twG x y with
  | false => exact tOK_f rfl (by rw [lkV, ht, if_neg Bool.false_ne_true]; decide)
  | true =>
    obtain ⟨a, b, ha, hb, ex, ey, px, py⟩ := twG_ex ht
    refine tOK_t rfl (if31 (lkC c a b)) (by rw [lkV, ht, if_pos rfl, px, py]; exact bI_n _) ?_ ?_
    · rw [px, py]; exact cOK_link hc ha hb q
    · exact fOK_of hf (fun k h1 h2 => by rw [cLink]; exact upd_ne (by omega))
theorem aM_ok {c : Nat → Int32} {x y : Int32} {q : Bool} (hc : cOK c) (hf : fOK c) : tOK (mvV c q x y, mvQ x y, mvC c q x y) := by
  cases ht : mvQ x y with
  | false => exact tOK_f rfl (by rw [mvV, ht, if_neg Bool.false_ne_true]; decide)
  | true =>
    obtain ⟨a, b, ha, hb, ex, ey, px, py⟩ := mvQ_ex ht
    have hk : (if q then 0 else 8) + a < 16 := by cases q <;> simp <;> omega
    refine tOK_t (n := cN c ((if q then 0 else 8) + a)) rfl (Nat.lt_trans (hc.g4 hk) (by decide)) (by rw [mvV, ht, if_pos rfl, px]; exact hc.g hk) ?_ ?_
    · rw [mvC, px, ey]; exact cOK_gate hc hk hb
    · exact fOK_of hf (fun k h1 h2 => by rw [mvC, px]; exact upd_ne (by omega))
theorem rn31 (c : Nat → Int32) : cnt (fun a => (spE (EC c) a).isSome) 8 < 2 ^ 31 := Nat.lt_of_le_of_lt (cnt_le _ 8) (by decide)
theorem aR_ok {c : Nat → Int32} (hc : cOK c) (hf : fOK c) : tOK (rnV c, true, rnd c) := tOK_t rfl (rn31 c) rfl (rnd_ok hc) (fOK_rnd hf)
/-- what undo lays back is what stood before -/
theorem und_same (c r c2 : Nat → Int32) (t : Nat) : ∀ k, k < 154 → va_cpy (va_cpy c r 0 (t * 154) 154) c2 (t * 154) 0 154 k = c k := fun k hk => by
  rw [pk_cpy_in (by omega) (by omega)]
  exact cpy_in hk
theorem kp_5 {z : Nat} : kpS z ≠ 0 := by unfold kpS; split <;> omega
theorem kp_cnt {z : Nat} (hz : z ≤ 5) : kpS z = if 5 ≤ z then 5 else z + 1 := by
  unfold kpS
  by_cases h : z = 5
  · rw [if_pos h, if_pos (by omega)]
  · rw [if_neg h, if_neg (by omega)]
def AT (hs : Bool) (c cs : Nat → Int32) (v w : Int32) : Int32 × Bool × (Nat → Int32) := if v &&& (nI 15) = nI 0 then (xwV c (nI (lowN (v >>> ((nI 4) &&& 31)) 9)) (nI (lowN w 8)), xwQ c (nI (lowN (v >>> ((nI 4) &&& 31)) 9)) (nI (lowN w 8)), xwC c (nI (lowN (v >>> ((nI 4) &&& 31)) 9)) (nI (lowN w 8))) else if v &&& (nI 15) = nI 1 then (xwV c (nI (lowN (v >>> ((nI 4) &&& 31)) 9)) (nI (lowN w 8)), xwQ c (nI (lowN (v >>> ((nI 4) &&& 31)) 9)) (nI (lowN w 8)), xwC c (nI (lowN (v >>> ((nI 4) &&& 31)) 9)) (nI (lowN w 8))) else if v &&& (nI 15) = nI 2 then (xwV c (nI (lowN (v >>> ((nI 4) &&& 31)) 9)) (nI (lowN w 8)), xwQ c (nI (lowN (v >>> ((nI 4) &&& 31)) 9)) (nI (lowN w 8)), xwC c (nI (lowN (v >>> ((nI 4) &&& 31)) 9)) (nI (lowN w 8))) else if v &&& (nI 15) = nI 3 then (xwV c (nI (lowN (v >>> ((nI 4) &&& 31)) 9)) (nI (lowN w 8)), xwQ c (nI (lowN (v >>> ((nI 4) &&& 31)) 9)) (nI (lowN w 8)), xwC c (nI (lowN (v >>> ((nI 4) &&& 31)) 9)) (nI (lowN w 8))) else if v &&& (nI 15) = nI 4 then (xwV c (nI (lowN (v >>> ((nI 4) &&& 31)) 9)) (nI (lowN w 8)), xwQ c (nI (lowN (v >>> ((nI 4) &&& 31)) 9)) (nI (lowN w 8)), xwC c (nI (lowN (v >>> ((nI 4) &&& 31)) 9)) (nI (lowN w 8))) else if v &&& (nI 15) = nI 5 then (xwV c (nI (lowN (v >>> ((nI 4) &&& 31)) 9)) (nI (lowN w 8)), xwQ c (nI (lowN (v >>> ((nI 4) &&& 31)) 9)) (nI (lowN w 8)), xwC c (nI (lowN (v >>> ((nI 4) &&& 31)) 9)) (nI (lowN w 8))) else if v &&& (nI 15) = nI 6 then (wdV c (nI (lowN (v >>> ((nI 4) &&& 31)) 9)) (nI (lowN w 8)), wdQ c (nI (lowN (v >>> ((nI 4) &&& 31)) 9)) (nI (lowN w 8)), wdC c (nI (lowN (v >>> ((nI 4) &&& 31)) 9)) (nI (lowN w 8))) else if v &&& (nI 15) = nI 7 then (quV c (nI (lowN (v >>> ((nI 4) &&& 31)) 9)) (nI (lowN w 8)) (nI (lowN (w >>> ((nI 3) &&& 31)) 7)), quQ (nI (lowN (v >>> ((nI 4) &&& 31)) 9)) (nI (lowN w 8)) (nI (lowN (w >>> ((nI 3) &&& 31)) 7)), fdC c (nI (lowN (v >>> ((nI 4) &&& 31)) 9)) (nI (lowN w 8)) (nI (lowN (w >>> ((nI 3) &&& 31)) 7))) else if v &&& (nI 15) = nI 8 then (quV c (nI (lowN (v >>> ((nI 4) &&& 31)) 9)) (nI (lowN w 8)) (nI (lowN (w >>> ((nI 3) &&& 31)) 7)), quQ (nI (lowN (v >>> ((nI 4) &&& 31)) 9)) (nI (lowN w 8)) (nI (lowN (w >>> ((nI 3) &&& 31)) 7)), fdC c (nI (lowN (v >>> ((nI 4) &&& 31)) 9)) (nI (lowN w 8)) (nI (lowN (w >>> ((nI 3) &&& 31)) 7))) else if v &&& (nI 15) = nI 9 then (if ((w >>> ((nI 4) &&& 31)) &&& (nI 1)) = 0 then (rcV c (nI (lowN (v >>> ((nI 4) &&& 31)) 9)) (nI (lowN w 8)), rcQ c (nI (lowN (v >>> ((nI 4) &&& 31)) 9)) (nI (lowN w 8)), fdC c (nI (lowN (v >>> ((nI 4) &&& 31)) 9)) (nI (lowN w 8)) (nI 0)) else (if hs then nI (nwC (va_cpy cs c 0 0 154) 8) else -4, hs, va_cpy cs c 0 0 154)) else if v &&& (nI 15) = nI 10 then (lkV c (nI (lowN w 5)) (nI (lowN (w >>> ((nI 3) &&& 31)) 4)), twG (nI (lowN w 5)) (nI (lowN (w >>> ((nI 3) &&& 31)) 4)), cLink c (pN (nI (lowN w 5))) (pN (nI (lowN (w >>> ((nI 3) &&& 31)) 4))) (decide (0 < ((w >>> ((nI 6) &&& 31)) &&& (nI 3))))) else if v &&& (nI 15) = nI 11 then (lkV c (nI (lowN w 5)) (nI (lowN (w >>> ((nI 3) &&& 31)) 4)), twG (nI (lowN w 5)) (nI (lowN (w >>> ((nI 3) &&& 31)) 4)), cLink c (pN (nI (lowN w 5))) (pN (nI (lowN (w >>> ((nI 3) &&& 31)) 4))) (decide (0 < ((w >>> ((nI 6) &&& 31)) &&& (nI 3))))) else if v &&& (nI 15) = nI 12 then (mvV c (decide ((w &&& (nI 1)) = 0)) (nI (lowN (v >>> ((nI 4) &&& 31)) 9)) (nI (lowN (w >>> ((nI 3) &&& 31)) 5)), mvQ (nI (lowN (v >>> ((nI 4) &&& 31)) 9)) (nI (lowN (w >>> ((nI 3) &&& 31)) 5)), mvC c (decide ((w &&& (nI 1)) = 0)) (nI (lowN (v >>> ((nI 4) &&& 31)) 9)) (nI (lowN (w >>> ((nI 3) &&& 31)) 5))) else (rnV c, true, rnd c)
theorem AT_ok {hs : Bool} {c cs : Nat → Int32} (hc : cOK c) (hf : fOK c) (hcs : hs = true → cOK cs ∧ fOK cs) (v w : Int32) : tOK (AT hs c cs v w) := by
  by_cases h0 : v &&& (nI 15) = nI 0
  · rw [AT, if_pos h0]; exact aW_ok hc hf
  by_cases h1 : v &&& (nI 15) = nI 1
  · rw [AT, if_neg h0, if_pos h1]; exact aW_ok hc hf
  by_cases h2 : v &&& (nI 15) = nI 2
  · rw [AT, if_neg h0, if_neg h1, if_pos h2]; exact aW_ok hc hf
  by_cases h3 : v &&& (nI 15) = nI 3
  · rw [AT, if_neg h0, if_neg h1, if_neg h2, if_pos h3]; exact aW_ok hc hf
  by_cases h4 : v &&& (nI 15) = nI 4
  · rw [AT, if_neg h0, if_neg h1, if_neg h2, if_neg h3, if_pos h4]; exact aW_ok hc hf
  by_cases h5 : v &&& (nI 15) = nI 5
  · rw [AT, if_neg h0, if_neg h1, if_neg h2, if_neg h3, if_neg h4, if_pos h5]; exact aW_ok hc hf
  by_cases h6 : v &&& (nI 15) = nI 6
  · rw [AT, if_neg h0, if_neg h1, if_neg h2, if_neg h3, if_neg h4, if_neg h5, if_pos h6]; exact aD_ok hc hf
  by_cases h7 : v &&& (nI 15) = nI 7
  · rw [AT, if_neg h0, if_neg h1, if_neg h2, if_neg h3, if_neg h4, if_neg h5, if_neg h6, if_pos h7]; exact aQ_ok hc hf
  by_cases h8 : v &&& (nI 15) = nI 8
  · rw [AT, if_neg h0, if_neg h1, if_neg h2, if_neg h3, if_neg h4, if_neg h5, if_neg h6, if_neg h7, if_pos h8]; exact aQ_ok hc hf
  by_cases h9 : v &&& (nI 15) = nI 9
  · rw [AT, if_neg h0, if_neg h1, if_neg h2, if_neg h3, if_neg h4, if_neg h5, if_neg h6, if_neg h7, if_neg h8, if_pos h9]
    by_cases q : ((w >>> ((nI 4) &&& 31)) &&& (nI 1)) = 0
    · rw [if_pos q]; exact aC_ok hc hf
    · rw [if_neg q]; exact aS_ok hc hf hcs
  by_cases h10 : v &&& (nI 15) = nI 10
  · rw [AT, if_neg h0, if_neg h1, if_neg h2, if_neg h3, if_neg h4, if_neg h5, if_neg h6, if_neg h7, if_neg h8, if_neg h9, if_pos h10]; exact aL_ok hc hf
  by_cases h11 : v &&& (nI 15) = nI 11
  · rw [AT, if_neg h0, if_neg h1, if_neg h2, if_neg h3, if_neg h4, if_neg h5, if_neg h6, if_neg h7, if_neg h8, if_neg h9, if_neg h10, if_pos h11]; exact aL_ok hc hf
  by_cases h12 : v &&& (nI 15) = nI 12
  · rw [AT, if_neg h0, if_neg h1, if_neg h2, if_neg h3, if_neg h4, if_neg h5, if_neg h6, if_neg h7, if_neg h8, if_neg h9, if_neg h10, if_neg h11, if_pos h12]; exact aM_ok hc hf
  rw [AT, if_neg h0, if_neg h1, if_neg h2, if_neg h3, if_neg h4, if_neg h5, if_neg h6, if_neg h7, if_neg h8, if_neg h9, if_neg h10, if_neg h11, if_neg h12]; exact aR_ok hc hf
