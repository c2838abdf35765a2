/-! the reference's reader of the text over the class's -/
def sN (sg : Nat → Int32) (ln i : Nat) : Nat := if i < ln then cN sg i else 0
def dg (sg : Nat → Int32) (ln i : Nat) : Bool := decide (48 ≤ sN sg ln i) && decide (sN sg ln i < 56)
def HX (sg tx : Nat → Int32) (ln : Nat) : Prop := ln ≤ 80 ∧ ∀ k, k < ln → tx k = nI (cN sg k) ∧ cN sg k < 128
def PO (sg r0 : Nat → Int32) (i : Nat) : Prop := ∀ j, j < i → pok (cN sg j) (prun sg r0 j) = true
def dstop (sg r0 : Nat → Int32) (ln k : Nat) : Prop := k < ln → 48 ≤ cN sg k → cN sg k < 56 → pok (cN sg k) (prun sg r0 k) = false
theorem sN_lt {sg tx : Nat → Int32} {ln : Nat} (h : HX sg tx ln) (i : Nat) : sN sg ln i < 128 := by
  unfold sN
  split
  · next q => exact (h.2 i q).2
  · decide
theorem in_dg {sg tx : Nat → Int32} {ln i : Nat} (h : HX sg tx ln) : inI (nI (sN sg ln i)) (nI 48) (nI 55) = dg sg ln i := by
  have hl := sN_lt h i
  rw [inI, dg]
  refine congr (congrArg _ ?_) ?_
  · exact decide_eq_decide.mpr (nI_leI (by decide) (by omega))
  · exact decide_eq_decide.mpr ((nI_leI (by omega) (by decide)).trans (by omega))
theorem dg_t {sg : Nat → Int32} {ln i : Nat} (h : dg sg ln i = true) : i < ln ∧ sN sg ln i = cN sg i ∧ 48 ≤ sN sg ln i ∧ sN sg ln i < 56 := by
  simp only [dg, Bool.and_eq_true, decide_eq_true_eq] at h
  by_cases q : i < ln
  · exact ⟨q, if_pos q, h.1, h.2⟩
  · rw [sN, if_neg q] at h; omega
theorem dg_f {sg : Nat → Int32} {ln i : Nat} (h : dg sg ln i = false) (hi : i < ln) : ¬ (48 ≤ cN sg i ∧ cN sg i < 56) := fun q => by
  rw [dg, sN, if_pos hi, decide_eq_true q.1, decide_eq_true q.2] at h
  cases h
theorem dg_stop {sg r0 : Nat → Int32} {ln i : Nat} (h : dg sg ln i = false) : dstop sg r0 ln i := fun hi h1 h2 => absurd ⟨h1, h2⟩ (dg_f h hi)
def pst4 (bd : Bool) (lf rg s : Nat) (rw : Nat → Int32) : PS := (if bd then lf else s, if bd then s else rg, bd, rw)
theorem shr0 {s d : Nat} : s >>> d = 0 ↔ s < 1 <<< d := by
  rw [Nat.shiftRight_eq_div_pow, Nat.shiftLeft_eq, Nat.one_mul]
  exact ⟨fun h => by
    rcases Nat.div_eq_zero_iff.mp h with q | q
    · exact absurd q (Nat.ne_of_gt (Nat.two_pow_pos d))
    · exact q, fun h => Nat.div_eq_of_lt h⟩
theorem tpOk4 {bd : Bool} {lf rg s y : Nat} {rw : Nat → Int32} : tpOk (pst4 bd lf rg s rw).1 (pst4 bd lf rg s rw).2.1 (pst4 bd lf rg s rw).2.2.1 y = decide (s < y) := by
  cases bd <;> rfl
theorem PO_dig {sg r0 : Nat → Int32} {ln j lf rg s : Nat} {bd : Bool} {rw : Nat → Int32} (hP : PO sg r0 j) (hs : prun sg r0 j = pst4 bd lf rg s rw) (hd : dg sg ln j = true) (hz : s >>> (sN sg ln j - 48) = 0) : PO sg r0 (j + 1) ∧ prun sg r0 (j + 1) = pst4 bd lf rg (s ||| 1 <<< (sN sg ln j - 48)) rw := by
  obtain ⟨h1, h2, h3, h4⟩ := dg_t hd
  rw [h2] at h3 h4 hz ⊢
  have hlt := shr0.mp hz
  constructor
  · intro i hi
    by_cases e : i = j
    · subst e
      rw [hs, pok, if_pos ⟨h3, h4⟩, tpOk4]
      exact decide_eq_true hlt
    · exact hP i (by omega)
  · show pst (cN sg j) (prun sg r0 j) = _
    rw [hs, pst, if_pos ⟨h3, h4⟩]
    cases bd
    · show (tpL s false _, tpR rg false _, false, rw) = (s ||| _, rg, false, rw)
      rw [tpL, if_neg Bool.false_ne_true, if_pos hlt, tpR, if_neg Bool.false_ne_true]
    · show (tpL lf true _, tpR s true _, true, rw) = (lf, s ||| _, true, rw)
      rw [tpL, if_pos rfl, tpR, if_pos rfl, if_pos hlt]
theorem stop_dig {sg r0 : Nat → Int32} {ln j lf rg s : Nat} {bd : Bool} {rw : Nat → Int32} (hs : prun sg r0 j = pst4 bd lf rg s rw) (hd : dg sg ln j = true) (hz : s >>> (sN sg ln j - 48) ≠ 0) : dstop sg r0 ln j := fun _ h1 h2 => by
  obtain ⟨-, h3, -, -⟩ := dg_t hd
  rw [h3] at hz
  rw [hs, pok, if_pos ⟨h1, h2⟩, tpOk4]
  exact decide_eq_false (fun q => hz (shr0.mpr q))
/-- what the reader of people does -/
def ppl (sg r0 : Nat → Int32) (ln : Nat) (wl : Bool) (i lf rg : Nat) (bd : Bool) (rw : Nat → Int32) (w2 : Bool) (j s : Nat) : Prop :=
  s < 256 ∧ (wl = false → w2 = false ∧ j = i) ∧ (wl = true → w2 = dg sg ln i ∧ (w2 = false → j = i) ∧ (w2 = true → i < j ∧ j ≤ ln ∧ PO sg r0 j ∧ prun sg r0 j = pst4 bd lf rg s rw ∧ s ≠ 0 ∧ dstop sg r0 ln j))
theorem or_ne0 {s d : Nat} : s ||| 1 <<< d ≠ 0 := fun h => by
  have := congrArg (fun x => x.testBit d) h
  simp only [Nat.testBit_or, bit_one, Nat.zero_testBit, decide_true, Bool.or_true] at this
  cases this
theorem flt {sg r0 : Nat → Int32} {ln k : Nat} (hP : PO sg r0 k) (hk : k ≤ ln) (hr : (prun sg r0 k).2.1 = 0 ∨ k < ln) (hn : k < ln → pok (cN sg k) (prun sg r0 k) = false) : pres sg r0 ln = nI k := by
  by_cases h : k < ln
  · exact pres_at hP (hn h) h
  · have e : k = ln := by omega
    subst e
    rw [pres_end hP (Nat.le_refl _), if_pos (hr.resolve_right (Nat.lt_irrefl _))]
/-- the list is over -/
theorem lst_end {sg r0 : Nat → Int32} {ln : Nat} (hP : PO sg r0 ln) (hr : (prun sg r0 ln).2.1 ≠ 0) : pres sg r0 ln = -5 := by
  rw [pres_end hP (Nat.le_refl _), if_neg hr]
theorem pok_no {x lf rg : Nat} {bd : Bool} {rw : Nat → Int32} (h1 : ¬ (48 ≤ x ∧ x < 56)) (h2 : ¬ (x = 45 ∧ lf ≠ 0 ∧ bd = false)) (h3 : ¬ (x = 44 ∧ rg ≠ 0)) : pok x (lf, rg, bd, rw) = false := by
  rw [pok, if_neg h1, if_neg h2]
  exact decide_eq_false h3
theorem flt_at {sg r0 : Nat → Int32} {ln k lf : Nat} {bd : Bool} {rw : Nat → Int32} (hP : PO sg r0 k) (hk : k ≤ ln) (hs : prun sg r0 k = (lf, 0, bd, rw)) (hd : dstop sg r0 ln k) (h2 : ¬ (sN sg ln k = 45 ∧ lf ≠ 0 ∧ bd = false)) : pres sg r0 ln = nI k := by
  refine flt hP hk (Or.inl (by rw [hs])) (fun h => ?_)
  by_cases q : 48 ≤ cN sg k ∧ cN sg k < 56
  · exact hd h q.1 q.2
  · rw [hs]
    rw [sN, if_pos h] at h2
    exact pok_no q h2 (fun z => z.2 rfl)
theorem PO_dash {sg r0 : Nat → Int32} {ln j lf : Nat} {rw : Nat → Int32} (hP : PO sg r0 j) (hs : prun sg r0 j = pst4 false 0 0 lf rw) (h0 : lf ≠ 0) (hx : sN sg ln j = 45) : j < ln ∧ PO sg r0 (j + 1) ∧ prun sg r0 (j + 1) = pst4 true lf 0 0 rw := by
  have hj : j < ln := by
    by_cases q : j < ln
    · exact q
    · rw [sN, if_neg q] at hx; cases hx
  rw [sN, if_pos hj] at hx
  have hs2 : prun sg r0 j = (lf, 0, false, rw) := hs
  refine ⟨hj, fun i hi => ?_, ?_⟩
  · by_cases e : i = j
    · subst e
      rw [hs2, hx, pok, if_neg (by decide), if_pos ⟨rfl, h0, rfl⟩]
    · exact hP i (by omega)
  · show pst (cN sg j) (prun sg r0 j) = _
    rw [hs2, hx, pst, if_neg (by decide), if_pos ⟨rfl, h0, rfl⟩]
    rfl
theorem PO_comma {sg r0 : Nat → Int32} {ln j lf rg : Nat} {rw : Nat → Int32} (hj : j < ln) (hP : PO sg r0 j) (hs : prun sg r0 j = (lf, rg, true, rw)) (h0 : rg ≠ 0) (hx : sN sg ln j = 44) : PO sg r0 (j + 1) ∧ prun sg r0 (j + 1) = (0, 0, false, egF rw lf rg 8) := by
  rw [sN, if_pos hj] at hx
  refine ⟨fun i hi => ?_, ?_⟩
  · by_cases e : i = j
    · subst e
      rw [hs, hx, pok, if_neg (by decide), if_neg (fun z => by cases z.1)]
      exact decide_eq_true ⟨rfl, h0⟩
    · exact hP i (by omega)
  · show pst (cN sg j) (prun sg r0 j) = _
    rw [hs, hx, pst, if_neg (by decide), if_neg (fun z => by cases z.1), if_pos ⟨rfl, h0⟩]
/-- what a group gives -/
def rgp (sg r0 : Nat → Int32) (ln i : Nat) (rw : Nat → Int32) (m : Nat) (rdd : Nat → Int32) (w2 : Bool) (j m2 : Nat) (rdd2 : Nat → Int32) : Prop :=
  (∀ k, k < 2 * m → rdd2 k = rdd k) ∧ i ≤ j ∧ j ≤ ln ∧ (w2 = true → m2 = m + 1 ∧ i + 3 ≤ j ∧ PO sg r0 j ∧ dstop sg r0 ln j ∧ ∃ lf rg, rdd2 (2 * m) = nI lf ∧ rdd2 (2 * m + 1) = nI rg ∧ lf < 256 ∧ rg < 256 ∧ rg ≠ 0 ∧ prun sg r0 j = (lf, rg, true, rw)) ∧ (w2 = false → pres sg r0 ln = nI j)
theorem rgp_f {sg r0 : Nat → Int32} {ln i j m : Nat} {rw rdd : Nat → Int32} {x y : Int32} (h1 : i ≤ j) (h2 : j ≤ ln) (h : pres sg r0 ln = nI j) : rgp sg r0 ln i rw m rdd false j m (upd (upd rdd (2 * m) x) (2 * m + 1) y) :=
  ⟨fun k hk => by rw [upd_ne (by omega), upd_ne (by omega)], h1, h2, fun h => (by cases h), fun _ => h⟩
theorem rgp_t {sg r0 : Nat → Int32} {ln i j m lf rg : Nat} {rw rdd : Nat → Int32} (h1 : i + 3 ≤ j) (h2 : j ≤ ln) (hP : PO sg r0 j) (hd : dstop sg r0 ln j) (hl : lf < 256) (hg : rg < 256) (h0 : rg ≠ 0) (hs : prun sg r0 j = pst4 true lf 0 rg rw) : rgp sg r0 ln i rw m rdd true j (m + 1) (upd (upd rdd (2 * m) (nI lf)) (2 * m + 1) (nI rg)) :=
  ⟨fun k hk => by rw [upd_ne (by omega), upd_ne (by omega)], by omega, h2, fun _ => ⟨rfl, h1, hP, hd, lf, rg, by rw [upd_ne (by omega), upd_eq], upd_eq, hl, hg, h0, hs⟩, fun h => (by cases h)⟩
/-- rows after so many groups -/
def gro (rdd r0 : Nat → Int32) : Nat → (Nat → Int32)
  | 0 => r0
  | m + 1 => egF (gro rdd r0 m) (cN rdd (2 * m)) (cN rdd (2 * m + 1)) 8
theorem gro_cong {rdd rdd2 r0 : Nat → Int32} : ∀ m, (∀ k, k < 2 * m → rdd2 k = rdd k) → gro rdd2 r0 m = gro rdd r0 m
  | 0, _ => rfl
  | m + 1, h => by
    simp only [gro]
    rw [gro_cong m (fun k hk => h k (by omega)), cN, h _ (by omega), cN, h _ (by omega)]
    rfl
/-- the reader's loop: all is well so far, or the fault is known -/
def RLp (sg r0 : Nat → Int32) (ln : Nat) (w : Bool) (k m : Nat) (rdd : Nat → Int32) : Prop :=
  k ≤ ln ∧ (w = true → 1 ≤ m ∧ 4 * m ≤ k + 1 ∧ PO sg r0 k ∧ dstop sg r0 ln k ∧ (∀ i, i < 2 * m → rdd i = nI (cN rdd i) ∧ cN rdd i < 256) ∧ cN rdd (2 * (m - 1) + 1) ≠ 0 ∧ prun sg r0 k = (cN rdd (2 * (m - 1)), cN rdd (2 * (m - 1) + 1), true, gro rdd r0 (m - 1))) ∧ (w = false → pres sg r0 ln = nI k)
theorem RLp_g {sg r0 : Nat → Int32} {ln i j m m2 : Nat} {rdd rdd2 : Nat → Int32} {w2 : Bool} (h : rgp sg r0 ln i (gro rdd r0 m) m rdd w2 j m2 rdd2) (h4 : 4 * m ≤ i) (hb : ∀ i, i < 2 * m → rdd i = nI (cN rdd i) ∧ cN rdd i < 256) : RLp sg r0 ln w2 j m2 rdd2 := by
  obtain ⟨h1, h2, h3, h5, h6⟩ := h
  refine ⟨h3, fun hw => ?_, h6⟩
  obtain ⟨rfl, q1, q2, q3, lf, rg, q4, q5, q6, q7, q8, q9⟩ := h5 hw
  have c1 : cN rdd2 (2 * m) = lf := by rw [cN, q4]; exact nI_clamp (by omega)
  have c2 : cN rdd2 (2 * m + 1) = rg := by rw [cN, q5]; exact nI_clamp (by omega)
  refine ⟨by omega, by omega, q2, q3, fun k hk => ?_, ?_, ?_⟩
  · by_cases e : k < 2 * m
    · rw [cN, h1 k e]; exact hb k e
    · by_cases e2 : k = 2 * m
      · subst e2; rw [c1]; exact ⟨q4, q6⟩
      · have e3 : k = 2 * m + 1 := by omega
        subst e3; rw [c2]; exact ⟨q5, q7⟩
  · rw [show m + 1 - 1 = m by omega, c2]; exact q8
  · rw [show m + 1 - 1 = m by omega, c1, c2, gro_cong m h1]; exact q9
theorem RLp_no {sg r0 : Nat → Int32} {ln k m : Nat} {rdd : Nat → Int32} (h : RLp sg r0 ln true k m rdd) (hk : k < ln) (hx : sN sg ln k ≠ 44) : RLp sg r0 ln false (k + 0) m rdd := by
  obtain ⟨h1, h2, -⟩ := h
  obtain ⟨-, -, h3, h4, -, -, h5⟩ := h2 rfl
  refine ⟨h1, fun z => (by cases z), fun _ => ?_⟩
  refine pres_at (i := k) h3 ?_ hk
  by_cases q : 48 ≤ cN sg k ∧ cN sg k < 56
  · exact h4 hk q.1 q.2
  · rw [h5]
    rw [sN, if_pos hk] at hx
    exact pok_no q (fun z => by cases z.2.2) (fun z => hx z.1)
/-- what reading gives -/
def RR (sg r0 : Nat → Int32) (ln m : Nat) (rdd : Nat → Int32) : Prop := pres sg r0 ln = -5 → m ≤ 20 ∧ (∀ i, i < 2 * m → rdd i = nI (cN rdd i) ∧ cN rdd i < 256) ∧ prow sg r0 ln = gro rdd r0 m
theorem RR_t {sg r0 : Nat → Int32} {ln k m : Nat} {rdd : Nat → Int32} (h : RLp sg r0 ln true k m rdd) (hl : ln ≤ 80) (hk : ln ≤ k) : pres sg r0 ln = -5 ∧ RR sg r0 ln m rdd := by
  obtain ⟨h1, h2, -⟩ := h
  have e : k = ln := by omega
  subst e
  obtain ⟨a1, a2, a3, a4, a5, a6, a7⟩ := h2 rfl
  refine ⟨lst_end a3 (by rw [a7]; exact a6), fun _ => ⟨by omega, a5, ?_⟩⟩
  rw [prow, a7]
  show egF (gro rdd r0 (m - 1)) (cN rdd (2 * (m - 1))) (cN rdd (2 * (m - 1) + 1)) 8 = _
  obtain ⟨n, rfl⟩ : ∃ n, m = n + 1 := ⟨m - 1, by omega⟩
  rfl
theorem RR_f {sg r0 : Nat → Int32} {ln k m : Nat} {rdd : Nat → Int32} (h : RLp sg r0 ln false k m rdd) (hl : ln ≤ 80) : pres sg r0 ln = nI k ∧ RR sg r0 ln m rdd := by
  have e := h.2.2 rfl
  have := h.1
  exact ⟨e, fun z => absurd (e.symm.trans z) (nI_m5 (by omega))⟩
theorem RLp_c {sg r0 : Nat → Int32} {ln k m : Nat} {rdd : Nat → Int32} (h : RLp sg r0 ln true k m rdd) (hk : k < ln) (hx : sN sg ln k = 44) : PO sg r0 (k + 1) ∧ prun sg r0 (k + 1) = (0, 0, false, gro rdd r0 m) ∧ 4 * m ≤ k + 1 ∧ ∀ i, i < 2 * m → rdd i = nI (cN rdd i) ∧ cN rdd i < 256 := by
  obtain ⟨-, h2, -⟩ := h
  obtain ⟨a1, a2, a3, a4, a5, a6, a7⟩ := h2 rfl
  obtain ⟨b1, b2⟩ := PO_comma hk a3 a7 a6 hx
  refine ⟨b1, b2.trans ?_, a2, a5⟩
  obtain ⟨n, rfl⟩ : ∃ n, m = n + 1 := ⟨m - 1, by omega⟩
  rfl
def ms (ln k : Nat) (w : Bool) : Nat := 2 * (ln - k) + (if w = true then 1 else 0)
theorem ms_f {ln k : Nat} {w : Bool} (h : w = true) : ms ln (k + 0) false < ms ln k w := by
  subst h
  show 2 * (ln - k) + 0 < 2 * (ln - k) + 1
  omega
theorem ms_n {ln k j : Nat} {w w2 : Bool} (hk : k < ln) (h1 : k + 1 ≤ j) (h : w = true) : ms ln j w2 < ms ln k w := by
  subst h
  have : ms ln j w2 ≤ 2 * (ln - j) + 1 := by
    unfold ms; split <;> omega
  show _ < 2 * (ln - k) + 1
  omega
theorem PO_0 {sg r0 : Nat → Int32} : PO sg r0 0 := fun j h => absurd h (Nat.not_lt_zero _)
abbrev rm_X6_sign : Room := { frames := 0, cells := 0, slots := 0, locals := 0 }
theorem yd_X6_sign : yX6_sign.cls = RX6 ∧ yX6_sign.cls ≠ "java/lang/invoke/MethodHandle" ∧ yX6_sign.cls ≠ "java/lang/invoke/VarHandle" ∧ (parseMethodDescriptor yX6_sign.desc).map (fun d => d.parameters.length) = some 0 := by decide +kernel
theorem in_X6_sign_X6 : ∀ w ∈ u_ws RX6 TX6 18, w ∈ wsX6_sign := by decide +kernel
theorem fl_X6_sign_22 : Cond.fieldLink RX6 22 "FenceHandshakesModel" "text" "[I" ∈ wsX6_sign := by decide +kernel
theorem fl_X6_sign_107 : Cond.fieldLink RX6 107 "FenceHandshakesModel" "length" "I" ∈ wsX6_sign := by decide +kernel
theorem fl_X6_sign_110 : Cond.fieldLink RX6 110 "FenceHandshakesModel" "at" "I" ∈ wsX6_sign := by decide +kernel
set_option maxHeartbeats 4000000 in
set_option maxRecDepth 100000 in
theorem m_X6_sign (l : Launch) (D : va_G) (cI cC : ClassId) (q0 q1 q2 q3 q4 q5 q6 q7 q8 q9 q10 q11 : Nat) (th : Int32) (ss : Nat → Int32) (asd : Nat → Int32) (sts : Nat → Int32) (sm : Int32) (snp : Nat → Int32) (hx : Int32) (tx : Nat → Int32) (can : Nat → Int32) (szs : Nat → Int32) (ptn : Nat → Int32) (nms : Nat → Int32) (pth : Nat → Int32) (isw : Int32) (rdd : Nat → Int32) (rmy : Int32) (ln : Nat) (i : Nat) (sg : Nat → Int32) (hX : HX sg tx ln) (hi : i ≤ ln) : g_M l yX6_sign wsX6_sign rm_X6_sign D cI cC [.ref q0] (rW cI cC q0 q1 q2 q3 q4 q5 q6 q7 q8 q9 q10 q11 th ss asd sts sm snp hx tx (nI ln) can szs ptn nms pth (nI i) isw rdd rmy) (fun vv ww => vv = some (.int (nI (sN sg ln i))) ∧ ww = (rW cI cC q0 q1 q2 q3 q4 q5 q6 q7 q8 q9 q10 q11 th ss asd sts sm snp hx tx (nI ln) can szs ptn nms pth (nI i) isw rdd rmy)) := by
  refine g_entry (lv := [(0, .ref q0)]) (own := RX6) (by decide) rfl rfl (Nat.le_of_ble_eq_true rfl) rfl ?_
  intro p e s m args below meth co A Q C hr hQ
  have hl := hX.1
  refine g_aload_n (pc := 0) C dX6_sign_0 0 rfl rfl ?_
  refine g_get (pc := 1) (ci := 6) (T := TX6) (N := 18) (v := .int (nI i)) C in_X6_sign_X6 0 rfl rfl 14 (by decide) fl_X6_sign_110 rfl rfl dX6_sign_1 ?_
  refine g_aload_n (pc := 4) C dX6_sign_4 0 rfl rfl ?_
  refine g_get (pc := 5) (ci := 6) (T := TX6) (N := 18) (v := .int (nI ln)) C in_X6_sign_X6 0 rfl rfl 8 (by decide) fl_X6_sign_107 rfl rfl dX6_sign_5 ?_
  refine g_icmp_geN (pc := 8) C 23 (by omega) (by omega) dX6_sign_8 (by decide) (fun c8 => ?_) (fun c8 => ?_)
  · refine g_iconst (pc := 23) (v := nI 0) C dX6_sign_23 (by decide) ?_
    refine g_top (y := nI (sN sg ln i)) (by rw [sN, if_neg (by omega)]) ?_
    exact g_iret C hr hQ dX6_sign_24 rfl ⟨rfl, rfl⟩
  · refine g_aload_n (pc := 11) C dX6_sign_11 0 rfl rfl ?_
    refine g_get (pc := 12) (ci := 6) (T := TX6) (N := 18) (v := .ref q5) C in_X6_sign_X6 0 rfl rfl 7 (by decide) fl_X6_sign_22 rfl rfl dX6_sign_12 ?_
    refine g_aload_n (pc := 15) C dX6_sign_15 0 rfl rfl ?_
    refine g_get (pc := 16) (ci := 6) (T := TX6) (N := 18) (v := .int (nI i)) C in_X6_sign_X6 0 rfl rfl 14 (by decide) fl_X6_sign_110 rfl rfl dX6_sign_16 ?_
    refine g_ialdN (pc := 19) (f := tx) C 5 rfl (by omega) (by decide) dX6_sign_19 ?_
    refine g_top (y := nI (cN sg i)) ((hX.2 i (by omega)).1) ?_
    refine g_goto (pc := 20) C 24 dX6_sign_20 (by decide) ?_
    refine g_top (y := nI (sN sg ln i)) (by rw [sN, if_pos (by omega)]) ?_
    exact g_iret C hr hQ dX6_sign_24 rfl ⟨rfl, rfl⟩

abbrev rm_X6_people : Room := { frames := 1, cells := 0, slots := 0, locals := 22 }
theorem yd_X6_people : yX6_people.cls = RX6 ∧ yX6_people.cls ≠ "java/lang/invoke/MethodHandle" ∧ yX6_people.cls ≠ "java/lang/invoke/VarHandle" ∧ (parseMethodDescriptor yX6_people.desc).map (fun d => d.parameters.length) = some 0 := by decide +kernel
theorem in_X6_people_X6 : ∀ w ∈ u_ws RX6 TX6 18, w ∈ wsX6_people := by decide +kernel
theorem fl_X6_people_110 : Cond.fieldLink RX6 110 "FenceHandshakesModel" "at" "I" ∈ wsX6_people := by decide +kernel
theorem fl_X6_people_113 : Cond.fieldLink RX6 113 "FenceHandshakesModel" "isWell" "Z" ∈ wsX6_people := by decide +kernel
set_option maxHeartbeats 4000000 in
set_option maxRecDepth 100000 in
theorem m_X6_people (l : Launch) (D : va_G) (cI cC : ClassId) (q0 q1 q2 q3 q4 q5 q6 q7 q8 q9 q10 q11 : Nat) (th : Int32) (ss : Nat → Int32) (asd : Nat → Int32) (sts : Nat → Int32) (sm : Int32) (snp : Nat → Int32) (hx : Int32) (tx : Nat → Int32) (can : Nat → Int32) (szs : Nat → Int32) (ptn : Nat → Int32) (nms : Nat → Int32) (pth : Nat → Int32) (rdd : Nat → Int32) (rmy : Int32) (ln : Nat) (i : Nat) (wl : Bool) (sg : Nat → Int32) (r0 : Nat → Int32) (lf : Nat) (rg : Nat) (bd : Bool) (rw : Nat → Int32) (hX : HX sg tx ln) (hi : i ≤ ln) (hP : wl = true → PO sg r0 i ∧ prun sg r0 i = pst4 bd lf rg 0 rw) : g_M l yX6_people wsX6_people rm_X6_people D cI cC [.ref q0] (rW cI cC q0 q1 q2 q3 q4 q5 q6 q7 q8 q9 q10 q11 th ss asd sts sm snp hx tx (nI ln) can szs ptn nms pth (nI i) (bI wl) rdd rmy) (fun vv ww => ∃ (w2 : Bool) (j2 : Nat) (s2 : Nat), vv = some (.int (nI s2)) ∧ ww = (rW cI cC q0 q1 q2 q3 q4 q5 q6 q7 q8 q9 q10 q11 th ss asd sts sm snp hx tx (nI ln) can szs ptn nms pth (nI j2) (bI w2) rdd rmy) ∧ ppl sg r0 ln wl i lf rg bd rw w2 j2 s2) := by
  refine g_entry (lv := [(0, .ref q0)]) (own := RX6) (by decide) rfl rfl (Nat.le_of_ble_eq_true rfl) rfl ?_
  intro p e s m args below meth co A Q C hr hQ
  have hl := hX.1
  have hs1 := sN_lt hX i
  refine g_iconst (pc := 0) (v := nI 0) C dX6_people_0 (by decide) ?_
  refine g_istore_n (pc := 1) (lv' := [(1, .int (nI 0)), (0, .ref q0)]) C dX6_people_1 rfl (by decide) rfl ?_
  refine g_aload_n (pc := 2) C dX6_people_2 1 rfl rfl ?_
  refine g_aload_n (pc := 3) C dX6_people_3 1 rfl rfl ?_
  refine g_get (pc := 4) (ci := 6) (T := TX6) (N := 18) (v := .int (bI wl)) C in_X6_people_X6 0 rfl rfl 15 (by decide) fl_X6_people_113 rfl rfl dX6_people_4 ?_
  refine g_if_eqB (pc := 7) C 28 dX6_people_7 (by decide) (fun c7 => ?_) (fun c7 => ?_)
  · refine g_iconst (pc := 28) (v := nI 0) C dX6_people_28 (by decide) ?_
    refine g_top (y := bI false) rfl ?_
    refine g_put (pc := 29) (ci := 6) (T := TX6) (N := 18) (ws' := (rW cI cC q0 q1 q2 q3 q4 q5 q6 q7 q8 q9 q10 q11 th ss asd sts sm snp hx tx (nI ln) can szs ptn nms pth (nI i) (bI false) rdd rmy)) (ty := .boolean) (v := .int (bI false)) C in_X6_people_X6 tyX6 tyX6_ok nmX6 0 rfl rfl 15 (by decide) fl_X6_people_113 rfl rfl (by decide +kernel) (g_nar _) (g_fit _) (Nat.le_of_ble_eq_true rfl) dX6_people_29 rfl ?_
    have L32 : ∀ (NZ : Nat) (z0 : Nat), 1 - z0 < NZ → g_J p l e rm_X6_people s m args below meth co Q D A 2 0 0 (rW cI cC q0 q1 q2 q3 q4 q5 q6 q7 q8 q9 q10 q11 th ss asd sts sm snp hx tx (nI ln) can szs ptn nms pth (nI i) (bI false) rdd rmy) 32 [(0, .ref q0), (1, .int (nI 0))] [] := by
      intro NZ
      induction NZ with
      | zero => intro z0 hN; exact absurd hN (Nat.not_lt_zero _)
      | succ NZ ih32 =>
        intro z0 hN32 
        refine g_aload_n (pc := 32) C dX6_people_32 0 rfl rfl ?_
        refine g_get (pc := 33) (ci := 6) (T := TX6) (N := 18) (v := .int (bI false)) C in_X6_people_X6 0 rfl rfl 15 (by decide) fl_X6_people_113 rfl rfl dX6_people_33 ?_
        refine g_if_eqB (pc := 36) C 90 dX6_people_36 (by decide) (fun c36 => ?_) (fun c36 => ?_)
        · refine g_iload_n (pc := 90) C dX6_people_90 1 rfl rfl ?_
          exact g_iret C hr hQ dX6_people_91 rfl ⟨false, _, 0, rfl, rfl, by decide, fun _ => ⟨rfl, rfl⟩, fun h => (by rw [h] at c7; cases c7)⟩
        · cases c36
    refine g_lvp (lv' := [(0, .ref q0), (1, .int (nI 0))]) [1, 0] rfl ?_
    exact L32 _ 0 (Nat.lt_succ_self _) 
  · refine g_aload_n (pc := 10) C dX6_people_10 1 rfl rfl ?_
    refine g_callV (pc := 11) (st := [.ref q0]) (As := []) (nn := 0) (ci := 6) (q0 := 0) C (m_X6_sign l D cI cC q0 q1 q2 q3 q4 q5 q6 q7 q8 q9 q10 q11 th ss asd sts sm snp hx tx can szs ptn nms pth (bI wl) rdd rmy ln i sg (by first | assumption | omega) (by first | assumption | omega)) gX6_people_X6_sign rfl rfl rfl yd_X6_sign ⟨Nat.le_of_ble_eq_true rfl, Nat.le_of_ble_eq_true rfl⟩ rfl [0, 1, 2, 3, 4, 5, 6, 7, 8, 9, 10, 11] rfl rfl rfl rfl rfl (Nat.le_of_ble_eq_true rfl) ⟨Nat.le_of_ble_eq_true rfl, Nat.le_of_ble_eq_true rfl⟩ dX6_people_11 ?_
    rintro _ _ ⟨rfl, rfl⟩
    refine g_eq (ws' := (rW cI cC q0 q1 q2 q3 q4 q5 q6 q7 q8 q9 q10 q11 th ss asd sts sm snp hx tx (nI ln) can szs ptn nms pth (nI i) (bI wl) rdd rmy)) (st' := [.int (nI (sN sg ln i)), .ref q0]) rfl rfl ?_
    refine g_bipush (pc := 14) (v := nI 48) C dX6_people_14 (by decide) ?_
    refine g_bipush (pc := 16) (v := nI 55) C dX6_people_16 (by decide) ?_
    refine g_callS (pc := 18) (st := [.ref q0]) (As := [.int (nI (sN sg ln i)), .int (nI 48), .int (nI 55)]) (nn := 3) C (m_X6_in l D cI cC (nI (sN sg ln i)) (nI 48) (nI 55)) gX6_people_X6_in rfl rfl rfl yd_X6_in.2 ⟨Nat.le_of_ble_eq_true rfl, Nat.le_of_ble_eq_true rfl⟩ rfl [] rfl rfl rfl (Nat.le_of_ble_eq_true rfl) ⟨Nat.le_of_ble_eq_true rfl, Nat.le_of_ble_eq_true rfl⟩ dX6_people_18 ?_
    rintro _ _ ⟨rfl, rfl⟩
    refine g_eq (ws' := (rW cI cC q0 q1 q2 q3 q4 q5 q6 q7 q8 q9 q10 q11 th ss asd sts sm snp hx tx (nI ln) can szs ptn nms pth (nI i) (bI wl) rdd rmy)) (st' := [.int (bI (inI (nI (sN sg ln i)) (nI 48) (nI 55))), .ref q0]) rfl rfl ?_
    refine g_top (y := bI (dg sg ln i)) (by rw [in_dg hX]) ?_
    refine g_if_eqB (pc := 21) C 28 dX6_people_21 (by decide) (fun c21 => ?_) (fun c21 => ?_)
    · refine g_iconst (pc := 28) (v := nI 0) C dX6_people_28 (by decide) ?_
      refine g_top (y := bI false) rfl ?_
      refine g_put (pc := 29) (ci := 6) (T := TX6) (N := 18) (ws' := (rW cI cC q0 q1 q2 q3 q4 q5 q6 q7 q8 q9 q10 q11 th ss asd sts sm snp hx tx (nI ln) can szs ptn nms pth (nI i) (bI false) rdd rmy)) (ty := .boolean) (v := .int (bI false)) C in_X6_people_X6 tyX6 tyX6_ok nmX6 0 rfl rfl 15 (by decide) fl_X6_people_113 rfl rfl (by decide +kernel) (g_nar _) (g_fit _) (Nat.le_of_ble_eq_true rfl) dX6_people_29 rfl ?_
      have L32 : ∀ (NZ : Nat) (z0 : Nat), 1 - z0 < NZ → g_J p l e rm_X6_people s m args below meth co Q D A 2 0 0 (rW cI cC q0 q1 q2 q3 q4 q5 q6 q7 q8 q9 q10 q11 th ss asd sts sm snp hx tx (nI ln) can szs ptn nms pth (nI i) (bI false) rdd rmy) 32 [(0, .ref q0), (1, .int (nI 0))] [] := by
        intro NZ
        induction NZ with
        | zero => intro z0 hN; exact absurd hN (Nat.not_lt_zero _)
        | succ NZ ih32 =>
          intro z0 hN32 
          refine g_aload_n (pc := 32) C dX6_people_32 0 rfl rfl ?_
          refine g_get (pc := 33) (ci := 6) (T := TX6) (N := 18) (v := .int (bI false)) C in_X6_people_X6 0 rfl rfl 15 (by decide) fl_X6_people_113 rfl rfl dX6_people_33 ?_
          refine g_if_eqB (pc := 36) C 90 dX6_people_36 (by decide) (fun c36 => ?_) (fun c36 => ?_)
          · refine g_iload_n (pc := 90) C dX6_people_90 1 rfl rfl ?_
            exact g_iret C hr hQ dX6_people_91 rfl ⟨false, _, 0, rfl, rfl, by decide, fun h => (by rw [h] at c7; cases c7), fun _ => ⟨c21.symm, fun _ => rfl, fun h => (by cases h)⟩⟩
          · cases c36
      refine g_lvp (lv' := [(0, .ref q0), (1, .int (nI 0))]) [1, 0] rfl ?_
      exact L32 _ 0 (Nat.lt_succ_self _) 
    · refine g_iconst (pc := 24) (v := nI 1) C dX6_people_24 (by decide) ?_
      refine g_goto (pc := 25) C 29 dX6_people_25 (by decide) ?_
      refine g_top (y := bI true) rfl ?_
      refine g_put (pc := 29) (ci := 6) (T := TX6) (N := 18) (ws' := (rW cI cC q0 q1 q2 q3 q4 q5 q6 q7 q8 q9 q10 q11 th ss asd sts sm snp hx tx (nI ln) can szs ptn nms pth (nI i) (bI true) rdd rmy)) (ty := .boolean) (v := .int (bI true)) C in_X6_people_X6 tyX6 tyX6_ok nmX6 0 rfl rfl 15 (by decide) fl_X6_people_113 rfl rfl (by decide +kernel) (g_nar _) (g_fit _) (Nat.le_of_ble_eq_true rfl) dX6_people_29 rfl ?_
      have L32 : ∀ (NZ : Nat) (j : Nat) (u : Nat), ln - j < NZ → (i ≤ j) → (j ≤ ln) → (u < 256) → (PO sg r0 j) → (prun sg r0 j = pst4 bd lf rg u rw) → (u ≠ 0 ∨ j = i) → (j = i → u = 0) → g_J p l e rm_X6_people s m args below meth co Q D A 2 0 0 (rW cI cC q0 q1 q2 q3 q4 q5 q6 q7 q8 q9 q10 q11 th ss asd sts sm snp hx tx (nI ln) can szs ptn nms pth (nI j) (bI true) rdd rmy) 32 [(0, .ref q0), (1, .int (nI u))] [] := by
        intro NZ
        induction NZ with
        | zero => intro j u hN; exact absurd hN (Nat.not_lt_zero _)
        | succ NZ ih32 =>
          intro j u hN32 hij hj hu hP1 hs hz hz2
          refine g_aload_n (pc := 32) C dX6_people_32 0 rfl rfl ?_
          refine g_get (pc := 33) (ci := 6) (T := TX6) (N := 18) (v := .int (bI true)) C in_X6_people_X6 0 rfl rfl 15 (by decide) fl_X6_people_113 rfl rfl dX6_people_33 ?_
          refine g_if_eqB (pc := 36) C 90 dX6_people_36 (by decide) (fun c36 => ?_) (fun c36 => ?_)
          · cases c36
          · refine g_aload_n (pc := 39) C dX6_people_39 0 rfl rfl ?_
            refine g_callV (pc := 40) (st := []) (As := []) (nn := 0) (ci := 6) (q0 := 0) C (m_X6_sign l D cI cC q0 q1 q2 q3 q4 q5 q6 q7 q8 q9 q10 q11 th ss asd sts sm snp hx tx can szs ptn nms pth (bI true) rdd rmy ln j sg (by first | assumption | omega) (by first | assumption | omega)) gX6_people_X6_sign rfl rfl rfl yd_X6_sign ⟨Nat.le_of_ble_eq_true rfl, Nat.le_of_ble_eq_true rfl⟩ rfl [0, 1, 2, 3, 4, 5, 6, 7, 8, 9, 10, 11] rfl rfl rfl rfl rfl (Nat.le_of_ble_eq_true rfl) ⟨Nat.le_of_ble_eq_true rfl, Nat.le_of_ble_eq_true rfl⟩ dX6_people_40 ?_
            rintro _ _ ⟨rfl, rfl⟩
            refine g_eq (ws' := (rW cI cC q0 q1 q2 q3 q4 q5 q6 q7 q8 q9 q10 q11 th ss asd sts sm snp hx tx (nI ln) can szs ptn nms pth (nI j) (bI true) rdd rmy)) (st' := [.int (nI (sN sg ln j))]) rfl rfl ?_
            refine g_bipush (pc := 43) (v := nI 48) C dX6_people_43 (by decide) ?_
            refine g_bipush (pc := 45) (v := nI 55) C dX6_people_45 (by decide) ?_
            refine g_callS (pc := 47) (st := []) (As := [.int (nI (sN sg ln j)), .int (nI 48), .int (nI 55)]) (nn := 3) C (m_X6_in l D cI cC (nI (sN sg ln j)) (nI 48) (nI 55)) gX6_people_X6_in rfl rfl rfl yd_X6_in.2 ⟨Nat.le_of_ble_eq_true rfl, Nat.le_of_ble_eq_true rfl⟩ rfl [] rfl rfl rfl (Nat.le_of_ble_eq_true rfl) ⟨Nat.le_of_ble_eq_true rfl, Nat.le_of_ble_eq_true rfl⟩ dX6_people_47 ?_
            rintro _ _ ⟨rfl, rfl⟩
            refine g_eq (ws' := (rW cI cC q0 q1 q2 q3 q4 q5 q6 q7 q8 q9 q10 q11 th ss asd sts sm snp hx tx (nI ln) can szs ptn nms pth (nI j) (bI true) rdd rmy)) (st' := [.int (bI (inI (nI (sN sg ln j)) (nI 48) (nI 55)))]) rfl rfl ?_
            refine g_top (y := bI (dg sg ln j)) (by rw [in_dg hX]) ?_
            refine g_if_eqB (pc := 50) C 90 dX6_people_50 (by decide) (fun c50 => ?_) (fun c50 => ?_)
            · refine g_iload_n (pc := 90) C dX6_people_90 1 rfl rfl ?_
              exact g_iret C hr hQ dX6_people_91 rfl ⟨true, j, u, rfl, rfl, hu, fun h => (by rw [h] at c7; cases c7), fun _ => ⟨c21.symm, fun h => (by cases h), fun _ => ⟨by have hji : j ≠ i := (fun e => by rw [e, c21] at c50; cases c50); omega, hj, hP1, hs, hz.resolve_right (fun e => by rw [e, c21] at c50; cases c50), dg_stop c50⟩⟩⟩
            · obtain ⟨d1, d2, d3, d4⟩ := dg_t c50
              refine g_iload_n (pc := 53) C dX6_people_53 1 rfl rfl ?_
              refine g_aload_n (pc := 54) C dX6_people_54 0 rfl rfl ?_
              refine g_callV (pc := 55) (st := [.int (nI u)]) (As := []) (nn := 0) (ci := 6) (q0 := 0) C (m_X6_sign l D cI cC q0 q1 q2 q3 q4 q5 q6 q7 q8 q9 q10 q11 th ss asd sts sm snp hx tx can szs ptn nms pth (bI true) rdd rmy ln j sg (by first | assumption | omega) (by first | assumption | omega)) gX6_people_X6_sign rfl rfl rfl yd_X6_sign ⟨Nat.le_of_ble_eq_true rfl, Nat.le_of_ble_eq_true rfl⟩ rfl [0, 1, 2, 3, 4, 5, 6, 7, 8, 9, 10, 11] rfl rfl rfl rfl rfl (Nat.le_of_ble_eq_true rfl) ⟨Nat.le_of_ble_eq_true rfl, Nat.le_of_ble_eq_true rfl⟩ dX6_people_55 ?_
              rintro _ _ ⟨rfl, rfl⟩
              refine g_eq (ws' := (rW cI cC q0 q1 q2 q3 q4 q5 q6 q7 q8 q9 q10 q11 th ss asd sts sm snp hx tx (nI ln) can szs ptn nms pth (nI j) (bI true) rdd rmy)) (st' := [.int (nI (sN sg ln j)), .int (nI u)]) rfl rfl ?_
              refine g_bipush (pc := 58) (v := nI 48) C dX6_people_58 (by decide) ?_
              refine g_isubN (pc := 60) C dX6_people_60 (by omega) ?_
              refine g_ishrN (pc := 61) C (by omega) (by omega) dX6_people_61 ?_
              refine g_if_neN (pc := 62) C 90 (Nat.lt_of_le_of_lt (Nat.shiftRight_le _ _) (by omega)) dX6_people_62 (by decide) (fun c62 => ?_) (fun c62 => ?_)
              · refine g_iload_n (pc := 90) C dX6_people_90 1 rfl rfl ?_
                exact g_iret C hr hQ dX6_people_91 rfl ⟨true, j, u, rfl, rfl, hu, fun h => (by rw [h] at c7; cases c7), fun _ => ⟨c21.symm, fun h => (by cases h), fun _ => ⟨by have hji : j ≠ i := (fun e => c62 (by rw [hz2 e, Nat.zero_shiftRight])); omega, hj, hP1, hs, fun e => c62 (by rw [e, Nat.zero_shiftRight]), stop_dig hs c50 c62⟩⟩⟩
              · refine g_iload_n (pc := 65) C dX6_people_65 1 rfl rfl ?_
                refine g_iconst (pc := 66) (v := nI 1) C dX6_people_66 (by decide) ?_
                refine g_aload_n (pc := 67) C dX6_people_67 0 rfl rfl ?_
                refine g_callV (pc := 68) (st := [.int (nI 1), .int (nI u)]) (As := []) (nn := 0) (ci := 6) (q0 := 0) C (m_X6_sign l D cI cC q0 q1 q2 q3 q4 q5 q6 q7 q8 q9 q10 q11 th ss asd sts sm snp hx tx can szs ptn nms pth (bI true) rdd rmy ln j sg (by first | assumption | omega) (by first | assumption | omega)) gX6_people_X6_sign rfl rfl rfl yd_X6_sign ⟨Nat.le_of_ble_eq_true rfl, Nat.le_of_ble_eq_true rfl⟩ rfl [0, 1, 2, 3, 4, 5, 6, 7, 8, 9, 10, 11] rfl rfl rfl rfl rfl (Nat.le_of_ble_eq_true rfl) ⟨Nat.le_of_ble_eq_true rfl, Nat.le_of_ble_eq_true rfl⟩ dX6_people_68 ?_
                rintro _ _ ⟨rfl, rfl⟩
                refine g_eq (ws' := (rW cI cC q0 q1 q2 q3 q4 q5 q6 q7 q8 q9 q10 q11 th ss asd sts sm snp hx tx (nI ln) can szs ptn nms pth (nI j) (bI true) rdd rmy)) (st' := [.int (nI (sN sg ln j)), .int (nI 1), .int (nI u)]) rfl rfl ?_
                refine g_bipush (pc := 71) (v := nI 48) C dX6_people_71 (by decide) ?_
                refine g_isubN (pc := 73) C dX6_people_73 (by omega) ?_
                refine g_ishlN (pc := 74) C (by omega) dX6_people_74 ?_
                refine g_iorN (pc := 75) C dX6_people_75 ?_
                refine g_istore_n (pc := 76) (lv' := [(1, .int (nI (u ||| (1 <<< ((sN sg ln j) - 48))))), (0, .ref q0)]) C dX6_people_76 rfl (by decide) rfl ?_
                refine g_aload_n (pc := 77) C dX6_people_77 1 rfl rfl ?_
                refine g_dup (pc := 78) C dX6_people_78 rfl ?_
                refine g_get (pc := 79) (ci := 6) (T := TX6) (N := 18) (v := .int (nI j)) C in_X6_people_X6 0 rfl rfl 14 (by decide) fl_X6_people_110 rfl rfl dX6_people_79 ?_
                refine g_iconst (pc := 82) (v := nI 1) C dX6_people_82 (by decide) ?_
                refine g_iaddN (pc := 83) C dX6_people_83 ?_
                refine g_put (pc := 84) (ci := 6) (T := TX6) (N := 18) (ws' := (rW cI cC q0 q1 q2 q3 q4 q5 q6 q7 q8 q9 q10 q11 th ss asd sts sm snp hx tx (nI ln) can szs ptn nms pth (nI (j + 1)) (bI true) rdd rmy)) (ty := .int) (v := .int (nI (j + 1))) C in_X6_people_X6 tyX6 tyX6_ok nmX6 0 rfl rfl 14 (by decide) fl_X6_people_110 rfl rfl (by decide +kernel) rfl rfl (Nat.le_of_ble_eq_true rfl) dX6_people_84 rfl ?_
                refine g_goto (pc := 87) C 32 dX6_people_87 (by decide) ?_
                refine g_lvp (lv' := [(0, .ref q0), (1, .int (nI (u ||| (1 <<< ((sN sg ln j) - 48)))))]) [1, 0] rfl ?_
                exact ih32 (j + 1) (u ||| (1 <<< ((sN sg ln j) - 48))) (by omega) (by first | assumption | omega) (by first | assumption | omega) (or_lt hu (sh_lt (by omega))) ((PO_dig hP1 hs c50 c62).1) ((PO_dig hP1 hs c50 c62).2) (Or.inl or_ne0) (fun e => by omega)
      refine g_lvp (lv' := [(0, .ref q0), (1, .int (nI 0))]) [1, 0] rfl ?_
      exact L32 _ i 0 (Nat.lt_succ_self _) (by first | assumption | omega) (by first | assumption | omega) (by first | assumption | omega) ((hP c7).1) ((hP c7).2) (Or.inr rfl) (fun _ => rfl)

abbrev rm_X6_readsGroup : Room := { frames := 2, cells := 0, slots := 0, locals := 43 }
theorem yd_X6_readsGroup : yX6_readsGroup.cls = RX6 ∧ yX6_readsGroup.cls ≠ "java/lang/invoke/MethodHandle" ∧ yX6_readsGroup.cls ≠ "java/lang/invoke/VarHandle" ∧ (parseMethodDescriptor yX6_readsGroup.desc).map (fun d => d.parameters.length) = some 0 := by decide +kernel
theorem in_X6_readsGroup_X6 : ∀ w ∈ u_ws RX6 TX6 18, w ∈ wsX6_readsGroup := by decide +kernel
theorem fl_X6_readsGroup_40 : Cond.fieldLink RX6 40 "FenceHandshakesModel" "read" "[I" ∈ wsX6_readsGroup := by decide +kernel
theorem fl_X6_readsGroup_110 : Cond.fieldLink RX6 110 "FenceHandshakesModel" "at" "I" ∈ wsX6_readsGroup := by decide +kernel
theorem fl_X6_readsGroup_113 : Cond.fieldLink RX6 113 "FenceHandshakesModel" "isWell" "Z" ∈ wsX6_readsGroup := by decide +kernel
theorem fl_X6_readsGroup_120 : Cond.fieldLink RX6 120 "FenceHandshakesModel" "readMany" "I" ∈ wsX6_readsGroup := by decide +kernel
set_option maxHeartbeats 4000000 in
set_option maxRecDepth 100000 in
theorem m_X6_readsGroup (l : Launch) (D : va_G) (cI cC : ClassId) (q0 q1 q2 q3 q4 q5 q6 q7 q8 q9 q10 q11 : Nat) (th : Int32) (ss : Nat → Int32) (asd : Nat → Int32) (sts : Nat → Int32) (sm : Int32) (snp : Nat → Int32) (hx : Int32) (tx : Nat → Int32) (can : Nat → Int32) (szs : Nat → Int32) (ptn : Nat → Int32) (nms : Nat → Int32) (pth : Nat → Int32) (isw : Int32) (rdd : Nat → Int32) (ln : Nat) (i : Nat) (mg : Nat) (sg : Nat → Int32) (r0 : Nat → Int32) (rw : Nat → Int32) (hX : HX sg tx ln) (hi : i ≤ ln) (hm : 4 * mg ≤ i) (hP : PO sg r0 i) (hs : prun sg r0 i = (0, 0, false, rw)) : g_M l yX6_readsGroup wsX6_readsGroup rm_X6_readsGroup D cI cC [.ref q0] (rW cI cC q0 q1 q2 q3 q4 q5 q6 q7 q8 q9 q10 q11 th ss asd sts sm snp hx tx (nI ln) can szs ptn nms pth (nI i) isw rdd (nI mg)) (fun vv ww => ∃ (w3 : Bool) (j3 : Nat) (m3 : Nat) (rdd3 : Nat → Int32), vv = none ∧ ww = (rW cI cC q0 q1 q2 q3 q4 q5 q6 q7 q8 q9 q10 q11 th ss asd sts sm snp hx tx (nI ln) can szs ptn nms pth (nI j3) (bI w3) rdd3 (nI m3)) ∧ rgp sg r0 ln i rw mg rdd w3 j3 m3 rdd3) := by
  refine g_entry (lv := [(0, .ref q0)]) (own := RX6) (by decide) rfl rfl (Nat.le_of_ble_eq_true rfl) rfl ?_
  intro p e s m args below meth co A Q C hr hQ
  have hl := hX.1
  refine g_aload_n (pc := 0) C dX6_readsGroup_0 0 rfl rfl ?_
  refine g_iconst (pc := 1) (v := nI 1) C dX6_readsGroup_1 (by decide) ?_
  refine g_top (y := bI true) rfl ?_
  refine g_put (pc := 2) (ci := 6) (T := TX6) (N := 18) (ws' := (rW cI cC q0 q1 q2 q3 q4 q5 q6 q7 q8 q9 q10 q11 th ss asd sts sm snp hx tx (nI ln) can szs ptn nms pth (nI i) (bI true) rdd (nI mg))) (ty := .boolean) (v := .int (bI true)) C in_X6_readsGroup_X6 tyX6 tyX6_ok nmX6 0 rfl rfl 15 (by decide) fl_X6_readsGroup_113 rfl rfl (by decide +kernel) (g_nar _) (g_fit _) (Nat.le_of_ble_eq_true rfl) dX6_readsGroup_2 rfl ?_
  refine g_aload_n (pc := 5) C dX6_readsGroup_5 0 rfl rfl ?_
  refine g_get (pc := 6) (ci := 6) (T := TX6) (N := 18) (v := .ref q11) C in_X6_readsGroup_X6 0 rfl rfl 16 (by decide) fl_X6_readsGroup_40 rfl rfl dX6_readsGroup_6 ?_
  refine g_iconst (pc := 9) (v := nI 2) C dX6_readsGroup_9 (by decide) ?_
  refine g_aload_n (pc := 10) C dX6_readsGroup_10 0 rfl rfl ?_
  refine g_get (pc := 11) (ci := 6) (T := TX6) (N := 18) (v := .int (nI mg)) C in_X6_readsGroup_X6 0 rfl rfl 17 (by decide) fl_X6_readsGroup_120 rfl rfl dX6_readsGroup_11 ?_
  refine g_imulN (pc := 14) C dX6_readsGroup_14 ?_
  refine g_aload_n (pc := 15) C dX6_readsGroup_15 0 rfl rfl ?_
  refine g_callV (pc := 16) (st := [.int (nI (2 * mg)), .ref q11]) (As := []) (nn := 0) (ci := 6) (q0 := 0) C (m_X6_people l D cI cC q0 q1 q2 q3 q4 q5 q6 q7 q8 q9 q10 q11 th ss asd sts sm snp hx tx can szs ptn nms pth rdd (nI mg) ln i true sg r0 0 0 false rw (by first | assumption | omega) (by first | assumption | omega) (fun _ => ⟨hP, hs⟩)) gX6_readsGroup_X6_people rfl rfl rfl yd_X6_people ⟨Nat.le_of_ble_eq_true rfl, Nat.le_of_ble_eq_true rfl⟩ rfl [0, 1, 2, 3, 4, 5, 6, 7, 8, 9, 10, 11] rfl rfl rfl rfl rfl (Nat.le_of_ble_eq_true rfl) ⟨Nat.le_of_ble_eq_true rfl, Nat.le_of_ble_eq_true rfl⟩ dX6_readsGroup_16 ?_
  rintro _ _ ⟨w1, j1, s1, rfl, rfl, f1⟩
  refine g_eq (ws' := (rW cI cC q0 q1 q2 q3 q4 q5 q6 q7 q8 q9 q10 q11 th ss asd sts sm snp hx tx (nI ln) can szs ptn nms pth (nI j1) (bI w1) rdd (nI mg))) (st' := [.int (nI s1), .int (nI (2 * mg)), .ref q11]) rfl rfl ?_
  have hw1 := (f1.2.2 rfl).1
  refine g_iastN (pc := 19) (f := rdd) (ws' := (rW cI cC q0 q1 q2 q3 q4 q5 q6 q7 q8 q9 q10 q11 th ss asd sts sm snp hx tx (nI ln) can szs ptn nms pth (nI j1) (bI w1) (upd rdd (2 * mg) (nI s1)) (nI mg))) C 11 rfl (by omega) (by decide) dX6_readsGroup_19 rfl ?_
  refine g_aload_n (pc := 20) C dX6_readsGroup_20 0 rfl rfl ?_
  refine g_aload_n (pc := 21) C dX6_readsGroup_21 0 rfl rfl ?_
  refine g_get (pc := 22) (ci := 6) (T := TX6) (N := 18) (v := .int (bI w1)) C in_X6_readsGroup_X6 0 rfl rfl 15 (by decide) fl_X6_readsGroup_113 rfl rfl dX6_readsGroup_22 ?_
  refine g_if_eqB (pc := 25) C 41 dX6_readsGroup_25 (by decide) (fun c25 => ?_) (fun c25 => ?_)
  · have e1 := (f1.2.2 rfl).2.1 c25
    refine g_iconst (pc := 41) (v := nI 0) C dX6_readsGroup_41 (by decide) ?_
    refine g_top (y := bI false) rfl ?_
    refine g_put (pc := 42) (ci := 6) (T := TX6) (N := 18) (ws' := (rW cI cC q0 q1 q2 q3 q4 q5 q6 q7 q8 q9 q10 q11 th ss asd sts sm snp hx tx (nI ln) can szs ptn nms pth (nI j1) (bI false) (upd rdd (2 * mg) (nI s1)) (nI mg))) (ty := .boolean) (v := .int (bI false)) C in_X6_readsGroup_X6 tyX6 tyX6_ok nmX6 0 rfl rfl 15 (by decide) fl_X6_readsGroup_113 rfl rfl (by decide +kernel) (g_nar _) (g_fit _) (Nat.le_of_ble_eq_true rfl) dX6_readsGroup_42 rfl ?_
    refine g_aload_n (pc := 45) C dX6_readsGroup_45 0 rfl rfl ?_
    refine g_dup (pc := 46) C dX6_readsGroup_46 rfl ?_
    refine g_get (pc := 47) (ci := 6) (T := TX6) (N := 18) (v := .int (nI j1)) C in_X6_readsGroup_X6 0 rfl rfl 14 (by decide) fl_X6_readsGroup_110 rfl rfl dX6_readsGroup_47 ?_
    refine g_aload_n (pc := 50) C dX6_readsGroup_50 0 rfl rfl ?_
    refine g_get (pc := 51) (ci := 6) (T := TX6) (N := 18) (v := .int (bI false)) C in_X6_readsGroup_X6 0 rfl rfl 15 (by decide) fl_X6_readsGroup_113 rfl rfl dX6_readsGroup_51 ?_
    refine g_if_eqB (pc := 54) C 61 dX6_readsGroup_54 (by decide) (fun c54 => ?_) (fun c54 => ?_)
    · refine g_iconst (pc := 61) (v := nI 0) C dX6_readsGroup_61 (by decide) ?_
      refine g_iaddN (pc := 62) C dX6_readsGroup_62 ?_
      refine g_put (pc := 63) (ci := 6) (T := TX6) (N := 18) (ws' := (rW cI cC q0 q1 q2 q3 q4 q5 q6 q7 q8 q9 q10 q11 th ss asd sts sm snp hx tx (nI ln) can szs ptn nms pth (nI (j1 + 0)) (bI false) (upd rdd (2 * mg) (nI s1)) (nI mg))) (ty := .int) (v := .int (nI (j1 + 0))) C in_X6_readsGroup_X6 tyX6 tyX6_ok nmX6 0 rfl rfl 14 (by decide) fl_X6_readsGroup_110 rfl rfl (by decide +kernel) rfl rfl (Nat.le_of_ble_eq_true rfl) dX6_readsGroup_63 rfl ?_
      refine g_aload_n (pc := 66) C dX6_readsGroup_66 0 rfl rfl ?_
      refine g_get (pc := 67) (ci := 6) (T := TX6) (N := 18) (v := .ref q11) C in_X6_readsGroup_X6 0 rfl rfl 16 (by decide) fl_X6_readsGroup_40 rfl rfl dX6_readsGroup_67 ?_
      refine g_iconst (pc := 70) (v := nI 2) C dX6_readsGroup_70 (by decide) ?_
      refine g_aload_n (pc := 71) C dX6_readsGroup_71 0 rfl rfl ?_
      refine g_get (pc := 72) (ci := 6) (T := TX6) (N := 18) (v := .int (nI mg)) C in_X6_readsGroup_X6 0 rfl rfl 17 (by decide) fl_X6_readsGroup_120 rfl rfl dX6_readsGroup_72 ?_
      refine g_imulN (pc := 75) C dX6_readsGroup_75 ?_
      refine g_iconst (pc := 76) (v := nI 1) C dX6_readsGroup_76 (by decide) ?_
      refine g_iaddN (pc := 77) C dX6_readsGroup_77 ?_
      refine g_aload_n (pc := 78) C dX6_readsGroup_78 0 rfl rfl ?_
      refine g_callV (pc := 79) (st := [.int (nI ((2 * mg) + 1)), .ref q11]) (As := []) (nn := 0) (ci := 6) (q0 := 0) C (m_X6_people l D cI cC q0 q1 q2 q3 q4 q5 q6 q7 q8 q9 q10 q11 th ss asd sts sm snp hx tx can szs ptn nms pth (upd rdd (2 * mg) (nI s1)) (nI mg) ln (j1 + 0) false sg r0 s1 0 true rw (by first | assumption | omega) (by first | assumption | omega) (fun h => by cases h)) gX6_readsGroup_X6_people rfl rfl rfl yd_X6_people ⟨Nat.le_of_ble_eq_true rfl, Nat.le_of_ble_eq_true rfl⟩ rfl [0, 1, 2, 3, 4, 5, 6, 7, 8, 9, 10, 11] rfl rfl rfl rfl rfl (Nat.le_of_ble_eq_true rfl) ⟨Nat.le_of_ble_eq_true rfl, Nat.le_of_ble_eq_true rfl⟩ dX6_readsGroup_79 ?_
      rintro _ _ ⟨w2, j2, s2, rfl, rfl, f2⟩
      refine g_eq (ws' := (rW cI cC q0 q1 q2 q3 q4 q5 q6 q7 q8 q9 q10 q11 th ss asd sts sm snp hx tx (nI ln) can szs ptn nms pth (nI j2) (bI w2) (upd rdd (2 * mg) (nI s1)) (nI mg))) (st' := [.int (nI s2), .int (nI ((2 * mg) + 1)), .ref q11]) rfl rfl ?_
      obtain ⟨ew2, ej2⟩ := f2.2.1 rfl
      refine g_iastN (pc := 82) (f := (upd rdd (2 * mg) (nI s1))) (ws' := (rW cI cC q0 q1 q2 q3 q4 q5 q6 q7 q8 q9 q10 q11 th ss asd sts sm snp hx tx (nI ln) can szs ptn nms pth (nI j2) (bI w2) (upd (upd rdd (2 * mg) (nI s1)) ((2 * mg) + 1) (nI s2)) (nI mg))) C 11 rfl (by omega) (by decide) dX6_readsGroup_82 rfl ?_
      refine g_aload_n (pc := 83) C dX6_readsGroup_83 0 rfl rfl ?_
      refine g_dup (pc := 84) C dX6_readsGroup_84 rfl ?_
      refine g_get (pc := 85) (ci := 6) (T := TX6) (N := 18) (v := .int (nI mg)) C in_X6_readsGroup_X6 0 rfl rfl 17 (by decide) fl_X6_readsGroup_120 rfl rfl dX6_readsGroup_85 ?_
      refine g_aload_n (pc := 88) C dX6_readsGroup_88 0 rfl rfl ?_
      refine g_get (pc := 89) (ci := 6) (T := TX6) (N := 18) (v := .int (bI w2)) C in_X6_readsGroup_X6 0 rfl rfl 15 (by decide) fl_X6_readsGroup_113 rfl rfl dX6_readsGroup_89 ?_
      refine g_if_eqB (pc := 92) C 99 dX6_readsGroup_92 (by decide) (fun c92 => ?_) (fun c92 => ?_)
      · refine g_iconst (pc := 99) (v := nI 0) C dX6_readsGroup_99 (by decide) ?_
        refine g_iaddN (pc := 100) C dX6_readsGroup_100 ?_
        refine g_put (pc := 101) (ci := 6) (T := TX6) (N := 18) (ws' := (rW cI cC q0 q1 q2 q3 q4 q5 q6 q7 q8 q9 q10 q11 th ss asd sts sm snp hx tx (nI ln) can szs ptn nms pth (nI j2) (bI w2) (upd (upd rdd (2 * mg) (nI s1)) ((2 * mg) + 1) (nI s2)) (nI (mg + 0)))) (ty := .int) (v := .int (nI (mg + 0))) C in_X6_readsGroup_X6 tyX6 tyX6_ok nmX6 0 rfl rfl 17 (by decide) fl_X6_readsGroup_120 rfl rfl (by decide +kernel) rfl rfl (Nat.le_of_ble_eq_true rfl) dX6_readsGroup_101 rfl ?_
        exact g_vret C hr hQ dX6_readsGroup_104 rfl ⟨w2, j2, mg, _, rfl, rfl, by rw [ew2, ej2, e1]; exact rgp_f (j := i) (Nat.le_refl _) hi (flt_at hP hi hs (dg_stop (hw1.symm.trans c25)) (fun z => z.2.1 rfl))⟩
      · exact absurd (ew2.symm.trans c92) (by decide)
    · cases c54
  · obtain ⟨a1, a2, a3, a4, a5, a6⟩ := (f1.2.2 rfl).2.2 c25
    refine g_aload_n (pc := 28) C dX6_readsGroup_28 0 rfl rfl ?_
    refine g_callV (pc := 29) (st := [.ref q0]) (As := []) (nn := 0) (ci := 6) (q0 := 0) C (m_X6_sign l D cI cC q0 q1 q2 q3 q4 q5 q6 q7 q8 q9 q10 q11 th ss asd sts sm snp hx tx can szs ptn nms pth (bI w1) (upd rdd (2 * mg) (nI s1)) (nI mg) ln j1 sg (by first | assumption | omega) (by first | assumption | omega)) gX6_readsGroup_X6_sign rfl rfl rfl yd_X6_sign ⟨Nat.le_of_ble_eq_true rfl, Nat.le_of_ble_eq_true rfl⟩ rfl [0, 1, 2, 3, 4, 5, 6, 7, 8, 9, 10, 11] rfl rfl rfl rfl rfl (Nat.le_of_ble_eq_true rfl) ⟨Nat.le_of_ble_eq_true rfl, Nat.le_of_ble_eq_true rfl⟩ dX6_readsGroup_29 ?_
    rintro _ _ ⟨rfl, rfl⟩
    refine g_eq (ws' := (rW cI cC q0 q1 q2 q3 q4 q5 q6 q7 q8 q9 q10 q11 th ss asd sts sm snp hx tx (nI ln) can szs ptn nms pth (nI j1) (bI w1) (upd rdd (2 * mg) (nI s1)) (nI mg))) (st' := [.int (nI (sN sg ln j1)), .ref q0]) rfl rfl ?_
    refine g_bipush (pc := 32) (v := nI 45) C dX6_readsGroup_32 (by decide) ?_
    refine g_icmp_neN (pc := 34) C 41 (by have := sN_lt hX j1; omega) (by decide) dX6_readsGroup_34 (by decide) (fun c34 => ?_) (fun c34 => ?_)
    · refine g_iconst (pc := 41) (v := nI 0) C dX6_readsGroup_41 (by decide) ?_
      refine g_top (y := bI false) rfl ?_
      refine g_put (pc := 42) (ci := 6) (T := TX6) (N := 18) (ws' := (rW cI cC q0 q1 q2 q3 q4 q5 q6 q7 q8 q9 q10 q11 th ss asd sts sm snp hx tx (nI ln) can szs ptn nms pth (nI j1) (bI false) (upd rdd (2 * mg) (nI s1)) (nI mg))) (ty := .boolean) (v := .int (bI false)) C in_X6_readsGroup_X6 tyX6 tyX6_ok nmX6 0 rfl rfl 15 (by decide) fl_X6_readsGroup_113 rfl rfl (by decide +kernel) (g_nar _) (g_fit _) (Nat.le_of_ble_eq_true rfl) dX6_readsGroup_42 rfl ?_
      refine g_aload_n (pc := 45) C dX6_readsGroup_45 0 rfl rfl ?_
      refine g_dup (pc := 46) C dX6_readsGroup_46 rfl ?_
      refine g_get (pc := 47) (ci := 6) (T := TX6) (N := 18) (v := .int (nI j1)) C in_X6_readsGroup_X6 0 rfl rfl 14 (by decide) fl_X6_readsGroup_110 rfl rfl dX6_readsGroup_47 ?_
      refine g_aload_n (pc := 50) C dX6_readsGroup_50 0 rfl rfl ?_
      refine g_get (pc := 51) (ci := 6) (T := TX6) (N := 18) (v := .int (bI false)) C in_X6_readsGroup_X6 0 rfl rfl 15 (by decide) fl_X6_readsGroup_113 rfl rfl dX6_readsGroup_51 ?_
      refine g_if_eqB (pc := 54) C 61 dX6_readsGroup_54 (by decide) (fun c54 => ?_) (fun c54 => ?_)
      · refine g_iconst (pc := 61) (v := nI 0) C dX6_readsGroup_61 (by decide) ?_
        refine g_iaddN (pc := 62) C dX6_readsGroup_62 ?_
        refine g_put (pc := 63) (ci := 6) (T := TX6) (N := 18) (ws' := (rW cI cC q0 q1 q2 q3 q4 q5 q6 q7 q8 q9 q10 q11 th ss asd sts sm snp hx tx (nI ln) can szs ptn nms pth (nI (j1 + 0)) (bI false) (upd rdd (2 * mg) (nI s1)) (nI mg))) (ty := .int) (v := .int (nI (j1 + 0))) C in_X6_readsGroup_X6 tyX6 tyX6_ok nmX6 0 rfl rfl 14 (by decide) fl_X6_readsGroup_110 rfl rfl (by decide +kernel) rfl rfl (Nat.le_of_ble_eq_true rfl) dX6_readsGroup_63 rfl ?_
        refine g_aload_n (pc := 66) C dX6_readsGroup_66 0 rfl rfl ?_
        refine g_get (pc := 67) (ci := 6) (T := TX6) (N := 18) (v := .ref q11) C in_X6_readsGroup_X6 0 rfl rfl 16 (by decide) fl_X6_readsGroup_40 rfl rfl dX6_readsGroup_67 ?_
        refine g_iconst (pc := 70) (v := nI 2) C dX6_readsGroup_70 (by decide) ?_
        refine g_aload_n (pc := 71) C dX6_readsGroup_71 0 rfl rfl ?_
        refine g_get (pc := 72) (ci := 6) (T := TX6) (N := 18) (v := .int (nI mg)) C in_X6_readsGroup_X6 0 rfl rfl 17 (by decide) fl_X6_readsGroup_120 rfl rfl dX6_readsGroup_72 ?_
        refine g_imulN (pc := 75) C dX6_readsGroup_75 ?_
        refine g_iconst (pc := 76) (v := nI 1) C dX6_readsGroup_76 (by decide) ?_
        refine g_iaddN (pc := 77) C dX6_readsGroup_77 ?_
        refine g_aload_n (pc := 78) C dX6_readsGroup_78 0 rfl rfl ?_
        refine g_callV (pc := 79) (st := [.int (nI ((2 * mg) + 1)), .ref q11]) (As := []) (nn := 0) (ci := 6) (q0 := 0) C (m_X6_people l D cI cC q0 q1 q2 q3 q4 q5 q6 q7 q8 q9 q10 q11 th ss asd sts sm snp hx tx can szs ptn nms pth (upd rdd (2 * mg) (nI s1)) (nI mg) ln (j1 + 0) false sg r0 s1 0 true rw (by first | assumption | omega) (by first | assumption | omega) (fun h => by cases h)) gX6_readsGroup_X6_people rfl rfl rfl yd_X6_people ⟨Nat.le_of_ble_eq_true rfl, Nat.le_of_ble_eq_true rfl⟩ rfl [0, 1, 2, 3, 4, 5, 6, 7, 8, 9, 10, 11] rfl rfl rfl rfl rfl (Nat.le_of_ble_eq_true rfl) ⟨Nat.le_of_ble_eq_true rfl, Nat.le_of_ble_eq_true rfl⟩ dX6_readsGroup_79 ?_
        rintro _ _ ⟨w2, j2, s2, rfl, rfl, f2⟩
        refine g_eq (ws' := (rW cI cC q0 q1 q2 q3 q4 q5 q6 q7 q8 q9 q10 q11 th ss asd sts sm snp hx tx (nI ln) can szs ptn nms pth (nI j2) (bI w2) (upd rdd (2 * mg) (nI s1)) (nI mg))) (st' := [.int (nI s2), .int (nI ((2 * mg) + 1)), .ref q11]) rfl rfl ?_
        obtain ⟨ew2, ej2⟩ := f2.2.1 rfl
        refine g_iastN (pc := 82) (f := (upd rdd (2 * mg) (nI s1))) (ws' := (rW cI cC q0 q1 q2 q3 q4 q5 q6 q7 q8 q9 q10 q11 th ss asd sts sm snp hx tx (nI ln) can szs ptn nms pth (nI j2) (bI w2) (upd (upd rdd (2 * mg) (nI s1)) ((2 * mg) + 1) (nI s2)) (nI mg))) C 11 rfl (by omega) (by decide) dX6_readsGroup_82 rfl ?_
        refine g_aload_n (pc := 83) C dX6_readsGroup_83 0 rfl rfl ?_
        refine g_dup (pc := 84) C dX6_readsGroup_84 rfl ?_
        refine g_get (pc := 85) (ci := 6) (T := TX6) (N := 18) (v := .int (nI mg)) C in_X6_readsGroup_X6 0 rfl rfl 17 (by decide) fl_X6_readsGroup_120 rfl rfl dX6_readsGroup_85 ?_
        refine g_aload_n (pc := 88) C dX6_readsGroup_88 0 rfl rfl ?_
        refine g_get (pc := 89) (ci := 6) (T := TX6) (N := 18) (v := .int (bI w2)) C in_X6_readsGroup_X6 0 rfl rfl 15 (by decide) fl_X6_readsGroup_113 rfl rfl dX6_readsGroup_89 ?_
        refine g_if_eqB (pc := 92) C 99 dX6_readsGroup_92 (by decide) (fun c92 => ?_) (fun c92 => ?_)
        · refine g_iconst (pc := 99) (v := nI 0) C dX6_readsGroup_99 (by decide) ?_
          refine g_iaddN (pc := 100) C dX6_readsGroup_100 ?_
          refine g_put (pc := 101) (ci := 6) (T := TX6) (N := 18) (ws' := (rW cI cC q0 q1 q2 q3 q4 q5 q6 q7 q8 q9 q10 q11 th ss asd sts sm snp hx tx (nI ln) can szs ptn nms pth (nI j2) (bI w2) (upd (upd rdd (2 * mg) (nI s1)) ((2 * mg) + 1) (nI s2)) (nI (mg + 0)))) (ty := .int) (v := .int (nI (mg + 0))) C in_X6_readsGroup_X6 tyX6 tyX6_ok nmX6 0 rfl rfl 17 (by decide) fl_X6_readsGroup_120 rfl rfl (by decide +kernel) rfl rfl (Nat.le_of_ble_eq_true rfl) dX6_readsGroup_101 rfl ?_
          exact g_vret C hr hQ dX6_readsGroup_104 rfl ⟨w2, j2, mg, _, rfl, rfl, by rw [ew2, ej2]; exact rgp_f (j := j1) (by omega) a2 (flt_at a3 a2 a4 a6 (fun z => c34 z.1))⟩
        · exact absurd (ew2.symm.trans c92) (by decide)
      · cases c54
    · have hD := PO_dash a3 a4 a5 c34
      have hD1 := hD.1
      refine g_iconst (pc := 37) (v := nI 1) C dX6_readsGroup_37 (by decide) ?_
      refine g_goto (pc := 38) C 42 dX6_readsGroup_38 (by decide) ?_
      refine g_top (y := bI true) rfl ?_
      refine g_put (pc := 42) (ci := 6) (T := TX6) (N := 18) (ws' := (rW cI cC q0 q1 q2 q3 q4 q5 q6 q7 q8 q9 q10 q11 th ss asd sts sm snp hx tx (nI ln) can szs ptn nms pth (nI j1) (bI true) (upd rdd (2 * mg) (nI s1)) (nI mg))) (ty := .boolean) (v := .int (bI true)) C in_X6_readsGroup_X6 tyX6 tyX6_ok nmX6 0 rfl rfl 15 (by decide) fl_X6_readsGroup_113 rfl rfl (by decide +kernel) (g_nar _) (g_fit _) (Nat.le_of_ble_eq_true rfl) dX6_readsGroup_42 rfl ?_
      refine g_aload_n (pc := 45) C dX6_readsGroup_45 0 rfl rfl ?_
      refine g_dup (pc := 46) C dX6_readsGroup_46 rfl ?_
      refine g_get (pc := 47) (ci := 6) (T := TX6) (N := 18) (v := .int (nI j1)) C in_X6_readsGroup_X6 0 rfl rfl 14 (by decide) fl_X6_readsGroup_110 rfl rfl dX6_readsGroup_47 ?_
      refine g_aload_n (pc := 50) C dX6_readsGroup_50 0 rfl rfl ?_
      refine g_get (pc := 51) (ci := 6) (T := TX6) (N := 18) (v := .int (bI true)) C in_X6_readsGroup_X6 0 rfl rfl 15 (by decide) fl_X6_readsGroup_113 rfl rfl dX6_readsGroup_51 ?_
      refine g_if_eqB (pc := 54) C 61 dX6_readsGroup_54 (by decide) (fun c54 => ?_) (fun c54 => ?_)
      · cases c54
      · refine g_iconst (pc := 57) (v := nI 1) C dX6_readsGroup_57 (by decide) ?_
        refine g_goto (pc := 58) C 62 dX6_readsGroup_58 (by decide) ?_
        refine g_iaddN (pc := 62) C dX6_readsGroup_62 ?_
        refine g_put (pc := 63) (ci := 6) (T := TX6) (N := 18) (ws' := (rW cI cC q0 q1 q2 q3 q4 q5 q6 q7 q8 q9 q10 q11 th ss asd sts sm snp hx tx (nI ln) can szs ptn nms pth (nI (j1 + 1)) (bI true) (upd rdd (2 * mg) (nI s1)) (nI mg))) (ty := .int) (v := .int (nI (j1 + 1))) C in_X6_readsGroup_X6 tyX6 tyX6_ok nmX6 0 rfl rfl 14 (by decide) fl_X6_readsGroup_110 rfl rfl (by decide +kernel) rfl rfl (Nat.le_of_ble_eq_true rfl) dX6_readsGroup_63 rfl ?_
        refine g_aload_n (pc := 66) C dX6_readsGroup_66 0 rfl rfl ?_
        refine g_get (pc := 67) (ci := 6) (T := TX6) (N := 18) (v := .ref q11) C in_X6_readsGroup_X6 0 rfl rfl 16 (by decide) fl_X6_readsGroup_40 rfl rfl dX6_readsGroup_67 ?_
        refine g_iconst (pc := 70) (v := nI 2) C dX6_readsGroup_70 (by decide) ?_
        refine g_aload_n (pc := 71) C dX6_readsGroup_71 0 rfl rfl ?_
        refine g_get (pc := 72) (ci := 6) (T := TX6) (N := 18) (v := .int (nI mg)) C in_X6_readsGroup_X6 0 rfl rfl 17 (by decide) fl_X6_readsGroup_120 rfl rfl dX6_readsGroup_72 ?_
        refine g_imulN (pc := 75) C dX6_readsGroup_75 ?_
        refine g_iconst (pc := 76) (v := nI 1) C dX6_readsGroup_76 (by decide) ?_
        refine g_iaddN (pc := 77) C dX6_readsGroup_77 ?_
        refine g_aload_n (pc := 78) C dX6_readsGroup_78 0 rfl rfl ?_
        refine g_callV (pc := 79) (st := [.int (nI ((2 * mg) + 1)), .ref q11]) (As := []) (nn := 0) (ci := 6) (q0 := 0) C (m_X6_people l D cI cC q0 q1 q2 q3 q4 q5 q6 q7 q8 q9 q10 q11 th ss asd sts sm snp hx tx can szs ptn nms pth (upd rdd (2 * mg) (nI s1)) (nI mg) ln (j1 + 1) true sg r0 s1 0 true rw (by first | assumption | omega) (by first | assumption | omega) (fun _ => ⟨hD.2.1, hD.2.2⟩)) gX6_readsGroup_X6_people rfl rfl rfl yd_X6_people ⟨Nat.le_of_ble_eq_true rfl, Nat.le_of_ble_eq_true rfl⟩ rfl [0, 1, 2, 3, 4, 5, 6, 7, 8, 9, 10, 11] rfl rfl rfl rfl rfl (Nat.le_of_ble_eq_true rfl) ⟨Nat.le_of_ble_eq_true rfl, Nat.le_of_ble_eq_true rfl⟩ dX6_readsGroup_79 ?_
        rintro _ _ ⟨w2, j2, s2, rfl, rfl, f2⟩
        refine g_eq (ws' := (rW cI cC q0 q1 q2 q3 q4 q5 q6 q7 q8 q9 q10 q11 th ss asd sts sm snp hx tx (nI ln) can szs ptn nms pth (nI j2) (bI w2) (upd rdd (2 * mg) (nI s1)) (nI mg))) (st' := [.int (nI s2), .int (nI ((2 * mg) + 1)), .ref q11]) rfl rfl ?_
        refine g_iastN (pc := 82) (f := (upd rdd (2 * mg) (nI s1))) (ws' := (rW cI cC q0 q1 q2 q3 q4 q5 q6 q7 q8 q9 q10 q11 th ss asd sts sm snp hx tx (nI ln) can szs ptn nms pth (nI j2) (bI w2) (upd (upd rdd (2 * mg) (nI s1)) ((2 * mg) + 1) (nI s2)) (nI mg))) C 11 rfl (by omega) (by decide) dX6_readsGroup_82 rfl ?_
        refine g_aload_n (pc := 83) C dX6_readsGroup_83 0 rfl rfl ?_
        refine g_dup (pc := 84) C dX6_readsGroup_84 rfl ?_
        refine g_get (pc := 85) (ci := 6) (T := TX6) (N := 18) (v := .int (nI mg)) C in_X6_readsGroup_X6 0 rfl rfl 17 (by decide) fl_X6_readsGroup_120 rfl rfl dX6_readsGroup_85 ?_
        refine g_aload_n (pc := 88) C dX6_readsGroup_88 0 rfl rfl ?_
        refine g_get (pc := 89) (ci := 6) (T := TX6) (N := 18) (v := .int (bI w2)) C in_X6_readsGroup_X6 0 rfl rfl 15 (by decide) fl_X6_readsGroup_113 rfl rfl dX6_readsGroup_89 ?_
        refine g_if_eqB (pc := 92) C 99 dX6_readsGroup_92 (by decide) (fun c92 => ?_) (fun c92 => ?_)
        · refine g_iconst (pc := 99) (v := nI 0) C dX6_readsGroup_99 (by decide) ?_
          refine g_iaddN (pc := 100) C dX6_readsGroup_100 ?_
          refine g_put (pc := 101) (ci := 6) (T := TX6) (N := 18) (ws' := (rW cI cC q0 q1 q2 q3 q4 q5 q6 q7 q8 q9 q10 q11 th ss asd sts sm snp hx tx (nI ln) can szs ptn nms pth (nI j2) (bI w2) (upd (upd rdd (2 * mg) (nI s1)) ((2 * mg) + 1) (nI s2)) (nI (mg + 0)))) (ty := .int) (v := .int (nI (mg + 0))) C in_X6_readsGroup_X6 tyX6 tyX6_ok nmX6 0 rfl rfl 17 (by decide) fl_X6_readsGroup_120 rfl rfl (by decide +kernel) rfl rfl (Nat.le_of_ble_eq_true rfl) dX6_readsGroup_101 rfl ?_
          exact g_vret C hr hQ dX6_readsGroup_104 rfl ⟨w2, j2, mg, _, rfl, rfl, by have e2 := (f2.2.2 rfl).2.1 c92; rw [c92, e2]; exact rgp_f (by omega) (by omega) (flt_at hD.2.1 (by omega) hD.2.2 (dg_stop ((f2.2.2 rfl).1.symm.trans c92)) (fun z => by cases z.2.2))⟩
        · refine g_iconst (pc := 95) (v := nI 1) C dX6_readsGroup_95 (by decide) ?_
          refine g_goto (pc := 96) C 100 dX6_readsGroup_96 (by decide) ?_
          refine g_iaddN (pc := 100) C dX6_readsGroup_100 ?_
          refine g_put (pc := 101) (ci := 6) (T := TX6) (N := 18) (ws' := (rW cI cC q0 q1 q2 q3 q4 q5 q6 q7 q8 q9 q10 q11 th ss asd sts sm snp hx tx (nI ln) can szs ptn nms pth (nI j2) (bI w2) (upd (upd rdd (2 * mg) (nI s1)) ((2 * mg) + 1) (nI s2)) (nI (mg + 1)))) (ty := .int) (v := .int (nI (mg + 1))) C in_X6_readsGroup_X6 tyX6 tyX6_ok nmX6 0 rfl rfl 17 (by decide) fl_X6_readsGroup_120 rfl rfl (by decide +kernel) rfl rfl (Nat.le_of_ble_eq_true rfl) dX6_readsGroup_101 rfl ?_
          exact g_vret C hr hQ dX6_readsGroup_104 rfl ⟨w2, j2, mg + 1, _, rfl, rfl, by obtain ⟨b1, b2, b3, b4, b5, b6⟩ := (f2.2.2 rfl).2.2 c92; rw [c92]; exact rgp_t (by omega) b2 b3 b6 f1.1 f2.1 b5 b4⟩

abbrev rm_X6_reads : Room := { frames := 3, cells := 0, slots := 0, locals := 63 }
theorem yd_X6_reads : yX6_reads.cls = RX6 ∧ yX6_reads.cls ≠ "java/lang/invoke/MethodHandle" ∧ yX6_reads.cls ≠ "java/lang/invoke/VarHandle" ∧ (parseMethodDescriptor yX6_reads.desc).map (fun d => d.parameters.length) = some 0 := by decide +kernel
theorem in_X6_reads_X6 : ∀ w ∈ u_ws RX6 TX6 18, w ∈ wsX6_reads := by decide +kernel
theorem fl_X6_reads_107 : Cond.fieldLink RX6 107 "FenceHandshakesModel" "length" "I" ∈ wsX6_reads := by decide +kernel
theorem fl_X6_reads_110 : Cond.fieldLink RX6 110 "FenceHandshakesModel" "at" "I" ∈ wsX6_reads := by decide +kernel
theorem fl_X6_reads_113 : Cond.fieldLink RX6 113 "FenceHandshakesModel" "isWell" "Z" ∈ wsX6_reads := by decide +kernel
theorem fl_X6_reads_120 : Cond.fieldLink RX6 120 "FenceHandshakesModel" "readMany" "I" ∈ wsX6_reads := by decide +kernel
set_option maxHeartbeats 4000000 in
set_option maxRecDepth 100000 in
theorem m_X6_reads (l : Launch) (D : va_G) (cI cC : ClassId) (q0 q1 q2 q3 q4 q5 q6 q7 q8 q9 q10 q11 : Nat) (th : Int32) (ss : Nat → Int32) (asd : Nat → Int32) (sts : Nat → Int32) (sm : Int32) (snp : Nat → Int32) (hx : Int32) (tx : Nat → Int32) (can : Nat → Int32) (szs : Nat → Int32) (ptn : Nat → Int32) (nms : Nat → Int32) (pth : Nat → Int32) (att : Int32) (isw : Int32) (rdd : Nat → Int32) (rmy : Int32) (ln : Nat) (sg : Nat → Int32) (r0 : Nat → Int32) (hX : HX sg tx ln) : g_M l yX6_reads wsX6_reads rm_X6_reads D cI cC [.ref q0] (rW cI cC q0 q1 q2 q3 q4 q5 q6 q7 q8 q9 q10 q11 th ss asd sts sm snp hx tx (nI ln) can szs ptn nms pth att isw rdd rmy) (fun vv ww => ∃ (w3 : Bool) (j3 : Nat) (m3 : Nat) (rdd3 : Nat → Int32), vv = some (.int (pres sg r0 ln)) ∧ ww = (rW cI cC q0 q1 q2 q3 q4 q5 q6 q7 q8 q9 q10 q11 th ss asd sts sm snp hx tx (nI ln) can szs ptn nms pth (nI j3) (bI w3) rdd3 (nI m3)) ∧ RR sg r0 ln m3 rdd3) := by
  refine g_entry (lv := [(0, .ref q0)]) (own := RX6) (by decide) rfl rfl (Nat.le_of_ble_eq_true rfl) rfl ?_
  intro p e s m args below meth co A Q C hr hQ
  have hl := hX.1
  refine g_aload_n (pc := 0) C dX6_reads_0 0 rfl rfl ?_
  refine g_iconst (pc := 1) (v := nI 0) C dX6_reads_1 (by decide) ?_
  refine g_put (pc := 2) (ci := 6) (T := TX6) (N := 18) (ws' := (rW cI cC q0 q1 q2 q3 q4 q5 q6 q7 q8 q9 q10 q11 th ss asd sts sm snp hx tx (nI ln) can szs ptn nms pth (nI 0) isw rdd rmy)) (ty := .int) (v := .int (nI 0)) C in_X6_reads_X6 tyX6 tyX6_ok nmX6 0 rfl rfl 14 (by decide) fl_X6_reads_110 rfl rfl (by decide +kernel) rfl rfl (Nat.le_of_ble_eq_true rfl) dX6_reads_2 rfl ?_
  refine g_aload_n (pc := 5) C dX6_reads_5 0 rfl rfl ?_
  refine g_iconst (pc := 6) (v := nI 0) C dX6_reads_6 (by decide) ?_
  refine g_put (pc := 7) (ci := 6) (T := TX6) (N := 18) (ws' := (rW cI cC q0 q1 q2 q3 q4 q5 q6 q7 q8 q9 q10 q11 th ss asd sts sm snp hx tx (nI ln) can szs ptn nms pth (nI 0) isw rdd (nI 0))) (ty := .int) (v := .int (nI 0)) C in_X6_reads_X6 tyX6 tyX6_ok nmX6 0 rfl rfl 17 (by decide) fl_X6_reads_120 rfl rfl (by decide +kernel) rfl rfl (Nat.le_of_ble_eq_true rfl) dX6_reads_7 rfl ?_
  refine g_aload_n (pc := 10) C dX6_reads_10 0 rfl rfl ?_
  refine g_callV (pc := 11) (st := []) (As := []) (nn := 0) (ci := 6) (q0 := 0) C (m_X6_readsGroup l D cI cC q0 q1 q2 q3 q4 q5 q6 q7 q8 q9 q10 q11 th ss asd sts sm snp hx tx can szs ptn nms pth isw rdd ln 0 0 sg r0 r0 (by first | assumption | omega) (by first | assumption | omega) (by first | assumption | omega) (PO_0) (rfl)) gX6_reads_X6_readsGroup rfl rfl rfl yd_X6_readsGroup ⟨Nat.le_of_ble_eq_true rfl, Nat.le_of_ble_eq_true rfl⟩ rfl [0, 1, 2, 3, 4, 5, 6, 7, 8, 9, 10, 11] rfl rfl rfl rfl rfl (Nat.le_of_ble_eq_true rfl) ⟨Nat.le_of_ble_eq_true rfl, Nat.le_of_ble_eq_true rfl⟩ dX6_reads_11 ?_
  rintro _ _ ⟨w5, j5, m5, rdd5, rfl, rfl, g0⟩
  refine g_eq (ws' := (rW cI cC q0 q1 q2 q3 q4 q5 q6 q7 q8 q9 q10 q11 th ss asd sts sm snp hx tx (nI ln) can szs ptn nms pth (nI j5) (bI w5) rdd5 (nI m5))) (st' := []) rfl rfl ?_
  have hL0 := RLp_g (m := 0) (rdd := rdd) g0 (Nat.le_refl _) (fun i h => absurd h (by omega))
  have L14 : ∀ (NZ : Nat) (w : Bool) (k : Nat) (mm : Nat) (rdd1 : Nat → Int32), ms ln k w < NZ → (k ≤ ln) → (RLp sg r0 ln w k mm rdd1) → g_J p l e rm_X6_reads s m args below meth co Q D A 1 0 0 (rW cI cC q0 q1 q2 q3 q4 q5 q6 q7 q8 q9 q10 q11 th ss asd sts sm snp hx tx (nI ln) can szs ptn nms pth (nI k) (bI w) rdd1 (nI mm)) 14 [(0, .ref q0)] [] := by
    intro NZ
    induction NZ with
    | zero => intro w k mm rdd1 hN; exact absurd hN (Nat.not_lt_zero _)
    | succ NZ ih14 =>
      intro w k mm rdd1 hN14 hk hL
      refine g_aload_n (pc := 14) C dX6_reads_14 0 rfl rfl ?_
      refine g_get (pc := 15) (ci := 6) (T := TX6) (N := 18) (v := .int (bI w)) C in_X6_reads_X6 0 rfl rfl 15 (by decide) fl_X6_reads_113 rfl rfl dX6_reads_15 ?_
      refine g_if_eqB (pc := 18) C 85 dX6_reads_18 (by decide) (fun c18 => ?_) (fun c18 => ?_)
      · have hLf : RLp sg r0 ln false k mm rdd1 := by have := hL; rw [c18] at this; exact this
        refine g_aload_n (pc := 85) C dX6_reads_85 0 rfl rfl ?_
        refine g_get (pc := 86) (ci := 6) (T := TX6) (N := 18) (v := .int (bI w)) C in_X6_reads_X6 0 rfl rfl 15 (by decide) fl_X6_reads_113 rfl rfl dX6_reads_86 ?_
        refine g_if_eqB (pc := 89) C 97 dX6_reads_89 (by decide) (fun c89 => ?_) (fun c89 => ?_)
        · refine g_aload_n (pc := 97) C dX6_reads_97 0 rfl rfl ?_
          refine g_get (pc := 98) (ci := 6) (T := TX6) (N := 18) (v := .int (nI k)) C in_X6_reads_X6 0 rfl rfl 14 (by decide) fl_X6_reads_110 rfl rfl dX6_reads_98 ?_
          refine g_top (y := (pres sg r0 ln)) ((RR_f hLf hl).1.symm) ?_
          exact g_iret C hr hQ dX6_reads_101 rfl ⟨_, _, _, _, rfl, rfl, (RR_f hLf hl).2⟩
        · exact absurd (c18.symm.trans c89) (by decide)
      · have hLt : RLp sg r0 ln true k mm rdd1 := by have := hL; rw [c18] at this; exact this
        refine g_aload_n (pc := 21) C dX6_reads_21 0 rfl rfl ?_
        refine g_get (pc := 22) (ci := 6) (T := TX6) (N := 18) (v := .int (nI k)) C in_X6_reads_X6 0 rfl rfl 14 (by decide) fl_X6_reads_110 rfl rfl dX6_reads_22 ?_
        refine g_aload_n (pc := 25) C dX6_reads_25 0 rfl rfl ?_
        refine g_get (pc := 26) (ci := 6) (T := TX6) (N := 18) (v := .int (nI ln)) C in_X6_reads_X6 0 rfl rfl 8 (by decide) fl_X6_reads_107 rfl rfl dX6_reads_26 ?_
        refine g_icmp_geN (pc := 29) C 85 (by omega) (by omega) dX6_reads_29 (by decide) (fun c29 => ?_) (fun c29 => ?_)
        · refine g_aload_n (pc := 85) C dX6_reads_85 0 rfl rfl ?_
          refine g_get (pc := 86) (ci := 6) (T := TX6) (N := 18) (v := .int (bI w)) C in_X6_reads_X6 0 rfl rfl 15 (by decide) fl_X6_reads_113 rfl rfl dX6_reads_86 ?_
          refine g_if_eqB (pc := 89) C 97 dX6_reads_89 (by decide) (fun c89 => ?_) (fun c89 => ?_)
          · exact absurd (c18.symm.trans c89) (by decide)
          · refine g_bipush (pc := 92) (v := (-5)) C dX6_reads_92 (by decide) ?_
            refine g_goto (pc := 94) C 101 dX6_reads_94 (by decide) ?_
            refine g_top (y := (pres sg r0 ln)) ((RR_t hLt hl c29).1.symm) ?_
            exact g_iret C hr hQ dX6_reads_101 rfl ⟨_, _, _, _, rfl, rfl, (RR_t hLt hl c29).2⟩
        · refine g_aload_n (pc := 32) C dX6_reads_32 0 rfl rfl ?_
          refine g_aload_n (pc := 33) C dX6_reads_33 0 rfl rfl ?_
          refine g_callV (pc := 34) (st := [.ref q0]) (As := []) (nn := 0) (ci := 6) (q0 := 0) C (m_X6_sign l D cI cC q0 q1 q2 q3 q4 q5 q6 q7 q8 q9 q10 q11 th ss asd sts sm snp hx tx can szs ptn nms pth (bI w) rdd1 (nI mm) ln k sg (by first | assumption | omega) (by first | assumption | omega)) gX6_reads_X6_sign rfl rfl rfl yd_X6_sign ⟨Nat.le_of_ble_eq_true rfl, Nat.le_of_ble_eq_true rfl⟩ rfl [0, 1, 2, 3, 4, 5, 6, 7, 8, 9, 10, 11] rfl rfl rfl rfl rfl (Nat.le_of_ble_eq_true rfl) ⟨Nat.le_of_ble_eq_true rfl, Nat.le_of_ble_eq_true rfl⟩ dX6_reads_34 ?_
          rintro _ _ ⟨rfl, rfl⟩
          refine g_eq (ws' := (rW cI cC q0 q1 q2 q3 q4 q5 q6 q7 q8 q9 q10 q11 th ss asd sts sm snp hx tx (nI ln) can szs ptn nms pth (nI k) (bI w) rdd1 (nI mm))) (st' := [.int (nI (sN sg ln k)), .ref q0]) rfl rfl ?_
          refine g_bipush (pc := 37) (v := nI 44) C dX6_reads_37 (by decide) ?_
          refine g_icmp_neN (pc := 39) C 46 (by have := sN_lt hX k; omega) (by decide) dX6_reads_39 (by decide) (fun c39 => ?_) (fun c39 => ?_)
          · refine g_iconst (pc := 46) (v := nI 0) C dX6_reads_46 (by decide) ?_
            refine g_top (y := bI false) rfl ?_
            refine g_put (pc := 47) (ci := 6) (T := TX6) (N := 18) (ws' := (rW cI cC q0 q1 q2 q3 q4 q5 q6 q7 q8 q9 q10 q11 th ss asd sts sm snp hx tx (nI ln) can szs ptn nms pth (nI k) (bI false) rdd1 (nI mm))) (ty := .boolean) (v := .int (bI false)) C in_X6_reads_X6 tyX6 tyX6_ok nmX6 0 rfl rfl 15 (by decide) fl_X6_reads_113 rfl rfl (by decide +kernel) (g_nar _) (g_fit _) (Nat.le_of_ble_eq_true rfl) dX6_reads_47 rfl ?_
            refine g_aload_n (pc := 50) C dX6_reads_50 0 rfl rfl ?_
            refine g_dup (pc := 51) C dX6_reads_51 rfl ?_
            refine g_get (pc := 52) (ci := 6) (T := TX6) (N := 18) (v := .int (nI k)) C in_X6_reads_X6 0 rfl rfl 14 (by decide) fl_X6_reads_110 rfl rfl dX6_reads_52 ?_
            refine g_aload_n (pc := 55) C dX6_reads_55 0 rfl rfl ?_
            refine g_get (pc := 56) (ci := 6) (T := TX6) (N := 18) (v := .int (bI false)) C in_X6_reads_X6 0 rfl rfl 15 (by decide) fl_X6_reads_113 rfl rfl dX6_reads_56 ?_
            refine g_if_eqB (pc := 59) C 66 dX6_reads_59 (by decide) (fun c59 => ?_) (fun c59 => ?_)
            · refine g_iconst (pc := 66) (v := nI 0) C dX6_reads_66 (by decide) ?_
              refine g_iaddN (pc := 67) C dX6_reads_67 ?_
              refine g_put (pc := 68) (ci := 6) (T := TX6) (N := 18) (ws' := (rW cI cC q0 q1 q2 q3 q4 q5 q6 q7 q8 q9 q10 q11 th ss asd sts sm snp hx tx (nI ln) can szs ptn nms pth (nI (k + 0)) (bI false) rdd1 (nI mm))) (ty := .int) (v := .int (nI (k + 0))) C in_X6_reads_X6 tyX6 tyX6_ok nmX6 0 rfl rfl 14 (by decide) fl_X6_reads_110 rfl rfl (by decide +kernel) rfl rfl (Nat.le_of_ble_eq_true rfl) dX6_reads_68 rfl ?_
              refine g_aload_n (pc := 71) C dX6_reads_71 0 rfl rfl ?_
              refine g_get (pc := 72) (ci := 6) (T := TX6) (N := 18) (v := .int (bI false)) C in_X6_reads_X6 0 rfl rfl 15 (by decide) fl_X6_reads_113 rfl rfl dX6_reads_72 ?_
              refine g_if_eqB (pc := 75) C 14 dX6_reads_75 (by decide) (fun c75 => ?_) (fun c75 => ?_)
              · refine g_lvp (lv' := [(0, .ref q0)]) [0] rfl ?_
                exact ih14 false (k + 0) mm rdd1 (by have := ms_f (ln := ln) (k := k) c18; omega) (by first | assumption | omega) (RLp_no hLt c29 c39)
              · cases c75
            · cases c59
          · have hC := RLp_c hLt c29 c39
            refine g_iconst (pc := 42) (v := nI 1) C dX6_reads_42 (by decide) ?_
            refine g_goto (pc := 43) C 47 dX6_reads_43 (by decide) ?_
            refine g_top (y := bI true) rfl ?_
            refine g_put (pc := 47) (ci := 6) (T := TX6) (N := 18) (ws' := (rW cI cC q0 q1 q2 q3 q4 q5 q6 q7 q8 q9 q10 q11 th ss asd sts sm snp hx tx (nI ln) can szs ptn nms pth (nI k) (bI true) rdd1 (nI mm))) (ty := .boolean) (v := .int (bI true)) C in_X6_reads_X6 tyX6 tyX6_ok nmX6 0 rfl rfl 15 (by decide) fl_X6_reads_113 rfl rfl (by decide +kernel) (g_nar _) (g_fit _) (Nat.le_of_ble_eq_true rfl) dX6_reads_47 rfl ?_
            refine g_aload_n (pc := 50) C dX6_reads_50 0 rfl rfl ?_
            refine g_dup (pc := 51) C dX6_reads_51 rfl ?_
            refine g_get (pc := 52) (ci := 6) (T := TX6) (N := 18) (v := .int (nI k)) C in_X6_reads_X6 0 rfl rfl 14 (by decide) fl_X6_reads_110 rfl rfl dX6_reads_52 ?_
            refine g_aload_n (pc := 55) C dX6_reads_55 0 rfl rfl ?_
            refine g_get (pc := 56) (ci := 6) (T := TX6) (N := 18) (v := .int (bI true)) C in_X6_reads_X6 0 rfl rfl 15 (by decide) fl_X6_reads_113 rfl rfl dX6_reads_56 ?_
            refine g_if_eqB (pc := 59) C 66 dX6_reads_59 (by decide) (fun c59 => ?_) (fun c59 => ?_)
            · cases c59
            · refine g_iconst (pc := 62) (v := nI 1) C dX6_reads_62 (by decide) ?_
              refine g_goto (pc := 63) C 67 dX6_reads_63 (by decide) ?_
              refine g_iaddN (pc := 67) C dX6_reads_67 ?_
              refine g_put (pc := 68) (ci := 6) (T := TX6) (N := 18) (ws' := (rW cI cC q0 q1 q2 q3 q4 q5 q6 q7 q8 q9 q10 q11 th ss asd sts sm snp hx tx (nI ln) can szs ptn nms pth (nI (k + 1)) (bI true) rdd1 (nI mm))) (ty := .int) (v := .int (nI (k + 1))) C in_X6_reads_X6 tyX6 tyX6_ok nmX6 0 rfl rfl 14 (by decide) fl_X6_reads_110 rfl rfl (by decide +kernel) rfl rfl (Nat.le_of_ble_eq_true rfl) dX6_reads_68 rfl ?_
              refine g_aload_n (pc := 71) C dX6_reads_71 0 rfl rfl ?_
              refine g_get (pc := 72) (ci := 6) (T := TX6) (N := 18) (v := .int (bI true)) C in_X6_reads_X6 0 rfl rfl 15 (by decide) fl_X6_reads_113 rfl rfl dX6_reads_72 ?_
              refine g_if_eqB (pc := 75) C 14 dX6_reads_75 (by decide) (fun c75 => ?_) (fun c75 => ?_)
              · cases c75
              · refine g_aload_n (pc := 78) C dX6_reads_78 0 rfl rfl ?_
                refine g_callV (pc := 79) (st := []) (As := []) (nn := 0) (ci := 6) (q0 := 0) C (m_X6_readsGroup l D cI cC q0 q1 q2 q3 q4 q5 q6 q7 q8 q9 q10 q11 th ss asd sts sm snp hx tx can szs ptn nms pth (bI true) rdd1 ln (k + 1) mm sg r0 (gro rdd1 r0 mm) (by first | assumption | omega) (by first | assumption | omega) (hC.2.2.1) (hC.1) (hC.2.1)) gX6_reads_X6_readsGroup rfl rfl rfl yd_X6_readsGroup ⟨Nat.le_of_ble_eq_true rfl, Nat.le_of_ble_eq_true rfl⟩ rfl [0, 1, 2, 3, 4, 5, 6, 7, 8, 9, 10, 11] rfl rfl rfl rfl rfl (Nat.le_of_ble_eq_true rfl) ⟨Nat.le_of_ble_eq_true rfl, Nat.le_of_ble_eq_true rfl⟩ dX6_reads_79 ?_
                rintro _ _ ⟨w4, j4, m4, rdd4, rfl, rfl, g1⟩
                refine g_eq (ws' := (rW cI cC q0 q1 q2 q3 q4 q5 q6 q7 q8 q9 q10 q11 th ss asd sts sm snp hx tx (nI ln) can szs ptn nms pth (nI j4) (bI w4) rdd4 (nI m4))) (st' := []) rfl rfl ?_
                refine g_goto (pc := 82) C 14 dX6_reads_82 (by decide) ?_
                refine g_lvp (lv' := [(0, .ref q0)]) [0] rfl ?_
                exact ih14 w4 j4 m4 rdd4 (by have := ms_n (w2 := w4) c29 g1.2.1 c18; omega) (g1.2.2.1) (RLp_g g1 hC.2.2.1 hC.2.2.2)
  refine g_lvp (lv' := [(0, .ref q0)]) [0] rfl ?_
  exact L14 _ w5 j5 m5 rdd5 (Nat.lt_succ_self _) (hL0.1) (hL0)

abbrev rm_X6_fault : Room := { frames := 4, cells := 0, slots := 0, locals := 83 }
theorem yd_X6_fault : yX6_fault.cls = RX6 ∧ yX6_fault.cls ≠ "java/lang/invoke/MethodHandle" ∧ yX6_fault.cls ≠ "java/lang/invoke/VarHandle" ∧ (parseMethodDescriptor yX6_fault.desc).map (fun d => d.parameters.length) = some 0 := by decide +kernel
theorem in_X6_fault_X6 : ∀ w ∈ u_ws RX6 TX6 18, w ∈ wsX6_fault := by decide +kernel
theorem fl_X6_fault_43 : Cond.fieldLink RX6 43 "FenceHandshakesModel" "thrown" "I" ∈ wsX6_fault := by decide +kernel
set_option maxHeartbeats 4000000 in
set_option maxRecDepth 100000 in
theorem m_X6_fault (l : Launch) (D : va_G) (cI cC : ClassId) (q0 q1 q2 q3 q4 q5 q6 q7 q8 q9 q10 q11 : Nat) (th : Int32) (ss : Nat → Int32) (asd : Nat → Int32) (sts : Nat → Int32) (sm : Int32) (snp : Nat → Int32) (hx : Int32) (tx : Nat → Int32) (can : Nat → Int32) (szs : Nat → Int32) (ptn : Nat → Int32) (nms : Nat → Int32) (pth : Nat → Int32) (att : Int32) (isw : Int32) (rdd : Nat → Int32) (rmy : Int32) (ln : Nat) (sg : Nat → Int32) (r0 : Nat → Int32) (hX : HX sg tx ln) : g_M l yX6_fault wsX6_fault rm_X6_fault D cI cC [.ref q0] (rW cI cC q0 q1 q2 q3 q4 q5 q6 q7 q8 q9 q10 q11 th ss asd sts sm snp hx tx (nI ln) can szs ptn nms pth att isw rdd rmy) (fun vv ww => ∃ (w3 : Bool) (j3 : Nat) (m3 : Nat) (rdd3 : Nat → Int32), vv = some (.int (pres sg r0 ln)) ∧ ww = (rW cI cC q0 q1 q2 q3 q4 q5 q6 q7 q8 q9 q10 q11 (nI 0) ss asd sts sm snp hx tx (nI ln) can szs ptn nms pth (nI j3) (bI w3) rdd3 (nI m3))) := by
  refine g_entry (lv := [(0, .ref q0)]) (own := RX6) (by decide) rfl rfl (Nat.le_of_ble_eq_true rfl) rfl ?_
  intro p e s m args below meth co A Q C hr hQ
  refine g_aload_n (pc := 0) C dX6_fault_0 0 rfl rfl ?_
  refine g_iconst (pc := 1) (v := nI 0) C dX6_fault_1 (by decide) ?_
  refine g_put (pc := 2) (ci := 6) (T := TX6) (N := 18) (ws' := (rW cI cC q0 q1 q2 q3 q4 q5 q6 q7 q8 q9 q10 q11 (nI 0) ss asd sts sm snp hx tx (nI ln) can szs ptn nms pth att isw rdd rmy)) (ty := .int) (v := .int (nI 0)) C in_X6_fault_X6 tyX6 tyX6_ok nmX6 0 rfl rfl 0 (by decide) fl_X6_fault_43 rfl rfl (by decide +kernel) rfl rfl (Nat.le_of_ble_eq_true rfl) dX6_fault_2 rfl ?_
  refine g_aload_n (pc := 5) C dX6_fault_5 0 rfl rfl ?_
  refine g_callV (pc := 6) (st := []) (As := []) (nn := 0) (ci := 6) (q0 := 0) C (m_X6_reads l D cI cC q0 q1 q2 q3 q4 q5 q6 q7 q8 q9 q10 q11 (nI 0) ss asd sts sm snp hx tx can szs ptn nms pth att isw rdd rmy ln sg r0 (by first | assumption | omega)) gX6_fault_X6_reads rfl rfl rfl yd_X6_reads ⟨Nat.le_of_ble_eq_true rfl, Nat.le_of_ble_eq_true rfl⟩ rfl [0, 1, 2, 3, 4, 5, 6, 7, 8, 9, 10, 11] rfl rfl rfl rfl rfl (Nat.le_of_ble_eq_true rfl) ⟨Nat.le_of_ble_eq_true rfl, Nat.le_of_ble_eq_true rfl⟩ dX6_fault_6 ?_
  rintro _ _ ⟨w4, j4, m4, rdd4, rfl, rfl, g1⟩
  refine g_eq (ws' := (rW cI cC q0 q1 q2 q3 q4 q5 q6 q7 q8 q9 q10 q11 (nI 0) ss asd sts sm snp hx tx (nI ln) can szs ptn nms pth (nI j4) (bI w4) rdd4 (nI m4))) (st' := [.int (pres sg r0 ln)]) rfl rfl ?_
  exact g_iret C hr hQ dX6_fault_9 rfl ⟨_, _, _, _, rfl, rfl⟩
