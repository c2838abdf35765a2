/-! the reference's table of greatest matchings -/
def Eb (c : Nat → Int32) (x : Int32) : Nat → Nat → Bool := fun a b => !decide (nI a = x) && poC c a b
def cnO (can : Nat → Int32) (E : Nat → Nat → Bool) : Prop := ∀ a, a < 8 → can a = nI (pmask (E a) 8)
def tbO (szs : Nat → Int32) (E : Nat → Nat → Bool) (k : Nat) : Prop := ∀ a S, k ≤ a → a ≤ 8 → S < 256 → szs (256 * a + S) = nI (szN E (8 - a) S)
theorem pmask_no {f : Nat → Bool} (h : ∀ j, f j = false) : ∀ n, pmask f n = 0
  | 0 => rfl
  | n + 1 => by simp only [pmask]; rw [if_neg (by rw [h n]; decide), pmask_no h n]
theorem pmask_s1 {f : Nat → Bool} {n : Nat} (h : f n = true) : pmask f n ||| (1 <<< n) = pmask f (n + 1) := by simp only [pmask]; rw [if_pos h]
theorem pmask_s0 {f : Nat → Bool} {n : Nat} (h : f n = false) : pmask f n ||| 0 = pmask f (n + 1) := by simp only [pmask]; rw [if_neg (by rw [h]; decide), Nat.or_zero]
theorem Eb_out {c : Nat → Int32} {x : Int32} {i : Nat} (h : nI i = x) (j : Nat) : Eb c x i j = false := by rw [Eb, decide_eq_true h]; rfl
theorem Eb_in {c : Nat → Int32} {x : Int32} {i j : Nat} {q : Bool} (h : ¬ nI i = x) (hp : poC c i j = q) : Eb c x i j = q := by rw [Eb, decide_eq_false h, hp]; rfl
theorem Eb_row {c : Nat → Int32} {x : Int32} {i j : Nat} (h : nI i = x) : pmask (Eb c x i) j = pmask (Eb c x i) 8 := by rw [pmask_no (Eb_out h), pmask_no (Eb_out h)]
theorem EC_at {c : Nat → Int32} {a b : Nat} (hb : b < 8) : EC c a b = poC c a b := by
  show (pmask (poC c a) 8).testBit b = _
  rw [pmask_bit, decide_eq_true hb, Bool.true_and]
theorem cnO_EC {c can : Nat → Int32} (h : cnO can (Eb c (-5))) : cnO can (EC c) := fun a ha => by
  rw [h a ha, pmask_cong (f := Eb c (-5) a) (g := EC c a) 8 (fun k hk => by rw [Eb_in (nI_m5 (by omega)) rfl, EC_at hk])]
theorem and3_lt {f : Nat → Bool} {S j : Nat} : (pmask f 8 &&& S) &&& (1 <<< j) < 2 ^ 31 := Nat.lt_of_le_of_lt Nat.and_le_left (Nat.lt_of_le_of_lt Nat.and_le_left (Nat.lt_trans pm_lt (by decide)))
theorem and_one_bit {x j : Nat} : x &&& (1 <<< j) = 0 ↔ x.testBit j = false := by
  constructor
  · intro h
    have this : (x &&& (1 <<< j)).testBit j = (0 : Nat).testBit j := by rw [h]
    rw [Nat.testBit_and, bit_one, Nat.zero_testBit, decide_eq_true rfl, Bool.and_true] at this
    exact this
  · intro h
    apply Nat.eq_of_testBit_eq
    intro i
    rw [Nat.testBit_and, bit_one, Nat.zero_testBit]
    by_cases e : j = i
    · subst e; rw [h]; rfl
    · rw [decide_eq_false e, Bool.and_false]
theorem cb_f {f : Nat → Bool} {S j : Nat} (hj : j < 8) (h : (pmask f 8 &&& S) &&& (1 <<< j) = 0) : (f j && S.testBit j) = false := by
  have := and_one_bit.mp h
  rw [Nat.testBit_and, pmask_bit, decide_eq_true hj, Bool.true_and] at this
  exact this
theorem cb_t {f : Nat → Bool} {S j : Nat} (hj : j < 8) (h : (pmask f 8 &&& S) &&& (1 <<< j) ≠ 0) : (f j && S.testBit j) = true := by
  cases q : (f j && S.testBit j) with
  | true => rfl
  | false =>
    refine absurd (and_one_bit.mpr ?_) h
    rw [Nat.testBit_and, pmask_bit, decide_eq_true hj, Bool.true_and]
    exact q
theorem bst_t {q : Nat → Bool} {f : Nat → Nat} {b0 n : Nat} (h : q n = true) : bstF q f b0 (n + 1) = max (bstF q f b0 n) (f n) := if_pos h
theorem bst_f {q : Nat → Bool} {f : Nat → Nat} {b0 n : Nat} (h : q n = false) : bstF q f b0 (n + 1) = bstF q f b0 n := if_neg (by rw [h]; decide)
def bqE (E : Nat → Nat → Bool) (a S : Nat) : Nat → Bool := fun j => E a j && S.testBit j
def bfE (E : Nat → Nat → Bool) (a S : Nat) : Nat → Nat := fun j => 1 + szN E (7 - a) (clr S j)
theorem szN_at (E : Nat → Nat → Bool) {a : Nat} (S : Nat) (ha : a < 8) : szN E (8 - a) S = bstF (bqE E a S) (bfE E a S) (szN E (7 - a) S) 8 := by
  rw [show 8 - a = (7 - a) + 1 by omega]
  show bstF (fun j => E (7 - (7 - a)) j && S.testBit j) (fun j => 1 + szN E (7 - a) (clr S j)) (szN E (7 - a) S) 8 = _
  rw [show 7 - (7 - a) = a by omega]
  rfl
theorem bst_att (q : Nat → Bool) (f : Nat → Nat) (b0 : Nat) : ∀ n, bstF q f b0 n = b0 ∨ ∃ j, j < n ∧ q j = true ∧ bstF q f b0 n = f j
  | 0 => Or.inl rfl
  | n + 1 => by
    cases hq : q n with
    | true =>
      rw [bst_t hq]
      by_cases h : f n ≤ bstF q f b0 n
      · rw [Nat.max_eq_left h]
        rcases bst_att q f b0 n with e | ⟨j, h1, h2, h3⟩
        · exact Or.inl e
        · exact Or.inr ⟨j, by omega, h2, h3⟩
      · rw [Nat.max_eq_right (by omega)]
        exact Or.inr ⟨n, by omega, hq, rfl⟩
    | false =>
      rw [bst_f hq]
      rcases bst_att q f b0 n with e | ⟨j, h1, h2, h3⟩
      · exact Or.inl e
      · exact Or.inr ⟨j, by omega, h2, h3⟩
theorem stS_s {E : Nat → Nat → Bool} {a j : Nat} (h : spE E a = some j) : stS E (a + 1) = clr (stS E a) j := by
  show (match spE E a with | none => stS E a | some j => clr (stS E a) j) = _
  rw [h]
theorem stS_n {E : Nat → Nat → Bool} {a : Nat} (h : spE E a = none) : stS E (a + 1) = stS E a := by
  show (match spE E a with | none => stS E a | some j => clr (stS E a) j) = _
  rw [h]
theorem sp_step (E : Nat → Nat → Bool) {a : Nat} (ha : a < 8) : szN E (8 - a) (stS E a) = szN E (7 - a) (stS E (a + 1)) + if (spE E a).isSome then 1 else 0 := by
  cases h : spE E a with
  | some j =>
    rw [stS_s h, ← (spE_some h).2.2.2, Nat.add_comm]
    rfl
  | none =>
    rw [stS_n h]
    have hn := (fstU_none _ 8).mp h
    rcases bst_att (bqE E a (stS E a)) (bfE E a (stS E a)) (szN E (7 - a) (stS E a)) 8 with e | ⟨j, h1, h2, h3⟩
    · rw [szN_at E _ ha, e]; rfl
    · have h4 := hn j h1
      rw [← szN_at E _ ha] at h3
      rw [show (E a j && (stS E a).testBit j) = true from h2, Bool.true_and] at h4
      exact absurd h3.symm (of_decide_eq_false h4)
theorem sp_count (E : Nat → Nat → Bool) : ∀ a, a ≤ 8 → szN E (8 - a) (stS E a) + cnt (fun x => (spE E x).isSome) a = szN E 8 255
  | 0, _ => rfl
  | a + 1, ha => by
    have h := sp_count E a (by omega)
    rw [sp_step E (show a < 8 by omega)] at h
    show szN E (8 - (a + 1)) (stS E (a + 1)) + (cnt (fun x => (spE E x).isSome) a + (if (spE E a).isSome then 1 else 0)) = _
    rw [show 8 - (a + 1) = 7 - a by omega]
    omega
theorem rnV_sz (c : Nat → Int32) : rnV c = nI (szC c) := by
  have h := sp_count (EC c) 8 (Nat.le_refl _)
  rw [show szN (EC c) (8 - 8) (stS (EC c) 8) = 0 from rfl, Nat.zero_add] at h
  rw [rnV, h]; rfl
theorem fst_at {p : Nat → Bool} {j : Nat} (hj : j < 8) (h : p j = true) (hf : ∀ i, i < j → p i = false) : fstU p 8 = some j := (fstU_some p 8 j).mpr ⟨hj, h, hf⟩
theorem fst_no {p : Nat → Bool} (hf : ∀ i, i < 8 → p i = false) : fstU p 8 = none := (fstU_none p 8).mpr hf
/-- feuds grow shorter in the reference -/
def fdF (f : Nat → Int32) (i : Nat) : Nat → Int32 := fun k => if 33 ≤ k ∧ k < 33 + i ∧ 0 < f k then f k - nI 1 else f k
theorem fdF_0 (f : Nat → Int32) : fdF f 0 = f := by funext k; exact if_neg (fun h => by omega)
theorem fdF_at (f : Nat → Int32) (i : Nat) : fdF f i (33 + i) = f (33 + i) := if_neg (fun h => by omega)
theorem fdF_s (f : Nat → Int32) {i : Nat} (h : 0 < f (33 + i)) : upd (fdF f i) (33 + i) (f (33 + i) - nI 1) = fdF f (i + 1) := by
  funext k
  by_cases hk : k = 33 + i
  · subst hk
    rw [upd_eq, fdF, if_pos ⟨by omega, by omega, h⟩]
  · rw [upd_ne hk, fdF, fdF]
    by_cases h2 : 33 ≤ k ∧ k < 33 + i ∧ 0 < f k
    · rw [if_pos h2, if_pos ⟨h2.1, by omega, h2.2.2⟩]
    · rw [if_neg h2, if_neg (fun z => h2 ⟨z.1, by omega, z.2.2⟩)]
theorem fdF_n (f : Nat → Int32) {i : Nat} (h : ¬ 0 < f (33 + i)) : upd (fdF f i) (33 + i) (f (33 + i) - nI 0) = fdF f (i + 1) := by
  funext k
  by_cases hk : k = 33 + i
  · subst hk
    rw [upd_eq, fdF, if_neg (fun z => h z.2.2)]
    exact Int32.sub_zero _
  · rw [upd_ne hk, fdF, fdF]
    by_cases h2 : 33 ≤ k ∧ k < 33 + i ∧ 0 < f k
    · rw [if_pos h2, if_pos ⟨h2.1, by omega, h2.2.2⟩]
    · rw [if_neg h2, if_neg (fun z => h2 ⟨z.1, by omega, z.2.2⟩)]
theorem fdF_o (f : Nat → Int32) {i k : Nat} (h : k < 33 ∨ 97 ≤ k) (hi : i ≤ 64) : fdF f i k = f k := if_neg (fun h => by omega)
theorem cEnd_o (c : Nat → Int32) {k : Nat} (h : k < 24 ∨ 88 ≤ k) (h2 : k ≠ 153) : cEnd c k = c k := by
  rw [cEnd, upd_ne h2]; exact if_neg (fun z => by omega)
theorem SR.fin {c ss : Nat → Int32} (h : SR c ss) : SR (cEnd c) (upd (fdF ss 64) 0 (ss 0 + nI 1)) := by
  refine ⟨cOK_end h.ok, fun k hk => ?_, fun x y hx hy => ?_, fun k hk => ?_, fun x y hx hy => ?_, fun k hk => ?_, ?_⟩
  · rw [upd_ne (by omega), fdF_o _ (by omega) (by omega), cEnd_o _ (by omega) (by omega)]; exact h.g hk
  · rw [upd_ne (by omega), fdF_o _ (by omega) (by omega), lk_of (cEnd_o _ (by omega) (by omega))]; exact h.l hx hy
  · rw [upd_ne (by omega), cEnd, upd_ne (by omega), fdF, cFe, h.f hk]
    by_cases z : 0 < c (24 + k)
    · rw [if_pos ⟨by omega, by omega, z⟩, if_pos ⟨by omega, by omega, z⟩]
    · rw [if_neg (fun q => z q.2.2), if_neg (fun q => z q.2.2)]
  · rw [upd_ne (by omega), fdF_o _ (by omega) (by omega), wi_of (cEnd_o _ (by omega) (by omega))]; exact h.w hx hy
  · rw [upd_ne (by omega), fdF_o _ (by omega) (by omega), cEnd_o _ (by omega) (by omega)]; exact h.t hk
  · rw [upd_eq, cEnd, upd_eq, h.r, show cFe c 88 153 = c 153 from if_neg (fun z => by omega)]
theorem cN_shk {c : Nat → Int32} {a b k : Nat} (h : k < 24) : cN (cShk c a b) k = cN c k := cN_upd_ne (by omega)
theorem SR.shk {c ss : Nat → Int32} (h : SR c ss) {a b : Nat} (ha : a < 8) (hb : b < 8) : SR (cClose (cShk c a b) a b) (upd (upd ss (97 + 8 * a + b) (nI 0)) (161 + 8 * a + b) (taC c a b + nI 1)) := by
  refine ((h.tally (taC c a b + nI 1) ha hb).close ha hb).same (fun k _ => ?_)
  by_cases h1 : k = 161 + 8 * a + b
  · rw [h1, upd_eq, upd_ne (by omega), upd_eq]
  · rw [upd_ne h1]
    by_cases h2 : k = 97 + 8 * a + b
    · rw [h2, upd_eq, upd_eq]
    · rw [upd_ne h2, upd_ne h2, upd_ne h1]
theorem SR_cp {c ss d t : Nat → Int32} (h : SR c ss) (e : same d c) : SR d (cpF ss t 225) := (h.cells e).same (fun k hk => cpF_in hk)
abbrev rm_X6_findsCan : Room := { frames := 3, cells := 0, slots := 0, locals := 66 }
theorem yd_X6_findsCan : yX6_findsCan.cls = RX6 ∧ yX6_findsCan.cls ≠ "java/lang/invoke/MethodHandle" ∧ yX6_findsCan.cls ≠ "java/lang/invoke/VarHandle" ∧ (parseMethodDescriptor yX6_findsCan.desc).map (fun d => d.parameters.length) = some 1 := by decide +kernel
theorem in_X6_findsCan_X6 : ∀ w ∈ u_ws RX6 TX6 18, w ∈ wsX6_findsCan := by decide +kernel
theorem fl_X6_findsCan_25 : Cond.fieldLink RX6 25 "FenceHandshakesModel" "can" "[I" ∈ wsX6_findsCan := by decide +kernel
set_option maxHeartbeats 4000000 in
set_option maxRecDepth 100000 in
theorem m_X6_findsCan (l : Launch) (D : va_G) (cI cC : ClassId) (q0 q1 q2 q3 q4 q5 q6 q7 q8 q9 q10 q11 : Nat) (th : Int32) (ss : Nat → Int32) (asd : Nat → Int32) (sts : Nat → Int32) (sm : Int32) (snp : Nat → Int32) (hx : Int32) (tx : Nat → Int32) (lgt : Int32) (can : Nat → Int32) (szs : Nat → Int32) (ptn : Nat → Int32) (nms : Nat → Int32) (pth : Nat → Int32) (att : Int32) (isw : Int32) (rdd : Nat → Int32) (rmy : Int32) (c : Nat → Int32) (x : Int32) (hS : SR c ss) : g_M l yX6_findsCan wsX6_findsCan rm_X6_findsCan D cI cC [.ref q0, .int x] (rW cI cC q0 q1 q2 q3 q4 q5 q6 q7 q8 q9 q10 q11 th ss asd sts sm snp hx tx lgt can szs ptn nms pth att isw rdd rmy) (fun vv ww => ∃ (can2 : Nat → Int32), vv = none ∧ ww = (rW cI cC q0 q1 q2 q3 q4 q5 q6 q7 q8 q9 q10 q11 th ss asd sts sm snp hx tx lgt can2 szs ptn nms pth att isw rdd rmy) ∧ cnO can2 (Eb c x)) := by
  refine g_entry (lv := [(0, .ref q0), (1, .int x)]) (own := RX6) (by decide) rfl rfl (Nat.le_of_ble_eq_true rfl) rfl ?_
  intro p e s m args below meth co A Q C hr hQ
  refine g_iconst (pc := 0) (v := nI 0) C dX6_findsCan_0 (by decide) ?_
  refine g_istore_n (pc := 1) (lv' := [(2, .int (nI 0)), (0, .ref q0), (1, .int x)]) C dX6_findsCan_1 rfl (by decide) rfl ?_
  have L2 : ∀ (NZ : Nat) (i : Nat) (can1 : Nat → Int32), 8 - i < NZ → (i ≤ 8) → (∀ a, a < i → can1 a = nI (pmask (Eb c x a) 8)) → g_J p l e rm_X6_findsCan s m args below meth co Q D A 4 0 0 (rW cI cC q0 q1 q2 q3 q4 q5 q6 q7 q8 q9 q10 q11 th ss asd sts sm snp hx tx lgt can1 szs ptn nms pth att isw rdd rmy) 2 [(0, .ref q0), (1, .int x), (2, .int (nI i))] [] := by
    intro NZ
    induction NZ with
    | zero => intro i can1 hN; exact absurd hN (Nat.not_lt_zero _)
    | succ NZ ih2 =>
      intro i can1 hN2 hi hp
      refine g_iload_n (pc := 2) C dX6_findsCan_2 2 rfl rfl ?_
      refine g_bipush (pc := 3) (v := nI 8) C dX6_findsCan_3 (by decide) ?_
      refine g_icmp_geN (pc := 5) C 65 (by omega) (by omega) dX6_findsCan_5 (by decide) (fun c5 => ?_) (fun c5 => ?_)
      · exact g_vret C hr hQ dX6_findsCan_65 rfl ⟨_, rfl, rfl, fun a ha => hp a (by omega)⟩
      · refine g_aload_n (pc := 8) C dX6_findsCan_8 0 rfl rfl ?_
        refine g_get (pc := 9) (ci := 6) (T := TX6) (N := 18) (v := .ref q6) C in_X6_findsCan_X6 0 rfl rfl 9 (by decide) fl_X6_findsCan_25 rfl rfl dX6_findsCan_9 ?_
        refine g_iload_n (pc := 12) C dX6_findsCan_12 2 rfl rfl ?_
        refine g_iconst (pc := 13) (v := nI 0) C dX6_findsCan_13 (by decide) ?_
        refine g_iastN (pc := 14) (f := can1) (ws' := (rW cI cC q0 q1 q2 q3 q4 q5 q6 q7 q8 q9 q10 q11 th ss asd sts sm snp hx tx lgt (upd can1 i (nI 0)) szs ptn nms pth att isw rdd rmy)) C 6 rfl (by omega) (by decide) dX6_findsCan_14 rfl ?_
        refine g_iconst (pc := 15) (v := nI 0) C dX6_findsCan_15 (by decide) ?_
        refine g_istore_n (pc := 16) (lv' := [(3, .int (nI 0)), (0, .ref q0), (1, .int x), (2, .int (nI i))]) C dX6_findsCan_16 rfl (by decide) rfl ?_
        have L17 : ∀ (NZ : Nat) (j : Nat) (can3 : Nat → Int32), 8 - j < NZ → (j ≤ 8) → (∀ a, a < i → can3 a = nI (pmask (Eb c x a) 8)) → (can3 i = nI (pmask (Eb c x i) j)) → g_J p l e rm_X6_findsCan s m args below meth co Q D A 4 0 0 (rW cI cC q0 q1 q2 q3 q4 q5 q6 q7 q8 q9 q10 q11 th ss asd sts sm snp hx tx lgt can3 szs ptn nms pth att isw rdd rmy) 17 [(0, .ref q0), (1, .int x), (2, .int (nI i)), (3, .int (nI j))] [] := by
          intro NZ
          induction NZ with
          | zero => intro j can3 hN; exact absurd hN (Nat.not_lt_zero _)
          | succ NZ ih17 =>
            intro j can3 hN17 hj hp2 hv
            refine g_iload_n (pc := 17) C dX6_findsCan_17 3 rfl rfl ?_
            refine g_bipush (pc := 18) (v := nI 8) C dX6_findsCan_18 (by decide) ?_
            refine g_icmp_geN (pc := 20) C 59 (by omega) (by omega) dX6_findsCan_20 (by decide) (fun c20 => ?_) (fun c20 => ?_)
            · refine g_iinc (pc := 59) (lv' := [(2, .int (nI (i + 1))), (0, .ref q0), (1, .int x), (3, .int (nI j))]) C dX6_findsCan_59 2 rfl (nI_add i 1) (by decide) rfl ?_
              refine g_goto (pc := 62) C 2 dX6_findsCan_62 (by decide) ?_
              refine g_lvp (lv' := [(0, .ref q0), (1, .int x), (2, .int (nI (i + 1)))]) [1, 2, 0] rfl ?_
              exact ih2 (i + 1) can3 (by omega) (by first | assumption | omega) (fun a h => (Nat.lt_succ_iff_lt_or_eq.mp h).elim (hp2 a) (fun e => by subst e; rw [hv, show j = 8 by omega]))
            · refine g_iload_n (pc := 23) C dX6_findsCan_23 2 rfl rfl ?_
              refine g_iload_n (pc := 24) C dX6_findsCan_24 1 rfl rfl ?_
              refine g_icmp_eq (pc := 25) C 59 dX6_findsCan_25 (by decide) (fun c25 => ?_) (fun c25 => ?_)
              · refine g_iinc (pc := 59) (lv' := [(2, .int (nI (i + 1))), (0, .ref q0), (1, .int x), (3, .int (nI j))]) C dX6_findsCan_59 2 rfl (nI_add i 1) (by decide) rfl ?_
                refine g_goto (pc := 62) C 2 dX6_findsCan_62 (by decide) ?_
                refine g_lvp (lv' := [(0, .ref q0), (1, .int x), (2, .int (nI (i + 1)))]) [1, 2, 0] rfl ?_
                exact ih2 (i + 1) can3 (by omega) (by first | assumption | omega) (fun a h => (Nat.lt_succ_iff_lt_or_eq.mp h).elim (hp2 a) (fun e => by subst e; rw [hv, Eb_row c25]))
              · refine g_aload_n (pc := 28) C dX6_findsCan_28 0 rfl rfl ?_
                refine g_get (pc := 29) (ci := 6) (T := TX6) (N := 18) (v := .ref q6) C in_X6_findsCan_X6 0 rfl rfl 9 (by decide) fl_X6_findsCan_25 rfl rfl dX6_findsCan_29 ?_
                refine g_iload_n (pc := 32) C dX6_findsCan_32 2 rfl rfl ?_
                refine g_dup2 (pc := 33) C dX6_findsCan_33 rfl rfl ?_
                refine g_ialdN (pc := 34) (f := can3) C 6 rfl (by omega) (by decide) dX6_findsCan_34 ?_
                refine g_top (y := nI (pmask (Eb c x i) j)) (hv) ?_
                refine g_aload_n (pc := 35) C dX6_findsCan_35 0 rfl rfl ?_
                refine g_iload_n (pc := 36) C dX6_findsCan_36 2 rfl rfl ?_
                refine g_iload_n (pc := 37) C dX6_findsCan_37 3 rfl rfl ?_
                refine g_callV (pc := 38) (st := [.int (nI (pmask (Eb c x i) j)), .int (nI i), .ref q6]) (As := [.int (nI i), .int (nI j)]) (nn := 2) (ci := 6) (q0 := 0) C (m_X6_isPossible l D cI cC q0 q1 q2 q3 q4 q5 q6 q7 q8 q9 q10 q11 th ss asd sts sm snp hx tx lgt can3 szs ptn nms pth att isw rdd rmy c i j (by first | assumption | omega) (by first | assumption | omega) (by first | assumption | omega)) gX6_findsCan_X6_isPossible rfl rfl rfl yd_X6_isPossible ⟨Nat.le_of_ble_eq_true rfl, Nat.le_of_ble_eq_true rfl⟩ rfl [0, 1, 2, 3, 4, 5, 6, 7, 8, 9, 10, 11] rfl rfl rfl rfl rfl (Nat.le_of_ble_eq_true rfl) ⟨Nat.le_of_ble_eq_true rfl, Nat.le_of_ble_eq_true rfl⟩ dX6_findsCan_38 ?_
                rintro _ _ ⟨rfl, rfl⟩
                refine g_eq (ws' := (rW cI cC q0 q1 q2 q3 q4 q5 q6 q7 q8 q9 q10 q11 th ss asd sts sm snp hx tx lgt can3 szs ptn nms pth att isw rdd rmy)) (st' := [.int (bI (poC c i j)), .int (nI (pmask (Eb c x i) j)), .int (nI i), .ref q6]) rfl rfl ?_
                refine g_if_eqB (pc := 41) C 50 dX6_findsCan_41 (by decide) (fun c41 => ?_) (fun c41 => ?_)
                · refine g_iconst (pc := 50) (v := nI 0) C dX6_findsCan_50 (by decide) ?_
                  refine g_iorN (pc := 51) C dX6_findsCan_51 ?_
                  refine g_iastN (pc := 52) (f := can3) (ws' := (rW cI cC q0 q1 q2 q3 q4 q5 q6 q7 q8 q9 q10 q11 th ss asd sts sm snp hx tx lgt (upd can3 i (nI ((pmask (Eb c x i) j) ||| 0))) szs ptn nms pth att isw rdd rmy)) C 6 rfl (by omega) (by decide) dX6_findsCan_52 rfl ?_
                  refine g_iinc (pc := 53) (lv' := [(3, .int (nI (j + 1))), (0, .ref q0), (1, .int x), (2, .int (nI i))]) C dX6_findsCan_53 3 rfl (nI_add j 1) (by decide) rfl ?_
                  refine g_goto (pc := 56) C 17 dX6_findsCan_56 (by decide) ?_
                  refine g_lvp (lv' := [(0, .ref q0), (1, .int x), (2, .int (nI i)), (3, .int (nI (j + 1)))]) [1, 2, 3, 0] rfl ?_
                  exact ih17 (j + 1) (upd can3 i (nI ((pmask (Eb c x i) j) ||| 0))) (by omega) (by first | assumption | omega) (fun a h => by rw [upd_ne (by omega)]; exact hp2 a h) (by rw [upd_eq, pmask_s0 (Eb_in c25 c41)])
                · refine g_iconst (pc := 44) (v := nI 1) C dX6_findsCan_44 (by decide) ?_
                  refine g_iload_n (pc := 45) C dX6_findsCan_45 3 rfl rfl ?_
                  refine g_ishlN (pc := 46) C (by omega) dX6_findsCan_46 ?_
                  refine g_goto (pc := 47) C 51 dX6_findsCan_47 (by decide) ?_
                  refine g_iorN (pc := 51) C dX6_findsCan_51 ?_
                  refine g_iastN (pc := 52) (f := can3) (ws' := (rW cI cC q0 q1 q2 q3 q4 q5 q6 q7 q8 q9 q10 q11 th ss asd sts sm snp hx tx lgt (upd can3 i (nI ((pmask (Eb c x i) j) ||| (1 <<< j)))) szs ptn nms pth att isw rdd rmy)) C 6 rfl (by omega) (by decide) dX6_findsCan_52 rfl ?_
                  refine g_iinc (pc := 53) (lv' := [(3, .int (nI (j + 1))), (0, .ref q0), (1, .int x), (2, .int (nI i))]) C dX6_findsCan_53 3 rfl (nI_add j 1) (by decide) rfl ?_
                  refine g_goto (pc := 56) C 17 dX6_findsCan_56 (by decide) ?_
                  refine g_lvp (lv' := [(0, .ref q0), (1, .int x), (2, .int (nI i)), (3, .int (nI (j + 1)))]) [1, 2, 3, 0] rfl ?_
                  exact ih17 (j + 1) (upd can3 i (nI ((pmask (Eb c x i) j) ||| (1 <<< j)))) (by omega) (by first | assumption | omega) (fun a h => by rw [upd_ne (by omega)]; exact hp2 a h) (by rw [upd_eq, pmask_s1 (Eb_in c25 c41)])
        refine g_lvp (lv' := [(0, .ref q0), (1, .int x), (2, .int (nI i)), (3, .int (nI 0))]) [1, 2, 3, 0] rfl ?_
        exact L17 _ 0 (upd can1 i (nI 0)) (Nat.lt_succ_self _) (by first | assumption | omega) (fun a h => by rw [upd_ne (by omega)]; exact hp a h) (upd_eq)
  refine g_lvp (lv' := [(0, .ref q0), (1, .int x), (2, .int (nI 0))]) [1, 2, 0] rfl ?_
  exact L2 _ 0 can (Nat.lt_succ_self _) (by first | assumption | omega) (fun a h => absurd h (Nat.not_lt_zero _))

abbrev rm_X6_sizeOf : Room := { frames := 0, cells := 0, slots := 0, locals := 0 }
theorem yd_X6_sizeOf : yX6_sizeOf.cls = RX6 ∧ yX6_sizeOf.cls ≠ "java/lang/invoke/MethodHandle" ∧ yX6_sizeOf.cls ≠ "java/lang/invoke/VarHandle" ∧ (parseMethodDescriptor yX6_sizeOf.desc).map (fun d => d.parameters.length) = some 2 := by decide +kernel
theorem in_X6_sizeOf_X6 : ∀ w ∈ u_ws RX6 TX6 18, w ∈ wsX6_sizeOf := by decide +kernel
theorem fl_X6_sizeOf_28 : Cond.fieldLink RX6 28 "FenceHandshakesModel" "sizes" "[I" ∈ wsX6_sizeOf := by decide +kernel
set_option maxHeartbeats 4000000 in
set_option maxRecDepth 100000 in
theorem m_X6_sizeOf (l : Launch) (D : va_G) (cI cC : ClassId) (q0 q1 q2 q3 q4 q5 q6 q7 q8 q9 q10 q11 : Nat) (th : Int32) (ss : Nat → Int32) (asd : Nat → Int32) (sts : Nat → Int32) (sm : Int32) (snp : Nat → Int32) (hx : Int32) (tx : Nat → Int32) (lgt : Int32) (can : Nat → Int32) (szs : Nat → Int32) (ptn : Nat → Int32) (nms : Nat → Int32) (pth : Nat → Int32) (att : Int32) (isw : Int32) (rdd : Nat → Int32) (rmy : Int32) (a : Nat) (b : Nat) (ha : a < 9) (hb : b < 256) : g_M l yX6_sizeOf wsX6_sizeOf rm_X6_sizeOf D cI cC [.ref q0, .int (nI a), .int (nI b)] (rW cI cC q0 q1 q2 q3 q4 q5 q6 q7 q8 q9 q10 q11 th ss asd sts sm snp hx tx lgt can szs ptn nms pth att isw rdd rmy) (fun vv ww => vv = some (.int (szs (256 * a + b))) ∧ ww = (rW cI cC q0 q1 q2 q3 q4 q5 q6 q7 q8 q9 q10 q11 th ss asd sts sm snp hx tx lgt can szs ptn nms pth att isw rdd rmy)) := by
  refine g_entry (lv := [(0, .ref q0), (1, .int (nI a)), (2, .int (nI b))]) (own := RX6) (by decide) rfl rfl (Nat.le_of_ble_eq_true rfl) rfl ?_
  intro p e s m args below meth co A Q C hr hQ
  refine g_aload_n (pc := 0) C dX6_sizeOf_0 0 rfl rfl ?_
  refine g_get (pc := 1) (ci := 6) (T := TX6) (N := 18) (v := .ref q7) C in_X6_sizeOf_X6 0 rfl rfl 10 (by decide) fl_X6_sizeOf_28 rfl rfl dX6_sizeOf_1 ?_
  refine g_sipush (pc := 4) (v := nI 256) C dX6_sizeOf_4 (by decide) ?_
  refine g_iload_n (pc := 7) C dX6_sizeOf_7 1 rfl rfl ?_
  refine g_imulN (pc := 8) C dX6_sizeOf_8 ?_
  refine g_iload_n (pc := 9) C dX6_sizeOf_9 2 rfl rfl ?_
  refine g_iaddN (pc := 10) C dX6_sizeOf_10 ?_
  refine g_ialdN (pc := 11) (f := szs) C 7 rfl (by omega) (by decide) dX6_sizeOf_11 ?_
  refine g_top (y := (szs (256 * a + b))) (rfl) ?_
  exact g_iret C hr hQ dX6_sizeOf_12 rfl ⟨rfl, rfl⟩

abbrev rm_X6_bestFor : Room := { frames := 1, cells := 0, slots := 0, locals := 22 }
theorem yd_X6_bestFor : yX6_bestFor.cls = RX6 ∧ yX6_bestFor.cls ≠ "java/lang/invoke/MethodHandle" ∧ yX6_bestFor.cls ≠ "java/lang/invoke/VarHandle" ∧ (parseMethodDescriptor yX6_bestFor.desc).map (fun d => d.parameters.length) = some 2 := by decide +kernel
theorem in_X6_bestFor_X6 : ∀ w ∈ u_ws RX6 TX6 18, w ∈ wsX6_bestFor := by decide +kernel
theorem fl_X6_bestFor_25 : Cond.fieldLink RX6 25 "FenceHandshakesModel" "can" "[I" ∈ wsX6_bestFor := by decide +kernel
set_option maxHeartbeats 4000000 in
set_option maxRecDepth 100000 in
theorem m_X6_bestFor (l : Launch) (D : va_G) (cI cC : ClassId) (q0 q1 q2 q3 q4 q5 q6 q7 q8 q9 q10 q11 : Nat) (th : Int32) (ss : Nat → Int32) (asd : Nat → Int32) (sts : Nat → Int32) (sm : Int32) (snp : Nat → Int32) (hx : Int32) (tx : Nat → Int32) (lgt : Int32) (can : Nat → Int32) (szs : Nat → Int32) (ptn : Nat → Int32) (nms : Nat → Int32) (pth : Nat → Int32) (att : Int32) (isw : Int32) (rdd : Nat → Int32) (rmy : Int32) (E : Nat → Nat → Bool) (a : Nat) (S : Nat) (ha : a < 8) (hS : S < 256) (hC : cnO can E) (hT : tbO szs E (a + 1)) : g_M l yX6_bestFor wsX6_bestFor rm_X6_bestFor D cI cC [.ref q0, .int (nI a), .int (nI S)] (rW cI cC q0 q1 q2 q3 q4 q5 q6 q7 q8 q9 q10 q11 th ss asd sts sm snp hx tx lgt can szs ptn nms pth att isw rdd rmy) (fun vv ww => vv = some (.int (nI (szN E (8 - a) S))) ∧ ww = (rW cI cC q0 q1 q2 q3 q4 q5 q6 q7 q8 q9 q10 q11 th ss asd sts sm snp hx tx lgt can szs ptn nms pth att isw rdd rmy)) := by
  refine g_entry (lv := [(0, .ref q0), (1, .int (nI a)), (2, .int (nI S))]) (own := RX6) (by decide) rfl rfl (Nat.le_of_ble_eq_true rfl) rfl ?_
  intro p e s m args below meth co A Q C hr hQ
  have w0 := szN_le E (7 - a) S (by omega)
  refine g_aload_n (pc := 0) C dX6_bestFor_0 0 rfl rfl ?_
  refine g_iload_n (pc := 1) C dX6_bestFor_1 1 rfl rfl ?_
  refine g_iconst (pc := 2) (v := nI 1) C dX6_bestFor_2 (by decide) ?_
  refine g_iaddN (pc := 3) C dX6_bestFor_3 ?_
  refine g_iload_n (pc := 4) C dX6_bestFor_4 2 rfl rfl ?_
  refine g_callV (pc := 5) (st := []) (As := [.int (nI (a + 1)), .int (nI S)]) (nn := 2) (ci := 6) (q0 := 0) C (m_X6_sizeOf l D cI cC q0 q1 q2 q3 q4 q5 q6 q7 q8 q9 q10 q11 th ss asd sts sm snp hx tx lgt can szs ptn nms pth att isw rdd rmy (a + 1) S (by first | assumption | omega) (by first | assumption | omega)) gX6_bestFor_X6_sizeOf rfl rfl rfl yd_X6_sizeOf ⟨Nat.le_of_ble_eq_true rfl, Nat.le_of_ble_eq_true rfl⟩ rfl [0, 1, 2, 3, 4, 5, 6, 7, 8, 9, 10, 11] rfl rfl rfl rfl rfl (Nat.le_of_ble_eq_true rfl) ⟨Nat.le_of_ble_eq_true rfl, Nat.le_of_ble_eq_true rfl⟩ dX6_bestFor_5 ?_
  rintro _ _ ⟨rfl, rfl⟩
  refine g_eq (ws' := (rW cI cC q0 q1 q2 q3 q4 q5 q6 q7 q8 q9 q10 q11 th ss asd sts sm snp hx tx lgt can szs ptn nms pth att isw rdd rmy)) (st' := [.int (szs (256 * (a + 1) + S))]) rfl rfl ?_
  refine g_top (y := nI (szN E (7 - a) S)) (by rw [hT (a + 1) S (by omega) (by omega) hS, show 8 - (a + 1) = 7 - a by omega]) ?_
  refine g_istore_n (pc := 8) (lv' := [(3, .int (nI (szN E (7 - a) S))), (0, .ref q0), (1, .int (nI a)), (2, .int (nI S))]) C dX6_bestFor_8 rfl (by decide) rfl ?_
  refine g_iconst (pc := 9) (v := nI 0) C dX6_bestFor_9 (by decide) ?_
  refine g_istore (pc := 10) (lv' := [(4, .int (nI 0)), (3, .int (nI (szN E (7 - a) S))), (0, .ref q0), (1, .int (nI a)), (2, .int (nI S))]) C dX6_bestFor_10 (by decide) rfl ?_
  have L12 : ∀ (NZ : Nat) (j : Nat) (u : Nat), 8 - j < NZ → (j ≤ 8) → (u ≤ 8) → (u = bstF (bqE E a S) (bfE E a S) (szN E (7 - a) S) j) → g_J p l e rm_X6_bestFor s m args below meth co Q D A 6 0 0 (rW cI cC q0 q1 q2 q3 q4 q5 q6 q7 q8 q9 q10 q11 th ss asd sts sm snp hx tx lgt can szs ptn nms pth att isw rdd rmy) 12 [(0, .ref q0), (1, .int (nI a)), (2, .int (nI S)), (3, .int (nI u)), (4, .int (nI j))] [] := by
    intro NZ
    induction NZ with
    | zero => intro j u hN; exact absurd hN (Nat.not_lt_zero _)
    | succ NZ ih12 =>
      intro j u hN12 hj hu8 hu
      refine g_iload (pc := 12) C dX6_bestFor_12 4 rfl ?_
      refine g_bipush (pc := 14) (v := nI 8) C dX6_bestFor_14 (by decide) ?_
      refine g_icmp_geN (pc := 16) C 73 (by omega) (by omega) dX6_bestFor_16 (by decide) (fun c16 => ?_) (fun c16 => ?_)
      · refine g_iload_n (pc := 73) C dX6_bestFor_73 3 rfl rfl ?_
        refine g_top (y := nI (szN E (8 - a) S)) (by rw [szN_at E S ha, hu, show j = 8 by omega]) ?_
        exact g_iret C hr hQ dX6_bestFor_74 rfl ⟨rfl, rfl⟩
      · refine g_aload_n (pc := 19) C dX6_bestFor_19 0 rfl rfl ?_
        refine g_get (pc := 20) (ci := 6) (T := TX6) (N := 18) (v := .ref q6) C in_X6_bestFor_X6 0 rfl rfl 9 (by decide) fl_X6_bestFor_25 rfl rfl dX6_bestFor_20 ?_
        refine g_iload_n (pc := 23) C dX6_bestFor_23 1 rfl rfl ?_
        refine g_ialdN (pc := 24) (f := can) C 6 rfl (by omega) (by decide) dX6_bestFor_24 ?_
        refine g_top (y := nI (pmask (E a) 8)) (hC a ha) ?_
        refine g_iload_n (pc := 25) C dX6_bestFor_25 2 rfl rfl ?_
        refine g_iandN (pc := 26) C dX6_bestFor_26 ?_
        refine g_iconst (pc := 27) (v := nI 1) C dX6_bestFor_27 (by decide) ?_
        refine g_iload (pc := 28) C dX6_bestFor_28 4 rfl ?_
        refine g_ishlN (pc := 30) C (by omega) dX6_bestFor_30 ?_
        refine g_iandN (pc := 31) C dX6_bestFor_31 ?_
        refine g_if_eqN (pc := 32) C 67 and3_lt dX6_bestFor_32 (by decide) (fun c32 => ?_) (fun c32 => ?_)
        · have qq : bqE E a S j = false := cb_f (by omega) c32
          refine g_iinc (pc := 67) (lv' := [(4, .int (nI (j + 1))), (0, .ref q0), (1, .int (nI a)), (2, .int (nI S)), (3, .int (nI u))]) C dX6_bestFor_67 4 rfl (nI_add j 1) (by decide) rfl ?_
          refine g_goto (pc := 70) C 12 dX6_bestFor_70 (by decide) ?_
          refine g_lvp (lv' := [(0, .ref q0), (1, .int (nI a)), (2, .int (nI S)), (3, .int (nI u)), (4, .int (nI (j + 1)))]) [1, 2, 3, 4, 0] rfl ?_
          exact ih12 (j + 1) u (by omega) (by first | assumption | omega) (by first | assumption | omega) (by rw [bst_f qq]; exact hu)
        · have qq : bqE E a S j = true := cb_t (by omega) c32
          refine g_iconst (pc := 35) (v := nI 1) C dX6_bestFor_35 (by decide) ?_
          refine g_aload_n (pc := 36) C dX6_bestFor_36 0 rfl rfl ?_
          refine g_iload_n (pc := 37) C dX6_bestFor_37 1 rfl rfl ?_
          refine g_iconst (pc := 38) (v := nI 1) C dX6_bestFor_38 (by decide) ?_
          refine g_iaddN (pc := 39) C dX6_bestFor_39 ?_
          refine g_iload_n (pc := 40) C dX6_bestFor_40 2 rfl rfl ?_
          refine g_iconst (pc := 41) (v := nI 1) C dX6_bestFor_41 (by decide) ?_
          refine g_iload (pc := 42) C dX6_bestFor_42 4 rfl ?_
          refine g_ishlN (pc := 44) C (by omega) dX6_bestFor_44 ?_
          refine g_iconst (pc := 45) (v := (-1)) C dX6_bestFor_45 (by decide) ?_
          refine g_ixor (pc := 46) C dX6_bestFor_46 ?_
          refine g_iandX (pc := 47) C dX6_bestFor_47 ?_
          refine g_callV (pc := 48) (st := [.int (nI 1)]) (As := [.int (nI (a + 1)), .int (nI (g_nand S (1 <<< j)))]) (nn := 2) (ci := 6) (q0 := 0) C (m_X6_sizeOf l D cI cC q0 q1 q2 q3 q4 q5 q6 q7 q8 q9 q10 q11 th ss asd sts sm snp hx tx lgt can szs ptn nms pth att isw rdd rmy (a + 1) (g_nand S (1 <<< j)) (by first | assumption | omega) (clr_lt hS)) gX6_bestFor_X6_sizeOf rfl rfl rfl yd_X6_sizeOf ⟨Nat.le_of_ble_eq_true rfl, Nat.le_of_ble_eq_true rfl⟩ rfl [0, 1, 2, 3, 4, 5, 6, 7, 8, 9, 10, 11] rfl rfl rfl rfl rfl (Nat.le_of_ble_eq_true rfl) ⟨Nat.le_of_ble_eq_true rfl, Nat.le_of_ble_eq_true rfl⟩ dX6_bestFor_48 ?_
          rintro _ _ ⟨rfl, rfl⟩
          refine g_eq (ws' := (rW cI cC q0 q1 q2 q3 q4 q5 q6 q7 q8 q9 q10 q11 th ss asd sts sm snp hx tx lgt can szs ptn nms pth att isw rdd rmy)) (st' := [.int (szs (256 * (a + 1) + (g_nand S (1 <<< j)))), .int (nI 1)]) rfl rfl ?_
          refine g_top (y := nI (szN E (7 - a) (clr S j))) (by rw [← show clr S j = g_nand S (1 <<< j) from rfl, hT (a + 1) (clr S j) (by omega) (by omega) (clr_lt hS), show 8 - (a + 1) = 7 - a by omega]) ?_
          have w9 := szN_le E (7 - a) (clr S j) (by omega)
          refine g_iaddN (pc := 51) C dX6_bestFor_51 ?_
          refine g_istore (pc := 52) (lv' := [(5, .int (nI (1 + (szN E (7 - a) (clr S j))))), (0, .ref q0), (1, .int (nI a)), (2, .int (nI S)), (3, .int (nI u)), (4, .int (nI j))]) C dX6_bestFor_52 (by decide) rfl ?_
          refine g_iload (pc := 54) C dX6_bestFor_54 0 rfl ?_
          refine g_iload_n (pc := 56) C dX6_bestFor_56 4 rfl rfl ?_
          refine g_icmp_leN (pc := 57) C 65 (by omega) (by omega) dX6_bestFor_57 (by decide) (fun c57 => ?_) (fun c57 => ?_)
          · refine g_iload_n (pc := 65) C dX6_bestFor_65 4 rfl rfl ?_
            refine g_istore_n (pc := 66) (lv' := [(3, .int (nI u)), (5, .int (nI (1 + (szN E (7 - a) (clr S j))))), (0, .ref q0), (1, .int (nI a)), (2, .int (nI S)), (4, .int (nI j))]) C dX6_bestFor_66 rfl (by decide) rfl ?_
            refine g_iinc (pc := 67) (lv' := [(4, .int (nI (j + 1))), (3, .int (nI u)), (5, .int (nI (1 + (szN E (7 - a) (clr S j))))), (0, .ref q0), (1, .int (nI a)), (2, .int (nI S))]) C dX6_bestFor_67 5 rfl (nI_add j 1) (by decide) rfl ?_
            refine g_goto (pc := 70) C 12 dX6_bestFor_70 (by decide) ?_
            refine g_lvp (lv' := [(0, .ref q0), (1, .int (nI a)), (2, .int (nI S)), (3, .int (nI u)), (4, .int (nI (j + 1)))]) [3, 4, 5, 1, 0] rfl ?_
            exact ih12 (j + 1) u (by omega) (by first | assumption | omega) (by first | assumption | omega) (by rw [bst_t qq, ← hu]; show _ = max u (1 + szN E (7 - a) (clr S j)); omega)
          · refine g_iload (pc := 60) C dX6_bestFor_60 0 rfl ?_
            refine g_goto (pc := 62) C 66 dX6_bestFor_62 (by decide) ?_
            refine g_istore_n (pc := 66) (lv' := [(3, .int (nI (1 + (szN E (7 - a) (clr S j))))), (5, .int (nI (1 + (szN E (7 - a) (clr S j))))), (0, .ref q0), (1, .int (nI a)), (2, .int (nI S)), (4, .int (nI j))]) C dX6_bestFor_66 rfl (by decide) rfl ?_
            refine g_iinc (pc := 67) (lv' := [(4, .int (nI (j + 1))), (3, .int (nI (1 + (szN E (7 - a) (clr S j))))), (5, .int (nI (1 + (szN E (7 - a) (clr S j))))), (0, .ref q0), (1, .int (nI a)), (2, .int (nI S))]) C dX6_bestFor_67 5 rfl (nI_add j 1) (by decide) rfl ?_
            refine g_goto (pc := 70) C 12 dX6_bestFor_70 (by decide) ?_
            refine g_lvp (lv' := [(0, .ref q0), (1, .int (nI a)), (2, .int (nI S)), (3, .int (nI (1 + (szN E (7 - a) (clr S j))))), (4, .int (nI (j + 1)))]) [3, 4, 5, 1, 0] rfl ?_
            exact ih12 (j + 1) (1 + (szN E (7 - a) (clr S j))) (by omega) (by first | assumption | omega) (by first | assumption | omega) (by rw [bst_t qq, ← hu]; show _ = max u (1 + szN E (7 - a) (clr S j)); omega)
  refine g_lvp (lv' := [(0, .ref q0), (1, .int (nI a)), (2, .int (nI S)), (3, .int (nI (szN E (7 - a) S))), (4, .int (nI 0))]) [2, 3, 4, 1, 0] rfl ?_
  exact L12 _ 0 (szN E (7 - a) S) (Nat.lt_succ_self _) (by first | assumption | omega) (by first | assumption | omega) (rfl)

abbrev rm_X6_fills : Room := { frames := 2, cells := 0, slots := 0, locals := 47 }
theorem yd_X6_fills : yX6_fills.cls = RX6 ∧ yX6_fills.cls ≠ "java/lang/invoke/MethodHandle" ∧ yX6_fills.cls ≠ "java/lang/invoke/VarHandle" ∧ (parseMethodDescriptor yX6_fills.desc).map (fun d => d.parameters.length) = some 0 := by decide +kernel
theorem in_X6_fills_X6 : ∀ w ∈ u_ws RX6 TX6 18, w ∈ wsX6_fills := by decide +kernel
theorem fl_X6_fills_28 : Cond.fieldLink RX6 28 "FenceHandshakesModel" "sizes" "[I" ∈ wsX6_fills := by decide +kernel
set_option maxHeartbeats 4000000 in
set_option maxRecDepth 100000 in
theorem m_X6_fills (l : Launch) (D : va_G) (cI cC : ClassId) (q0 q1 q2 q3 q4 q5 q6 q7 q8 q9 q10 q11 : Nat) (th : Int32) (ss : Nat → Int32) (asd : Nat → Int32) (sts : Nat → Int32) (sm : Int32) (snp : Nat → Int32) (hx : Int32) (tx : Nat → Int32) (lgt : Int32) (can : Nat → Int32) (szs : Nat → Int32) (ptn : Nat → Int32) (nms : Nat → Int32) (pth : Nat → Int32) (att : Int32) (isw : Int32) (rdd : Nat → Int32) (rmy : Int32) (E : Nat → Nat → Bool) (hC : cnO can E) : g_M l yX6_fills wsX6_fills rm_X6_fills D cI cC [.ref q0] (rW cI cC q0 q1 q2 q3 q4 q5 q6 q7 q8 q9 q10 q11 th ss asd sts sm snp hx tx lgt can szs ptn nms pth att isw rdd rmy) (fun vv ww => ∃ (szs2 : Nat → Int32), vv = some (.int (nI (szN E 8 255))) ∧ ww = (rW cI cC q0 q1 q2 q3 q4 q5 q6 q7 q8 q9 q10 q11 th ss asd sts sm snp hx tx lgt can szs2 ptn nms pth att isw rdd rmy) ∧ tbO szs2 E 0) := by
  refine g_entry (lv := [(0, .ref q0)]) (own := RX6) (by decide) rfl rfl (Nat.le_of_ble_eq_true rfl) rfl ?_
  intro p e s m args below meth co A Q C hr hQ
  refine g_iconst (pc := 0) (v := nI 0) C dX6_fills_0 (by decide) ?_
  refine g_istore_n (pc := 1) (lv' := [(1, .int (nI 0)), (0, .ref q0)]) C dX6_fills_1 rfl (by decide) rfl ?_
  have L2 : ∀ (NZ : Nat) (i : Nat) (szs1 : Nat → Int32), 256 - i < NZ → (i ≤ 256) → (∀ S, S < i → szs1 (2048 + S) = nI 0) → g_J p l e rm_X6_fills s m args below meth co Q D A 3 0 0 (rW cI cC q0 q1 q2 q3 q4 q5 q6 q7 q8 q9 q10 q11 th ss asd sts sm snp hx tx lgt can szs1 ptn nms pth att isw rdd rmy) 2 [(0, .ref q0), (1, .int (nI i))] [] := by
    intro NZ
    induction NZ with
    | zero => intro i szs1 hN; exact absurd hN (Nat.not_lt_zero _)
    | succ NZ ih2 =>
      intro i szs1 hN2 hi h1
      refine g_iload_n (pc := 2) C dX6_fills_2 1 rfl rfl ?_
      refine g_sipush (pc := 3) (v := nI 256) C dX6_fills_3 (by decide) ?_
      refine g_icmp_geN (pc := 6) C 26 (by omega) (by omega) dX6_fills_6 (by decide) (fun c6 => ?_) (fun c6 => ?_)
      · refine g_bipush (pc := 26) (v := nI 7) C dX6_fills_26 (by decide) ?_
        refine g_top (y := (nI 8 + Int32.ofInt (-1))) (by decide) ?_
        refine g_istore_n (pc := 28) (lv' := [(1, .int (nI 8 + Int32.ofInt (-1))), (0, .ref q0)]) C dX6_fills_28 rfl (by decide) rfl ?_
        have L29 : ∀ (NZ : Nat) (k : Nat) (szs3 : Nat → Int32), k < NZ → (k ≤ 8) → (tbO szs3 E k) → g_J p l e rm_X6_fills s m args below meth co Q D A 3 0 0 (rW cI cC q0 q1 q2 q3 q4 q5 q6 q7 q8 q9 q10 q11 th ss asd sts sm snp hx tx lgt can szs3 ptn nms pth att isw rdd rmy) 29 [(0, .ref q0), (1, .int (nI k + Int32.ofInt (-1)))] [] := by
          intro NZ
          induction NZ with
          | zero => intro k szs3 hN; exact absurd hN (Nat.not_lt_zero _)
          | succ NZ ih29 =>
            intro k szs3 hN29 hk hT
            refine g_iload_n (pc := 29) C dX6_fills_29 1 rfl rfl ?_
            refine g_if_lt (pc := 30) C 72 dX6_fills_30 (by decide) (fun c30 => ?_) (fun c30 => ?_)
            · have hk0 : k = 0 := by
                refine Nat.eq_zero_of_not_pos (fun h => ?_)
                rw [g_dec h] at c30
                exact nI_pos (by omega) c30
              refine g_aload_n (pc := 72) C dX6_fills_72 0 rfl rfl ?_
              refine g_iconst (pc := 73) (v := nI 0) C dX6_fills_73 (by decide) ?_
              refine g_sipush (pc := 74) (v := nI 255) C dX6_fills_74 (by decide) ?_
              refine g_callV (pc := 77) (st := []) (As := [.int (nI 0), .int (nI 255)]) (nn := 2) (ci := 6) (q0 := 0) C (m_X6_sizeOf l D cI cC q0 q1 q2 q3 q4 q5 q6 q7 q8 q9 q10 q11 th ss asd sts sm snp hx tx lgt can szs3 ptn nms pth att isw rdd rmy 0 255 (by first | assumption | omega) (by first | assumption | omega)) gX6_fills_X6_sizeOf rfl rfl rfl yd_X6_sizeOf ⟨Nat.le_of_ble_eq_true rfl, Nat.le_of_ble_eq_true rfl⟩ rfl [0, 1, 2, 3, 4, 5, 6, 7, 8, 9, 10, 11] rfl rfl rfl rfl rfl (Nat.le_of_ble_eq_true rfl) ⟨Nat.le_of_ble_eq_true rfl, Nat.le_of_ble_eq_true rfl⟩ dX6_fills_77 ?_
              rintro _ _ ⟨rfl, rfl⟩
              refine g_eq (ws' := (rW cI cC q0 q1 q2 q3 q4 q5 q6 q7 q8 q9 q10 q11 th ss asd sts sm snp hx tx lgt can szs3 ptn nms pth att isw rdd rmy)) (st' := [.int (szs3 (256 * 0 + 255))]) rfl rfl ?_
              refine g_top (y := nI (szN E 8 255)) (by rw [show 256 * 0 + 255 = 256 * 0 + 255 from rfl, hT 0 255 (by omega) (by omega) (by decide)]) ?_
              exact g_iret C hr hQ dX6_fills_80 rfl ⟨_, rfl, rfl, by rw [← hk0]; exact hT⟩
            · have hk1 : 1 ≤ k := Nat.pos_of_ne_zero (fun z => c30 (by rw [z]; decide))
              refine g_lveq (lv' := [(0, .ref q0), (1, .int (nI (k - 1)))]) (by rw [g_dec hk1]) ?_
              refine g_iconst (pc := 33) (v := nI 0) C dX6_fills_33 (by decide) ?_
              refine g_istore_n (pc := 34) (lv' := [(2, .int (nI 0)), (0, .ref q0), (1, .int (nI (k - 1)))]) C dX6_fills_34 rfl (by decide) rfl ?_
              have L35 : ∀ (NZ : Nat) (j : Nat) (szs4 : Nat → Int32), 256 - j < NZ → (j ≤ 256) → (tbO szs4 E k) → (∀ S, S < j → szs4 (256 * (k - 1) + S) = nI (szN E (8 - (k - 1)) S)) → g_J p l e rm_X6_fills s m args below meth co Q D A 3 0 0 (rW cI cC q0 q1 q2 q3 q4 q5 q6 q7 q8 q9 q10 q11 th ss asd sts sm snp hx tx lgt can szs4 ptn nms pth att isw rdd rmy) 35 [(0, .ref q0), (1, .int (nI (k - 1))), (2, .int (nI j))] [] := by
                intro NZ
                induction NZ with
                | zero => intro j szs4 hN; exact absurd hN (Nat.not_lt_zero _)
                | succ NZ ih35 =>
                  intro j szs4 hN35 hj hT2 hR
                  refine g_iload_n (pc := 35) C dX6_fills_35 2 rfl rfl ?_
                  refine g_sipush (pc := 36) (v := nI 256) C dX6_fills_36 (by decide) ?_
                  refine g_icmp_geN (pc := 39) C 66 (by omega) (by omega) dX6_fills_39 (by decide) (fun c39 => ?_) (fun c39 => ?_)
                  · refine g_lveq (lv' := [(0, .ref q0), (1, .int (nI (k - 1))), (2, .int (nI j))]) (rfl) ?_
                    refine g_iinc (pc := 66) (lv' := [(1, .int ((nI (k - 1)) + Int32.ofInt (-1))), (0, .ref q0), (2, .int (nI j))]) C dX6_fills_66 1 rfl (rfl) (by decide) rfl ?_
                    refine g_goto (pc := 69) C 29 dX6_fills_69 (by decide) ?_
                    refine g_lvp (lv' := [(0, .ref q0), (1, .int ((nI (k - 1)) + Int32.ofInt (-1)))]) [1, 0] rfl ?_
                    exact ih29 (k - 1) szs4 (by omega) (by first | assumption | omega) (fun a S q1 q2 q3 => by
  by_cases z : a = k - 1
  · subst z; exact hR S (by omega)
  · exact hT2 a S (by omega) q2 q3)
                  · refine g_aload_n (pc := 42) C dX6_fills_42 0 rfl rfl ?_
                    refine g_get (pc := 43) (ci := 6) (T := TX6) (N := 18) (v := .ref q7) C in_X6_fills_X6 0 rfl rfl 10 (by decide) fl_X6_fills_28 rfl rfl dX6_fills_43 ?_
                    refine g_sipush (pc := 46) (v := nI 256) C dX6_fills_46 (by decide) ?_
                    refine g_iload_n (pc := 49) C dX6_fills_49 1 rfl rfl ?_
                    refine g_imulN (pc := 50) C dX6_fills_50 ?_
                    refine g_iload_n (pc := 51) C dX6_fills_51 2 rfl rfl ?_
                    refine g_iaddN (pc := 52) C dX6_fills_52 ?_
                    refine g_aload_n (pc := 53) C dX6_fills_53 0 rfl rfl ?_
                    refine g_iload_n (pc := 54) C dX6_fills_54 1 rfl rfl ?_
                    refine g_iload_n (pc := 55) C dX6_fills_55 2 rfl rfl ?_
                    refine g_callV (pc := 56) (st := [.int (nI ((256 * (k - 1)) + j)), .ref q7]) (As := [.int (nI (k - 1)), .int (nI j)]) (nn := 2) (ci := 6) (q0 := 0) C (m_X6_bestFor l D cI cC q0 q1 q2 q3 q4 q5 q6 q7 q8 q9 q10 q11 th ss asd sts sm snp hx tx lgt can szs4 ptn nms pth att isw rdd rmy E (k - 1) j (by first | assumption | omega) (by first | assumption | omega) (by first | assumption | omega) (by rw [show k - 1 + 1 = k by omega]; exact hT2)) gX6_fills_X6_bestFor rfl rfl rfl yd_X6_bestFor ⟨Nat.le_of_ble_eq_true rfl, Nat.le_of_ble_eq_true rfl⟩ rfl [0, 1, 2, 3, 4, 5, 6, 7, 8, 9, 10, 11] rfl rfl rfl rfl rfl (Nat.le_of_ble_eq_true rfl) ⟨Nat.le_of_ble_eq_true rfl, Nat.le_of_ble_eq_true rfl⟩ dX6_fills_56 ?_
                    rintro _ _ ⟨rfl, rfl⟩
                    refine g_eq (ws' := (rW cI cC q0 q1 q2 q3 q4 q5 q6 q7 q8 q9 q10 q11 th ss asd sts sm snp hx tx lgt can szs4 ptn nms pth att isw rdd rmy)) (st' := [.int (nI (szN E (8 - (k - 1)) j)), .int (nI ((256 * (k - 1)) + j)), .ref q7]) rfl rfl ?_
                    refine g_iastN (pc := 59) (f := szs4) (ws' := (rW cI cC q0 q1 q2 q3 q4 q5 q6 q7 q8 q9 q10 q11 th ss asd sts sm snp hx tx lgt can (upd szs4 ((256 * (k - 1)) + j) (nI (szN E (8 - (k - 1)) j))) ptn nms pth att isw rdd rmy)) C 7 rfl (by omega) (by decide) dX6_fills_59 rfl ?_
                    refine g_iinc (pc := 60) (lv' := [(2, .int (nI (j + 1))), (0, .ref q0), (1, .int (nI (k - 1)))]) C dX6_fills_60 2 rfl (nI_add j 1) (by decide) rfl ?_
                    refine g_goto (pc := 63) C 35 dX6_fills_63 (by decide) ?_
                    refine g_lvp (lv' := [(0, .ref q0), (1, .int (nI (k - 1))), (2, .int (nI (j + 1)))]) [1, 2, 0] rfl ?_
                    exact ih35 (j + 1) (upd szs4 ((256 * (k - 1)) + j) (nI (szN E (8 - (k - 1)) j))) (by omega) (by first | assumption | omega) (fun a S q1 q2 q3 => by rw [upd_ne (by omega)]; exact hT2 a S q1 q2 q3) (fun S h => (Nat.lt_succ_iff_lt_or_eq.mp h).elim (fun q => by rw [upd_ne (by omega)]; exact hR S q) (fun e => by subst e; exact upd_eq))
              refine g_lvp (lv' := [(0, .ref q0), (1, .int (nI (k - 1))), (2, .int (nI 0))]) [1, 2, 0] rfl ?_
              exact L35 _ 0 szs3 (Nat.lt_succ_self _) (by first | assumption | omega) (by first | assumption | omega) (fun S h => absurd h (Nat.not_lt_zero _))
        refine g_lvp (lv' := [(0, .ref q0), (1, .int (nI 8 + Int32.ofInt (-1)))]) [1, 0] rfl ?_
        exact L29 _ 8 szs1 (Nat.lt_succ_self _) (by first | assumption | omega) (fun a S q1 q2 q3 => by rw [show a = 8 by omega]; exact h1 S (by omega))
      · refine g_aload_n (pc := 9) C dX6_fills_9 0 rfl rfl ?_
        refine g_get (pc := 10) (ci := 6) (T := TX6) (N := 18) (v := .ref q7) C in_X6_fills_X6 0 rfl rfl 10 (by decide) fl_X6_fills_28 rfl rfl dX6_fills_10 ?_
        refine g_sipush (pc := 13) (v := nI 2048) C dX6_fills_13 (by decide) ?_
        refine g_iload_n (pc := 16) C dX6_fills_16 1 rfl rfl ?_
        refine g_iaddN (pc := 17) C dX6_fills_17 ?_
        refine g_iconst (pc := 18) (v := nI 0) C dX6_fills_18 (by decide) ?_
        refine g_iastN (pc := 19) (f := szs1) (ws' := (rW cI cC q0 q1 q2 q3 q4 q5 q6 q7 q8 q9 q10 q11 th ss asd sts sm snp hx tx lgt can (upd szs1 (2048 + i) (nI 0)) ptn nms pth att isw rdd rmy)) C 7 rfl (by omega) (by decide) dX6_fills_19 rfl ?_
        refine g_iinc (pc := 20) (lv' := [(1, .int (nI (i + 1))), (0, .ref q0)]) C dX6_fills_20 1 rfl (nI_add i 1) (by decide) rfl ?_
        refine g_goto (pc := 23) C 2 dX6_fills_23 (by decide) ?_
        refine g_lvp (lv' := [(0, .ref q0), (1, .int (nI (i + 1)))]) [1, 0] rfl ?_
        exact ih2 (i + 1) (upd szs1 (2048 + i) (nI 0)) (by omega) (by first | assumption | omega) (fun S h => (Nat.lt_succ_iff_lt_or_eq.mp h).elim (fun q => by rw [upd_ne (by omega)]; exact h1 S q) (fun e => by subst e; exact upd_eq))
  refine g_lvp (lv' := [(0, .ref q0), (1, .int (nI 0))]) [1, 0] rfl ?_
  exact L2 _ 0 szs (Nat.lt_succ_self _) (by first | assumption | omega) (fun S h => absurd h (Nat.not_lt_zero _))

abbrev rm_X6_firstFor : Room := { frames := 1, cells := 0, slots := 0, locals := 22 }
theorem yd_X6_firstFor : yX6_firstFor.cls = RX6 ∧ yX6_firstFor.cls ≠ "java/lang/invoke/MethodHandle" ∧ yX6_firstFor.cls ≠ "java/lang/invoke/VarHandle" ∧ (parseMethodDescriptor yX6_firstFor.desc).map (fun d => d.parameters.length) = some 2 := by decide +kernel
theorem in_X6_firstFor_X6 : ∀ w ∈ u_ws RX6 TX6 18, w ∈ wsX6_firstFor := by decide +kernel
theorem fl_X6_firstFor_25 : Cond.fieldLink RX6 25 "FenceHandshakesModel" "can" "[I" ∈ wsX6_firstFor := by decide +kernel
set_option maxHeartbeats 4000000 in
set_option maxRecDepth 100000 in
theorem m_X6_firstFor (l : Launch) (D : va_G) (cI cC : ClassId) (q0 q1 q2 q3 q4 q5 q6 q7 q8 q9 q10 q11 : Nat) (th : Int32) (ss : Nat → Int32) (asd : Nat → Int32) (sts : Nat → Int32) (sm : Int32) (snp : Nat → Int32) (hx : Int32) (tx : Nat → Int32) (lgt : Int32) (can : Nat → Int32) (szs : Nat → Int32) (ptn : Nat → Int32) (nms : Nat → Int32) (pth : Nat → Int32) (att : Int32) (isw : Int32) (rdd : Nat → Int32) (rmy : Int32) (E : Nat → Nat → Bool) (a : Nat) (S : Nat) (ha : a < 8) (hS : S < 256) (hC : cnO can E) (hT : tbO szs E 0) : g_M l yX6_firstFor wsX6_firstFor rm_X6_firstFor D cI cC [.ref q0, .int (nI a), .int (nI S)] (rW cI cC q0 q1 q2 q3 q4 q5 q6 q7 q8 q9 q10 q11 th ss asd sts sm snp hx tx lgt can szs ptn nms pth att isw rdd rmy) (fun vv ww => vv = some (.int (pI (spS E a S))) ∧ ww = (rW cI cC q0 q1 q2 q3 q4 q5 q6 q7 q8 q9 q10 q11 th ss asd sts sm snp hx tx lgt can szs ptn nms pth att isw rdd rmy)) := by
  refine g_entry (lv := [(0, .ref q0), (1, .int (nI a)), (2, .int (nI S))]) (own := RX6) (by decide) rfl rfl (Nat.le_of_ble_eq_true rfl) rfl ?_
  intro p e s m args below meth co A Q C hr hQ
  have w0 := szN_le E (8 - a) S (by omega)
  refine g_iconst (pc := 0) (v := nI 0) C dX6_firstFor_0 (by decide) ?_
  refine g_istore_n (pc := 1) (lv' := [(3, .int (nI 0)), (0, .ref q0), (1, .int (nI a)), (2, .int (nI S))]) C dX6_firstFor_1 rfl (by decide) rfl ?_
  have L2 : ∀ (NZ : Nat) (j : Nat), 8 - j < NZ → (j ≤ 8) → (∀ i, i < j → ((E a i && S.testBit i) && decide (1 + szN E (7 - a) (clr S i) = szN E (8 - a) S)) = false) → g_J p l e rm_X6_firstFor s m args below meth co Q D A 5 0 0 (rW cI cC q0 q1 q2 q3 q4 q5 q6 q7 q8 q9 q10 q11 th ss asd sts sm snp hx tx lgt can szs ptn nms pth att isw rdd rmy) 2 [(0, .ref q0), (1, .int (nI a)), (2, .int (nI S)), (3, .int (nI j))] [] := by
    intro NZ
    induction NZ with
    | zero => intro j hN; exact absurd hN (Nat.not_lt_zero _)
    | succ NZ ih2 =>
      intro j hN2 hj hf
      refine g_iload_n (pc := 2) C dX6_firstFor_2 3 rfl rfl ?_
      refine g_bipush (pc := 3) (v := nI 8) C dX6_firstFor_3 (by decide) ?_
      refine g_icmp_geN (pc := 5) C 68 (by omega) (by omega) dX6_firstFor_5 (by decide) (fun c5 => ?_) (fun c5 => ?_)
      · refine g_bipush (pc := 68) (v := (-5)) C dX6_firstFor_68 (by decide) ?_
        refine g_top (y := (pI (spS E a S))) (by rw [spS, fst_no (fun i hi => hf i (by omega))]; rfl) ?_
        exact g_iret C hr hQ dX6_firstFor_70 rfl ⟨rfl, rfl⟩
      · refine g_aload_n (pc := 8) C dX6_firstFor_8 0 rfl rfl ?_
        refine g_get (pc := 9) (ci := 6) (T := TX6) (N := 18) (v := .ref q6) C in_X6_firstFor_X6 0 rfl rfl 9 (by decide) fl_X6_firstFor_25 rfl rfl dX6_firstFor_9 ?_
        refine g_iload_n (pc := 12) C dX6_firstFor_12 1 rfl rfl ?_
        refine g_ialdN (pc := 13) (f := can) C 6 rfl (by omega) (by decide) dX6_firstFor_13 ?_
        refine g_top (y := nI (pmask (E a) 8)) (hC a ha) ?_
        refine g_iload_n (pc := 14) C dX6_firstFor_14 2 rfl rfl ?_
        refine g_iandN (pc := 15) C dX6_firstFor_15 ?_
        refine g_iconst (pc := 16) (v := nI 1) C dX6_firstFor_16 (by decide) ?_
        refine g_iload_n (pc := 17) C dX6_firstFor_17 3 rfl rfl ?_
        refine g_ishlN (pc := 18) C (by omega) dX6_firstFor_18 ?_
        refine g_iandN (pc := 19) C dX6_firstFor_19 ?_
        refine g_if_eqN (pc := 20) C 27 and3_lt dX6_firstFor_20 (by decide) (fun c20 => ?_) (fun c20 => ?_)
        · have qq := cb_f (f := E a) (S := S) (show j < 8 by omega) c20
          refine g_iconst (pc := 27) (v := nI 0) C dX6_firstFor_27 (by decide) ?_
          refine g_istore (pc := 28) (lv' := [(4, .int (nI 0)), (0, .ref q0), (1, .int (nI a)), (2, .int (nI S)), (3, .int (nI j))]) C dX6_firstFor_28 (by decide) rfl ?_
          refine g_iload (pc := 30) C dX6_firstFor_30 0 rfl ?_
          refine g_if_eqN (pc := 32) C 62 (by omega) dX6_firstFor_32 (by decide) (fun c32 => ?_) (fun c32 => ?_)
          · refine g_iinc (pc := 62) (lv' := [(3, .int (nI (j + 1))), (4, .int (nI 0)), (0, .ref q0), (1, .int (nI a)), (2, .int (nI S))]) C dX6_firstFor_62 4 rfl (nI_add j 1) (by decide) rfl ?_
            refine g_goto (pc := 65) C 2 dX6_firstFor_65 (by decide) ?_
            refine g_lvp (lv' := [(0, .ref q0), (1, .int (nI a)), (2, .int (nI S)), (3, .int (nI (j + 1)))]) [2, 3, 4, 0] rfl ?_
            exact ih2 (j + 1) (by omega) (by first | assumption | omega) (fun i h => (Nat.lt_succ_iff_lt_or_eq.mp h).elim (hf i) (fun e => by subst e; rw [qq]; rfl))
          · exact absurd rfl c32
        · have qq := cb_t (f := E a) (S := S) (show j < 8 by omega) c20
          refine g_iconst (pc := 23) (v := nI 1) C dX6_firstFor_23 (by decide) ?_
          refine g_goto (pc := 24) C 28 dX6_firstFor_24 (by decide) ?_
          refine g_istore (pc := 28) (lv' := [(4, .int (nI 1)), (0, .ref q0), (1, .int (nI a)), (2, .int (nI S)), (3, .int (nI j))]) C dX6_firstFor_28 (by decide) rfl ?_
          refine g_iload (pc := 30) C dX6_firstFor_30 0 rfl ?_
          refine g_if_eqN (pc := 32) C 62 (by omega) dX6_firstFor_32 (by decide) (fun c32 => ?_) (fun c32 => ?_)
          · exact absurd c32 (by decide)
          · refine g_iconst (pc := 35) (v := nI 1) C dX6_firstFor_35 (by decide) ?_
            refine g_aload_n (pc := 36) C dX6_firstFor_36 1 rfl rfl ?_
            refine g_iload_n (pc := 37) C dX6_firstFor_37 2 rfl rfl ?_
            refine g_iconst (pc := 38) (v := nI 1) C dX6_firstFor_38 (by decide) ?_
            refine g_iaddN (pc := 39) C dX6_firstFor_39 ?_
            refine g_iload_n (pc := 40) C dX6_firstFor_40 3 rfl rfl ?_
            refine g_iconst (pc := 41) (v := nI 1) C dX6_firstFor_41 (by decide) ?_
            refine g_iload_n (pc := 42) C dX6_firstFor_42 4 rfl rfl ?_
            refine g_ishlN (pc := 43) C (by omega) dX6_firstFor_43 ?_
            refine g_iconst (pc := 44) (v := (-1)) C dX6_firstFor_44 (by decide) ?_
            refine g_ixor (pc := 45) C dX6_firstFor_45 ?_
            refine g_iandX (pc := 46) C dX6_firstFor_46 ?_
            refine g_callV (pc := 47) (st := [.int (nI 1)]) (As := [.int (nI (a + 1)), .int (nI (g_nand S (1 <<< j)))]) (nn := 2) (ci := 6) (q0 := 0) C (m_X6_sizeOf l D cI cC q0 q1 q2 q3 q4 q5 q6 q7 q8 q9 q10 q11 th ss asd sts sm snp hx tx lgt can szs ptn nms pth att isw rdd rmy (a + 1) (g_nand S (1 <<< j)) (by first | assumption | omega) (clr_lt hS)) gX6_firstFor_X6_sizeOf rfl rfl rfl yd_X6_sizeOf ⟨Nat.le_of_ble_eq_true rfl, Nat.le_of_ble_eq_true rfl⟩ rfl [0, 1, 2, 3, 4, 5, 6, 7, 8, 9, 10, 11] rfl rfl rfl rfl rfl (Nat.le_of_ble_eq_true rfl) ⟨Nat.le_of_ble_eq_true rfl, Nat.le_of_ble_eq_true rfl⟩ dX6_firstFor_47 ?_
            rintro _ _ ⟨rfl, rfl⟩
            refine g_eq (ws' := (rW cI cC q0 q1 q2 q3 q4 q5 q6 q7 q8 q9 q10 q11 th ss asd sts sm snp hx tx lgt can szs ptn nms pth att isw rdd rmy)) (st' := [.int (szs (256 * (a + 1) + (g_nand S (1 <<< j)))), .int (nI 1)]) rfl rfl ?_
            refine g_top (y := nI (szN E (7 - a) (clr S j))) (by rw [← show clr S j = g_nand S (1 <<< j) from rfl, hT (a + 1) (clr S j) (by omega) (by omega) (clr_lt hS), show 8 - (a + 1) = 7 - a by omega]) ?_
            have w9 := szN_le E (7 - a) (clr S j) (by omega)
            refine g_iaddN (pc := 50) C dX6_firstFor_50 ?_
            refine g_aload_n (pc := 51) C dX6_firstFor_51 1 rfl rfl ?_
            refine g_iload_n (pc := 52) C dX6_firstFor_52 2 rfl rfl ?_
            refine g_iload_n (pc := 53) C dX6_firstFor_53 3 rfl rfl ?_
            refine g_callV (pc := 54) (st := [.int (nI (1 + (szN E (7 - a) (clr S j))))]) (As := [.int (nI a), .int (nI S)]) (nn := 2) (ci := 6) (q0 := 0) C (m_X6_sizeOf l D cI cC q0 q1 q2 q3 q4 q5 q6 q7 q8 q9 q10 q11 th ss asd sts sm snp hx tx lgt can szs ptn nms pth att isw rdd rmy a S (by first | assumption | omega) (by first | assumption | omega)) gX6_firstFor_X6_sizeOf rfl rfl rfl yd_X6_sizeOf ⟨Nat.le_of_ble_eq_true rfl, Nat.le_of_ble_eq_true rfl⟩ rfl [0, 1, 2, 3, 4, 5, 6, 7, 8, 9, 10, 11] rfl rfl rfl rfl rfl (Nat.le_of_ble_eq_true rfl) ⟨Nat.le_of_ble_eq_true rfl, Nat.le_of_ble_eq_true rfl⟩ dX6_firstFor_54 ?_
            rintro _ _ ⟨rfl, rfl⟩
            refine g_eq (ws' := (rW cI cC q0 q1 q2 q3 q4 q5 q6 q7 q8 q9 q10 q11 th ss asd sts sm snp hx tx lgt can szs ptn nms pth att isw rdd rmy)) (st' := [.int (szs (256 * a + S)), .int (nI (1 + (szN E (7 - a) (clr S j))))]) rfl rfl ?_
            refine g_top (y := nI (szN E (8 - a) S)) (hT a S (by omega) (by omega) hS) ?_
            refine g_icmp_neN (pc := 57) C 62 (by omega) (by omega) dX6_firstFor_57 (by decide) (fun c57 => ?_) (fun c57 => ?_)
            · refine g_iinc (pc := 62) (lv' := [(3, .int (nI (j + 1))), (4, .int (nI 1)), (0, .ref q0), (1, .int (nI a)), (2, .int (nI S))]) C dX6_firstFor_62 4 rfl (nI_add j 1) (by decide) rfl ?_
              refine g_goto (pc := 65) C 2 dX6_firstFor_65 (by decide) ?_
              refine g_lvp (lv' := [(0, .ref q0), (1, .int (nI a)), (2, .int (nI S)), (3, .int (nI (j + 1)))]) [2, 3, 4, 0] rfl ?_
              exact ih2 (j + 1) (by omega) (by first | assumption | omega) (fun i h => (Nat.lt_succ_iff_lt_or_eq.mp h).elim (hf i) (fun e => by subst e; rw [qq, decide_eq_false c57]; rfl))
            · refine g_iload_n (pc := 60) C dX6_firstFor_60 4 rfl rfl ?_
              refine g_top (y := (pI (spS E a S))) (by rw [spS, fst_at (by omega) (by rw [qq, decide_eq_true c57]; rfl) hf]; rfl) ?_
              exact g_iret C hr hQ dX6_firstFor_61 rfl ⟨rfl, rfl⟩
  refine g_lvp (lv' := [(0, .ref q0), (1, .int (nI a)), (2, .int (nI S)), (3, .int (nI 0))]) [1, 2, 3, 0] rfl ?_
  exact L2 _ 0 (Nat.lt_succ_self _) (by first | assumption | omega) (fun i h => absurd h (Nat.not_lt_zero _))

abbrev rm_X6_matches : Room := { frames := 4, cells := 0, slots := 0, locals := 89 }
theorem yd_X6_matches : yX6_matches.cls = RX6 ∧ yX6_matches.cls ≠ "java/lang/invoke/MethodHandle" ∧ yX6_matches.cls ≠ "java/lang/invoke/VarHandle" ∧ (parseMethodDescriptor yX6_matches.desc).map (fun d => d.parameters.length) = some 0 := by decide +kernel
theorem in_X6_matches_X6 : ∀ w ∈ u_ws RX6 TX6 18, w ∈ wsX6_matches := by decide +kernel
theorem fl_X6_matches_31 : Cond.fieldLink RX6 31 "FenceHandshakesModel" "partners" "[I" ∈ wsX6_matches := by decide +kernel
set_option maxHeartbeats 4000000 in
set_option maxRecDepth 100000 in
theorem m_X6_matches (l : Launch) (D : va_G) (cI cC : ClassId) (q0 q1 q2 q3 q4 q5 q6 q7 q8 q9 q10 q11 : Nat) (th : Int32) (ss : Nat → Int32) (asd : Nat → Int32) (sts : Nat → Int32) (sm : Int32) (snp : Nat → Int32) (hx : Int32) (tx : Nat → Int32) (lgt : Int32) (can : Nat → Int32) (szs : Nat → Int32) (ptn : Nat → Int32) (nms : Nat → Int32) (pth : Nat → Int32) (att : Int32) (isw : Int32) (rdd : Nat → Int32) (rmy : Int32) (c : Nat → Int32) (hS : SR c ss) : g_M l yX6_matches wsX6_matches rm_X6_matches D cI cC [.ref q0] (rW cI cC q0 q1 q2 q3 q4 q5 q6 q7 q8 q9 q10 q11 th ss asd sts sm snp hx tx lgt can szs ptn nms pth att isw rdd rmy) (fun vv ww => ∃ (can2 : Nat → Int32) (szs2 : Nat → Int32) (ptn2 : Nat → Int32), vv = some (.int (nI (szC c))) ∧ ww = (rW cI cC q0 q1 q2 q3 q4 q5 q6 q7 q8 q9 q10 q11 th ss asd sts sm snp hx tx lgt can2 szs2 ptn2 nms pth att isw rdd rmy) ∧ cnO can2 (EC c) ∧ ∀ a, a < 8 → ptn2 a = pI (spE (EC c) a)) := by
  refine g_entry (lv := [(0, .ref q0)]) (own := RX6) (by decide) rfl rfl (Nat.le_of_ble_eq_true rfl) rfl ?_
  intro p e s m args below meth co A Q C hr hQ
  refine g_aload_n (pc := 0) C dX6_matches_0 0 rfl rfl ?_
  refine g_bipush (pc := 1) (v := (-5)) C dX6_matches_1 (by decide) ?_
  refine g_callV (pc := 3) (st := []) (As := [.int (-5)]) (nn := 1) (ci := 6) (q0 := 0) C (m_X6_findsCan l D cI cC q0 q1 q2 q3 q4 q5 q6 q7 q8 q9 q10 q11 th ss asd sts sm snp hx tx lgt can szs ptn nms pth att isw rdd rmy c (-5) (by first | assumption | omega)) gX6_matches_X6_findsCan rfl rfl rfl yd_X6_findsCan ⟨Nat.le_of_ble_eq_true rfl, Nat.le_of_ble_eq_true rfl⟩ rfl [0, 1, 2, 3, 4, 5, 6, 7, 8, 9, 10, 11] rfl rfl rfl rfl rfl (Nat.le_of_ble_eq_true rfl) ⟨Nat.le_of_ble_eq_true rfl, Nat.le_of_ble_eq_true rfl⟩ dX6_matches_3 ?_
  rintro _ _ ⟨can9, rfl, rfl, u1⟩
  refine g_eq (ws' := (rW cI cC q0 q1 q2 q3 q4 q5 q6 q7 q8 q9 q10 q11 th ss asd sts sm snp hx tx lgt can9 szs ptn nms pth att isw rdd rmy)) (st' := []) rfl rfl ?_
  have u2 := cnO_EC u1
  refine g_aload_n (pc := 6) C dX6_matches_6 0 rfl rfl ?_
  refine g_callV (pc := 7) (st := []) (As := []) (nn := 0) (ci := 6) (q0 := 0) C (m_X6_fills l D cI cC q0 q1 q2 q3 q4 q5 q6 q7 q8 q9 q10 q11 th ss asd sts sm snp hx tx lgt can9 szs ptn nms pth att isw rdd rmy (EC c) (by first | assumption | omega)) gX6_matches_X6_fills rfl rfl rfl yd_X6_fills ⟨Nat.le_of_ble_eq_true rfl, Nat.le_of_ble_eq_true rfl⟩ rfl [0, 1, 2, 3, 4, 5, 6, 7, 8, 9, 10, 11] rfl rfl rfl rfl rfl (Nat.le_of_ble_eq_true rfl) ⟨Nat.le_of_ble_eq_true rfl, Nat.le_of_ble_eq_true rfl⟩ dX6_matches_7 ?_
  rintro _ _ ⟨szs9, rfl, rfl, u3⟩
  refine g_eq (ws' := (rW cI cC q0 q1 q2 q3 q4 q5 q6 q7 q8 q9 q10 q11 th ss asd sts sm snp hx tx lgt can9 szs9 ptn nms pth att isw rdd rmy)) (st' := [.int (nI (szN (EC c) 8 255))]) rfl rfl ?_
  refine g_istore_n (pc := 10) (lv' := [(1, .int (nI (szN (EC c) 8 255))), (0, .ref q0)]) C dX6_matches_10 rfl (by decide) rfl ?_
  refine g_sipush (pc := 11) (v := nI 255) C dX6_matches_11 (by decide) ?_
  refine g_top (y := nI (stS (EC c) 0)) (rfl) ?_
  refine g_istore_n (pc := 14) (lv' := [(2, .int (nI (stS (EC c) 0))), (1, .int (nI (szN (EC c) 8 255))), (0, .ref q0)]) C dX6_matches_14 rfl (by decide) rfl ?_
  refine g_iconst (pc := 15) (v := nI 0) C dX6_matches_15 (by decide) ?_
  refine g_istore_n (pc := 16) (lv' := [(3, .int (nI 0)), (2, .int (nI (stS (EC c) 0))), (1, .int (nI (szN (EC c) 8 255))), (0, .ref q0)]) C dX6_matches_16 rfl (by decide) rfl ?_
  have L17 : ∀ (NZ : Nat) (i : Nat) (ptn1 : Nat → Int32), 8 - i < NZ → (i ≤ 8) → (∀ a, a < i → ptn1 a = pI (spE (EC c) a)) → g_J p l e rm_X6_matches s m args below meth co Q D A 4 0 0 (rW cI cC q0 q1 q2 q3 q4 q5 q6 q7 q8 q9 q10 q11 th ss asd sts sm snp hx tx lgt can9 szs9 ptn1 nms pth att isw rdd rmy) 17 [(0, .ref q0), (1, .int (nI (szC c))), (2, .int (nI (stS (EC c) i))), (3, .int (nI i))] [] := by
    intro NZ
    induction NZ with
    | zero => intro i ptn1 hN; exact absurd hN (Nat.not_lt_zero _)
    | succ NZ ih17 =>
      intro i ptn1 hN17 hi hp
      refine g_iload_n (pc := 17) C dX6_matches_17 3 rfl rfl ?_
      refine g_bipush (pc := 18) (v := nI 8) C dX6_matches_18 (by decide) ?_
      refine g_icmp_geN (pc := 20) C 69 (by omega) (by omega) dX6_matches_20 (by decide) (fun c20 => ?_) (fun c20 => ?_)
      · refine g_iload_n (pc := 69) C dX6_matches_69 1 rfl rfl ?_
        refine g_top (y := nI (szC c)) (rfl) ?_
        exact g_iret C hr hQ dX6_matches_70 rfl ⟨_, _, _, rfl, rfl, u2, fun a ha => hp a (by omega)⟩
      · refine g_aload_n (pc := 23) C dX6_matches_23 0 rfl rfl ?_
        refine g_get (pc := 24) (ci := 6) (T := TX6) (N := 18) (v := .ref q8) C in_X6_matches_X6 0 rfl rfl 11 (by decide) fl_X6_matches_31 rfl rfl dX6_matches_24 ?_
        refine g_iload_n (pc := 27) C dX6_matches_27 3 rfl rfl ?_
        refine g_aload_n (pc := 28) C dX6_matches_28 0 rfl rfl ?_
        refine g_iload_n (pc := 29) C dX6_matches_29 3 rfl rfl ?_
        refine g_iload_n (pc := 30) C dX6_matches_30 2 rfl rfl ?_
        refine g_callV (pc := 31) (st := [.int (nI i), .ref q8]) (As := [.int (nI i), .int (nI (stS (EC c) i))]) (nn := 2) (ci := 6) (q0 := 0) C (m_X6_firstFor l D cI cC q0 q1 q2 q3 q4 q5 q6 q7 q8 q9 q10 q11 th ss asd sts sm snp hx tx lgt can9 szs9 ptn1 nms pth att isw rdd rmy (EC c) i (stS (EC c) i) (by first | assumption | omega) (stS_lt _ _) (by first | assumption | omega) (by first | assumption | omega)) gX6_matches_X6_firstFor rfl rfl rfl yd_X6_firstFor ⟨Nat.le_of_ble_eq_true rfl, Nat.le_of_ble_eq_true rfl⟩ rfl [0, 1, 2, 3, 4, 5, 6, 7, 8, 9, 10, 11] rfl rfl rfl rfl rfl (Nat.le_of_ble_eq_true rfl) ⟨Nat.le_of_ble_eq_true rfl, Nat.le_of_ble_eq_true rfl⟩ dX6_matches_31 ?_
        rintro _ _ ⟨rfl, rfl⟩
        refine g_eq (ws' := (rW cI cC q0 q1 q2 q3 q4 q5 q6 q7 q8 q9 q10 q11 th ss asd sts sm snp hx tx lgt can9 szs9 ptn1 nms pth att isw rdd rmy)) (st' := [.int (pI (spS (EC c) i (stS (EC c) i))), .int (nI i), .ref q8]) rfl rfl ?_
        refine g_iastN (pc := 34) (f := ptn1) (ws' := (rW cI cC q0 q1 q2 q3 q4 q5 q6 q7 q8 q9 q10 q11 th ss asd sts sm snp hx tx lgt can9 szs9 (upd ptn1 i ((pI (spS (EC c) i (stS (EC c) i))))) nms pth att isw rdd rmy)) C 8 rfl (by omega) (by decide) dX6_matches_34 rfl ?_
        refine g_iload_n (pc := 35) C dX6_matches_35 2 rfl rfl ?_
        refine g_aload_n (pc := 36) C dX6_matches_36 0 rfl rfl ?_
        refine g_get (pc := 37) (ci := 6) (T := TX6) (N := 18) (v := .ref q8) C in_X6_matches_X6 0 rfl rfl 11 (by decide) fl_X6_matches_31 rfl rfl dX6_matches_37 ?_
        refine g_iload_n (pc := 40) C dX6_matches_40 3 rfl rfl ?_
        refine g_ialdN (pc := 41) (f := (upd ptn1 i ((pI (spS (EC c) i (stS (EC c) i)))))) C 8 rfl (by omega) (by decide) dX6_matches_41 ?_
        refine g_top (y := (pI (spE (EC c) i))) (upd_eq) ?_
        refine g_bipush (pc := 42) (v := (-5)) C dX6_matches_42 (by decide) ?_
        refine g_icmp_ne (pc := 44) C 51 dX6_matches_44 (by decide) (fun c44 => ?_) (fun c44 => ?_)
        · obtain ⟨y, ey⟩ : ∃ y, spE (EC c) i = some y := by cases hq : spE (EC c) i with | none => (rw [hq] at c44; exact absurd rfl c44) | some y => exact ⟨y, rfl⟩
          have hy : y < 8 := spE_lt i y ey
          refine g_iconst (pc := 51) (v := nI 1) C dX6_matches_51 (by decide) ?_
          refine g_aload_n (pc := 52) C dX6_matches_52 0 rfl rfl ?_
          refine g_get (pc := 53) (ci := 6) (T := TX6) (N := 18) (v := .ref q8) C in_X6_matches_X6 0 rfl rfl 11 (by decide) fl_X6_matches_31 rfl rfl dX6_matches_53 ?_
          refine g_iload_n (pc := 56) C dX6_matches_56 3 rfl rfl ?_
          refine g_ialdN (pc := 57) (f := (upd ptn1 i ((pI (spS (EC c) i (stS (EC c) i)))))) C 8 rfl (by omega) (by decide) dX6_matches_57 ?_
          refine g_top (y := nI y) (by rw [upd_eq]; exact (congrArg pI ey)) ?_
          refine g_ishlN (pc := 58) C (by omega) dX6_matches_58 ?_
          refine g_iconst (pc := 59) (v := (-1)) C dX6_matches_59 (by decide) ?_
          refine g_ixor (pc := 60) C dX6_matches_60 ?_
          refine g_iandX (pc := 61) C dX6_matches_61 ?_
          refine g_istore_n (pc := 62) (lv' := [(2, .int (nI (g_nand (stS (EC c) i) (1 <<< y)))), (0, .ref q0), (1, .int (nI (szC c))), (3, .int (nI i))]) C dX6_matches_62 rfl (by decide) rfl ?_
          refine g_iinc (pc := 63) (lv' := [(3, .int (nI (i + 1))), (2, .int (nI (g_nand (stS (EC c) i) (1 <<< y)))), (0, .ref q0), (1, .int (nI (szC c)))]) C dX6_matches_63 3 rfl (nI_add i 1) (by decide) rfl ?_
          refine g_goto (pc := 66) C 17 dX6_matches_66 (by decide) ?_
          refine g_lveq (lv' := [(3, .int (nI (i + 1))), (2, .int (nI (stS (EC c) (i + 1)))), (0, .ref q0), (1, .int (nI (szC c)))]) (by rw [stS_s ey]; rfl) ?_
          refine g_lvp (lv' := [(0, .ref q0), (1, .int (nI (szC c))), (2, .int (nI (stS (EC c) (i + 1)))), (3, .int (nI (i + 1)))]) [2, 3, 1, 0] rfl ?_
          exact ih17 (i + 1) (upd ptn1 i ((pI (spS (EC c) i (stS (EC c) i))))) (by omega) (by first | assumption | omega) (fun a h => (Nat.lt_succ_iff_lt_or_eq.mp h).elim (fun q => by rw [upd_ne (by omega)]; exact hp a q) (fun e => by subst e; exact upd_eq))
        · have eN : spE (EC c) i = none := by cases hq : spE (EC c) i with | none => rfl | some y => (rw [hq] at c44; exact absurd c44 (nI_m5 (by have := spE_lt i y hq; omega)))
          refine g_iconst (pc := 47) (v := (-1)) C dX6_matches_47 (by decide) ?_
          refine g_goto (pc := 48) C 61 dX6_matches_48 (by decide) ?_
          refine g_iand (pc := 61) C dX6_matches_61 ?_
          refine g_istore_n (pc := 62) (lv' := [(2, .int ((nI (stS (EC c) i)) &&& (-1))), (0, .ref q0), (1, .int (nI (szC c))), (3, .int (nI i))]) C dX6_matches_62 rfl (by decide) rfl ?_
          refine g_iinc (pc := 63) (lv' := [(3, .int (nI (i + 1))), (2, .int ((nI (stS (EC c) i)) &&& (-1))), (0, .ref q0), (1, .int (nI (szC c)))]) C dX6_matches_63 3 rfl (nI_add i 1) (by decide) rfl ?_
          refine g_goto (pc := 66) C 17 dX6_matches_66 (by decide) ?_
          refine g_lveq (lv' := [(3, .int (nI (i + 1))), (2, .int (nI (stS (EC c) (i + 1)))), (0, .ref q0), (1, .int (nI (szC c)))]) (by rw [stS_n eN, show nI (stS (EC c) i) &&& (-1) = nI (stS (EC c) i) from Int32.and_neg_one]) ?_
          refine g_lvp (lv' := [(0, .ref q0), (1, .int (nI (szC c))), (2, .int (nI (stS (EC c) (i + 1)))), (3, .int (nI (i + 1)))]) [2, 3, 1, 0] rfl ?_
          exact ih17 (i + 1) (upd ptn1 i ((pI (spS (EC c) i (stS (EC c) i))))) (by omega) (by first | assumption | omega) (fun a h => (Nat.lt_succ_iff_lt_or_eq.mp h).elim (fun q => by rw [upd_ne (by omega)]; exact hp a q) (fun e => by subst e; exact upd_eq))
  refine g_lvp (lv' := [(0, .ref q0), (1, .int (nI (szN (EC c) 8 255))), (2, .int (nI (stS (EC c) 0))), (3, .int (nI 0))]) [3, 2, 1, 0] rfl ?_
  exact L17 _ 0 ptn (Nat.lt_succ_self _) (by first | assumption | omega) (fun a h => absurd h (Nat.not_lt_zero _))

abbrev rm_X6_shakes : Room := { frames := 5, cells := 0, slots := 0, locals := 112 }
theorem yd_X6_shakes : yX6_shakes.cls = RX6 ∧ yX6_shakes.cls ≠ "java/lang/invoke/MethodHandle" ∧ yX6_shakes.cls ≠ "java/lang/invoke/VarHandle" ∧ (parseMethodDescriptor yX6_shakes.desc).map (fun d => d.parameters.length) = some 0 := by decide +kernel
theorem in_X6_shakes_X6 : ∀ w ∈ u_ws RX6 TX6 18, w ∈ wsX6_shakes := by decide +kernel
theorem fl_X6_shakes_7 : Cond.fieldLink RX6 7 "FenceHandshakesModel" "s" "[I" ∈ wsX6_shakes := by decide +kernel
theorem fl_X6_shakes_31 : Cond.fieldLink RX6 31 "FenceHandshakesModel" "partners" "[I" ∈ wsX6_shakes := by decide +kernel
set_option maxHeartbeats 4000000 in
set_option maxRecDepth 100000 in
theorem m_X6_shakes (l : Launch) (D : va_G) (cI cC : ClassId) (q0 q1 q2 q3 q4 q5 q6 q7 q8 q9 q10 q11 : Nat) (th : Int32) (ss : Nat → Int32) (asd : Nat → Int32) (sts : Nat → Int32) (sm : Int32) (snp : Nat → Int32) (hx : Int32) (tx : Nat → Int32) (lgt : Int32) (can : Nat → Int32) (szs : Nat → Int32) (ptn : Nat → Int32) (nms : Nat → Int32) (pth : Nat → Int32) (att : Int32) (isw : Int32) (rdd : Nat → Int32) (rmy : Int32) (c : Nat → Int32) (hS : SR c ss) : g_M l yX6_shakes wsX6_shakes rm_X6_shakes D cI cC [.ref q0] (rW cI cC q0 q1 q2 q3 q4 q5 q6 q7 q8 q9 q10 q11 th ss asd sts sm snp hx tx lgt can szs ptn nms pth att isw rdd rmy) (fun vv ww => ∃ (can2 : Nat → Int32) (szs2 : Nat → Int32) (ptn2 : Nat → Int32) (ss2 : Nat → Int32), vv = some (.int (nI (szC c))) ∧ ww = (rW cI cC q0 q1 q2 q3 q4 q5 q6 q7 q8 q9 q10 q11 th ss2 asd sts sm snp hx tx lgt can2 szs2 ptn2 nms pth att isw rdd rmy) ∧ SR (rnd c) ss2) := by
  refine g_entry (lv := [(0, .ref q0)]) (own := RX6) (by decide) rfl rfl (Nat.le_of_ble_eq_true rfl) rfl ?_
  intro p e s m args below meth co A Q C hr hQ
  refine g_aload_n (pc := 0) C dX6_shakes_0 0 rfl rfl ?_
  refine g_callV (pc := 1) (st := []) (As := []) (nn := 0) (ci := 6) (q0 := 0) C (m_X6_matches l D cI cC q0 q1 q2 q3 q4 q5 q6 q7 q8 q9 q10 q11 th ss asd sts sm snp hx tx lgt can szs ptn nms pth att isw rdd rmy c (by first | assumption | omega)) gX6_shakes_X6_matches rfl rfl rfl yd_X6_matches ⟨Nat.le_of_ble_eq_true rfl, Nat.le_of_ble_eq_true rfl⟩ rfl [0, 1, 2, 3, 4, 5, 6, 7, 8, 9, 10, 11] rfl rfl rfl rfl rfl (Nat.le_of_ble_eq_true rfl) ⟨Nat.le_of_ble_eq_true rfl, Nat.le_of_ble_eq_true rfl⟩ dX6_shakes_1 ?_
  rintro _ _ ⟨can9, szs9, ptn9, rfl, rfl, u1, u2⟩
  refine g_eq (ws' := (rW cI cC q0 q1 q2 q3 q4 q5 q6 q7 q8 q9 q10 q11 th ss asd sts sm snp hx tx lgt can9 szs9 ptn9 nms pth att isw rdd rmy)) (st' := [.int (nI (szC c))]) rfl rfl ?_
  refine g_istore_n (pc := 4) (lv' := [(1, .int (nI (szC c))), (0, .ref q0)]) C dX6_shakes_4 rfl (by decide) rfl ?_
  refine g_iconst (pc := 5) (v := nI 0) C dX6_shakes_5 (by decide) ?_
  refine g_istore_n (pc := 6) (lv' := [(2, .int (nI 0)), (1, .int (nI (szC c))), (0, .ref q0)]) C dX6_shakes_6 rfl (by decide) rfl ?_
  have L7 : ∀ (NZ : Nat) (i : Nat) (ss1 : Nat → Int32), 8 - i < NZ → (i ≤ 8) → (SR (rsh c (spE (EC c)) i) ss1) → g_J p l e rm_X6_shakes s m args below meth co Q D A 3 0 0 (rW cI cC q0 q1 q2 q3 q4 q5 q6 q7 q8 q9 q10 q11 th ss1 asd sts sm snp hx tx lgt can9 szs9 ptn9 nms pth att isw rdd rmy) 7 [(0, .ref q0), (1, .int (nI (szC c))), (2, .int (nI i))] [] := by
    intro NZ
    induction NZ with
    | zero => intro i ss1 hN; exact absurd hN (Nat.not_lt_zero _)
    | succ NZ ih7 =>
      intro i ss1 hN7 hi hS1
      refine g_iload_n (pc := 7) C dX6_shakes_7 2 rfl rfl ?_
      refine g_bipush (pc := 8) (v := nI 8) C dX6_shakes_8 (by decide) ?_
      refine g_icmp_geN (pc := 10) C 74 (by omega) (by omega) dX6_shakes_10 (by decide) (fun c10 => ?_) (fun c10 => ?_)
      · have hS8 := hS1
        rw [show i = 8 by omega] at hS8
        refine g_iconst (pc := 74) (v := nI 0) C dX6_shakes_74 (by decide) ?_
        refine g_ws (ws' := (rW cI cC q0 q1 q2 q3 q4 q5 q6 q7 q8 q9 q10 q11 th (fdF ss1 0) asd sts sm snp hx tx lgt can9 szs9 ptn9 nms pth att isw rdd rmy)) (by rw [fdF_0]) ?_
        refine g_istore_n (pc := 75) (lv' := [(2, .int (nI 0)), (0, .ref q0), (1, .int (nI (szC c)))]) C dX6_shakes_75 rfl (by decide) rfl ?_
        have L76 : ∀ (NZ : Nat) (j : Nat), 64 - j < NZ → (j ≤ 64) → g_J p l e rm_X6_shakes s m args below meth co Q D A 3 0 0 (rW cI cC q0 q1 q2 q3 q4 q5 q6 q7 q8 q9 q10 q11 th (fdF ss1 j) asd sts sm snp hx tx lgt can9 szs9 ptn9 nms pth att isw rdd rmy) 76 [(0, .ref q0), (1, .int (nI (szC c))), (2, .int (nI j))] [] := by
          intro NZ
          induction NZ with
          | zero => intro j hN; exact absurd hN (Nat.not_lt_zero _)
          | succ NZ ih76 =>
            intro j hN76 hj
            refine g_iload_n (pc := 76) C dX6_shakes_76 2 rfl rfl ?_
            refine g_bipush (pc := 77) (v := nI 64) C dX6_shakes_77 (by decide) ?_
            refine g_icmp_geN (pc := 79) C 117 (by omega) (by omega) dX6_shakes_79 (by decide) (fun c79 => ?_) (fun c79 => ?_)
            · refine g_ws (ws' := (rW cI cC q0 q1 q2 q3 q4 q5 q6 q7 q8 q9 q10 q11 th (fdF ss1 64) asd sts sm snp hx tx lgt can9 szs9 ptn9 nms pth att isw rdd rmy)) (by rw [show j = 64 by omega]) ?_
              refine g_aload_n (pc := 117) C dX6_shakes_117 0 rfl rfl ?_
              refine g_get (pc := 118) (ci := 6) (T := TX6) (N := 18) (v := .ref q1) C in_X6_shakes_X6 0 rfl rfl 1 (by decide) fl_X6_shakes_7 rfl rfl dX6_shakes_118 ?_
              refine g_iconst (pc := 121) (v := nI 0) C dX6_shakes_121 (by decide) ?_
              refine g_dup2 (pc := 122) C dX6_shakes_122 rfl rfl ?_
              refine g_ialdN (pc := 123) (f := (fdF ss1 64)) C 1 rfl (by omega) (by decide) dX6_shakes_123 ?_
              refine g_top (y := (ss1 0)) (fdF_o _ (by omega) (by omega)) ?_
              refine g_iconst (pc := 124) (v := nI 1) C dX6_shakes_124 (by decide) ?_
              refine g_iadd (pc := 125) C dX6_shakes_125 ?_
              refine g_iastN (pc := 126) (f := (fdF ss1 64)) (ws' := (rW cI cC q0 q1 q2 q3 q4 q5 q6 q7 q8 q9 q10 q11 th (upd (fdF ss1 64) 0 (((ss1 0) + (nI 1)))) asd sts sm snp hx tx lgt can9 szs9 ptn9 nms pth att isw rdd rmy)) C 1 rfl (by omega) (by decide) dX6_shakes_126 rfl ?_
              refine g_iload_n (pc := 127) C dX6_shakes_127 1 rfl rfl ?_
              exact g_iret C hr hQ dX6_shakes_128 rfl ⟨_, _, _, _, rfl, rfl, hS8.fin⟩
            · refine g_aload_n (pc := 82) C dX6_shakes_82 0 rfl rfl ?_
              refine g_get (pc := 83) (ci := 6) (T := TX6) (N := 18) (v := .ref q1) C in_X6_shakes_X6 0 rfl rfl 1 (by decide) fl_X6_shakes_7 rfl rfl dX6_shakes_83 ?_
              refine g_bipush (pc := 86) (v := nI 33) C dX6_shakes_86 (by decide) ?_
              refine g_iload_n (pc := 88) C dX6_shakes_88 2 rfl rfl ?_
              refine g_iaddN (pc := 89) C dX6_shakes_89 ?_
              refine g_dup2 (pc := 90) C dX6_shakes_90 rfl rfl ?_
              refine g_ialdN (pc := 91) (f := (fdF ss1 j)) C 1 rfl (by omega) (by decide) dX6_shakes_91 ?_
              refine g_top (y := (ss1 (33 + j))) (fdF_at _ _) ?_
              refine g_aload_n (pc := 92) C dX6_shakes_92 0 rfl rfl ?_
              refine g_get (pc := 93) (ci := 6) (T := TX6) (N := 18) (v := .ref q1) C in_X6_shakes_X6 0 rfl rfl 1 (by decide) fl_X6_shakes_7 rfl rfl dX6_shakes_93 ?_
              refine g_bipush (pc := 96) (v := nI 33) C dX6_shakes_96 (by decide) ?_
              refine g_iload_n (pc := 98) C dX6_shakes_98 2 rfl rfl ?_
              refine g_iaddN (pc := 99) C dX6_shakes_99 ?_
              refine g_ialdN (pc := 100) (f := (fdF ss1 j)) C 1 rfl (by omega) (by decide) dX6_shakes_100 ?_
              refine g_top (y := (ss1 (33 + j))) (fdF_at _ _) ?_
              refine g_if_le (pc := 101) C 108 dX6_shakes_101 (by decide) (fun c101 => ?_) (fun c101 => ?_)
              · refine g_iconst (pc := 108) (v := nI 0) C dX6_shakes_108 (by decide) ?_
                refine g_isub (pc := 109) C dX6_shakes_109 ?_
                refine g_iastN (pc := 110) (f := (fdF ss1 j)) (ws' := (rW cI cC q0 q1 q2 q3 q4 q5 q6 q7 q8 q9 q10 q11 th (upd (fdF ss1 j) (33 + j) (((ss1 (33 + j)) - (nI 0)))) asd sts sm snp hx tx lgt can9 szs9 ptn9 nms pth att isw rdd rmy)) C 1 rfl (by omega) (by decide) dX6_shakes_110 rfl ?_
                refine g_iinc (pc := 111) (lv' := [(2, .int (nI (j + 1))), (0, .ref q0), (1, .int (nI (szC c)))]) C dX6_shakes_111 2 rfl (nI_add j 1) (by decide) rfl ?_
                refine g_goto (pc := 114) C 76 dX6_shakes_114 (by decide) ?_
                refine g_ws (ws' := (rW cI cC q0 q1 q2 q3 q4 q5 q6 q7 q8 q9 q10 q11 th (fdF ss1 (j + 1)) asd sts sm snp hx tx lgt can9 szs9 ptn9 nms pth att isw rdd rmy)) (by rw [fdF_n _ (Int32.not_lt.mpr c101)]) ?_
                refine g_lvp (lv' := [(0, .ref q0), (1, .int (nI (szC c))), (2, .int (nI (j + 1)))]) [1, 2, 0] rfl ?_
                exact ih76 (j + 1) (by omega) (by first | assumption | omega)
              · refine g_iconst (pc := 104) (v := nI 1) C dX6_shakes_104 (by decide) ?_
                refine g_goto (pc := 105) C 109 dX6_shakes_105 (by decide) ?_
                refine g_isub (pc := 109) C dX6_shakes_109 ?_
                refine g_iastN (pc := 110) (f := (fdF ss1 j)) (ws' := (rW cI cC q0 q1 q2 q3 q4 q5 q6 q7 q8 q9 q10 q11 th (upd (fdF ss1 j) (33 + j) (((ss1 (33 + j)) - (nI 1)))) asd sts sm snp hx tx lgt can9 szs9 ptn9 nms pth att isw rdd rmy)) C 1 rfl (by omega) (by decide) dX6_shakes_110 rfl ?_
                refine g_iinc (pc := 111) (lv' := [(2, .int (nI (j + 1))), (0, .ref q0), (1, .int (nI (szC c)))]) C dX6_shakes_111 2 rfl (nI_add j 1) (by decide) rfl ?_
                refine g_goto (pc := 114) C 76 dX6_shakes_114 (by decide) ?_
                refine g_ws (ws' := (rW cI cC q0 q1 q2 q3 q4 q5 q6 q7 q8 q9 q10 q11 th (fdF ss1 (j + 1)) asd sts sm snp hx tx lgt can9 szs9 ptn9 nms pth att isw rdd rmy)) (by rw [fdF_s _ (Int32.not_le.mp c101)]) ?_
                refine g_lvp (lv' := [(0, .ref q0), (1, .int (nI (szC c))), (2, .int (nI (j + 1)))]) [1, 2, 0] rfl ?_
                exact ih76 (j + 1) (by omega) (by first | assumption | omega)
        refine g_lvp (lv' := [(0, .ref q0), (1, .int (nI (szC c))), (2, .int (nI 0))]) [1, 2, 0] rfl ?_
        exact L76 _ 0 (Nat.lt_succ_self _) (by first | assumption | omega)
      · refine g_aload_n (pc := 13) C dX6_shakes_13 0 rfl rfl ?_
        refine g_get (pc := 14) (ci := 6) (T := TX6) (N := 18) (v := .ref q8) C in_X6_shakes_X6 0 rfl rfl 11 (by decide) fl_X6_shakes_31 rfl rfl dX6_shakes_14 ?_
        refine g_iload_n (pc := 17) C dX6_shakes_17 2 rfl rfl ?_
        refine g_ialdN (pc := 18) (f := ptn9) C 8 rfl (by omega) (by decide) dX6_shakes_18 ?_
        refine g_top (y := (pI (spE (EC c) i))) (u2 i (by omega)) ?_
        refine g_bipush (pc := 19) (v := (-5)) C dX6_shakes_19 (by decide) ?_
        refine g_icmp_eq (pc := 21) C 68 dX6_shakes_21 (by decide) (fun c21 => ?_) (fun c21 => ?_)
        · have eN : spE (EC c) i = none := by cases hq : spE (EC c) i with | none => rfl | some y => (rw [hq] at c21; exact absurd c21 (nI_m5 (by have := spE_lt i y hq; omega)))
          refine g_iinc (pc := 68) (lv' := [(2, .int (nI (i + 1))), (0, .ref q0), (1, .int (nI (szC c)))]) C dX6_shakes_68 2 rfl (nI_add i 1) (by decide) rfl ?_
          refine g_goto (pc := 71) C 7 dX6_shakes_71 (by decide) ?_
          refine g_lvp (lv' := [(0, .ref q0), (1, .int (nI (szC c))), (2, .int (nI (i + 1)))]) [1, 2, 0] rfl ?_
          exact ih7 (i + 1) ss1 (by omega) (by first | assumption | omega) (by rw [rsh, eN]; exact hS1)
        · obtain ⟨y, ey⟩ : ∃ y, spE (EC c) i = some y := by cases hq : spE (EC c) i with | none => (rw [hq] at c21; exact absurd rfl c21) | some y => exact ⟨y, rfl⟩
          have hy : y < 8 := spE_lt i y ey
          refine g_aload_n (pc := 24) C dX6_shakes_24 0 rfl rfl ?_
          refine g_get (pc := 25) (ci := 6) (T := TX6) (N := 18) (v := .ref q1) C in_X6_shakes_X6 0 rfl rfl 1 (by decide) fl_X6_shakes_7 rfl rfl dX6_shakes_25 ?_
          refine g_bipush (pc := 28) (v := nI 97) C dX6_shakes_28 (by decide) ?_
          refine g_bipush (pc := 30) (v := nI 8) C dX6_shakes_30 (by decide) ?_
          refine g_iload_n (pc := 32) C dX6_shakes_32 2 rfl rfl ?_
          refine g_imulN (pc := 33) C dX6_shakes_33 ?_
          refine g_iaddN (pc := 34) C dX6_shakes_34 ?_
          refine g_aload_n (pc := 35) C dX6_shakes_35 0 rfl rfl ?_
          refine g_get (pc := 36) (ci := 6) (T := TX6) (N := 18) (v := .ref q8) C in_X6_shakes_X6 0 rfl rfl 11 (by decide) fl_X6_shakes_31 rfl rfl dX6_shakes_36 ?_
          refine g_iload_n (pc := 39) C dX6_shakes_39 2 rfl rfl ?_
          refine g_ialdN (pc := 40) (f := ptn9) C 8 rfl (by omega) (by decide) dX6_shakes_40 ?_
          refine g_top (y := nI y) (by rw [u2 i (by omega)]; exact (congrArg pI ey)) ?_
          refine g_iaddN (pc := 41) C dX6_shakes_41 ?_
          refine g_iconst (pc := 42) (v := nI 0) C dX6_shakes_42 (by decide) ?_
          refine g_iastN (pc := 43) (f := ss1) (ws' := (rW cI cC q0 q1 q2 q3 q4 q5 q6 q7 q8 q9 q10 q11 th (upd ss1 ((97 + (8 * i)) + y) (nI 0)) asd sts sm snp hx tx lgt can9 szs9 ptn9 nms pth att isw rdd rmy)) C 1 rfl (by omega) (by decide) dX6_shakes_43 rfl ?_
          refine g_aload_n (pc := 44) C dX6_shakes_44 0 rfl rfl ?_
          refine g_get (pc := 45) (ci := 6) (T := TX6) (N := 18) (v := .ref q1) C in_X6_shakes_X6 0 rfl rfl 1 (by decide) fl_X6_shakes_7 rfl rfl dX6_shakes_45 ?_
          refine g_sipush (pc := 48) (v := nI 161) C dX6_shakes_48 (by decide) ?_
          refine g_bipush (pc := 51) (v := nI 8) C dX6_shakes_51 (by decide) ?_
          refine g_iload_n (pc := 53) C dX6_shakes_53 2 rfl rfl ?_
          refine g_imulN (pc := 54) C dX6_shakes_54 ?_
          refine g_iaddN (pc := 55) C dX6_shakes_55 ?_
          refine g_aload_n (pc := 56) C dX6_shakes_56 0 rfl rfl ?_
          refine g_get (pc := 57) (ci := 6) (T := TX6) (N := 18) (v := .ref q8) C in_X6_shakes_X6 0 rfl rfl 11 (by decide) fl_X6_shakes_31 rfl rfl dX6_shakes_57 ?_
          refine g_iload_n (pc := 60) C dX6_shakes_60 2 rfl rfl ?_
          refine g_ialdN (pc := 61) (f := ptn9) C 8 rfl (by omega) (by decide) dX6_shakes_61 ?_
          refine g_top (y := nI y) (by rw [u2 i (by omega)]; exact (congrArg pI ey)) ?_
          refine g_iaddN (pc := 62) C dX6_shakes_62 ?_
          refine g_dup2 (pc := 63) C dX6_shakes_63 rfl rfl ?_
          refine g_ialdN (pc := 64) (f := (upd ss1 ((97 + (8 * i)) + y) (nI 0))) C 1 rfl (by omega) (by decide) dX6_shakes_64 ?_
          refine g_top (y := (taC (rsh c (spE (EC c)) i) i y)) (by rw [upd_ne (by omega)]; exact hS1.ta (by omega) hy) ?_
          refine g_iconst (pc := 65) (v := nI 1) C dX6_shakes_65 (by decide) ?_
          refine g_iadd (pc := 66) C dX6_shakes_66 ?_
          refine g_iastN (pc := 67) (f := (upd ss1 ((97 + (8 * i)) + y) (nI 0))) (ws' := (rW cI cC q0 q1 q2 q3 q4 q5 q6 q7 q8 q9 q10 q11 th (upd (upd ss1 ((97 + (8 * i)) + y) (nI 0)) ((161 + (8 * i)) + y) (((taC (rsh c (spE (EC c)) i) i y) + (nI 1)))) asd sts sm snp hx tx lgt can9 szs9 ptn9 nms pth att isw rdd rmy)) C 1 rfl (by omega) (by decide) dX6_shakes_67 rfl ?_
          refine g_iinc (pc := 68) (lv' := [(2, .int (nI (i + 1))), (0, .ref q0), (1, .int (nI (szC c)))]) C dX6_shakes_68 2 rfl (nI_add i 1) (by decide) rfl ?_
          refine g_goto (pc := 71) C 7 dX6_shakes_71 (by decide) ?_
          refine g_lvp (lv' := [(0, .ref q0), (1, .int (nI (szC c))), (2, .int (nI (i + 1)))]) [1, 2, 0] rfl ?_
          exact ih7 (i + 1) (upd (upd ss1 ((97 + (8 * i)) + y) (nI 0)) ((161 + (8 * i)) + y) (((taC (rsh c (spE (EC c)) i) i y) + (nI 1)))) (by omega) (by first | assumption | omega) (by rw [rsh, ey]; exact hS1.shk (by omega) hy)
  refine g_lvp (lv' := [(0, .ref q0), (1, .int (nI (szC c))), (2, .int (nI 0))]) [2, 1, 0] rfl ?_
  exact L7 _ 0 ss (Nat.lt_succ_self _) (by first | assumption | omega) (by first | assumption | omega)

abbrev rm_X6_round : Room := { frames := 6, cells := 0, slots := 0, locals := 134 }
theorem yd_X6_round : yX6_round.cls = RX6 ∧ yX6_round.cls ≠ "java/lang/invoke/MethodHandle" ∧ yX6_round.cls ≠ "java/lang/invoke/VarHandle" ∧ (parseMethodDescriptor yX6_round.desc).map (fun d => d.parameters.length) = some 0 := by decide +kernel
theorem in_X6_round_X6 : ∀ w ∈ u_ws RX6 TX6 18, w ∈ wsX6_round := by decide +kernel
theorem fl_X6_round_43 : Cond.fieldLink RX6 43 "FenceHandshakesModel" "thrown" "I" ∈ wsX6_round := by decide +kernel
set_option maxHeartbeats 4000000 in
set_option maxRecDepth 100000 in
theorem m_X6_round (l : Launch) (D : va_G) (cI cC : ClassId) (q0 q1 q2 q3 q4 q5 q6 q7 q8 q9 q10 q11 : Nat) (th : Int32) (ss : Nat → Int32) (asd : Nat → Int32) (sts : Nat → Int32) (snp : Nat → Int32) (hx : Int32) (tx : Nat → Int32) (lgt : Int32) (can : Nat → Int32) (szs : Nat → Int32) (ptn : Nat → Int32) (nms : Nat → Int32) (pth : Nat → Int32) (att : Int32) (isw : Int32) (rdd : Nat → Int32) (rmy : Int32) (z : Nat) (c : Nat → Int32) (hS : SR c ss) (hz : z ≤ 5) : g_M l yX6_round wsX6_round rm_X6_round D cI cC [.ref q0] (rW cI cC q0 q1 q2 q3 q4 q5 q6 q7 q8 q9 q10 q11 th ss asd sts (nI z) snp hx tx lgt can szs ptn nms pth att isw rdd rmy) (fun vv ww => ∃ (ss2 : Nat → Int32) (sts2 : Nat → Int32) (z2 : Nat) (can2 : Nat → Int32) (szs2 : Nat → Int32) (ptn2 : Nat → Int32), vv = some (.int (rnV c)) ∧ ww = (rW cI cC q0 q1 q2 q3 q4 q5 q6 q7 q8 q9 q10 q11 (nI 0) ss2 asd sts2 (nI z2) snp hx tx lgt can2 szs2 ptn2 nms pth att isw rdd rmy) ∧ RA true (rnd c) ss sts z ss2 sts2 z2) := by
  refine g_entry (lv := [(0, .ref q0)]) (own := RX6) (by decide) rfl rfl (Nat.le_of_ble_eq_true rfl) rfl ?_
  intro p e s m args below meth co A Q C hr hQ
  refine g_aload_n (pc := 0) C dX6_round_0 0 rfl rfl ?_
  refine g_iconst (pc := 1) (v := nI 0) C dX6_round_1 (by decide) ?_
  refine g_put (pc := 2) (ci := 6) (T := TX6) (N := 18) (ws' := (rW cI cC q0 q1 q2 q3 q4 q5 q6 q7 q8 q9 q10 q11 (nI 0) ss asd sts (nI z) snp hx tx lgt can szs ptn nms pth att isw rdd rmy)) (ty := .int) (v := .int (nI 0)) C in_X6_round_X6 tyX6 tyX6_ok nmX6 0 rfl rfl 0 (by decide) fl_X6_round_43 rfl rfl (by decide +kernel) rfl rfl (Nat.le_of_ble_eq_true rfl) dX6_round_2 rfl ?_
  refine g_aload_n (pc := 5) C dX6_round_5 0 rfl rfl ?_
  refine g_callV (pc := 6) (st := []) (As := []) (nn := 0) (ci := 6) (q0 := 0) C (m_X6_records l D cI cC q0 q1 q2 q3 q4 q5 q6 q7 q8 q9 q10 q11 (nI 0) ss asd sts snp hx tx lgt can szs ptn nms pth att isw rdd rmy z (by first | assumption | omega)) gX6_round_X6_records rfl rfl rfl yd_X6_records ⟨Nat.le_of_ble_eq_true rfl, Nat.le_of_ble_eq_true rfl⟩ rfl [0, 1, 2, 3, 4, 5, 6, 7, 8, 9, 10, 11] rfl rfl rfl rfl rfl (Nat.le_of_ble_eq_true rfl) ⟨Nat.le_of_ble_eq_true rfl, Nat.le_of_ble_eq_true rfl⟩ dX6_round_6 ?_
  rintro _ _ ⟨rfl, rfl⟩
  refine g_eq (ws' := (rW cI cC q0 q1 q2 q3 q4 q5 q6 q7 q8 q9 q10 q11 (nI 0) ss asd (rcS ss sts z) (nI (kpS z)) snp hx tx lgt can szs ptn nms pth att isw rdd rmy)) (st' := []) rfl rfl ?_
  refine g_aload_n (pc := 9) C dX6_round_9 0 rfl rfl ?_
  refine g_callV (pc := 10) (st := []) (As := []) (nn := 0) (ci := 6) (q0 := 0) C (m_X6_shakes l D cI cC q0 q1 q2 q3 q4 q5 q6 q7 q8 q9 q10 q11 (nI 0) ss asd (rcS ss sts z) (nI (kpS z)) snp hx tx lgt can szs ptn nms pth att isw rdd rmy c (by first | assumption | omega)) gX6_round_X6_shakes rfl rfl rfl yd_X6_shakes ⟨Nat.le_of_ble_eq_true rfl, Nat.le_of_ble_eq_true rfl⟩ rfl [0, 1, 2, 3, 4, 5, 6, 7, 8, 9, 10, 11] rfl rfl rfl rfl rfl (Nat.le_of_ble_eq_true rfl) ⟨Nat.le_of_ble_eq_true rfl, Nat.le_of_ble_eq_true rfl⟩ dX6_round_10 ?_
  rintro _ _ ⟨can9, szs9, ptn9, ss9, rfl, rfl, u1⟩
  refine g_eq (ws' := (rW cI cC q0 q1 q2 q3 q4 q5 q6 q7 q8 q9 q10 q11 (nI 0) ss9 asd (rcS ss sts z) (nI (kpS z)) snp hx tx lgt can9 szs9 ptn9 nms pth att isw rdd rmy)) (st' := [.int (nI (szC c))]) rfl rfl ?_
  refine g_top (y := (rnV c)) (by rw [rnV_sz]) ?_
  exact g_iret C hr hQ dX6_round_13 rfl ⟨_, _, _, _, _, _, rfl, rfl, RA_t u1⟩

abbrev rm_X6_undo : Room := { frames := 0, cells := 0, slots := 0, locals := 0 }
theorem yd_X6_undo : yX6_undo.cls = RX6 ∧ yX6_undo.cls ≠ "java/lang/invoke/MethodHandle" ∧ yX6_undo.cls ≠ "java/lang/invoke/VarHandle" ∧ (parseMethodDescriptor yX6_undo.desc).map (fun d => d.parameters.length) = some 0 := by decide +kernel
theorem in_X6_undo_X6 : ∀ w ∈ u_ws RX6 TX6 18, w ∈ wsX6_undo := by decide +kernel
theorem fl_X6_undo_7 : Cond.fieldLink RX6 7 "FenceHandshakesModel" "s" "[I" ∈ wsX6_undo := by decide +kernel
theorem fl_X6_undo_16 : Cond.fieldLink RX6 16 "FenceHandshakesModel" "states" "[I" ∈ wsX6_undo := by decide +kernel
theorem fl_X6_undo_43 : Cond.fieldLink RX6 43 "FenceHandshakesModel" "thrown" "I" ∈ wsX6_undo := by decide +kernel
theorem fl_X6_undo_55 : Cond.fieldLink RX6 55 "FenceHandshakesModel" "stateMany" "I" ∈ wsX6_undo := by decide +kernel
set_option maxHeartbeats 4000000 in
set_option maxRecDepth 100000 in
theorem m_X6_undo (l : Launch) (D : va_G) (cI cC : ClassId) (q0 q1 q2 q3 q4 q5 q6 q7 q8 q9 q10 q11 : Nat) (th : Int32) (ss : Nat → Int32) (asd : Nat → Int32) (sts : Nat → Int32) (snp : Nat → Int32) (hx : Int32) (tx : Nat → Int32) (lgt : Int32) (can : Nat → Int32) (szs : Nat → Int32) (ptn : Nat → Int32) (nms : Nat → Int32) (pth : Nat → Int32) (att : Int32) (isw : Int32) (rdd : Nat → Int32) (rmy : Int32) (z : Nat) (hz : z ≤ 5) : g_M l yX6_undo wsX6_undo rm_X6_undo D cI cC [.ref q0] (rW cI cC q0 q1 q2 q3 q4 q5 q6 q7 q8 q9 q10 q11 th ss asd sts (nI z) snp hx tx lgt can szs ptn nms pth att isw rdd rmy) (fun vv ww => ∃ (ss2 : Nat → Int32) (z2 : Nat), vv = some (.int (if z = 0 then -5 else nI (z - 1))) ∧ ww = (rW cI cC q0 q1 q2 q3 q4 q5 q6 q7 q8 q9 q10 q11 (nI 0) ss2 asd sts (nI z2) snp hx tx lgt can szs ptn nms pth att isw rdd rmy) ∧ (z = 0 → ss2 = ss ∧ z2 = z) ∧ (z ≠ 0 → ss2 = cpF (fun k => sts (225 * (z - 1) + k)) ss 225 ∧ z2 = z - 1)) := by
  refine g_entry (lv := [(0, .ref q0)]) (own := RX6) (by decide) rfl rfl (Nat.le_of_ble_eq_true rfl) rfl ?_
  intro p e s m args below meth co A Q C hr hQ
  refine g_aload_n (pc := 0) C dX6_undo_0 0 rfl rfl ?_
  refine g_iconst (pc := 1) (v := nI 0) C dX6_undo_1 (by decide) ?_
  refine g_put (pc := 2) (ci := 6) (T := TX6) (N := 18) (ws' := (rW cI cC q0 q1 q2 q3 q4 q5 q6 q7 q8 q9 q10 q11 (nI 0) ss asd sts (nI z) snp hx tx lgt can szs ptn nms pth att isw rdd rmy)) (ty := .int) (v := .int (nI 0)) C in_X6_undo_X6 tyX6 tyX6_ok nmX6 0 rfl rfl 0 (by decide) fl_X6_undo_43 rfl rfl (by decide +kernel) rfl rfl (Nat.le_of_ble_eq_true rfl) dX6_undo_2 rfl ?_
  refine g_aload_n (pc := 5) C dX6_undo_5 0 rfl rfl ?_
  refine g_get (pc := 6) (ci := 6) (T := TX6) (N := 18) (v := .int (nI z)) C in_X6_undo_X6 0 rfl rfl 4 (by decide) fl_X6_undo_55 rfl rfl dX6_undo_6 ?_
  refine g_if_neN (pc := 9) C 15 (by omega) dX6_undo_9 (by decide) (fun c9 => ?_) (fun c9 => ?_)
  · have hz1 : 1 ≤ z := Nat.pos_of_ne_zero c9
    refine g_aload_n (pc := 15) C dX6_undo_15 0 rfl rfl ?_
    refine g_dup (pc := 16) C dX6_undo_16 rfl ?_
    refine g_get (pc := 17) (ci := 6) (T := TX6) (N := 18) (v := .int (nI z)) C in_X6_undo_X6 0 rfl rfl 4 (by decide) fl_X6_undo_55 rfl rfl dX6_undo_17 ?_
    refine g_iconst (pc := 20) (v := nI 1) C dX6_undo_20 (by decide) ?_
    refine g_isubN (pc := 21) C dX6_undo_21 (by omega) ?_
    refine g_put (pc := 22) (ci := 6) (T := TX6) (N := 18) (ws' := (rW cI cC q0 q1 q2 q3 q4 q5 q6 q7 q8 q9 q10 q11 (nI 0) ss asd sts (nI (z - 1)) snp hx tx lgt can szs ptn nms pth att isw rdd rmy)) (ty := .int) (v := .int (nI (z - 1))) C in_X6_undo_X6 tyX6 tyX6_ok nmX6 0 rfl rfl 4 (by decide) fl_X6_undo_55 rfl rfl (by decide +kernel) rfl rfl (Nat.le_of_ble_eq_true rfl) dX6_undo_22 rfl ?_
    refine g_ws (ws' := (rW cI cC q0 q1 q2 q3 q4 q5 q6 q7 q8 q9 q10 q11 (nI 0) (cpF (fun k => sts (225 * (z - 1) + k)) ss 0) asd sts (nI (z - 1)) snp hx tx lgt can szs ptn nms pth att isw rdd rmy)) (by rw [cpF_0]) ?_
    refine g_iconst (pc := 25) (v := nI 0) C dX6_undo_25 (by decide) ?_
    refine g_istore_n (pc := 26) (lv' := [(1, .int (nI 0)), (0, .ref q0)]) C dX6_undo_26 rfl (by decide) rfl ?_
    have L27 : ∀ (NZ : Nat) (i : Nat), 225 - i < NZ → (i ≤ 225) → g_J p l e rm_X6_undo s m args below meth co Q D A 2 0 0 (rW cI cC q0 q1 q2 q3 q4 q5 q6 q7 q8 q9 q10 q11 (nI 0) (cpF (fun k => sts (225 * (z - 1) + k)) ss i) asd sts (nI (z - 1)) snp hx tx lgt can szs ptn nms pth att isw rdd rmy) 27 [(0, .ref q0), (1, .int (nI i))] [] := by
      intro NZ
      induction NZ with
      | zero => intro i hN; exact absurd hN (Nat.not_lt_zero _)
      | succ NZ ih27 =>
        intro i hN27 hi
        refine g_iload_n (pc := 27) C dX6_undo_27 1 rfl rfl ?_
        refine g_sipush (pc := 28) (v := nI 225) C dX6_undo_28 (by decide) ?_
        refine g_icmp_geN (pc := 31) C 61 (by omega) (by omega) dX6_undo_31 (by decide) (fun c31 => ?_) (fun c31 => ?_)
        · refine g_aload_n (pc := 61) C dX6_undo_61 0 rfl rfl ?_
          refine g_get (pc := 62) (ci := 6) (T := TX6) (N := 18) (v := .int (nI (z - 1))) C in_X6_undo_X6 0 rfl rfl 4 (by decide) fl_X6_undo_55 rfl rfl dX6_undo_62 ?_
          refine g_top (y := (if z = 0 then -5 else nI (z - 1))) (by rw [if_neg c9]) ?_
          exact g_iret C hr hQ dX6_undo_65 rfl ⟨_, _, rfl, rfl, fun h => absurd h c9, fun _ => ⟨by rw [show i = 225 by omega], rfl⟩⟩
        · refine g_aload_n (pc := 34) C dX6_undo_34 0 rfl rfl ?_
          refine g_get (pc := 35) (ci := 6) (T := TX6) (N := 18) (v := .ref q1) C in_X6_undo_X6 0 rfl rfl 1 (by decide) fl_X6_undo_7 rfl rfl dX6_undo_35 ?_
          refine g_iload_n (pc := 38) C dX6_undo_38 1 rfl rfl ?_
          refine g_aload_n (pc := 39) C dX6_undo_39 0 rfl rfl ?_
          refine g_get (pc := 40) (ci := 6) (T := TX6) (N := 18) (v := .ref q3) C in_X6_undo_X6 0 rfl rfl 3 (by decide) fl_X6_undo_16 rfl rfl dX6_undo_40 ?_
          refine g_sipush (pc := 43) (v := nI 225) C dX6_undo_43 (by decide) ?_
          refine g_aload_n (pc := 46) C dX6_undo_46 0 rfl rfl ?_
          refine g_get (pc := 47) (ci := 6) (T := TX6) (N := 18) (v := .int (nI (z - 1))) C in_X6_undo_X6 0 rfl rfl 4 (by decide) fl_X6_undo_55 rfl rfl dX6_undo_47 ?_
          refine g_imulN (pc := 50) C dX6_undo_50 ?_
          refine g_iload_n (pc := 51) C dX6_undo_51 1 rfl rfl ?_
          refine g_iaddN (pc := 52) C dX6_undo_52 ?_
          refine g_ialdN (pc := 53) (f := sts) C 3 rfl (by omega) (by decide) dX6_undo_53 ?_
          refine g_iastN (pc := 54) (f := (cpF (fun k => sts (225 * (z - 1) + k)) ss i)) (ws' := (rW cI cC q0 q1 q2 q3 q4 q5 q6 q7 q8 q9 q10 q11 (nI 0) (upd (cpF (fun k => sts (225 * (z - 1) + k)) ss i) i ((sts ((225 * (z - 1)) + i)))) asd sts (nI (z - 1)) snp hx tx lgt can szs ptn nms pth att isw rdd rmy)) C 1 rfl (by omega) (by decide) dX6_undo_54 rfl ?_
          refine g_iinc (pc := 55) (lv' := [(1, .int (nI (i + 1))), (0, .ref q0)]) C dX6_undo_55 1 rfl (nI_add i 1) (by decide) rfl ?_
          refine g_goto (pc := 58) C 27 dX6_undo_58 (by decide) ?_
          refine g_ws (ws' := (rW cI cC q0 q1 q2 q3 q4 q5 q6 q7 q8 q9 q10 q11 (nI 0) (cpF (fun k => sts (225 * (z - 1) + k)) ss (i + 1)) asd sts (nI (z - 1)) snp hx tx lgt can szs ptn nms pth att isw rdd rmy)) (by rw [← cpF_s]) ?_
          refine g_lvp (lv' := [(0, .ref q0), (1, .int (nI (i + 1)))]) [1, 0] rfl ?_
          exact ih27 (i + 1) (by omega) (by first | assumption | omega)
    refine g_lvp (lv' := [(0, .ref q0), (1, .int (nI 0))]) [1, 0] rfl ?_
    exact L27 _ 0 (Nat.lt_succ_self _) (by first | assumption | omega)
  · refine g_bipush (pc := 12) (v := (-5)) C dX6_undo_12 (by decide) ?_
    refine g_top (y := (if z = 0 then -5 else nI (z - 1))) (by rw [if_pos c9]) ?_
    exact g_iret C hr hQ dX6_undo_14 rfl ⟨_, _, rfl, rfl, fun _ => ⟨rfl, rfl⟩, fun h => absurd c9 h⟩

abbrev rm_X6_save : Room := { frames := 1, cells := 0, slots := 0, locals := 22 }
theorem yd_X6_save : yX6_save.cls = RX6 ∧ yX6_save.cls ≠ "java/lang/invoke/MethodHandle" ∧ yX6_save.cls ≠ "java/lang/invoke/VarHandle" ∧ (parseMethodDescriptor yX6_save.desc).map (fun d => d.parameters.length) = some 0 := by decide +kernel
theorem in_X6_save_X6 : ∀ w ∈ u_ws RX6 TX6 18, w ∈ wsX6_save := by decide +kernel
theorem fl_X6_save_7 : Cond.fieldLink RX6 7 "FenceHandshakesModel" "s" "[I" ∈ wsX6_save := by decide +kernel
theorem fl_X6_save_19 : Cond.fieldLink RX6 19 "FenceHandshakesModel" "snapshot" "[I" ∈ wsX6_save := by decide +kernel
theorem fl_X6_save_43 : Cond.fieldLink RX6 43 "FenceHandshakesModel" "thrown" "I" ∈ wsX6_save := by decide +kernel
theorem fl_X6_save_135 : Cond.fieldLink RX6 135 "FenceHandshakesModel" "hasSnapshot" "Z" ∈ wsX6_save := by decide +kernel
set_option maxHeartbeats 4000000 in
set_option maxRecDepth 100000 in
theorem m_X6_save (l : Launch) (D : va_G) (cI cC : ClassId) (q0 q1 q2 q3 q4 q5 q6 q7 q8 q9 q10 q11 : Nat) (th : Int32) (ss : Nat → Int32) (asd : Nat → Int32) (sts : Nat → Int32) (sm : Int32) (snp : Nat → Int32) (tx : Nat → Int32) (lgt : Int32) (can : Nat → Int32) (szs : Nat → Int32) (ptn : Nat → Int32) (nms : Nat → Int32) (pth : Nat → Int32) (att : Int32) (isw : Int32) (rdd : Nat → Int32) (rmy : Int32) (hs : Bool) (c : Nat → Int32) (hS : SR c ss) : g_M l yX6_save wsX6_save rm_X6_save D cI cC [.ref q0] (rW cI cC q0 q1 q2 q3 q4 q5 q6 q7 q8 q9 q10 q11 th ss asd sts sm snp (bI hs) tx lgt can szs ptn nms pth att isw rdd rmy) (fun vv ww => vv = some (.int (nI (nwC c 8))) ∧ ww = (rW cI cC q0 q1 q2 q3 q4 q5 q6 q7 q8 q9 q10 q11 (nI 0) ss asd sts sm (cpF ss snp 225) (bI true) tx lgt can szs ptn nms pth att isw rdd rmy)) := by
  refine g_entry (lv := [(0, .ref q0)]) (own := RX6) (by decide) rfl rfl (Nat.le_of_ble_eq_true rfl) rfl ?_
  intro p e s m args below meth co A Q C hr hQ
  refine g_aload_n (pc := 0) C dX6_save_0 0 rfl rfl ?_
  refine g_iconst (pc := 1) (v := nI 0) C dX6_save_1 (by decide) ?_
  refine g_put (pc := 2) (ci := 6) (T := TX6) (N := 18) (ws' := (rW cI cC q0 q1 q2 q3 q4 q5 q6 q7 q8 q9 q10 q11 (nI 0) ss asd sts sm snp (bI hs) tx lgt can szs ptn nms pth att isw rdd rmy)) (ty := .int) (v := .int (nI 0)) C in_X6_save_X6 tyX6 tyX6_ok nmX6 0 rfl rfl 0 (by decide) fl_X6_save_43 rfl rfl (by decide +kernel) rfl rfl (Nat.le_of_ble_eq_true rfl) dX6_save_2 rfl ?_
  refine g_ws (ws' := (rW cI cC q0 q1 q2 q3 q4 q5 q6 q7 q8 q9 q10 q11 (nI 0) ss asd sts sm (cpF ss snp 0) (bI hs) tx lgt can szs ptn nms pth att isw rdd rmy)) (by rw [cpF_0]) ?_
  refine g_iconst (pc := 5) (v := nI 0) C dX6_save_5 (by decide) ?_
  refine g_istore_n (pc := 6) (lv' := [(1, .int (nI 0)), (0, .ref q0)]) C dX6_save_6 rfl (by decide) rfl ?_
  have L7 : ∀ (NZ : Nat) (i : Nat), 225 - i < NZ → (i ≤ 225) → g_J p l e rm_X6_save s m args below meth co Q D A 2 0 0 (rW cI cC q0 q1 q2 q3 q4 q5 q6 q7 q8 q9 q10 q11 (nI 0) ss asd sts sm (cpF ss snp i) (bI hs) tx lgt can szs ptn nms pth att isw rdd rmy) 7 [(0, .ref q0), (1, .int (nI i))] [] := by
    intro NZ
    induction NZ with
    | zero => intro i hN; exact absurd hN (Nat.not_lt_zero _)
    | succ NZ ih7 =>
      intro i hN7 hi
      refine g_iload_n (pc := 7) C dX6_save_7 1 rfl rfl ?_
      refine g_sipush (pc := 8) (v := nI 225) C dX6_save_8 (by decide) ?_
      refine g_icmp_geN (pc := 11) C 32 (by omega) (by omega) dX6_save_11 (by decide) (fun c11 => ?_) (fun c11 => ?_)
      · refine g_ws (ws' := (rW cI cC q0 q1 q2 q3 q4 q5 q6 q7 q8 q9 q10 q11 (nI 0) ss asd sts sm (cpF ss snp 225) (bI hs) tx lgt can szs ptn nms pth att isw rdd rmy)) (by rw [show i = 225 by omega]) ?_
        refine g_aload_n (pc := 32) C dX6_save_32 0 rfl rfl ?_
        refine g_iconst (pc := 33) (v := nI 1) C dX6_save_33 (by decide) ?_
        refine g_top (y := bI true) rfl ?_
        refine g_put (pc := 34) (ci := 6) (T := TX6) (N := 18) (ws' := (rW cI cC q0 q1 q2 q3 q4 q5 q6 q7 q8 q9 q10 q11 (nI 0) ss asd sts sm (cpF ss snp 225) (bI true) tx lgt can szs ptn nms pth att isw rdd rmy)) (ty := .boolean) (v := .int (bI true)) C in_X6_save_X6 tyX6 tyX6_ok nmX6 0 rfl rfl 6 (by decide) fl_X6_save_135 rfl rfl (by decide +kernel) (g_nar _) (g_fit _) (Nat.le_of_ble_eq_true rfl) dX6_save_34 rfl ?_
        refine g_aload_n (pc := 37) C dX6_save_37 0 rfl rfl ?_
        refine g_callV (pc := 38) (st := []) (As := []) (nn := 0) (ci := 6) (q0 := 0) C (m_X6_openMany l D cI cC q0 q1 q2 q3 q4 q5 q6 q7 q8 q9 q10 q11 (nI 0) ss asd sts sm (cpF ss snp 225) (bI true) tx lgt can szs ptn nms pth att isw rdd rmy c (by first | assumption | omega)) gX6_save_X6_openMany rfl rfl rfl yd_X6_openMany ⟨Nat.le_of_ble_eq_true rfl, Nat.le_of_ble_eq_true rfl⟩ rfl [0, 1, 2, 3, 4, 5, 6, 7, 8, 9, 10, 11] rfl rfl rfl rfl rfl (Nat.le_of_ble_eq_true rfl) ⟨Nat.le_of_ble_eq_true rfl, Nat.le_of_ble_eq_true rfl⟩ dX6_save_38 ?_
        rintro _ _ ⟨rfl, rfl⟩
        refine g_eq (ws' := (rW cI cC q0 q1 q2 q3 q4 q5 q6 q7 q8 q9 q10 q11 (nI 0) ss asd sts sm (cpF ss snp 225) (bI true) tx lgt can szs ptn nms pth att isw rdd rmy)) (st' := [.int (nI (nwC c 8))]) rfl rfl ?_
        exact g_iret C hr hQ dX6_save_41 rfl ⟨rfl, rfl⟩
      · refine g_aload_n (pc := 14) C dX6_save_14 0 rfl rfl ?_
        refine g_get (pc := 15) (ci := 6) (T := TX6) (N := 18) (v := .ref q4) C in_X6_save_X6 0 rfl rfl 5 (by decide) fl_X6_save_19 rfl rfl dX6_save_15 ?_
        refine g_iload_n (pc := 18) C dX6_save_18 1 rfl rfl ?_
        refine g_aload_n (pc := 19) C dX6_save_19 0 rfl rfl ?_
        refine g_get (pc := 20) (ci := 6) (T := TX6) (N := 18) (v := .ref q1) C in_X6_save_X6 0 rfl rfl 1 (by decide) fl_X6_save_7 rfl rfl dX6_save_20 ?_
        refine g_iload_n (pc := 23) C dX6_save_23 1 rfl rfl ?_
        refine g_ialdN (pc := 24) (f := ss) C 1 rfl (by omega) (by decide) dX6_save_24 ?_
        refine g_iastN (pc := 25) (f := (cpF ss snp i)) (ws' := (rW cI cC q0 q1 q2 q3 q4 q5 q6 q7 q8 q9 q10 q11 (nI 0) ss asd sts sm (upd (cpF ss snp i) i ((ss i))) (bI hs) tx lgt can szs ptn nms pth att isw rdd rmy)) C 4 rfl (by omega) (by decide) dX6_save_25 rfl ?_
        refine g_iinc (pc := 26) (lv' := [(1, .int (nI (i + 1))), (0, .ref q0)]) C dX6_save_26 1 rfl (nI_add i 1) (by decide) rfl ?_
        refine g_goto (pc := 29) C 7 dX6_save_29 (by decide) ?_
        refine g_ws (ws' := (rW cI cC q0 q1 q2 q3 q4 q5 q6 q7 q8 q9 q10 q11 (nI 0) ss asd sts sm (cpF ss snp (i + 1)) (bI hs) tx lgt can szs ptn nms pth att isw rdd rmy)) (by rw [cpF_s]) ?_
        refine g_lvp (lv' := [(0, .ref q0), (1, .int (nI (i + 1)))]) [1, 0] rfl ?_
        exact ih7 (i + 1) (by omega) (by first | assumption | omega)
  refine g_lvp (lv' := [(0, .ref q0), (1, .int (nI 0))]) [1, 0] rfl ?_
  exact L7 _ 0 (Nat.lt_succ_self _) (by first | assumption | omega)

abbrev rm_X6_restore : Room := { frames := 1, cells := 0, slots := 0, locals := 22 }
theorem yd_X6_restore : yX6_restore.cls = RX6 ∧ yX6_restore.cls ≠ "java/lang/invoke/MethodHandle" ∧ yX6_restore.cls ≠ "java/lang/invoke/VarHandle" ∧ (parseMethodDescriptor yX6_restore.desc).map (fun d => d.parameters.length) = some 0 := by decide +kernel
theorem in_X6_restore_X6 : ∀ w ∈ u_ws RX6 TX6 18, w ∈ wsX6_restore := by decide +kernel
theorem fl_X6_restore_7 : Cond.fieldLink RX6 7 "FenceHandshakesModel" "s" "[I" ∈ wsX6_restore := by decide +kernel
theorem fl_X6_restore_19 : Cond.fieldLink RX6 19 "FenceHandshakesModel" "snapshot" "[I" ∈ wsX6_restore := by decide +kernel
theorem fl_X6_restore_43 : Cond.fieldLink RX6 43 "FenceHandshakesModel" "thrown" "I" ∈ wsX6_restore := by decide +kernel
theorem fl_X6_restore_135 : Cond.fieldLink RX6 135 "FenceHandshakesModel" "hasSnapshot" "Z" ∈ wsX6_restore := by decide +kernel
set_option maxHeartbeats 4000000 in
set_option maxRecDepth 100000 in
theorem m_X6_restore (l : Launch) (D : va_G) (cI cC : ClassId) (q0 q1 q2 q3 q4 q5 q6 q7 q8 q9 q10 q11 : Nat) (th : Int32) (ss : Nat → Int32) (asd : Nat → Int32) (sts : Nat → Int32) (snp : Nat → Int32) (tx : Nat → Int32) (lgt : Int32) (can : Nat → Int32) (szs : Nat → Int32) (ptn : Nat → Int32) (nms : Nat → Int32) (pth : Nat → Int32) (att : Int32) (isw : Int32) (rdd : Nat → Int32) (rmy : Int32) (z : Nat) (hs : Bool) (c : Nat → Int32) (cs : Nat → Int32) (hS : SR c ss) (hz : z ≤ 5) (hN : hs = true → SR cs snp) : g_M l yX6_restore wsX6_restore rm_X6_restore D cI cC [.ref q0] (rW cI cC q0 q1 q2 q3 q4 q5 q6 q7 q8 q9 q10 q11 th ss asd sts (nI z) snp (bI hs) tx lgt can szs ptn nms pth att isw rdd rmy) (fun vv ww => ∃ (ss2 : Nat → Int32) (sts2 : Nat → Int32) (z2 : Nat), vv = some (.int (if hs then nI (nwC (va_cpy cs c 0 0 154) 8) else -4)) ∧ ww = (rW cI cC q0 q1 q2 q3 q4 q5 q6 q7 q8 q9 q10 q11 (nI 0) ss2 asd sts2 (nI z2) snp (bI hs) tx lgt can szs ptn nms pth att isw rdd rmy) ∧ RA hs (va_cpy cs c 0 0 154) ss sts z ss2 sts2 z2) := by
  refine g_entry (lv := [(0, .ref q0)]) (own := RX6) (by decide) rfl rfl (Nat.le_of_ble_eq_true rfl) rfl ?_
  intro p e s m args below meth co A Q C hr hQ
  refine g_aload_n (pc := 0) C dX6_restore_0 0 rfl rfl ?_
  refine g_iconst (pc := 1) (v := nI 0) C dX6_restore_1 (by decide) ?_
  refine g_put (pc := 2) (ci := 6) (T := TX6) (N := 18) (ws' := (rW cI cC q0 q1 q2 q3 q4 q5 q6 q7 q8 q9 q10 q11 (nI 0) ss asd sts (nI z) snp (bI hs) tx lgt can szs ptn nms pth att isw rdd rmy)) (ty := .int) (v := .int (nI 0)) C in_X6_restore_X6 tyX6 tyX6_ok nmX6 0 rfl rfl 0 (by decide) fl_X6_restore_43 rfl rfl (by decide +kernel) rfl rfl (Nat.le_of_ble_eq_true rfl) dX6_restore_2 rfl ?_
  refine g_aload_n (pc := 5) C dX6_restore_5 0 rfl rfl ?_
  refine g_get (pc := 6) (ci := 6) (T := TX6) (N := 18) (v := .int (bI hs)) C in_X6_restore_X6 0 rfl rfl 6 (by decide) fl_X6_restore_135 rfl rfl dX6_restore_6 ?_
  refine g_if_neB (pc := 9) C 15 dX6_restore_9 (by decide) (fun c9 => ?_) (fun c9 => ?_)
  · refine g_aload_n (pc := 15) C dX6_restore_15 0 rfl rfl ?_
    refine g_callV (pc := 16) (st := []) (As := []) (nn := 0) (ci := 6) (q0 := 0) C (m_X6_records l D cI cC q0 q1 q2 q3 q4 q5 q6 q7 q8 q9 q10 q11 (nI 0) ss asd sts snp (bI hs) tx lgt can szs ptn nms pth att isw rdd rmy z (by first | assumption | omega)) gX6_restore_X6_records rfl rfl rfl yd_X6_records ⟨Nat.le_of_ble_eq_true rfl, Nat.le_of_ble_eq_true rfl⟩ rfl [0, 1, 2, 3, 4, 5, 6, 7, 8, 9, 10, 11] rfl rfl rfl rfl rfl (Nat.le_of_ble_eq_true rfl) ⟨Nat.le_of_ble_eq_true rfl, Nat.le_of_ble_eq_true rfl⟩ dX6_restore_16 ?_
    rintro _ _ ⟨rfl, rfl⟩
    refine g_eq (ws' := (rW cI cC q0 q1 q2 q3 q4 q5 q6 q7 q8 q9 q10 q11 (nI 0) ss asd (rcS ss sts z) (nI (kpS z)) snp (bI hs) tx lgt can szs ptn nms pth att isw rdd rmy)) (st' := []) rfl rfl ?_
    refine g_ws (ws' := (rW cI cC q0 q1 q2 q3 q4 q5 q6 q7 q8 q9 q10 q11 (nI 0) (cpF snp ss 0) asd (rcS ss sts z) (nI (kpS z)) snp (bI hs) tx lgt can szs ptn nms pth att isw rdd rmy)) (by rw [cpF_0]) ?_
    refine g_iconst (pc := 19) (v := nI 0) C dX6_restore_19 (by decide) ?_
    refine g_istore_n (pc := 20) (lv' := [(1, .int (nI 0)), (0, .ref q0)]) C dX6_restore_20 rfl (by decide) rfl ?_
    have L21 : ∀ (NZ : Nat) (i : Nat), 225 - i < NZ → (i ≤ 225) → g_J p l e rm_X6_restore s m args below meth co Q D A 2 0 0 (rW cI cC q0 q1 q2 q3 q4 q5 q6 q7 q8 q9 q10 q11 (nI 0) (cpF snp ss i) asd (rcS ss sts z) (nI (kpS z)) snp (bI hs) tx lgt can szs ptn nms pth att isw rdd rmy) 21 [(0, .ref q0), (1, .int (nI i))] [] := by
      intro NZ
      induction NZ with
      | zero => intro i hN; exact absurd hN (Nat.not_lt_zero _)
      | succ NZ ih21 =>
        intro i hN21 hi
        refine g_iload_n (pc := 21) C dX6_restore_21 1 rfl rfl ?_
        refine g_sipush (pc := 22) (v := nI 225) C dX6_restore_22 (by decide) ?_
        refine g_icmp_geN (pc := 25) C 46 (by omega) (by omega) dX6_restore_25 (by decide) (fun c25 => ?_) (fun c25 => ?_)
        · refine g_ws (ws' := (rW cI cC q0 q1 q2 q3 q4 q5 q6 q7 q8 q9 q10 q11 (nI 0) (cpF snp ss 225) asd (rcS ss sts z) (nI (kpS z)) snp (bI hs) tx lgt can szs ptn nms pth att isw rdd rmy)) (by rw [show i = 225 by omega]) ?_
          have hS9 : SR (va_cpy cs c 0 0 154) (cpF snp ss 225) := SR_cp (hN c9) (same_cpy cs c)
          refine g_aload_n (pc := 46) C dX6_restore_46 0 rfl rfl ?_
          refine g_callV (pc := 47) (st := []) (As := []) (nn := 0) (ci := 6) (q0 := 0) C (m_X6_openMany l D cI cC q0 q1 q2 q3 q4 q5 q6 q7 q8 q9 q10 q11 (nI 0) (cpF snp ss 225) asd (rcS ss sts z) (nI (kpS z)) snp (bI hs) tx lgt can szs ptn nms pth att isw rdd rmy (va_cpy cs c 0 0 154) (hS9)) gX6_restore_X6_openMany rfl rfl rfl yd_X6_openMany ⟨Nat.le_of_ble_eq_true rfl, Nat.le_of_ble_eq_true rfl⟩ rfl [0, 1, 2, 3, 4, 5, 6, 7, 8, 9, 10, 11] rfl rfl rfl rfl rfl (Nat.le_of_ble_eq_true rfl) ⟨Nat.le_of_ble_eq_true rfl, Nat.le_of_ble_eq_true rfl⟩ dX6_restore_47 ?_
          rintro _ _ ⟨rfl, rfl⟩
          refine g_eq (ws' := (rW cI cC q0 q1 q2 q3 q4 q5 q6 q7 q8 q9 q10 q11 (nI 0) (cpF snp ss 225) asd (rcS ss sts z) (nI (kpS z)) snp (bI hs) tx lgt can szs ptn nms pth att isw rdd rmy)) (st' := [.int (nI (nwC (va_cpy cs c 0 0 154) 8))]) rfl rfl ?_
          refine g_top (y := (if hs then nI (nwC (va_cpy cs c 0 0 154) 8) else -4)) (by rw [c9]; rfl) ?_
          exact g_iret C hr hQ dX6_restore_50 rfl ⟨_, _, _, rfl, rfl, by rw [c9]; exact RA_t hS9⟩
        · refine g_aload_n (pc := 28) C dX6_restore_28 0 rfl rfl ?_
          refine g_get (pc := 29) (ci := 6) (T := TX6) (N := 18) (v := .ref q1) C in_X6_restore_X6 0 rfl rfl 1 (by decide) fl_X6_restore_7 rfl rfl dX6_restore_29 ?_
          refine g_iload_n (pc := 32) C dX6_restore_32 1 rfl rfl ?_
          refine g_aload_n (pc := 33) C dX6_restore_33 0 rfl rfl ?_
          refine g_get (pc := 34) (ci := 6) (T := TX6) (N := 18) (v := .ref q4) C in_X6_restore_X6 0 rfl rfl 5 (by decide) fl_X6_restore_19 rfl rfl dX6_restore_34 ?_
          refine g_iload_n (pc := 37) C dX6_restore_37 1 rfl rfl ?_
          refine g_ialdN (pc := 38) (f := snp) C 4 rfl (by omega) (by decide) dX6_restore_38 ?_
          refine g_iastN (pc := 39) (f := (cpF snp ss i)) (ws' := (rW cI cC q0 q1 q2 q3 q4 q5 q6 q7 q8 q9 q10 q11 (nI 0) (upd (cpF snp ss i) i ((snp i))) asd (rcS ss sts z) (nI (kpS z)) snp (bI hs) tx lgt can szs ptn nms pth att isw rdd rmy)) C 1 rfl (by omega) (by decide) dX6_restore_39 rfl ?_
          refine g_iinc (pc := 40) (lv' := [(1, .int (nI (i + 1))), (0, .ref q0)]) C dX6_restore_40 1 rfl (nI_add i 1) (by decide) rfl ?_
          refine g_goto (pc := 43) C 21 dX6_restore_43 (by decide) ?_
          refine g_ws (ws' := (rW cI cC q0 q1 q2 q3 q4 q5 q6 q7 q8 q9 q10 q11 (nI 0) (cpF snp ss (i + 1)) asd (rcS ss sts z) (nI (kpS z)) snp (bI hs) tx lgt can szs ptn nms pth att isw rdd rmy)) (by rw [cpF_s]) ?_
          refine g_lvp (lv' := [(0, .ref q0), (1, .int (nI (i + 1)))]) [1, 0] rfl ?_
          exact ih21 (i + 1) (by omega) (by first | assumption | omega)
    refine g_lvp (lv' := [(0, .ref q0), (1, .int (nI 0))]) [1, 0] rfl ?_
    exact L21 _ 0 (Nat.lt_succ_self _) (by first | assumption | omega)
  · refine g_bipush (pc := 12) (v := (-4)) C dX6_restore_12 (by decide) ?_
    refine g_top (y := (if hs then nI (nwC (va_cpy cs c 0 0 154) 8) else -4)) (by rw [c9]; exact rfl) ?_
    exact g_iret C hr hQ dX6_restore_14 rfl ⟨_, _, _, rfl, rfl, by rw [c9]; exact RA_f⟩

abbrev rm_X6_append : Room := { frames := 1, cells := 0, slots := 0, locals := 22 }
theorem yd_X6_append : yX6_append.cls = RX6 ∧ yX6_append.cls ≠ "java/lang/invoke/MethodHandle" ∧ yX6_append.cls ≠ "java/lang/invoke/VarHandle" ∧ (parseMethodDescriptor yX6_append.desc).map (fun d => d.parameters.length) = some 1 := by decide +kernel
theorem in_X6_append_X6 : ∀ w ∈ u_ws RX6 TX6 18, w ∈ wsX6_append := by decide +kernel
theorem fl_X6_append_22 : Cond.fieldLink RX6 22 "FenceHandshakesModel" "text" "[I" ∈ wsX6_append := by decide +kernel
theorem fl_X6_append_43 : Cond.fieldLink RX6 43 "FenceHandshakesModel" "thrown" "I" ∈ wsX6_append := by decide +kernel
theorem fl_X6_append_107 : Cond.fieldLink RX6 107 "FenceHandshakesModel" "length" "I" ∈ wsX6_append := by decide +kernel
set_option maxHeartbeats 4000000 in
set_option maxRecDepth 100000 in
theorem m_X6_append (l : Launch) (D : va_G) (cI cC : ClassId) (q0 q1 q2 q3 q4 q5 q6 q7 q8 q9 q10 q11 : Nat) (th : Int32) (ss : Nat → Int32) (asd : Nat → Int32) (sts : Nat → Int32) (sm : Int32) (snp : Nat → Int32) (hx : Int32) (tx : Nat → Int32) (can : Nat → Int32) (szs : Nat → Int32) (ptn : Nat → Int32) (nms : Nat → Int32) (pth : Nat → Int32) (att : Int32) (isw : Int32) (rdd : Nat → Int32) (rmy : Int32) (ln : Nat) (x : Int32) (hn : ln ≤ 80) : g_M l yX6_append wsX6_append rm_X6_append D cI cC [.ref q0, .int x] (rW cI cC q0 q1 q2 q3 q4 q5 q6 q7 q8 q9 q10 q11 th ss asd sts sm snp hx tx (nI ln) can szs ptn nms pth att isw rdd rmy) (fun vv ww => ∃ (tx2 : Nat → Int32) (ln2 : Nat), vv = some (.int (apV ln x)) ∧ ww = (rW cI cC q0 q1 q2 q3 q4 q5 q6 q7 q8 q9 q10 q11 (nI 0) ss asd sts sm snp hx tx2 (nI ln2) can szs ptn nms pth att isw rdd rmy) ∧ (apQ ln x = true → tx2 = upd tx ln x ∧ ln2 = ln + 1) ∧ (apQ ln x = false → tx2 = tx ∧ ln2 = ln)) := by
  refine g_entry (lv := [(0, .ref q0), (1, .int x)]) (own := RX6) (by decide) rfl rfl (Nat.le_of_ble_eq_true rfl) rfl ?_
  intro p e s m args below meth co A Q C hr hQ
  refine g_aload_n (pc := 0) C dX6_append_0 0 rfl rfl ?_
  refine g_iconst (pc := 1) (v := nI 0) C dX6_append_1 (by decide) ?_
  refine g_put (pc := 2) (ci := 6) (T := TX6) (N := 18) (ws' := (rW cI cC q0 q1 q2 q3 q4 q5 q6 q7 q8 q9 q10 q11 (nI 0) ss asd sts sm snp hx tx (nI ln) can szs ptn nms pth att isw rdd rmy)) (ty := .int) (v := .int (nI 0)) C in_X6_append_X6 tyX6 tyX6_ok nmX6 0 rfl rfl 0 (by decide) fl_X6_append_43 rfl rfl (by decide +kernel) rfl rfl (Nat.le_of_ble_eq_true rfl) dX6_append_2 rfl ?_
  refine g_iload_n (pc := 5) C dX6_append_5 1 rfl rfl ?_
  refine g_bipush (pc := 6) (v := nI 32) C dX6_append_6 (by decide) ?_
  refine g_bipush (pc := 8) (v := nI 126) C dX6_append_8 (by decide) ?_
  refine g_callS (pc := 10) (st := []) (As := [.int x, .int (nI 32), .int (nI 126)]) (nn := 3) C (m_X6_in l D cI cC x (nI 32) (nI 126)) gX6_append_X6_in rfl rfl rfl yd_X6_in.2 ⟨Nat.le_of_ble_eq_true rfl, Nat.le_of_ble_eq_true rfl⟩ rfl [] rfl rfl rfl (Nat.le_of_ble_eq_true rfl) ⟨Nat.le_of_ble_eq_true rfl, Nat.le_of_ble_eq_true rfl⟩ dX6_append_10 ?_
  rintro _ _ ⟨rfl, rfl⟩
  refine g_eq (ws' := (rW cI cC q0 q1 q2 q3 q4 q5 q6 q7 q8 q9 q10 q11 (nI 0) ss asd sts sm snp hx tx (nI ln) can szs ptn nms pth att isw rdd rmy)) (st' := [.int (bI (inI x (nI 32) (nI 126)))]) rfl rfl ?_
  refine g_top (y := bI (apx x)) (by rw [in_A]) ?_
  refine g_if_neB (pc := 13) C 19 dX6_append_13 (by decide) (fun c13 => ?_) (fun c13 => ?_)
  · refine g_aload_n (pc := 19) C dX6_append_19 0 rfl rfl ?_
    refine g_get (pc := 20) (ci := 6) (T := TX6) (N := 18) (v := .int (nI ln)) C in_X6_append_X6 0 rfl rfl 8 (by decide) fl_X6_append_107 rfl rfl dX6_append_20 ?_
    refine g_bipush (pc := 23) (v := nI 80) C dX6_append_23 (by decide) ?_
    refine g_icmp_neN (pc := 25) C 31 (by omega) (by omega) dX6_append_25 (by decide) (fun c25 => ?_) (fun c25 => ?_)
    · have hl : decide (ln < 80) = true := decide_eq_true (by omega)
      refine g_aload_n (pc := 31) C dX6_append_31 0 rfl rfl ?_
      refine g_get (pc := 32) (ci := 6) (T := TX6) (N := 18) (v := .ref q5) C in_X6_append_X6 0 rfl rfl 7 (by decide) fl_X6_append_22 rfl rfl dX6_append_32 ?_
      refine g_aload_n (pc := 35) C dX6_append_35 0 rfl rfl ?_
      refine g_get (pc := 36) (ci := 6) (T := TX6) (N := 18) (v := .int (nI ln)) C in_X6_append_X6 0 rfl rfl 8 (by decide) fl_X6_append_107 rfl rfl dX6_append_36 ?_
      refine g_iload_n (pc := 39) C dX6_append_39 1 rfl rfl ?_
      refine g_iastN (pc := 40) (f := tx) (ws' := (rW cI cC q0 q1 q2 q3 q4 q5 q6 q7 q8 q9 q10 q11 (nI 0) ss asd sts sm snp hx (upd tx ln (x)) (nI ln) can szs ptn nms pth att isw rdd rmy)) C 5 rfl (by omega) (by decide) dX6_append_40 rfl ?_
      refine g_aload_n (pc := 41) C dX6_append_41 0 rfl rfl ?_
      refine g_dup (pc := 42) C dX6_append_42 rfl ?_
      refine g_get (pc := 43) (ci := 6) (T := TX6) (N := 18) (v := .int (nI ln)) C in_X6_append_X6 0 rfl rfl 8 (by decide) fl_X6_append_107 rfl rfl dX6_append_43 ?_
      refine g_iconst (pc := 46) (v := nI 1) C dX6_append_46 (by decide) ?_
      refine g_iaddN (pc := 47) C dX6_append_47 ?_
      refine g_put (pc := 48) (ci := 6) (T := TX6) (N := 18) (ws' := (rW cI cC q0 q1 q2 q3 q4 q5 q6 q7 q8 q9 q10 q11 (nI 0) ss asd sts sm snp hx (upd tx ln (x)) (nI (ln + 1)) can szs ptn nms pth att isw rdd rmy)) (ty := .int) (v := .int (nI (ln + 1))) C in_X6_append_X6 tyX6 tyX6_ok nmX6 0 rfl rfl 8 (by decide) fl_X6_append_107 rfl rfl (by decide +kernel) rfl rfl (Nat.le_of_ble_eq_true rfl) dX6_append_48 rfl ?_
      refine g_aload_n (pc := 51) C dX6_append_51 0 rfl rfl ?_
      refine g_get (pc := 52) (ci := 6) (T := TX6) (N := 18) (v := .int (nI (ln + 1))) C in_X6_append_X6 0 rfl rfl 8 (by decide) fl_X6_append_107 rfl rfl dX6_append_52 ?_
      refine g_top (y := (apV ln x)) (by rw [apV, c13, hl]; rfl) ?_
      exact g_iret C hr hQ dX6_append_55 rfl ⟨_, _, rfl, rfl, fun _ => ⟨rfl, rfl⟩, fun h => (by rw [apQ, c13, hl] at h; cases h)⟩
    · have hl : decide (ln < 80) = false := decide_eq_false (by omega)
      refine g_bipush (pc := 28) (v := (-3)) C dX6_append_28 (by decide) ?_
      refine g_top (y := (apV ln x)) (by rw [apV, c13, hl]; rfl) ?_
      exact g_iret C hr hQ dX6_append_30 rfl ⟨_, _, rfl, rfl, fun h => (by rw [apQ, hl, Bool.and_false] at h; cases h), fun _ => ⟨rfl, rfl⟩⟩
  · refine g_bipush (pc := 16) (v := (-2)) C dX6_append_16 (by decide) ?_
    refine g_top (y := (apV ln x)) (by rw [apV, c13]; rfl) ?_
    exact g_iret C hr hQ dX6_append_18 rfl ⟨_, _, rfl, rfl, fun h => (by rw [apQ, c13] at h; cases h), fun _ => ⟨rfl, rfl⟩⟩

abbrev rm_X6_clearText : Room := { frames := 0, cells := 0, slots := 0, locals := 0 }
theorem yd_X6_clearText : yX6_clearText.cls = RX6 ∧ yX6_clearText.cls ≠ "java/lang/invoke/MethodHandle" ∧ yX6_clearText.cls ≠ "java/lang/invoke/VarHandle" ∧ (parseMethodDescriptor yX6_clearText.desc).map (fun d => d.parameters.length) = some 0 := by decide +kernel
theorem in_X6_clearText_X6 : ∀ w ∈ u_ws RX6 TX6 18, w ∈ wsX6_clearText := by decide +kernel
theorem fl_X6_clearText_43 : Cond.fieldLink RX6 43 "FenceHandshakesModel" "thrown" "I" ∈ wsX6_clearText := by decide +kernel
theorem fl_X6_clearText_107 : Cond.fieldLink RX6 107 "FenceHandshakesModel" "length" "I" ∈ wsX6_clearText := by decide +kernel
set_option maxHeartbeats 4000000 in
set_option maxRecDepth 100000 in
theorem m_X6_clearText (l : Launch) (D : va_G) (cI cC : ClassId) (q0 q1 q2 q3 q4 q5 q6 q7 q8 q9 q10 q11 : Nat) (th : Int32) (ss : Nat → Int32) (asd : Nat → Int32) (sts : Nat → Int32) (sm : Int32) (snp : Nat → Int32) (hx : Int32) (tx : Nat → Int32) (can : Nat → Int32) (szs : Nat → Int32) (ptn : Nat → Int32) (nms : Nat → Int32) (pth : Nat → Int32) (att : Int32) (isw : Int32) (rdd : Nat → Int32) (rmy : Int32) (ln : Nat) : g_M l yX6_clearText wsX6_clearText rm_X6_clearText D cI cC [.ref q0] (rW cI cC q0 q1 q2 q3 q4 q5 q6 q7 q8 q9 q10 q11 th ss asd sts sm snp hx tx (nI ln) can szs ptn nms pth att isw rdd rmy) (fun vv ww => vv = some (.int (nI ln)) ∧ ww = (rW cI cC q0 q1 q2 q3 q4 q5 q6 q7 q8 q9 q10 q11 (nI 0) ss asd sts sm snp hx tx (nI 0) can szs ptn nms pth att isw rdd rmy)) := by
  refine g_entry (lv := [(0, .ref q0)]) (own := RX6) (by decide) rfl rfl (Nat.le_of_ble_eq_true rfl) rfl ?_
  intro p e s m args below meth co A Q C hr hQ
  refine g_aload_n (pc := 0) C dX6_clearText_0 0 rfl rfl ?_
  refine g_iconst (pc := 1) (v := nI 0) C dX6_clearText_1 (by decide) ?_
  refine g_put (pc := 2) (ci := 6) (T := TX6) (N := 18) (ws' := (rW cI cC q0 q1 q2 q3 q4 q5 q6 q7 q8 q9 q10 q11 (nI 0) ss asd sts sm snp hx tx (nI ln) can szs ptn nms pth att isw rdd rmy)) (ty := .int) (v := .int (nI 0)) C in_X6_clearText_X6 tyX6 tyX6_ok nmX6 0 rfl rfl 0 (by decide) fl_X6_clearText_43 rfl rfl (by decide +kernel) rfl rfl (Nat.le_of_ble_eq_true rfl) dX6_clearText_2 rfl ?_
  refine g_aload_n (pc := 5) C dX6_clearText_5 0 rfl rfl ?_
  refine g_get (pc := 6) (ci := 6) (T := TX6) (N := 18) (v := .int (nI ln)) C in_X6_clearText_X6 0 rfl rfl 8 (by decide) fl_X6_clearText_107 rfl rfl dX6_clearText_6 ?_
  refine g_istore_n (pc := 9) (lv' := [(1, .int (nI ln)), (0, .ref q0)]) C dX6_clearText_9 rfl (by decide) rfl ?_
  refine g_aload_n (pc := 10) C dX6_clearText_10 1 rfl rfl ?_
  refine g_iconst (pc := 11) (v := nI 0) C dX6_clearText_11 (by decide) ?_
  refine g_put (pc := 12) (ci := 6) (T := TX6) (N := 18) (ws' := (rW cI cC q0 q1 q2 q3 q4 q5 q6 q7 q8 q9 q10 q11 (nI 0) ss asd sts sm snp hx tx (nI 0) can szs ptn nms pth att isw rdd rmy)) (ty := .int) (v := .int (nI 0)) C in_X6_clearText_X6 tyX6 tyX6_ok nmX6 0 rfl rfl 8 (by decide) fl_X6_clearText_107 rfl rfl (by decide +kernel) rfl rfl (Nat.le_of_ble_eq_true rfl) dX6_clearText_12 rfl ?_
  refine g_iload_n (pc := 15) C dX6_clearText_15 0 rfl rfl ?_
  exact g_iret C hr hQ dX6_clearText_16 rfl ⟨rfl, rfl⟩
