/-! wishes added in the reference -/
theorem bitt {m b : Nat} (h : (m >>> b) &&& 1 = 1) : m.testBit b = true := by
  rw [Nat.testBit, Nat.and_comm, h]; rfl
theorem bitf {m b : Nat} (h : (m >>> b) &&& 1 ≠ 1) : m.testBit b = false := by
  have h2 : (m >>> b) &&& 1 = 0 := by
    have := Nat.and_one_is_mod (m >>> b)
    omega
  rw [Nat.testBit, Nat.and_comm, h2]; rfl
def isA (L R k : Nat) : Bool := L.testBit (k / 8) && R.testBit (k % 8)
def adF (ss : Nat → Int32) (L R i : Nat) : Nat → Int32 := fun j => if 97 ≤ j ∧ j < 97 + i ∧ isA L R (j - 97) = true then nI 1 else ss j
theorem adF_0 (ss : Nat → Int32) (L R : Nat) : adF ss L R 0 = ss := by funext j; exact if_neg (fun h => by omega)
theorem adF_at (ss : Nat → Int32) (L R i : Nat) : adF ss L R i (97 + i) = ss (97 + i) := if_neg (fun h => by omega)
theorem adF_s {ss : Nat → Int32} {L R i : Nat} (h : isA L R i = true) : upd (adF ss L R i) (97 + i) (nI 1) = adF ss L R (i + 1) := by
  funext k
  by_cases hk : k = 97 + i
  · subst hk
    rw [upd_eq, adF, if_pos ⟨by omega, by omega, by rw [show 97 + i - 97 = i by omega]; exact h⟩]
  · rw [upd_ne hk, adF, adF]
    by_cases h2 : 97 ≤ k ∧ k < 97 + i ∧ isA L R (k - 97) = true
    · rw [if_pos h2, if_pos ⟨h2.1, by omega, h2.2.2⟩]
    · rw [if_neg h2, if_neg (fun z => h2 ⟨z.1, by omega, z.2.2⟩)]
theorem adF_n {ss : Nat → Int32} {L R i : Nat} (h : isA L R i = false) : upd (adF ss L R i) (97 + i) (ss (97 + i)) = adF ss L R (i + 1) := by
  funext k
  by_cases hk : k = 97 + i
  · subst hk
    rw [upd_eq, adF, if_neg (fun z => by rw [show 97 + i - 97 = i by omega, h] at z; cases z.2.2)]
  · rw [upd_ne hk, adF, adF]
    by_cases h2 : 97 ≤ k ∧ k < 97 + i ∧ isA L R (k - 97) = true
    · rw [if_pos h2, if_pos ⟨h2.1, by omega, h2.2.2⟩]
    · rw [if_neg h2, if_neg (fun z => h2 ⟨z.1, by omega, z.2.2⟩)]
theorem cnt_or (p q : Nat → Bool) : ∀ n, cnt (fun k => p k && !q k) n + cnt q n = cnt (fun k => p k || q k) n
  | 0 => rfl
  | n + 1 => by
    have ih := cnt_or p q n
    have key : ∀ x y : Bool, (if (x && !y) = true then 1 else 0) + (if y = true then 1 else 0) = (if (x || y) = true then 1 else 0) := by decide
    have hk := key (p n) (q n)
    simp only [cnt]
    omega
def adC (c : Nat → Int32) (L R : Nat) : Nat → Int32 := fun k => if 16 ≤ k ∧ k < 24 ∧ L.testBit (k - 16) = true then nI (cN c k ||| R) else c k
theorem adC_o {c : Nat → Int32} {L R k : Nat} (h : k < 16 ∨ 24 ≤ k) : adC c L R k = c k := if_neg (fun z => by omega)
theorem adC_w {c : Nat → Int32} {L R a : Nat} (h : cOK c) (hR : R < 256) (ha : a < 8) : adC c L R (16 + a) = nI (cN c (16 + a) ||| if L.testBit a = true then R else 0) := by
  by_cases q : L.testBit a = true
  · rw [adC, if_pos ⟨by omega, by omega, by rw [show 16 + a - 16 = a by omega]; exact q⟩, if_pos q]
  · rw [adC, if_neg (fun z => q (by rw [show 16 + a - 16 = a by omega] at z; exact z.2.2)), if_neg q, Nat.or_zero]
    exact h.w ha
theorem adC_lt {c : Nat → Int32} {L R a : Nat} (h : cOK c) (hR : R < 256) (ha : a < 8) : (cN c (16 + a) ||| if L.testBit a = true then R else 0) < 256 := by
  refine or_lt (h.w8 ha) ?_
  split
  · exact hR
  · decide
theorem adC_ok {c : Nat → Int32} {L R : Nat} (h : cOK c) (hR : R < 256) : cOK (adC c L R) := by
  have e : ∀ k, k < 16 ∨ 24 ≤ k → cN (adC c L R) k = cN c k := fun k hk => by rw [cN, adC_o hk]; rfl
  refine ⟨fun k hk => ?_, fun k hk => ?_, ?_⟩
  · rw [e k (by omega), adC_o (by omega)]; exact h.1 k hk
  · have hl := adC_lt (L := L) h hR hk
    rw [cN, adC_w h hR hk, cN_nI (by omega)]
    exact ⟨rfl, hl⟩
  · rw [e 152 (by omega), adC_o (by omega)]; exact h.2.2
theorem adC_wi {c : Nat → Int32} {L R a b : Nat} (h : cOK c) (hR : R < 256) (ha : a < 8) : wiC (adC c L R) a b = (wiC c a b || (L.testBit a && R.testBit b)) := by
  have hl := adC_lt (L := L) h hR ha
  rw [wiC, cN, adC_w h hR ha, cN_nI (by omega), Nat.testBit_or]
  by_cases q : L.testBit a = true
  · rw [if_pos q, q, Bool.true_and]; rfl
  · rw [if_neg q, Nat.zero_testBit, Bool.eq_false_iff.mpr q, Bool.false_and]; rfl
theorem adC_wq {c : Nat → Int32} {L R k : Nat} (h : cOK c) (hR : R < 256) (hk : k < 64) : wq (adC c L R) k = (isA L R k || wq c k) := by
  rw [wq, adC_wi h hR (by omega), isA, wq, Bool.or_comm]
theorem AD1 {c ss : Nat → Int32} {L R : Nat} (h : SR c ss) (hR : R < 256) : SR (adC c L R) (adF ss L R 64) := by
  have o : ∀ j, j < 97 ∨ 161 ≤ j → adF ss L R 64 j = ss j := fun j hj => if_neg (fun z => by omega)
  refine ⟨adC_ok h.ok hR, fun k hk => ?_, fun x y hx hy => ?_, fun k hk => ?_, fun x y hx hy => ?_, fun k hk => ?_, ?_⟩
  · rw [o _ (by omega), adC_o (by omega)]; exact h.g hk
  · rw [o _ (by omega), lk_of (adC_o (by omega))]; exact h.l hx hy
  · rw [o _ (by omega), adC_o (by omega)]; exact h.f hk
  · rw [adC_wi h.ok hR hx]
    have e : 97 + 8 * x + y - 97 = 8 * x + y := by omega
    have e2 : isA L R (8 * x + y) = (L.testBit x && R.testBit y) := by
      rw [isA, show (8 * x + y) / 8 = x by omega, show (8 * x + y) % 8 = y by omega]
    by_cases q : (L.testBit x && R.testBit y) = true
    · rw [adF, if_pos ⟨by omega, by omega, by rw [e, e2]; exact q⟩, q, Bool.or_true]; rfl
    · rw [adF, if_neg (fun z => q (by rw [e, e2] at z; exact z.2.2)), Bool.eq_false_iff.mpr q, Bool.or_false]
      exact h.w hx hy
  · rw [o _ (by omega), adC_o (by omega)]; exact h.t hk
  · rw [o _ (by omega), adC_o (by omega)]; exact h.r
theorem AD2 {c : Nat → Int32} {L R : Nat} (h : cOK c) (hR : R < 256) : cnt (fun k => isA L R k && !wq c k) 64 + nwC c 8 = nwC (adC c L R) 8 := by
  rw [← cnt_nw h 8 (Nat.le_refl _), ← cnt_nw (adC_ok (L := L) h hR) 8 (Nat.le_refl _)]
  show _ + cnt (wq c) 64 = cnt (wq (adC c L R)) 64
  rw [cnt_or]
  exact (cnt_cong 64 (fun k hk => adC_wq h hR hk)).symm
/-- the masks of a row of masks added -/
theorem rdC_o {c tr : Nat → Int32} : ∀ i, i ≤ 8 → ∀ k, (k < 16 ∨ 16 + i ≤ k) → rdC c tr i k = c k
  | 0, _, k, _ => rfl
  | i + 1, hi, k, hk => by
    show upd (rdC c tr i) (16 + i) _ k = c k
    rw [upd_ne (by omega)]
    exact rdC_o i (by omega) k (by omega)
theorem rdC_w {c tr : Nat → Int32} : ∀ i, i ≤ 8 → ∀ a, a < i → rdC c tr i (16 + a) = nI (cN c (16 + a) ||| cN tr a)
  | 0, _, a, ha => absurd ha (Nat.not_lt_zero _)
  | i + 1, hi, a, ha => by
    show upd (rdC c tr i) (16 + i) (nI (cN (rdC c tr i) (16 + i) ||| cN tr i)) (16 + a) = _
    by_cases e : a = i
    · subst e
      rw [upd_eq, cN, rdC_o a (by omega) _ (by omega)]
      rfl
    · rw [upd_ne (by omega)]
      exact rdC_w i (by omega) a (by omega)
theorem nw_same {c c2 : Nat → Int32} (h : same c c2) : ∀ n, n ≤ 8 → nwC c n = nwC c2 n
  | 0, _ => rfl
  | n + 1, hn => by
    simp only [nwC]
    rw [nw_same h n (by omega), same_N h (by omega)]
theorem gro_ok {rdd r : Nat → Int32} : ∀ m, (∀ i, i < 2 * m → rdd i = nI (cN rdd i) ∧ cN rdd i < 256) → rok (gro rdd (fillF r (nI 0) 8) m)
  | 0, _ => rok_fill r
  | m + 1, h => rok_eg (gro_ok m (fun i hi => h i (by omega))) (h (2 * m + 1) (by omega)).2
theorem rd_0 {c r : Nat → Int32} (h : cOK c) : same (rdC c (fillF r (nI 0) 8) 8) c := fun k hk => by
  by_cases q : 16 ≤ k ∧ k < 24
  · obtain ⟨a, rfl⟩ : ∃ a, k = 16 + a := ⟨k - 16, by omega⟩
    rw [rdC_w 8 (Nat.le_refl _) a (by omega), cN, cN, fillF_in (by omega), show (nI 0).toNatClampNeg = 0 from nI_clamp (by decide), Nat.or_zero]
    exact (h.w (by omega)).symm
  · exact rdC_o 8 (Nat.le_refl _) k (by omega)
theorem rd_s {c tr : Nat → Int32} {L R : Nat} (h : cOK c) (ht : rok tr) (hR : R < 256) : same (adC (rdC c tr 8) L R) (rdC c (egF tr L R 8) 8) := fun k hk => by
  have h8 := rdC_ok h ht 8 (Nat.le_refl _)
  by_cases q : 16 ≤ k ∧ k < 24
  · obtain ⟨a, rfl⟩ : ∃ a, k = 16 + a := ⟨k - 16, by omega⟩
    have ha : a < 8 := by omega
    have hl : (cN c (16 + a) ||| cN tr a) < 256 := or_lt (h.w8 ha) (ht a ha).2
    rw [adC_w h8 hR ha, rdC_w 8 (Nat.le_refl _) a ha, cN, rdC_w 8 (Nat.le_refl _) a ha, cN_nI (by omega), Nat.or_assoc]
    refine congrArg (fun x => nI (cN c (16 + a) ||| x)) ?_
    by_cases z : L.testBit a = true
    · have hl2 : cN tr a ||| R < 256 := or_lt (ht a ha).2 hR
      have e1 : (egF tr L R 8 a).toNatClampNeg = cN tr a ||| R := by
        rw [egF, if_pos ⟨ha, z⟩, (ht a ha).1, g_or]
        exact nI_clamp (by omega)
      rw [if_pos z]
      exact e1.symm
    · rw [if_neg z, Nat.or_zero, cN, cN, egF, if_neg (fun w => z w.2)]
  · rw [adC_o (by omega), rdC_o 8 (Nat.le_refl _) k (by omega), rdC_o 8 (Nat.le_refl _) k (by omega)]
def rdd_ok (rdd : Nat → Int32) (m : Nat) : Prop := ∀ i, i < 2 * m → rdd i = nI (cN rdd i) ∧ cN rdd i < 256
theorem SR.rd {c ss tr : Nat → Int32} {L R : Nat} (h : cOK c) (ht : rok tr) (hR : R < 256) (hS : SR (rdC c tr 8) ss) : SR (rdC c (egF tr L R 8) 8) (adF ss L R 64) := (AD1 (L := L) hS hR).cells (fun k hk => (rd_s h ht hR k hk).symm)
theorem nw_rd {c tr : Nat → Int32} {L R n : Nat} (h : cOK c) (ht : rok tr) (hR : R < 256) (hn : n + nwC c 8 = nwC (rdC c tr 8) 8) : n + cnt (fun k => isA L R k && !wq (rdC c tr 8) k) 64 + nwC c 8 = nwC (rdC c (egF tr L R 8) 8) 8 := by
  have h1 := AD2 (L := L) (rdC_ok h ht 8 (Nat.le_refl _)) hR
  rw [nw_same (rd_s h ht hR) 8 (Nat.le_refl _)] at h1
  omega
theorem rd_g0 {c r rdd : Nat → Int32} (h : cOK c) : same (rdC c (gro rdd (fillF r (nI 0) 8) 0) 8) c := rd_0 h
theorem SR.g0 {c ss r rdd : Nat → Int32} (hS : SR c ss) : SR (rdC c (gro rdd (fillF r (nI 0) 8) 0) 8) ss := hS.cells (fun k hk => rd_g0 hS.ok k hk)
theorem nw_g0 {c r rdd : Nat → Int32} (h : cOK c) : 0 + nwC c 8 = nwC (rdC c (gro rdd (fillF r (nI 0) 8) 0) 8) 8 := by
  rw [Nat.zero_add]; exact (nw_same (rd_g0 h) 8 (Nat.le_refl _)).symm
theorem SR.gs {c ss r rdd : Nat → Int32} {m k : Nat} (h : cOK c) (hb : rdd_ok rdd m) (hk : k < m) (hS : SR (rdC c (gro rdd (fillF r (nI 0) 8) k) 8) ss) : SR (rdC c (gro rdd (fillF r (nI 0) 8) (k + 1)) 8) (adF ss (cN rdd (2 * k)) (cN rdd (2 * k + 1)) 64) :=
  SR.rd h (gro_ok k (fun i hi => hb i (by omega))) (hb (2 * k + 1) (by omega)).2 hS
theorem nw_gs {c r rdd : Nat → Int32} {m k n : Nat} (h : cOK c) (hb : rdd_ok rdd m) (hk : k < m) (hn : n + nwC c 8 = nwC (rdC c (gro rdd (fillF r (nI 0) 8) k) 8) 8) : n + cnt (fun kx => isA (cN rdd (2 * k)) (cN rdd (2 * k + 1)) kx && !wq (rdC c (gro rdd (fillF r (nI 0) 8) k) 8) kx) 64 + nwC c 8 = nwC (rdC c (gro rdd (fillF r (nI 0) 8) (k + 1)) 8) 8 :=
  nw_rd h (gro_ok k (fun i hi => hb i (by omega))) (hb (2 * k + 1) (by omega)).2 hn
abbrev rm_X6_adds : Room := { frames := 0, cells := 0, slots := 0, locals := 0 }
theorem yd_X6_adds : yX6_adds.cls = RX6 ∧ yX6_adds.cls ≠ "java/lang/invoke/MethodHandle" ∧ yX6_adds.cls ≠ "java/lang/invoke/VarHandle" ∧ (parseMethodDescriptor yX6_adds.desc).map (fun d => d.parameters.length) = some 2 := by decide +kernel
theorem in_X6_adds_X6 : ∀ w ∈ u_ws RX6 TX6 18, w ∈ wsX6_adds := by decide +kernel
theorem fl_X6_adds_7 : Cond.fieldLink RX6 7 "FenceHandshakesModel" "s" "[I" ∈ wsX6_adds := by decide +kernel
set_option maxHeartbeats 4000000 in
set_option maxRecDepth 100000 in
theorem m_X6_adds (l : Launch) (D : va_G) (cI cC : ClassId) (q0 q1 q2 q3 q4 q5 q6 q7 q8 q9 q10 q11 : Nat) (th : Int32) (ss : Nat → Int32) (asd : Nat → Int32) (sts : Nat → Int32) (sm : Int32) (snp : Nat → Int32) (hx : Int32) (tx : Nat → Int32) (lgt : Int32) (can : Nat → Int32) (szs : Nat → Int32) (ptn : Nat → Int32) (nms : Nat → Int32) (pth : Nat → Int32) (att : Int32) (isw : Int32) (rdd : Nat → Int32) (rmy : Int32) (c : Nat → Int32) (L : Nat) (Rr : Nat) (hS : SR c ss) (hLL : L < 256) (hRR : Rr < 256) : g_M l yX6_adds wsX6_adds rm_X6_adds D cI cC [.ref q0, .int (nI L), .int (nI Rr)] (rW cI cC q0 q1 q2 q3 q4 q5 q6 q7 q8 q9 q10 q11 th ss asd sts sm snp hx tx lgt can szs ptn nms pth att isw rdd rmy) (fun vv ww => vv = some (.int (nI (cnt (fun kx => isA L Rr kx && !wq c kx) 64))) ∧ ww = (rW cI cC q0 q1 q2 q3 q4 q5 q6 q7 q8 q9 q10 q11 th (adF ss L Rr 64) asd sts sm snp hx tx lgt can szs ptn nms pth att isw rdd rmy)) := by
  refine g_entry (lv := [(0, .ref q0), (1, .int (nI L)), (2, .int (nI Rr))]) (own := RX6) (by decide) rfl rfl (Nat.le_of_ble_eq_true rfl) rfl ?_
  intro p e s m args below meth co A Q C hr hQ
  refine g_ws (ws' := (rW cI cC q0 q1 q2 q3 q4 q5 q6 q7 q8 q9 q10 q11 th (adF ss L Rr 0) asd sts sm snp hx tx lgt can szs ptn nms pth att isw rdd rmy)) (by rw [adF_0]) ?_
  refine g_iconst (pc := 0) (v := nI 0) C dX6_adds_0 (by decide) ?_
  refine g_istore_n (pc := 1) (lv' := [(3, .int (nI 0)), (0, .ref q0), (1, .int (nI L)), (2, .int (nI Rr))]) C dX6_adds_1 rfl (by decide) rfl ?_
  refine g_iconst (pc := 2) (v := nI 0) C dX6_adds_2 (by decide) ?_
  refine g_istore (pc := 3) (lv' := [(4, .int (nI 0)), (3, .int (nI 0)), (0, .ref q0), (1, .int (nI L)), (2, .int (nI Rr))]) C dX6_adds_3 (by decide) rfl ?_
  have L5 : ∀ (NZ : Nat) (i : Nat) (u : Nat), 64 - i < NZ → (i ≤ 64) → (u = (cnt (fun kx => isA L Rr kx && !wq c kx) i)) → g_J p l e rm_X6_adds s m args below meth co Q D A 6 0 0 (rW cI cC q0 q1 q2 q3 q4 q5 q6 q7 q8 q9 q10 q11 th (adF ss L Rr i) asd sts sm snp hx tx lgt can szs ptn nms pth att isw rdd rmy) 5 [(0, .ref q0), (1, .int (nI L)), (2, .int (nI Rr)), (3, .int (nI u)), (4, .int (nI i))] [] := by
    intro NZ
    induction NZ with
    | zero => intro i u hN; exact absurd hN (Nat.not_lt_zero _)
    | succ NZ ih5 =>
      intro i u hN5 hi hu
      refine g_iload (pc := 5) C dX6_adds_5 4 rfl ?_
      refine g_bipush (pc := 7) (v := nI 64) C dX6_adds_7 (by decide) ?_
      refine g_icmp_geN (pc := 9) C 106 (by omega) (by omega) dX6_adds_9 (by decide) (fun c9 => ?_) (fun c9 => ?_)
      · refine g_iload_n (pc := 106) C dX6_adds_106 3 rfl rfl ?_
        refine g_ws (ws' := (rW cI cC q0 q1 q2 q3 q4 q5 q6 q7 q8 q9 q10 q11 th (adF ss L Rr 64) asd sts sm snp hx tx lgt can szs ptn nms pth att isw rdd rmy)) (by rw [show i = 64 by omega]) ?_
        refine g_top (y := nI (cnt (fun kx => isA L Rr kx && !wq c kx) 64)) (by rw [hu, show i = 64 by omega]) ?_
        exact g_iret C hr hQ dX6_adds_107 rfl ⟨rfl, rfl⟩
      · refine g_iload_n (pc := 12) C dX6_adds_12 1 rfl rfl ?_
        refine g_iload (pc := 13) C dX6_adds_13 4 rfl ?_
        refine g_bipush (pc := 15) (v := nI 8) C dX6_adds_15 (by decide) ?_
        refine g_idivN (pc := 17) C dX6_adds_17 (by omega) (by omega) (by omega) ?_
        refine g_ishrN (pc := 18) C (by omega) (by omega) dX6_adds_18 ?_
        refine g_iconst (pc := 19) (v := nI 1) C dX6_adds_19 (by decide) ?_
        refine g_iandN (pc := 20) C dX6_adds_20 ?_
        refine g_iconst (pc := 21) (v := nI 1) C dX6_adds_21 (by decide) ?_
        refine g_icmp_neN (pc := 22) C 42 (g_and1 _) (by decide) dX6_adds_22 (by decide) (fun c22 => ?_) (fun c22 => ?_)
        · refine g_iconst (pc := 42) (v := nI 0) C dX6_adds_42 (by decide) ?_
          refine g_top (y := bI (isA L Rr i)) (by rw [isA, bitf c22]; rfl) ?_
          refine g_istore (pc := 43) (lv' := [(5, .int (bI (isA L Rr i))), (0, .ref q0), (1, .int (nI L)), (2, .int (nI Rr)), (3, .int (nI u)), (4, .int (nI i))]) C dX6_adds_43 (by decide) rfl ?_
          refine g_iload_n (pc := 45) C dX6_adds_45 4 rfl rfl ?_
          refine g_iload (pc := 46) C dX6_adds_46 0 rfl ?_
          refine g_if_eqB (pc := 48) C 68 dX6_adds_48 (by decide) (fun c48 => ?_) (fun c48 => ?_)
          · refine g_iconst (pc := 68) (v := nI 0) C dX6_adds_68 (by decide) ?_
            refine g_iaddN (pc := 69) C dX6_adds_69 ?_
            refine g_istore_n (pc := 70) (lv' := [(3, .int (nI (u + 0))), (5, .int (bI (isA L Rr i))), (0, .ref q0), (1, .int (nI L)), (2, .int (nI Rr)), (4, .int (nI i))]) C dX6_adds_70 rfl (by decide) rfl ?_
            refine g_aload_n (pc := 71) C dX6_adds_71 2 rfl rfl ?_
            refine g_get (pc := 72) (ci := 6) (T := TX6) (N := 18) (v := .ref q1) C in_X6_adds_X6 0 rfl rfl 1 (by decide) fl_X6_adds_7 rfl rfl dX6_adds_72 ?_
            refine g_bipush (pc := 75) (v := nI 97) C dX6_adds_75 (by decide) ?_
            refine g_iload (pc := 77) C dX6_adds_77 5 rfl ?_
            refine g_iaddN (pc := 79) C dX6_adds_79 ?_
            refine g_iload (pc := 80) C dX6_adds_80 1 rfl ?_
            refine g_if_eqB (pc := 82) C 89 dX6_adds_82 (by decide) (fun c82 => ?_) (fun c82 => ?_)
            · refine g_aload_n (pc := 89) C dX6_adds_89 2 rfl rfl ?_
              refine g_get (pc := 90) (ci := 6) (T := TX6) (N := 18) (v := .ref q1) C in_X6_adds_X6 0 rfl rfl 1 (by decide) fl_X6_adds_7 rfl rfl dX6_adds_90 ?_
              refine g_bipush (pc := 93) (v := nI 97) C dX6_adds_93 (by decide) ?_
              refine g_iload (pc := 95) C dX6_adds_95 5 rfl ?_
              refine g_iaddN (pc := 97) C dX6_adds_97 ?_
              refine g_ialdN (pc := 98) (f := (adF ss L Rr i)) C 1 rfl (by omega) (by decide) dX6_adds_98 ?_
              refine g_top (y := (ss (97 + i))) (adF_at _ _ _ _) ?_
              refine g_iastN (pc := 99) (f := (adF ss L Rr i)) (ws' := (rW cI cC q0 q1 q2 q3 q4 q5 q6 q7 q8 q9 q10 q11 th (upd (adF ss L Rr i) (97 + i) ((ss (97 + i)))) asd sts sm snp hx tx lgt can szs ptn nms pth att isw rdd rmy)) C 1 rfl (by omega) (by decide) dX6_adds_99 rfl ?_
              refine g_iinc (pc := 100) (lv' := [(4, .int (nI (i + 1))), (3, .int (nI (u + 0))), (5, .int (bI (isA L Rr i))), (0, .ref q0), (1, .int (nI L)), (2, .int (nI Rr))]) C dX6_adds_100 5 rfl (nI_add i 1) (by decide) rfl ?_
              refine g_goto (pc := 103) C 5 dX6_adds_103 (by decide) ?_
              refine g_ws (ws' := (rW cI cC q0 q1 q2 q3 q4 q5 q6 q7 q8 q9 q10 q11 th (adF ss L Rr (i + 1)) asd sts sm snp hx tx lgt can szs ptn nms pth att isw rdd rmy)) (by rw [adF_n c48]) ?_
              refine g_lvp (lv' := [(0, .ref q0), (1, .int (nI L)), (2, .int (nI Rr)), (3, .int (nI (u + 0))), (4, .int (nI (i + 1)))]) [3, 4, 5, 1, 0] rfl ?_
              exact ih5 (i + 1) (u + 0) (by omega) (by first | assumption | omega) (by rw [hu, show (cnt (fun kx => isA L Rr kx && !wq c kx) (i + 1)) = (cnt (fun kx => isA L Rr kx && !wq c kx) i) + (if (isA L Rr i && !wq c i) then 1 else 0) from rfl, c48]; rfl)
            · exact absurd (c48.symm.trans c82) (by decide)
          · refine g_aload_n (pc := 51) C dX6_adds_51 1 rfl rfl ?_
            refine g_get (pc := 52) (ci := 6) (T := TX6) (N := 18) (v := .ref q1) C in_X6_adds_X6 0 rfl rfl 1 (by decide) fl_X6_adds_7 rfl rfl dX6_adds_52 ?_
            refine g_bipush (pc := 55) (v := nI 97) C dX6_adds_55 (by decide) ?_
            refine g_iload (pc := 57) C dX6_adds_57 5 rfl ?_
            refine g_iaddN (pc := 59) C dX6_adds_59 ?_
            refine g_ialdN (pc := 60) (f := (adF ss L Rr i)) C 1 rfl (by omega) (by decide) dX6_adds_60 ?_
            refine g_top (y := bI (wq c i)) (by rw [adF_at]; exact hS.wk (by omega)) ?_
            refine g_if_neB (pc := 61) C 68 dX6_adds_61 (by decide) (fun c61 => ?_) (fun c61 => ?_)
            · refine g_iconst (pc := 68) (v := nI 0) C dX6_adds_68 (by decide) ?_
              refine g_iaddN (pc := 69) C dX6_adds_69 ?_
              refine g_istore_n (pc := 70) (lv' := [(3, .int (nI (u + 0))), (5, .int (bI (isA L Rr i))), (0, .ref q0), (1, .int (nI L)), (2, .int (nI Rr)), (4, .int (nI i))]) C dX6_adds_70 rfl (by decide) rfl ?_
              refine g_aload_n (pc := 71) C dX6_adds_71 2 rfl rfl ?_
              refine g_get (pc := 72) (ci := 6) (T := TX6) (N := 18) (v := .ref q1) C in_X6_adds_X6 0 rfl rfl 1 (by decide) fl_X6_adds_7 rfl rfl dX6_adds_72 ?_
              refine g_bipush (pc := 75) (v := nI 97) C dX6_adds_75 (by decide) ?_
              refine g_iload (pc := 77) C dX6_adds_77 5 rfl ?_
              refine g_iaddN (pc := 79) C dX6_adds_79 ?_
              refine g_iload (pc := 80) C dX6_adds_80 1 rfl ?_
              refine g_if_eqB (pc := 82) C 89 dX6_adds_82 (by decide) (fun c82 => ?_) (fun c82 => ?_)
              · exact absurd (c48.symm.trans c82) (by decide)
              · refine g_iconst (pc := 85) (v := nI 1) C dX6_adds_85 (by decide) ?_
                refine g_goto (pc := 86) C 99 dX6_adds_86 (by decide) ?_
                refine g_iastN (pc := 99) (f := (adF ss L Rr i)) (ws' := (rW cI cC q0 q1 q2 q3 q4 q5 q6 q7 q8 q9 q10 q11 th (upd (adF ss L Rr i) (97 + i) (nI 1)) asd sts sm snp hx tx lgt can szs ptn nms pth att isw rdd rmy)) C 1 rfl (by omega) (by decide) dX6_adds_99 rfl ?_
                refine g_iinc (pc := 100) (lv' := [(4, .int (nI (i + 1))), (3, .int (nI (u + 0))), (5, .int (bI (isA L Rr i))), (0, .ref q0), (1, .int (nI L)), (2, .int (nI Rr))]) C dX6_adds_100 5 rfl (nI_add i 1) (by decide) rfl ?_
                refine g_goto (pc := 103) C 5 dX6_adds_103 (by decide) ?_
                refine g_ws (ws' := (rW cI cC q0 q1 q2 q3 q4 q5 q6 q7 q8 q9 q10 q11 th (adF ss L Rr (i + 1)) asd sts sm snp hx tx lgt can szs ptn nms pth att isw rdd rmy)) (by rw [adF_s c48]) ?_
                refine g_lvp (lv' := [(0, .ref q0), (1, .int (nI L)), (2, .int (nI Rr)), (3, .int (nI (u + 0))), (4, .int (nI (i + 1)))]) [3, 4, 5, 1, 0] rfl ?_
                exact ih5 (i + 1) (u + 0) (by omega) (by first | assumption | omega) (by rw [hu, show (cnt (fun kx => isA L Rr kx && !wq c kx) (i + 1)) = (cnt (fun kx => isA L Rr kx && !wq c kx) i) + (if (isA L Rr i && !wq c i) then 1 else 0) from rfl, c48, c61]; rfl)
            · refine g_iconst (pc := 64) (v := nI 1) C dX6_adds_64 (by decide) ?_
              refine g_goto (pc := 65) C 69 dX6_adds_65 (by decide) ?_
              refine g_iaddN (pc := 69) C dX6_adds_69 ?_
              refine g_istore_n (pc := 70) (lv' := [(3, .int (nI (u + 1))), (5, .int (bI (isA L Rr i))), (0, .ref q0), (1, .int (nI L)), (2, .int (nI Rr)), (4, .int (nI i))]) C dX6_adds_70 rfl (by decide) rfl ?_
              refine g_aload_n (pc := 71) C dX6_adds_71 2 rfl rfl ?_
              refine g_get (pc := 72) (ci := 6) (T := TX6) (N := 18) (v := .ref q1) C in_X6_adds_X6 0 rfl rfl 1 (by decide) fl_X6_adds_7 rfl rfl dX6_adds_72 ?_
              refine g_bipush (pc := 75) (v := nI 97) C dX6_adds_75 (by decide) ?_
              refine g_iload (pc := 77) C dX6_adds_77 5 rfl ?_
              refine g_iaddN (pc := 79) C dX6_adds_79 ?_
              refine g_iload (pc := 80) C dX6_adds_80 1 rfl ?_
              refine g_if_eqB (pc := 82) C 89 dX6_adds_82 (by decide) (fun c82 => ?_) (fun c82 => ?_)
              · exact absurd (c48.symm.trans c82) (by decide)
              · refine g_iconst (pc := 85) (v := nI 1) C dX6_adds_85 (by decide) ?_
                refine g_goto (pc := 86) C 99 dX6_adds_86 (by decide) ?_
                refine g_iastN (pc := 99) (f := (adF ss L Rr i)) (ws' := (rW cI cC q0 q1 q2 q3 q4 q5 q6 q7 q8 q9 q10 q11 th (upd (adF ss L Rr i) (97 + i) (nI 1)) asd sts sm snp hx tx lgt can szs ptn nms pth att isw rdd rmy)) C 1 rfl (by omega) (by decide) dX6_adds_99 rfl ?_
                refine g_iinc (pc := 100) (lv' := [(4, .int (nI (i + 1))), (3, .int (nI (u + 1))), (5, .int (bI (isA L Rr i))), (0, .ref q0), (1, .int (nI L)), (2, .int (nI Rr))]) C dX6_adds_100 5 rfl (nI_add i 1) (by decide) rfl ?_
                refine g_goto (pc := 103) C 5 dX6_adds_103 (by decide) ?_
                refine g_ws (ws' := (rW cI cC q0 q1 q2 q3 q4 q5 q6 q7 q8 q9 q10 q11 th (adF ss L Rr (i + 1)) asd sts sm snp hx tx lgt can szs ptn nms pth att isw rdd rmy)) (by rw [adF_s c48]) ?_
                refine g_lvp (lv' := [(0, .ref q0), (1, .int (nI L)), (2, .int (nI Rr)), (3, .int (nI (u + 1))), (4, .int (nI (i + 1)))]) [3, 4, 5, 1, 0] rfl ?_
                exact ih5 (i + 1) (u + 1) (by omega) (by first | assumption | omega) (by rw [hu, show (cnt (fun kx => isA L Rr kx && !wq c kx) (i + 1)) = (cnt (fun kx => isA L Rr kx && !wq c kx) i) + (if (isA L Rr i && !wq c i) then 1 else 0) from rfl, c48, c61]; rfl)
        · refine g_iload_n (pc := 25) C dX6_adds_25 2 rfl rfl ?_
          refine g_iload (pc := 26) C dX6_adds_26 4 rfl ?_
          refine g_bipush (pc := 28) (v := nI 8) C dX6_adds_28 (by decide) ?_
          refine g_iremN (pc := 30) C dX6_adds_30 (by omega) (by omega) (by omega) ?_
          refine g_ishrN (pc := 31) C (by omega) (by omega) dX6_adds_31 ?_
          refine g_iconst (pc := 32) (v := nI 1) C dX6_adds_32 (by decide) ?_
          refine g_iandN (pc := 33) C dX6_adds_33 ?_
          refine g_iconst (pc := 34) (v := nI 1) C dX6_adds_34 (by decide) ?_
          refine g_icmp_neN (pc := 35) C 42 (g_and1 _) (by decide) dX6_adds_35 (by decide) (fun c35 => ?_) (fun c35 => ?_)
          · refine g_iconst (pc := 42) (v := nI 0) C dX6_adds_42 (by decide) ?_
            refine g_top (y := bI (isA L Rr i)) (by rw [isA, bitt c22, bitf c35]; rfl) ?_
            refine g_istore (pc := 43) (lv' := [(5, .int (bI (isA L Rr i))), (0, .ref q0), (1, .int (nI L)), (2, .int (nI Rr)), (3, .int (nI u)), (4, .int (nI i))]) C dX6_adds_43 (by decide) rfl ?_
            refine g_iload_n (pc := 45) C dX6_adds_45 4 rfl rfl ?_
            refine g_iload (pc := 46) C dX6_adds_46 0 rfl ?_
            refine g_if_eqB (pc := 48) C 68 dX6_adds_48 (by decide) (fun c48 => ?_) (fun c48 => ?_)
            · refine g_iconst (pc := 68) (v := nI 0) C dX6_adds_68 (by decide) ?_
              refine g_iaddN (pc := 69) C dX6_adds_69 ?_
              refine g_istore_n (pc := 70) (lv' := [(3, .int (nI (u + 0))), (5, .int (bI (isA L Rr i))), (0, .ref q0), (1, .int (nI L)), (2, .int (nI Rr)), (4, .int (nI i))]) C dX6_adds_70 rfl (by decide) rfl ?_
              refine g_aload_n (pc := 71) C dX6_adds_71 2 rfl rfl ?_
              refine g_get (pc := 72) (ci := 6) (T := TX6) (N := 18) (v := .ref q1) C in_X6_adds_X6 0 rfl rfl 1 (by decide) fl_X6_adds_7 rfl rfl dX6_adds_72 ?_
              refine g_bipush (pc := 75) (v := nI 97) C dX6_adds_75 (by decide) ?_
              refine g_iload (pc := 77) C dX6_adds_77 5 rfl ?_
              refine g_iaddN (pc := 79) C dX6_adds_79 ?_
              refine g_iload (pc := 80) C dX6_adds_80 1 rfl ?_
              refine g_if_eqB (pc := 82) C 89 dX6_adds_82 (by decide) (fun c82 => ?_) (fun c82 => ?_)
              · refine g_aload_n (pc := 89) C dX6_adds_89 2 rfl rfl ?_
                refine g_get (pc := 90) (ci := 6) (T := TX6) (N := 18) (v := .ref q1) C in_X6_adds_X6 0 rfl rfl 1 (by decide) fl_X6_adds_7 rfl rfl dX6_adds_90 ?_
                refine g_bipush (pc := 93) (v := nI 97) C dX6_adds_93 (by decide) ?_
                refine g_iload (pc := 95) C dX6_adds_95 5 rfl ?_
                refine g_iaddN (pc := 97) C dX6_adds_97 ?_
                refine g_ialdN (pc := 98) (f := (adF ss L Rr i)) C 1 rfl (by omega) (by decide) dX6_adds_98 ?_
                refine g_top (y := (ss (97 + i))) (adF_at _ _ _ _) ?_
                refine g_iastN (pc := 99) (f := (adF ss L Rr i)) (ws' := (rW cI cC q0 q1 q2 q3 q4 q5 q6 q7 q8 q9 q10 q11 th (upd (adF ss L Rr i) (97 + i) ((ss (97 + i)))) asd sts sm snp hx tx lgt can szs ptn nms pth att isw rdd rmy)) C 1 rfl (by omega) (by decide) dX6_adds_99 rfl ?_
                refine g_iinc (pc := 100) (lv' := [(4, .int (nI (i + 1))), (3, .int (nI (u + 0))), (5, .int (bI (isA L Rr i))), (0, .ref q0), (1, .int (nI L)), (2, .int (nI Rr))]) C dX6_adds_100 5 rfl (nI_add i 1) (by decide) rfl ?_
                refine g_goto (pc := 103) C 5 dX6_adds_103 (by decide) ?_
                refine g_ws (ws' := (rW cI cC q0 q1 q2 q3 q4 q5 q6 q7 q8 q9 q10 q11 th (adF ss L Rr (i + 1)) asd sts sm snp hx tx lgt can szs ptn nms pth att isw rdd rmy)) (by rw [adF_n c48]) ?_
                refine g_lvp (lv' := [(0, .ref q0), (1, .int (nI L)), (2, .int (nI Rr)), (3, .int (nI (u + 0))), (4, .int (nI (i + 1)))]) [3, 4, 5, 1, 0] rfl ?_
                exact ih5 (i + 1) (u + 0) (by omega) (by first | assumption | omega) (by rw [hu, show (cnt (fun kx => isA L Rr kx && !wq c kx) (i + 1)) = (cnt (fun kx => isA L Rr kx && !wq c kx) i) + (if (isA L Rr i && !wq c i) then 1 else 0) from rfl, c48]; rfl)
              · exact absurd (c48.symm.trans c82) (by decide)
            · refine g_aload_n (pc := 51) C dX6_adds_51 1 rfl rfl ?_
              refine g_get (pc := 52) (ci := 6) (T := TX6) (N := 18) (v := .ref q1) C in_X6_adds_X6 0 rfl rfl 1 (by decide) fl_X6_adds_7 rfl rfl dX6_adds_52 ?_
              refine g_bipush (pc := 55) (v := nI 97) C dX6_adds_55 (by decide) ?_
              refine g_iload (pc := 57) C dX6_adds_57 5 rfl ?_
              refine g_iaddN (pc := 59) C dX6_adds_59 ?_
              refine g_ialdN (pc := 60) (f := (adF ss L Rr i)) C 1 rfl (by omega) (by decide) dX6_adds_60 ?_
              refine g_top (y := bI (wq c i)) (by rw [adF_at]; exact hS.wk (by omega)) ?_
              refine g_if_neB (pc := 61) C 68 dX6_adds_61 (by decide) (fun c61 => ?_) (fun c61 => ?_)
              · refine g_iconst (pc := 68) (v := nI 0) C dX6_adds_68 (by decide) ?_
                refine g_iaddN (pc := 69) C dX6_adds_69 ?_
                refine g_istore_n (pc := 70) (lv' := [(3, .int (nI (u + 0))), (5, .int (bI (isA L Rr i))), (0, .ref q0), (1, .int (nI L)), (2, .int (nI Rr)), (4, .int (nI i))]) C dX6_adds_70 rfl (by decide) rfl ?_
                refine g_aload_n (pc := 71) C dX6_adds_71 2 rfl rfl ?_
                refine g_get (pc := 72) (ci := 6) (T := TX6) (N := 18) (v := .ref q1) C in_X6_adds_X6 0 rfl rfl 1 (by decide) fl_X6_adds_7 rfl rfl dX6_adds_72 ?_
                refine g_bipush (pc := 75) (v := nI 97) C dX6_adds_75 (by decide) ?_
                refine g_iload (pc := 77) C dX6_adds_77 5 rfl ?_
                refine g_iaddN (pc := 79) C dX6_adds_79 ?_
                refine g_iload (pc := 80) C dX6_adds_80 1 rfl ?_
                refine g_if_eqB (pc := 82) C 89 dX6_adds_82 (by decide) (fun c82 => ?_) (fun c82 => ?_)
                · exact absurd (c48.symm.trans c82) (by decide)
                · refine g_iconst (pc := 85) (v := nI 1) C dX6_adds_85 (by decide) ?_
                  refine g_goto (pc := 86) C 99 dX6_adds_86 (by decide) ?_
                  refine g_iastN (pc := 99) (f := (adF ss L Rr i)) (ws' := (rW cI cC q0 q1 q2 q3 q4 q5 q6 q7 q8 q9 q10 q11 th (upd (adF ss L Rr i) (97 + i) (nI 1)) asd sts sm snp hx tx lgt can szs ptn nms pth att isw rdd rmy)) C 1 rfl (by omega) (by decide) dX6_adds_99 rfl ?_
                  refine g_iinc (pc := 100) (lv' := [(4, .int (nI (i + 1))), (3, .int (nI (u + 0))), (5, .int (bI (isA L Rr i))), (0, .ref q0), (1, .int (nI L)), (2, .int (nI Rr))]) C dX6_adds_100 5 rfl (nI_add i 1) (by decide) rfl ?_
                  refine g_goto (pc := 103) C 5 dX6_adds_103 (by decide) ?_
                  refine g_ws (ws' := (rW cI cC q0 q1 q2 q3 q4 q5 q6 q7 q8 q9 q10 q11 th (adF ss L Rr (i + 1)) asd sts sm snp hx tx lgt can szs ptn nms pth att isw rdd rmy)) (by rw [adF_s c48]) ?_
                  refine g_lvp (lv' := [(0, .ref q0), (1, .int (nI L)), (2, .int (nI Rr)), (3, .int (nI (u + 0))), (4, .int (nI (i + 1)))]) [3, 4, 5, 1, 0] rfl ?_
                  exact ih5 (i + 1) (u + 0) (by omega) (by first | assumption | omega) (by rw [hu, show (cnt (fun kx => isA L Rr kx && !wq c kx) (i + 1)) = (cnt (fun kx => isA L Rr kx && !wq c kx) i) + (if (isA L Rr i && !wq c i) then 1 else 0) from rfl, c48, c61]; rfl)
              · refine g_iconst (pc := 64) (v := nI 1) C dX6_adds_64 (by decide) ?_
                refine g_goto (pc := 65) C 69 dX6_adds_65 (by decide) ?_
                refine g_iaddN (pc := 69) C dX6_adds_69 ?_
                refine g_istore_n (pc := 70) (lv' := [(3, .int (nI (u + 1))), (5, .int (bI (isA L Rr i))), (0, .ref q0), (1, .int (nI L)), (2, .int (nI Rr)), (4, .int (nI i))]) C dX6_adds_70 rfl (by decide) rfl ?_
                refine g_aload_n (pc := 71) C dX6_adds_71 2 rfl rfl ?_
                refine g_get (pc := 72) (ci := 6) (T := TX6) (N := 18) (v := .ref q1) C in_X6_adds_X6 0 rfl rfl 1 (by decide) fl_X6_adds_7 rfl rfl dX6_adds_72 ?_
                refine g_bipush (pc := 75) (v := nI 97) C dX6_adds_75 (by decide) ?_
                refine g_iload (pc := 77) C dX6_adds_77 5 rfl ?_
                refine g_iaddN (pc := 79) C dX6_adds_79 ?_
                refine g_iload (pc := 80) C dX6_adds_80 1 rfl ?_
                refine g_if_eqB (pc := 82) C 89 dX6_adds_82 (by decide) (fun c82 => ?_) (fun c82 => ?_)
                · exact absurd (c48.symm.trans c82) (by decide)
                · refine g_iconst (pc := 85) (v := nI 1) C dX6_adds_85 (by decide) ?_
                  refine g_goto (pc := 86) C 99 dX6_adds_86 (by decide) ?_
                  refine g_iastN (pc := 99) (f := (adF ss L Rr i)) (ws' := (rW cI cC q0 q1 q2 q3 q4 q5 q6 q7 q8 q9 q10 q11 th (upd (adF ss L Rr i) (97 + i) (nI 1)) asd sts sm snp hx tx lgt can szs ptn nms pth att isw rdd rmy)) C 1 rfl (by omega) (by decide) dX6_adds_99 rfl ?_
                  refine g_iinc (pc := 100) (lv' := [(4, .int (nI (i + 1))), (3, .int (nI (u + 1))), (5, .int (bI (isA L Rr i))), (0, .ref q0), (1, .int (nI L)), (2, .int (nI Rr))]) C dX6_adds_100 5 rfl (nI_add i 1) (by decide) rfl ?_
                  refine g_goto (pc := 103) C 5 dX6_adds_103 (by decide) ?_
                  refine g_ws (ws' := (rW cI cC q0 q1 q2 q3 q4 q5 q6 q7 q8 q9 q10 q11 th (adF ss L Rr (i + 1)) asd sts sm snp hx tx lgt can szs ptn nms pth att isw rdd rmy)) (by rw [adF_s c48]) ?_
                  refine g_lvp (lv' := [(0, .ref q0), (1, .int (nI L)), (2, .int (nI Rr)), (3, .int (nI (u + 1))), (4, .int (nI (i + 1)))]) [3, 4, 5, 1, 0] rfl ?_
                  exact ih5 (i + 1) (u + 1) (by omega) (by first | assumption | omega) (by rw [hu, show (cnt (fun kx => isA L Rr kx && !wq c kx) (i + 1)) = (cnt (fun kx => isA L Rr kx && !wq c kx) i) + (if (isA L Rr i && !wq c i) then 1 else 0) from rfl, c48, c61]; rfl)
          · refine g_iconst (pc := 38) (v := nI 1) C dX6_adds_38 (by decide) ?_
            refine g_goto (pc := 39) C 43 dX6_adds_39 (by decide) ?_
            refine g_top (y := bI (isA L Rr i)) (by rw [isA, bitt c22, bitt c35]; rfl) ?_
            refine g_istore (pc := 43) (lv' := [(5, .int (bI (isA L Rr i))), (0, .ref q0), (1, .int (nI L)), (2, .int (nI Rr)), (3, .int (nI u)), (4, .int (nI i))]) C dX6_adds_43 (by decide) rfl ?_
            refine g_iload_n (pc := 45) C dX6_adds_45 4 rfl rfl ?_
            refine g_iload (pc := 46) C dX6_adds_46 0 rfl ?_
            refine g_if_eqB (pc := 48) C 68 dX6_adds_48 (by decide) (fun c48 => ?_) (fun c48 => ?_)
            · refine g_iconst (pc := 68) (v := nI 0) C dX6_adds_68 (by decide) ?_
              refine g_iaddN (pc := 69) C dX6_adds_69 ?_
              refine g_istore_n (pc := 70) (lv' := [(3, .int (nI (u + 0))), (5, .int (bI (isA L Rr i))), (0, .ref q0), (1, .int (nI L)), (2, .int (nI Rr)), (4, .int (nI i))]) C dX6_adds_70 rfl (by decide) rfl ?_
              refine g_aload_n (pc := 71) C dX6_adds_71 2 rfl rfl ?_
              refine g_get (pc := 72) (ci := 6) (T := TX6) (N := 18) (v := .ref q1) C in_X6_adds_X6 0 rfl rfl 1 (by decide) fl_X6_adds_7 rfl rfl dX6_adds_72 ?_
              refine g_bipush (pc := 75) (v := nI 97) C dX6_adds_75 (by decide) ?_
              refine g_iload (pc := 77) C dX6_adds_77 5 rfl ?_
              refine g_iaddN (pc := 79) C dX6_adds_79 ?_
              refine g_iload (pc := 80) C dX6_adds_80 1 rfl ?_
              refine g_if_eqB (pc := 82) C 89 dX6_adds_82 (by decide) (fun c82 => ?_) (fun c82 => ?_)
              · refine g_aload_n (pc := 89) C dX6_adds_89 2 rfl rfl ?_
                refine g_get (pc := 90) (ci := 6) (T := TX6) (N := 18) (v := .ref q1) C in_X6_adds_X6 0 rfl rfl 1 (by decide) fl_X6_adds_7 rfl rfl dX6_adds_90 ?_
                refine g_bipush (pc := 93) (v := nI 97) C dX6_adds_93 (by decide) ?_
                refine g_iload (pc := 95) C dX6_adds_95 5 rfl ?_
                refine g_iaddN (pc := 97) C dX6_adds_97 ?_
                refine g_ialdN (pc := 98) (f := (adF ss L Rr i)) C 1 rfl (by omega) (by decide) dX6_adds_98 ?_
                refine g_top (y := (ss (97 + i))) (adF_at _ _ _ _) ?_
                refine g_iastN (pc := 99) (f := (adF ss L Rr i)) (ws' := (rW cI cC q0 q1 q2 q3 q4 q5 q6 q7 q8 q9 q10 q11 th (upd (adF ss L Rr i) (97 + i) ((ss (97 + i)))) asd sts sm snp hx tx lgt can szs ptn nms pth att isw rdd rmy)) C 1 rfl (by omega) (by decide) dX6_adds_99 rfl ?_
                refine g_iinc (pc := 100) (lv' := [(4, .int (nI (i + 1))), (3, .int (nI (u + 0))), (5, .int (bI (isA L Rr i))), (0, .ref q0), (1, .int (nI L)), (2, .int (nI Rr))]) C dX6_adds_100 5 rfl (nI_add i 1) (by decide) rfl ?_
                refine g_goto (pc := 103) C 5 dX6_adds_103 (by decide) ?_
                refine g_ws (ws' := (rW cI cC q0 q1 q2 q3 q4 q5 q6 q7 q8 q9 q10 q11 th (adF ss L Rr (i + 1)) asd sts sm snp hx tx lgt can szs ptn nms pth att isw rdd rmy)) (by rw [adF_n c48]) ?_
                refine g_lvp (lv' := [(0, .ref q0), (1, .int (nI L)), (2, .int (nI Rr)), (3, .int (nI (u + 0))), (4, .int (nI (i + 1)))]) [3, 4, 5, 1, 0] rfl ?_
                exact ih5 (i + 1) (u + 0) (by omega) (by first | assumption | omega) (by rw [hu, show (cnt (fun kx => isA L Rr kx && !wq c kx) (i + 1)) = (cnt (fun kx => isA L Rr kx && !wq c kx) i) + (if (isA L Rr i && !wq c i) then 1 else 0) from rfl, c48]; rfl)
              · exact absurd (c48.symm.trans c82) (by decide)
            · refine g_aload_n (pc := 51) C dX6_adds_51 1 rfl rfl ?_
              refine g_get (pc := 52) (ci := 6) (T := TX6) (N := 18) (v := .ref q1) C in_X6_adds_X6 0 rfl rfl 1 (by decide) fl_X6_adds_7 rfl rfl dX6_adds_52 ?_
              refine g_bipush (pc := 55) (v := nI 97) C dX6_adds_55 (by decide) ?_
              refine g_iload (pc := 57) C dX6_adds_57 5 rfl ?_
              refine g_iaddN (pc := 59) C dX6_adds_59 ?_
              refine g_ialdN (pc := 60) (f := (adF ss L Rr i)) C 1 rfl (by omega) (by decide) dX6_adds_60 ?_
              refine g_top (y := bI (wq c i)) (by rw [adF_at]; exact hS.wk (by omega)) ?_
              refine g_if_neB (pc := 61) C 68 dX6_adds_61 (by decide) (fun c61 => ?_) (fun c61 => ?_)
              · refine g_iconst (pc := 68) (v := nI 0) C dX6_adds_68 (by decide) ?_
                refine g_iaddN (pc := 69) C dX6_adds_69 ?_
                refine g_istore_n (pc := 70) (lv' := [(3, .int (nI (u + 0))), (5, .int (bI (isA L Rr i))), (0, .ref q0), (1, .int (nI L)), (2, .int (nI Rr)), (4, .int (nI i))]) C dX6_adds_70 rfl (by decide) rfl ?_
                refine g_aload_n (pc := 71) C dX6_adds_71 2 rfl rfl ?_
                refine g_get (pc := 72) (ci := 6) (T := TX6) (N := 18) (v := .ref q1) C in_X6_adds_X6 0 rfl rfl 1 (by decide) fl_X6_adds_7 rfl rfl dX6_adds_72 ?_
                refine g_bipush (pc := 75) (v := nI 97) C dX6_adds_75 (by decide) ?_
                refine g_iload (pc := 77) C dX6_adds_77 5 rfl ?_
                refine g_iaddN (pc := 79) C dX6_adds_79 ?_
                refine g_iload (pc := 80) C dX6_adds_80 1 rfl ?_
                refine g_if_eqB (pc := 82) C 89 dX6_adds_82 (by decide) (fun c82 => ?_) (fun c82 => ?_)
                · exact absurd (c48.symm.trans c82) (by decide)
                · refine g_iconst (pc := 85) (v := nI 1) C dX6_adds_85 (by decide) ?_
                  refine g_goto (pc := 86) C 99 dX6_adds_86 (by decide) ?_
                  refine g_iastN (pc := 99) (f := (adF ss L Rr i)) (ws' := (rW cI cC q0 q1 q2 q3 q4 q5 q6 q7 q8 q9 q10 q11 th (upd (adF ss L Rr i) (97 + i) (nI 1)) asd sts sm snp hx tx lgt can szs ptn nms pth att isw rdd rmy)) C 1 rfl (by omega) (by decide) dX6_adds_99 rfl ?_
                  refine g_iinc (pc := 100) (lv' := [(4, .int (nI (i + 1))), (3, .int (nI (u + 0))), (5, .int (bI (isA L Rr i))), (0, .ref q0), (1, .int (nI L)), (2, .int (nI Rr))]) C dX6_adds_100 5 rfl (nI_add i 1) (by decide) rfl ?_
                  refine g_goto (pc := 103) C 5 dX6_adds_103 (by decide) ?_
                  refine g_ws (ws' := (rW cI cC q0 q1 q2 q3 q4 q5 q6 q7 q8 q9 q10 q11 th (adF ss L Rr (i + 1)) asd sts sm snp hx tx lgt can szs ptn nms pth att isw rdd rmy)) (by rw [adF_s c48]) ?_
                  refine g_lvp (lv' := [(0, .ref q0), (1, .int (nI L)), (2, .int (nI Rr)), (3, .int (nI (u + 0))), (4, .int (nI (i + 1)))]) [3, 4, 5, 1, 0] rfl ?_
                  exact ih5 (i + 1) (u + 0) (by omega) (by first | assumption | omega) (by rw [hu, show (cnt (fun kx => isA L Rr kx && !wq c kx) (i + 1)) = (cnt (fun kx => isA L Rr kx && !wq c kx) i) + (if (isA L Rr i && !wq c i) then 1 else 0) from rfl, c48, c61]; rfl)
              · refine g_iconst (pc := 64) (v := nI 1) C dX6_adds_64 (by decide) ?_
                refine g_goto (pc := 65) C 69 dX6_adds_65 (by decide) ?_
                refine g_iaddN (pc := 69) C dX6_adds_69 ?_
                refine g_istore_n (pc := 70) (lv' := [(3, .int (nI (u + 1))), (5, .int (bI (isA L Rr i))), (0, .ref q0), (1, .int (nI L)), (2, .int (nI Rr)), (4, .int (nI i))]) C dX6_adds_70 rfl (by decide) rfl ?_
                refine g_aload_n (pc := 71) C dX6_adds_71 2 rfl rfl ?_
                refine g_get (pc := 72) (ci := 6) (T := TX6) (N := 18) (v := .ref q1) C in_X6_adds_X6 0 rfl rfl 1 (by decide) fl_X6_adds_7 rfl rfl dX6_adds_72 ?_
                refine g_bipush (pc := 75) (v := nI 97) C dX6_adds_75 (by decide) ?_
                refine g_iload (pc := 77) C dX6_adds_77 5 rfl ?_
                refine g_iaddN (pc := 79) C dX6_adds_79 ?_
                refine g_iload (pc := 80) C dX6_adds_80 1 rfl ?_
                refine g_if_eqB (pc := 82) C 89 dX6_adds_82 (by decide) (fun c82 => ?_) (fun c82 => ?_)
                · exact absurd (c48.symm.trans c82) (by decide)
                · refine g_iconst (pc := 85) (v := nI 1) C dX6_adds_85 (by decide) ?_
                  refine g_goto (pc := 86) C 99 dX6_adds_86 (by decide) ?_
                  refine g_iastN (pc := 99) (f := (adF ss L Rr i)) (ws' := (rW cI cC q0 q1 q2 q3 q4 q5 q6 q7 q8 q9 q10 q11 th (upd (adF ss L Rr i) (97 + i) (nI 1)) asd sts sm snp hx tx lgt can szs ptn nms pth att isw rdd rmy)) C 1 rfl (by omega) (by decide) dX6_adds_99 rfl ?_
                  refine g_iinc (pc := 100) (lv' := [(4, .int (nI (i + 1))), (3, .int (nI (u + 1))), (5, .int (bI (isA L Rr i))), (0, .ref q0), (1, .int (nI L)), (2, .int (nI Rr))]) C dX6_adds_100 5 rfl (nI_add i 1) (by decide) rfl ?_
                  refine g_goto (pc := 103) C 5 dX6_adds_103 (by decide) ?_
                  refine g_ws (ws' := (rW cI cC q0 q1 q2 q3 q4 q5 q6 q7 q8 q9 q10 q11 th (adF ss L Rr (i + 1)) asd sts sm snp hx tx lgt can szs ptn nms pth att isw rdd rmy)) (by rw [adF_s c48]) ?_
                  refine g_lvp (lv' := [(0, .ref q0), (1, .int (nI L)), (2, .int (nI Rr)), (3, .int (nI (u + 1))), (4, .int (nI (i + 1)))]) [3, 4, 5, 1, 0] rfl ?_
                  exact ih5 (i + 1) (u + 1) (by omega) (by first | assumption | omega) (by rw [hu, show (cnt (fun kx => isA L Rr kx && !wq c kx) (i + 1)) = (cnt (fun kx => isA L Rr kx && !wq c kx) i) + (if (isA L Rr i && !wq c i) then 1 else 0) from rfl, c48, c61]; rfl)
  refine g_lvp (lv' := [(0, .ref q0), (1, .int (nI L)), (2, .int (nI Rr)), (3, .int (nI 0)), (4, .int (nI 0))]) [2, 3, 4, 1, 0] rfl ?_
  exact L5 _ 0 0 (Nat.lt_succ_self _) (by first | assumption | omega) (rfl)

abbrev rm_X6_read : Room := { frames := 4, cells := 0, slots := 0, locals := 83 }
theorem yd_X6_read : yX6_read.cls = RX6 ∧ yX6_read.cls ≠ "java/lang/invoke/MethodHandle" ∧ yX6_read.cls ≠ "java/lang/invoke/VarHandle" ∧ (parseMethodDescriptor yX6_read.desc).map (fun d => d.parameters.length) = some 0 := by decide +kernel
theorem in_X6_read_X6 : ∀ w ∈ u_ws RX6 TX6 18, w ∈ wsX6_read := by decide +kernel
theorem fl_X6_read_40 : Cond.fieldLink RX6 40 "FenceHandshakesModel" "read" "[I" ∈ wsX6_read := by decide +kernel
theorem fl_X6_read_43 : Cond.fieldLink RX6 43 "FenceHandshakesModel" "thrown" "I" ∈ wsX6_read := by decide +kernel
theorem fl_X6_read_120 : Cond.fieldLink RX6 120 "FenceHandshakesModel" "readMany" "I" ∈ wsX6_read := by decide +kernel
set_option maxHeartbeats 4000000 in
set_option maxRecDepth 100000 in
theorem m_X6_read (l : Launch) (D : va_G) (cI cC : ClassId) (q0 q1 q2 q3 q4 q5 q6 q7 q8 q9 q10 q11 : Nat) (th : Int32) (ss : Nat → Int32) (asd : Nat → Int32) (sts : Nat → Int32) (snp : Nat → Int32) (hx : Int32) (tx : Nat → Int32) (can : Nat → Int32) (szs : Nat → Int32) (ptn : Nat → Int32) (nms : Nat → Int32) (pth : Nat → Int32) (att : Int32) (isw : Int32) (rdd : Nat → Int32) (rmy : Int32) (z : Nat) (ln : Nat) (c : Nat → Int32) (sg : Nat → Int32) (tr : Nat → Int32) (hS : SR c ss) (hz : z ≤ 5) (hX : HX sg tx ln) : g_M l yX6_read wsX6_read rm_X6_read D cI cC [.ref q0] (rW cI cC q0 q1 q2 q3 q4 q5 q6 q7 q8 q9 q10 q11 th ss asd sts (nI z) snp hx tx (nI ln) can szs ptn nms pth att isw rdd rmy) (fun vv ww => ∃ (ss2 : Nat → Int32) (sts2 : Nat → Int32) (z2 : Nat) (w3 : Bool) (j3 : Nat) (m3 : Nat) (rdd3 : Nat → Int32), vv = some (.int (rdV c sg tr ln)) ∧ ww = (rW cI cC q0 q1 q2 q3 q4 q5 q6 q7 q8 q9 q10 q11 (nI 0) ss2 asd sts2 (nI z2) snp hx tx (nI ln) can szs ptn nms pth (nI j3) (bI w3) rdd3 (nI m3)) ∧ RA (decide ((pres sg (fillF tr (nI 0) 8) ln) = -5)) (rdC c (prow sg (fillF tr (nI 0) 8) ln) 8) ss sts z ss2 sts2 z2) := by
  refine g_entry (lv := [(0, .ref q0)]) (own := RX6) (by decide) rfl rfl (Nat.le_of_ble_eq_true rfl) rfl ?_
  intro p e s m args below meth co A Q C hr hQ
  have hl := hX.1
  refine g_aload_n (pc := 0) C dX6_read_0 0 rfl rfl ?_
  refine g_iconst (pc := 1) (v := nI 0) C dX6_read_1 (by decide) ?_
  refine g_put (pc := 2) (ci := 6) (T := TX6) (N := 18) (ws' := (rW cI cC q0 q1 q2 q3 q4 q5 q6 q7 q8 q9 q10 q11 (nI 0) ss asd sts (nI z) snp hx tx (nI ln) can szs ptn nms pth att isw rdd rmy)) (ty := .int) (v := .int (nI 0)) C in_X6_read_X6 tyX6 tyX6_ok nmX6 0 rfl rfl 0 (by decide) fl_X6_read_43 rfl rfl (by decide +kernel) rfl rfl (Nat.le_of_ble_eq_true rfl) dX6_read_2 rfl ?_
  refine g_aload_n (pc := 5) C dX6_read_5 0 rfl rfl ?_
  refine g_callV (pc := 6) (st := []) (As := []) (nn := 0) (ci := 6) (q0 := 0) C (m_X6_reads l D cI cC q0 q1 q2 q3 q4 q5 q6 q7 q8 q9 q10 q11 (nI 0) ss asd sts (nI z) snp hx tx can szs ptn nms pth att isw rdd rmy ln sg (fillF tr (nI 0) 8) (by first | assumption | omega)) gX6_read_X6_reads rfl rfl rfl yd_X6_reads ⟨Nat.le_of_ble_eq_true rfl, Nat.le_of_ble_eq_true rfl⟩ rfl [0, 1, 2, 3, 4, 5, 6, 7, 8, 9, 10, 11] rfl rfl rfl rfl rfl (Nat.le_of_ble_eq_true rfl) ⟨Nat.le_of_ble_eq_true rfl, Nat.le_of_ble_eq_true rfl⟩ dX6_read_6 ?_
  rintro _ _ ⟨w4, j4, m4, rdd4, rfl, rfl, g1⟩
  refine g_eq (ws' := (rW cI cC q0 q1 q2 q3 q4 q5 q6 q7 q8 q9 q10 q11 (nI 0) ss asd sts (nI z) snp hx tx (nI ln) can szs ptn nms pth (nI j4) (bI w4) rdd4 (nI m4))) (st' := [.int (pres sg (fillF tr (nI 0) 8) ln)]) rfl rfl ?_
  refine g_istore_n (pc := 9) (lv' := [(1, .int (pres sg (fillF tr (nI 0) 8) ln)), (0, .ref q0)]) C dX6_read_9 rfl (by decide) rfl ?_
  refine g_iload_n (pc := 10) C dX6_read_10 0 rfl rfl ?_
  refine g_bipush (pc := 11) (v := (-5)) C dX6_read_11 (by decide) ?_
  refine g_icmp_eq (pc := 13) C 21 dX6_read_13 (by decide) (fun c13 => ?_) (fun c13 => ?_)
  · obtain ⟨hR1, hR2, hR3⟩ := g1 c13
    refine g_aload_n (pc := 21) C dX6_read_21 1 rfl rfl ?_
    refine g_callV (pc := 22) (st := []) (As := []) (nn := 0) (ci := 6) (q0 := 0) C (m_X6_records l D cI cC q0 q1 q2 q3 q4 q5 q6 q7 q8 q9 q10 q11 (nI 0) ss asd sts snp hx tx (nI ln) can szs ptn nms pth (nI j4) (bI w4) rdd4 (nI m4) z (by first | assumption | omega)) gX6_read_X6_records rfl rfl rfl yd_X6_records ⟨Nat.le_of_ble_eq_true rfl, Nat.le_of_ble_eq_true rfl⟩ rfl [0, 1, 2, 3, 4, 5, 6, 7, 8, 9, 10, 11] rfl rfl rfl rfl rfl (Nat.le_of_ble_eq_true rfl) ⟨Nat.le_of_ble_eq_true rfl, Nat.le_of_ble_eq_true rfl⟩ dX6_read_22 ?_
    rintro _ _ ⟨rfl, rfl⟩
    refine g_eq (ws' := (rW cI cC q0 q1 q2 q3 q4 q5 q6 q7 q8 q9 q10 q11 (nI 0) ss asd (rcS ss sts z) (nI (kpS z)) snp hx tx (nI ln) can szs ptn nms pth (nI j4) (bI w4) rdd4 (nI m4))) (st' := []) rfl rfl ?_
    refine g_iconst (pc := 25) (v := nI 0) C dX6_read_25 (by decide) ?_
    refine g_istore_n (pc := 26) (lv' := [(2, .int (nI 0)), (1, .int (pres sg (fillF tr (nI 0) 8) ln)), (0, .ref q0)]) C dX6_read_26 rfl (by decide) rfl ?_
    refine g_iconst (pc := 27) (v := nI 0) C dX6_read_27 (by decide) ?_
    refine g_istore_n (pc := 28) (lv' := [(3, .int (nI 0)), (2, .int (nI 0)), (1, .int (pres sg (fillF tr (nI 0) 8) ln)), (0, .ref q0)]) C dX6_read_28 rfl (by decide) rfl ?_
    have L29 : ∀ (NZ : Nat) (k : Nat) (u : Nat) (ss1 : Nat → Int32), m4 - k < NZ → (k ≤ m4) → (SR (rdC c (gro rdd4 (fillF tr (nI 0) 8) k) 8) ss1) → (u + nwC c 8 = nwC (rdC c (gro rdd4 (fillF tr (nI 0) 8) k) 8) 8) → g_J p l e rm_X6_read s m args below meth co Q D A 4 0 0 (rW cI cC q0 q1 q2 q3 q4 q5 q6 q7 q8 q9 q10 q11 (nI 0) ss1 asd (rcS ss sts z) (nI (kpS z)) snp hx tx (nI ln) can szs ptn nms pth (nI j4) (bI w4) rdd4 (nI m4)) 29 [(0, .ref q0), (2, .int (nI u)), (3, .int (nI k))] [] := by
      intro NZ
      induction NZ with
      | zero => intro k u ss1 hN; exact absurd hN (Nat.not_lt_zero _)
      | succ NZ ih29 =>
        intro k u ss1 hN29 hk hS1 hu
        refine g_iload_n (pc := 29) C dX6_read_29 2 rfl rfl ?_
        refine g_aload_n (pc := 30) C dX6_read_30 0 rfl rfl ?_
        refine g_get (pc := 31) (ci := 6) (T := TX6) (N := 18) (v := .int (nI m4)) C in_X6_read_X6 0 rfl rfl 17 (by decide) fl_X6_read_120 rfl rfl dX6_read_31 ?_
        refine g_icmp_geN (pc := 34) C 68 (by omega) (by omega) dX6_read_34 (by decide) (fun c34 => ?_) (fun c34 => ?_)
        · refine g_iload_n (pc := 68) C dX6_read_68 1 rfl rfl ?_
          refine g_top (y := (rdV c sg tr ln)) (by rw [rdV, if_pos c13, hR3, ← show k = m4 by omega, ← hu, ← nI_add]; exact (Int32.add_sub_cancel _ _).symm) ?_
          exact g_iret C hr hQ dX6_read_69 rfl ⟨_, _, _, _, _, _, _, rfl, rfl, by rw [decide_eq_true c13, hR3, ← show k = m4 by omega]; exact RA_t hS1⟩
        · refine g_iload_n (pc := 37) C dX6_read_37 1 rfl rfl ?_
          refine g_aload_n (pc := 38) C dX6_read_38 0 rfl rfl ?_
          refine g_aload_n (pc := 39) C dX6_read_39 0 rfl rfl ?_
          refine g_get (pc := 40) (ci := 6) (T := TX6) (N := 18) (v := .ref q11) C in_X6_read_X6 0 rfl rfl 16 (by decide) fl_X6_read_40 rfl rfl dX6_read_40 ?_
          refine g_iconst (pc := 43) (v := nI 2) C dX6_read_43 (by decide) ?_
          refine g_iload_n (pc := 44) C dX6_read_44 2 rfl rfl ?_
          refine g_imulN (pc := 45) C dX6_read_45 ?_
          refine g_ialdN (pc := 46) (f := rdd4) C 11 rfl (by omega) (by decide) dX6_read_46 ?_
          refine g_top (y := nI (cN rdd4 (2 * k))) ((hR2 (2 * k) (by omega)).1) ?_
          refine g_aload_n (pc := 47) C dX6_read_47 0 rfl rfl ?_
          refine g_get (pc := 48) (ci := 6) (T := TX6) (N := 18) (v := .ref q11) C in_X6_read_X6 0 rfl rfl 16 (by decide) fl_X6_read_40 rfl rfl dX6_read_48 ?_
          refine g_iconst (pc := 51) (v := nI 2) C dX6_read_51 (by decide) ?_
          refine g_iload_n (pc := 52) C dX6_read_52 2 rfl rfl ?_
          refine g_imulN (pc := 53) C dX6_read_53 ?_
          refine g_iconst (pc := 54) (v := nI 1) C dX6_read_54 (by decide) ?_
          refine g_iaddN (pc := 55) C dX6_read_55 ?_
          refine g_ialdN (pc := 56) (f := rdd4) C 11 rfl (by omega) (by decide) dX6_read_56 ?_
          refine g_top (y := nI (cN rdd4 (2 * k + 1))) ((hR2 (2 * k + 1) (by omega)).1) ?_
          refine g_callV (pc := 57) (st := [.int (nI u)]) (As := [.int (nI (cN rdd4 (2 * k))), .int (nI (cN rdd4 (2 * k + 1)))]) (nn := 2) (ci := 6) (q0 := 0) C (m_X6_adds l D cI cC q0 q1 q2 q3 q4 q5 q6 q7 q8 q9 q10 q11 (nI 0) ss1 asd (rcS ss sts z) (nI (kpS z)) snp hx tx (nI ln) can szs ptn nms pth (nI j4) (bI w4) rdd4 (nI m4) (rdC c (gro rdd4 (fillF tr (nI 0) 8) k) 8) (cN rdd4 (2 * k)) (cN rdd4 (2 * k + 1)) (hS1) ((hR2 (2 * k) (by omega)).2) ((hR2 (2 * k + 1) (by omega)).2)) gX6_read_X6_adds rfl rfl rfl yd_X6_adds ⟨Nat.le_of_ble_eq_true rfl, Nat.le_of_ble_eq_true rfl⟩ rfl [0, 1, 2, 3, 4, 5, 6, 7, 8, 9, 10, 11] rfl rfl rfl rfl rfl (Nat.le_of_ble_eq_true rfl) ⟨Nat.le_of_ble_eq_true rfl, Nat.le_of_ble_eq_true rfl⟩ dX6_read_57 ?_
          rintro _ _ ⟨rfl, rfl⟩
          refine g_eq (ws' := (rW cI cC q0 q1 q2 q3 q4 q5 q6 q7 q8 q9 q10 q11 (nI 0) (adF ss1 (cN rdd4 (2 * k)) (cN rdd4 (2 * k + 1)) 64) asd (rcS ss sts z) (nI (kpS z)) snp hx tx (nI ln) can szs ptn nms pth (nI j4) (bI w4) rdd4 (nI m4))) (st' := [.int (nI (cnt (fun kx => isA (cN rdd4 (2 * k)) (cN rdd4 (2 * k + 1)) kx && !wq (rdC c (gro rdd4 (fillF tr (nI 0) 8) k) 8) kx) 64)), .int (nI u)]) rfl rfl ?_
          refine g_iaddN (pc := 60) C dX6_read_60 ?_
          refine g_istore_n (pc := 61) (lv' := [(2, .int (nI (u + (cnt (fun kx => isA (cN rdd4 (2 * k)) (cN rdd4 (2 * k + 1)) kx && !wq (rdC c (gro rdd4 (fillF tr (nI 0) 8) k) 8) kx) 64)))), (0, .ref q0), (3, .int (nI k))]) C dX6_read_61 rfl (by decide) rfl ?_
          refine g_iinc (pc := 62) (lv' := [(3, .int (nI (k + 1))), (2, .int (nI (u + (cnt (fun kx => isA (cN rdd4 (2 * k)) (cN rdd4 (2 * k + 1)) kx && !wq (rdC c (gro rdd4 (fillF tr (nI 0) 8) k) 8) kx) 64)))), (0, .ref q0)]) C dX6_read_62 2 rfl (nI_add k 1) (by decide) rfl ?_
          refine g_goto (pc := 65) C 29 dX6_read_65 (by decide) ?_
          refine g_lvp (lv' := [(0, .ref q0), (2, .int (nI (u + (cnt (fun kx => isA (cN rdd4 (2 * k)) (cN rdd4 (2 * k + 1)) kx && !wq (rdC c (gro rdd4 (fillF tr (nI 0) 8) k) 8) kx) 64)))), (3, .int (nI (k + 1)))]) [2, 1, 0] rfl ?_
          exact ih29 (k + 1) (u + (cnt (fun kx => isA (cN rdd4 (2 * k)) (cN rdd4 (2 * k + 1)) kx && !wq (rdC c (gro rdd4 (fillF tr (nI 0) 8) k) 8) kx) 64)) (adF ss1 (cN rdd4 (2 * k)) (cN rdd4 (2 * k + 1)) 64) (by omega) (by first | assumption | omega) (SR.gs hS.ok hR2 c34 hS1) (nw_gs hS.ok hR2 c34 hu)
    refine g_lvp (lv' := [(0, .ref q0), (2, .int (nI 0)), (3, .int (nI 0))]) [3, 1, 0] rfl ?_
    exact L29 _ 0 0 ss (Nat.lt_succ_self _) (by first | assumption | omega) (hS.g0) (nw_g0 hS.ok)
  · refine g_bipush (pc := 16) (v := (-100)) C dX6_read_16 (by decide) ?_
    refine g_iload_n (pc := 18) C dX6_read_18 0 rfl rfl ?_
    refine g_isub (pc := 19) C dX6_read_19 ?_
    refine g_top (y := (rdV c sg tr ln)) (by rw [rdV, if_neg c13]) ?_
    exact g_iret C hr hQ dX6_read_20 rfl ⟨_, _, _, _, _, _, _, rfl, rfl, by rw [decide_eq_false c13]; exact RA_f⟩
