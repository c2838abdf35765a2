/-! pure: what the class's calls answer, and how they change its clans -/
def pN (x : Int32) : Nat := x.toNatClampNeg
theorem pN_nI {k : Nat} (h : k < 8) : pN (nI k) = k := nI_clamp (by omega)
def isG (x : Int32) : Bool := !(decide (x < 0)) && !(decide (nI 4 ≤ x))
theorem isG_t {x : Int32} (h1 : ¬ x < 0) (h2 : ¬ nI 4 ≤ x) : isG x = true := by simp [isG, h1, h2]
theorem isG_f1 {x : Int32} (h1 : x < 0) : isG x = false := by simp [isG, h1]
theorem isG_f2 {x : Int32} (h2 : nI 4 ≤ x) : isG x = false := by simp [isG, h2]
theorem isG_ex {x : Int32} (h : isG x = true) : ∃ k, k < 4 ∧ x = nI k := by
  simp only [isG, Bool.and_eq_true, Bool.not_eq_true', decide_eq_false_iff_not] at h
  rcases pk_ix x (show 4 < 2 ^ 31 by decide) with a | a | a
  · exact absurd a h.1
  · exact absurd a h.2
  · exact a
theorem isG_nI {k : Nat} (h : k < 4) : isG (nI k) = true := isG_t (nI_pos (by omega)) (nI_ge h (by decide))
/-- an action: recorded if q, with the new cells cn -/
def XA (q : Bool) (c cn r : Nat → Int32) (od z : Nat) (c2 r2 : Nat → Int32) (od2 z2 : Nat) : Prop := (q = true → c2 = cn ∧ od2 = kpO od z ∧ z2 = kpS z ∧ r2 = va_cpy c r 0 ((kpO od z + (kpS z - 1)) % 5 * 154) 154) ∧ (q = false → c2 = c ∧ r2 = r ∧ od2 = od ∧ z2 = z)
theorem XA_t {c cn r : Nat → Int32} {od z : Nat} : XA true c cn r od z cn (va_cpy c r 0 ((kpO od z + (kpS z - 1)) % 5 * 154) 154) (kpO od z) (kpS z) := ⟨fun _ => ⟨rfl, rfl, rfl, rfl⟩, fun h => (by cases h)⟩
theorem XA_f {c cn r : Nat → Int32} {od z : Nat} : XA false c cn r od z c r od z := ⟨fun h => (by cases h), fun _ => ⟨rfl, rfl, rfl, rfl⟩⟩
def two (x y : Int32) : Bool := isP x && isP y
def xwQ (c : Nat → Int32) (x y : Int32) : Bool := two x y && !wiC c (pN x) (pN y)
def xwC (c : Nat → Int32) (x y : Int32) : Nat → Int32 := upd c (16 + pN x) (nI (cN c (16 + pN x) ||| (1 <<< pN y)))
def xwV (c : Nat → Int32) (x y : Int32) : Int32 := if two x y then (if wiC c (pN x) (pN y) then -4 else nI (nwC (xwC c x y) 8)) else -1
def wdQ (c : Nat → Int32) (x y : Int32) : Bool := two x y && wiC c (pN x) (pN y)
def wdC (c : Nat → Int32) (x y : Int32) : Nat → Int32 := upd c (16 + pN x) (nI (g_nand (cN c (16 + pN x)) (1 <<< pN y)))
def wdV (c : Nat → Int32) (x y : Int32) : Int32 := if two x y then (if wiC c (pN x) (pN y) then nI (nwC (wdC c x y) 8) else -4) else -1
def inR (x : Int32) : Bool := !(decide (x < nI 1)) && decide (x ≤ nI 50)
def quQ (x y w : Int32) : Bool := two x y && inR w
def fdC (c : Nat → Int32) (x y w : Int32) : Nat → Int32 := upd c (24 + 8 * pN x + pN y) w
def quV (c : Nat → Int32) (x y w : Int32) : Int32 := if two x y then (if inR w then feC c (pN x) (pN y) else -2) else -1
def rcQ (c : Nat → Int32) (x y : Int32) : Bool := two x y && !decide (feC c (pN x) (pN y) = 0)
def rcV (c : Nat → Int32) (x y : Int32) : Int32 := if two x y then (if feC c (pN x) (pN y) = 0 then -4 else feC c (pN x) (pN y)) else -1
def twG (x y : Int32) : Bool := isG x && isG y
def lkV (c : Nat → Int32) (x y : Int32) : Int32 := if twG x y then bI (lkC c (pN x) (pN y)) else -1
def mvQ (x y : Int32) : Bool := isP x && isG y
def mvC (c : Nat → Int32) (q : Bool) (x y : Int32) : Nat → Int32 := upd c ((if q then 0 else 8) + pN x) y
def mvV (c : Nat → Int32) (q : Bool) (x y : Int32) : Int32 := if mvQ x y then c ((if q then 0 else 8) + pN x) else -1
theorem two_ex {x y : Int32} (h : two x y = true) : ∃ a b, a < 8 ∧ b < 8 ∧ x = nI a ∧ y = nI b ∧ pN x = a ∧ pN y = b := by
  rw [two, Bool.and_eq_true] at h
  obtain ⟨a, h1, rfl⟩ := isP_ex h.1
  obtain ⟨b, h2, rfl⟩ := isP_ex h.2
  exact ⟨a, b, h1, h2, rfl, rfl, pN_nI h1, pN_nI h2⟩
theorem twG_ex {x y : Int32} (h : twG x y = true) : ∃ a b, a < 4 ∧ b < 4 ∧ x = nI a ∧ y = nI b ∧ pN x = a ∧ pN y = b := by
  rw [twG, Bool.and_eq_true] at h
  obtain ⟨a, h1, rfl⟩ := isG_ex h.1
  obtain ⟨b, h2, rfl⟩ := isG_ex h.2
  exact ⟨a, b, h1, h2, rfl, rfl, pN_nI (by omega), pN_nI (by omega)⟩
theorem mvQ_ex {x y : Int32} (h : mvQ x y = true) : ∃ a b, a < 8 ∧ b < 4 ∧ x = nI a ∧ y = nI b ∧ pN x = a ∧ pN y = b := by
  rw [mvQ, Bool.and_eq_true] at h
  obtain ⟨a, h1, rfl⟩ := isP_ex h.1
  obtain ⟨b, h2, rfl⟩ := isG_ex h.2
  exact ⟨a, b, h1, h2, rfl, rfl, pN_nI h1, pN_nI (by omega)⟩
theorem pm_lt {f : Nat → Bool} : pmask f 8 < 256 := pmask_lt f 8
/-- wishes changed keep cOK -/
theorem cOK_w {c : Nat → Int32} (hc : cOK c) {a w : Nat} (ha : a < 8) (hw : w < 256) : cOK (upd c (16 + a) (nI w)) := by
  refine ⟨fun k hk => ?_, fun k hk => ?_, ?_⟩
  · rw [cN_upd_ne (by omega), upd_ne (by omega)]; exact hc.1 k hk
  · by_cases q : k = a
    · subst q
      rw [cN_upd_eq (by omega), upd_eq]; exact ⟨rfl, hw⟩
    · rw [cN_upd_ne (by omega), upd_ne (by omega)]; exact hc.2.1 k hk
  · rw [cN_upd_ne (by omega), upd_ne (by omega)]; exact hc.2.2
theorem cOK_close {c : Nat → Int32} (hc : cOK c) {a : Nat} (b : Nat) (ha : a < 8) : cOK (cClose c a b) := cOK_w hc ha (Nat.lt_of_le_of_lt Nat.and_le_left (hc.w8 ha))
theorem cOK_link {c : Nat → Int32} (hc : cOK c) {a b : Nat} (ha : a < 4) (hb : b < 4) (q : Bool) : cOK (cLink c a b q) := by
  refine ⟨fun k hk => ?_, fun k hk => ?_, ?_⟩
  · rw [cLink, cN_upd_ne (by omega), upd_ne (by omega)]; exact hc.1 k hk
  · rw [cLink, cN_upd_ne (by omega), upd_ne (by omega)]; exact hc.2.1 k hk
  · have h : (if q then cN c 152 ||| 1 <<< (4 * a + b) else g_nand (cN c 152) (1 <<< (4 * a + b))) < 65536 := by
      split
      · refine Nat.or_lt_two_pow (n := 16) hc.l16 ?_
        rw [Nat.shiftLeft_eq, Nat.one_mul]
        exact Nat.pow_lt_pow_right (by decide) (by omega)
      · exact Nat.lt_of_le_of_lt Nat.and_le_left hc.l16
    rw [cLink, cN_upd_eq (by omega), upd_eq]
    exact ⟨rfl, h⟩
theorem cOK_gate {c : Nat → Int32} (hc : cOK c) {k0 g : Nat} (hk0 : k0 < 16) (hg : g < 4) : cOK (upd c k0 (nI g)) := by
  refine ⟨fun k hk => ?_, fun k hk => ?_, ?_⟩
  · by_cases q : k = k0
    · subst q; rw [cN_upd_eq (by omega), upd_eq]; exact ⟨rfl, hg⟩
    · rw [cN_upd_ne q, upd_ne q]; exact hc.1 k hk
  · rw [cN_upd_ne (by omega), upd_ne (by omega)]; exact hc.2.1 k hk
  · rw [cN_upd_ne (by omega), upd_ne (by omega)]; exact hc.2.2
theorem cOK_cpy {f g : Nat → Int32} (h : cOK f) : cOK (va_cpy f g 0 0 154) := by
  have e : ∀ k, k < 154 → va_cpy f g 0 0 154 k = f k := fun k hk => by
    rw [pk_cpy_in (by omega) (by omega)]; congr 1; omega
  have e2 : ∀ k, k < 154 → cN (va_cpy f g 0 0 154) k = cN f k := fun k hk => by rw [cN, e k hk]; rfl
  refine ⟨fun k hk => ?_, fun k hk => ?_, ?_⟩
  · rw [e2 k (by omega), e k (by omega)]; exact h.1 k hk
  · rw [e2 _ (by omega), e _ (by omega)]; exact h.2.1 k hk
  · rw [e2 _ (by omega), e _ (by omega)]; exact h.2.2
theorem cOK_end {c : Nat → Int32} (hc : cOK c) : cOK (cEnd c) := by
  refine cOK_of hc (fun k hk => ?_) ?_
  · rw [cEnd, upd_ne (by omega)]; exact if_neg (fun h => by omega)
  · rw [cEnd, upd_ne (by omega)]; exact if_neg (fun h => by omega)
/-- the graph of the possible open wishes -/
def EC (c : Nat → Int32) : Nat → Nat → Bool := Ew (fun a => pmask (poC c a) 8)
def rsh (c : Nat → Int32) (P : Nat → Option Nat) : Nat → (Nat → Int32)
  | 0 => c
  | i + 1 => match P i with
    | none => rsh c P i
    | some b => cClose (cShk (rsh c P i) i b) i b
def rnd (c : Nat → Int32) : Nat → Int32 := cEnd (rsh c (spE (EC c)) 8)
def rnV (c : Nat → Int32) : Int32 := nI (cnt (fun a => (spE (EC c) a).isSome) 8)
theorem rsh_ok {c : Nat → Int32} {P : Nat → Option Nat} (hc : cOK c) (hP : ∀ a b, P a = some b → b < 8) : ∀ i, i ≤ 8 → cOK (rsh c P i)
  | 0, _ => hc
  | i + 1, hi => by
    have h := rsh_ok hc hP i (by omega)
    simp only [rsh]
    cases e : P i with
    | none => exact h
    | some b => exact cOK_close (cShk_ok h (by omega) (hP i b e)) b (by omega)
theorem spE_lt {E : Nat → Nat → Bool} : ∀ a b, spE E a = some b → b < 8 := fun _ _ h => (spE_some h).1
theorem rnd_ok {c : Nat → Int32} (hc : cOK c) : cOK (rnd c) := cOK_end (rsh_ok hc spE_lt 8 (Nat.le_refl _))
/-- masks read back from the cells -/
theorem wi_cN {wi c : Nat → Int32} (h : ∀ a, a < 8 → wi a = nI (pmask (poC c a) 8)) : ∀ a, a < 8 → cN wi a = pmask (poC c a) 8 := fun a ha => by
  rw [cN, h a ha]
  exact nI_clamp (Nat.lt_trans (pmask_lt _ 8) (by decide))
theorem EC_of {wi c : Nat → Int32} (h : ∀ a, a < 8 → wi a = nI (pmask (poC c a) 8)) : ∀ a b, a < 8 → b < 8 → Ew (cN wi) a b = EC c a b := fun a b ha _ => by
  show (cN wi a).testBit b = (pmask (poC c a) 8).testBit b
  rw [wi_cN h a ha]
theorem sp_of {wi c : Nat → Int32} (h : ∀ a, a < 8 → wi a = nI (pmask (poC c a) 8)) {a : Nat} (ha : a < 8) : spE (Ew (cN wi)) a = spE (EC c) a := (sp_cong (EC_of h) a (by omega)).2 ha
def szC (c : Nat → Int32) : Nat := szN (EC c) 8 255
theorem sz_of {wi c : Nat → Int32} (h : ∀ a, a < 8 → wi a = nI (pmask (poC c a) 8)) : szN (Ew (cN wi)) 8 255 = szC c := szN_cong 8 255 (Nat.le_refl _) (fun a b _ ha hb => EC_of h a b ha hb)
theorem inR_f1 {x : Int32} (h : x < nI 1) : inR x = false := by simp [inR, h]
theorem inR_f2 {x : Int32} (h : ¬ x ≤ nI 50) : inR x = false := by simp [inR, h]
theorem inR_t {x : Int32} (h1 : ¬ x < nI 1) (h2 : x ≤ nI 50) : inR x = true := by simp [inR, h1, h2]
def apx (x : Int32) : Bool := !(decide (x < nI 32)) && decide (x ≤ nI 126)
theorem apx_f1 {x : Int32} (h : x < nI 32) : apx x = false := by simp [apx, h]
theorem apx_f2 {x : Int32} (h : ¬ x ≤ nI 126) : apx x = false := by simp [apx, h]
theorem apx_t {x : Int32} (h1 : ¬ x < nI 32) (h2 : x ≤ nI 126) : apx x = true := by simp [apx, h1, h2]
def apQ (ln : Nat) (x : Int32) : Bool := apx x && decide (ln < 80)
def apV (ln : Nat) (x : Int32) : Int32 := if apx x then (if decide (ln < 80) then nI (ln + 1) else -3) else -2
theorem ap_ex {x : Int32} (h1 : ¬ x < nI 32) (h2 : x ≤ nI 126) : ∃ y, y < 127 ∧ x = nI y := by
  rcases pk_ix x (show 127 < 2 ^ 31 by decide) with a | a | a
  · exact absurd (Int32.lt_trans a (by decide)) h1
  · exact absurd (Int32.le_trans a h2) (by decide)
  · exact a
def rdC (c tr : Nat → Int32) : Nat → (Nat → Int32)
  | 0 => c
  | i + 1 => upd (rdC c tr i) (16 + i) (nI (cN (rdC c tr i) (16 + i) ||| cN tr i))
theorem rdC_ok {c tr : Nat → Int32} (hc : cOK c) (ht : ∀ k, k < 8 → tr k = nI (cN tr k) ∧ cN tr k < 256) : ∀ i, i ≤ 8 → cOK (rdC c tr i)
  | 0, _ => hc
  | i + 1, hi => by
    have h := rdC_ok hc ht i (by omega)
    exact cOK_w h (by omega) (or_lt (h.w8 (by omega)) (ht i (by omega)).2)
def rdV (c sg tr : Nat → Int32) (ln : Nat) : Int32 := if pres sg (fillF tr (nI 0) 8) ln = -5 then nI (nwC (rdC c (prow sg (fillF tr (nI 0) 8) ln) 8) 8) - nI (nwC c 8) else (-100) - pres sg (fillF tr (nI 0) 8) ln
def rok (r : Nat → Int32) : Prop := ∀ k, k < 8 → r k = nI (cN r k) ∧ cN r k < 256
theorem rok_eg {r : Nat → Int32} {lf rg i : Nat} (h : rok r) (hg : rg < 256) : rok (egF r lf rg i) := by
  intro k hk
  by_cases q : k < i ∧ lf.testBit k = true
  · have e : egF r lf rg i k = nI (cN r k ||| rg) := by
      rw [egF, if_pos q, (h k hk).1, g_or]
    have hl := or_lt (h k hk).2 hg
    rw [cN, e, nI_clamp (by omega)]
    exact ⟨rfl, hl⟩
  · have e : egF r lf rg i k = r k := if_neg q
    rw [cN, e]; exact h k hk
theorem rok_fill (r : Nat → Int32) : rok (fillF r (nI 0) 8) := fun k hk => by
  rw [cN, fillF_in hk, nI_clamp (by decide)]; exact ⟨rfl, by decide⟩
theorem rok_run {sg r : Nat → Int32} : ∀ n, rok (prun sg (fillF r (nI 0) 8) n).2.2.2
  | 0 => rok_fill r
  | n + 1 => by
    have h := rok_run (sg := sg) (r := r) n
    have hl := prun_lt sg (fillF r (nI 0) 8) n
    simp only [prun, pst]
    split
    · exact h
    · split
      · exact h
      · split
        · exact rok_eg h hl.2
        · exact h
theorem prow_ok {sg r : Nat → Int32} {n : Nat} : rok (prow sg (fillF r (nI 0) 8) n) := rok_eg (rok_run n) (prun_lt _ _ n).2
abbrev xW (cI cC : ClassId) (x0 n0 n1 t0 t1 s0 s1 g0 g1 w0 w1 w2 m0 m1 m2 m3 m4 p0 p1 : Nat) (hs : Int32) (c : Nat → Int32) (ct : Nat → Int32) (cs : Nat → Int32) (r : Nat → Int32) (od : Int32) (z : Int32) (sg : Nat → Int32) (ln : Int32) (tr : Nat → Int32) (lf : Int32) (rg : Int32) (bd : Int32) (wi : Nat → Int32) (ol : Nat → Int32) (orr : Nat → Int32) (sf : Nat → Int32) (rl : Int32) (nb : Nat → Int32) : va_W := [(x0, .inr (5, [.ref n0, .ref t0, .ref s0, .int hs, .ref g0, .ref w0, .ref m0, .ref p0])), (n0, .inr (0, [.ref n1])), (n1, .inl (cI, 154, .inl c)), (t0, .inr (0, [.ref t1])), (t1, .inl (cI, 154, .inl ct)), (s0, .inr (0, [.ref s1])), (s1, .inl (cI, 154, .inl cs)), (g0, .inr (1, [.ref g1, .int od, .int z])), (g1, .inl (cI, 770, .inl r)), (w0, .inr (4, [.ref w1, .int ln, .ref w2, .int lf, .int rg, .int bd])), (w1, .inl (cC, 80, .inl sg)), (w2, .inl (cI, 8, .inl tr)), (m0, .inr (2, [.ref m1, .ref m2, .ref m3, .ref m4, .int rl])), (m1, .inl (cI, 8, .inl wi)), (m2, .inl (cI, 8, .inl ol)), (m3, .inl (cI, 8, .inl orr)), (m4, .inl (cI, 8, .inl sf)), (p0, .inr (3, [.ref p1])), (p1, .inl (cI, 64, .inl nb))]
abbrev mrW (cI cC : ClassId) (x0 n0 t0 s0 g0 w0 m0 m1 m2 m3 m4 p0 k0 k1 : Nat) (hs : Int32) (wi : Nat → Int32) (ol : Nat → Int32) (orr : Nat → Int32) (sf : Nat → Int32) (rl : Int32) (c : Nat → Int32) : va_W := [(x0, .inr (5, [.ref n0, .ref t0, .ref s0, .int hs, .ref g0, .ref w0, .ref m0, .ref p0])), (m0, .inr (2, [.ref m1, .ref m2, .ref m3, .ref m4, .int rl])), (m1, .inl (cI, 8, .inl wi)), (m2, .inl (cI, 8, .inl ol)), (m3, .inl (cI, 8, .inl orr)), (m4, .inl (cI, 8, .inl sf)), (k0, .inr (0, [.ref k1])), (k1, .inl (cI, 154, .inl c))]
abbrev rm_X5_arePeople : Room := { frames := 1, cells := 0, slots := 0, locals := 20 }
theorem yd_X5_arePeople : yX5_arePeople.cls = RX5 ∧ yX5_arePeople.cls ≠ "java/lang/invoke/MethodHandle" ∧ yX5_arePeople.cls ≠ "java/lang/invoke/VarHandle" ∧ (parseMethodDescriptor yX5_arePeople.desc).map (fun d => d.parameters.length) = some 2 := by decide +kernel
set_option maxHeartbeats 4000000 in
set_option maxRecDepth 100000 in
theorem m_X5_arePeople (l : Launch) (D : va_G) (cI cC : ClassId) (x : Int32) (y : Int32) : g_M l yX5_arePeople wsX5_arePeople rm_X5_arePeople D cI cC [.int x, .int y] [] (fun vv ww => vv = some (.int (bI (two x y))) ∧ ww = []) := by
  refine g_entry (lv := [(0, .int x), (1, .int y)]) (own := RX5) (by decide) rfl rfl (Nat.le_of_ble_eq_true rfl) rfl ?_
  intro p e s m args below meth co A Q C hr hQ
  refine g_iload_n (pc := 0) C dX5_arePeople_0 0 rfl rfl ?_
  refine g_callS (pc := 1) (st := []) (As := [.int x]) (nn := 1) C (m_X5_isPerson l D cI cC x) gX5_arePeople_X5_isPerson rfl rfl rfl yd_X5_isPerson.2 ⟨Nat.le_of_ble_eq_true rfl, Nat.le_of_ble_eq_true rfl⟩ rfl [] rfl rfl rfl (Nat.le_of_ble_eq_true rfl) ⟨Nat.le_of_ble_eq_true rfl, Nat.le_of_ble_eq_true rfl⟩ dX5_arePeople_1 ?_
  rintro _ _ ⟨rfl, rfl⟩
  refine g_eq (ws' := []) (st' := [.int (bI (isP x))]) rfl rfl ?_
  refine g_if_eqB (pc := 4) C 18 dX5_arePeople_4 (by decide) (fun c4 => ?_) (fun c4 => ?_)
  · refine g_iconst (pc := 18) (v := nI 0) C dX5_arePeople_18 (by decide) ?_
    refine g_top (y := bI (two x y)) (by rw [two, c4]; rfl) ?_
    exact g_zret C hr hQ dX5_arePeople_19 rfl ⟨rfl, rfl⟩
  · refine g_iload_n (pc := 7) C dX5_arePeople_7 1 rfl rfl ?_
    refine g_callS (pc := 8) (st := []) (As := [.int y]) (nn := 1) C (m_X5_isPerson l D cI cC y) gX5_arePeople_X5_isPerson rfl rfl rfl yd_X5_isPerson.2 ⟨Nat.le_of_ble_eq_true rfl, Nat.le_of_ble_eq_true rfl⟩ rfl [] rfl rfl rfl (Nat.le_of_ble_eq_true rfl) ⟨Nat.le_of_ble_eq_true rfl, Nat.le_of_ble_eq_true rfl⟩ dX5_arePeople_8 ?_
    rintro _ _ ⟨rfl, rfl⟩
    refine g_eq (ws' := []) (st' := [.int (bI (isP y))]) rfl rfl ?_
    refine g_if_eqB (pc := 11) C 18 dX5_arePeople_11 (by decide) (fun c11 => ?_) (fun c11 => ?_)
    · refine g_iconst (pc := 18) (v := nI 0) C dX5_arePeople_18 (by decide) ?_
      refine g_top (y := bI (two x y)) (by rw [two, c4, c11]; rfl) ?_
      exact g_zret C hr hQ dX5_arePeople_19 rfl ⟨rfl, rfl⟩
    · refine g_iconst (pc := 14) (v := nI 1) C dX5_arePeople_14 (by decide) ?_
      refine g_goto (pc := 15) C 19 dX5_arePeople_15 (by decide) ?_
      refine g_top (y := bI (two x y)) (by rw [two, c4, c11]; rfl) ?_
      exact g_zret C hr hQ dX5_arePeople_19 rfl ⟨rfl, rfl⟩

abbrev rm_X5_isGate : Room := { frames := 0, cells := 0, slots := 0, locals := 0 }
theorem yd_X5_isGate : yX5_isGate.cls = RX5 ∧ yX5_isGate.cls ≠ "java/lang/invoke/MethodHandle" ∧ yX5_isGate.cls ≠ "java/lang/invoke/VarHandle" ∧ (parseMethodDescriptor yX5_isGate.desc).map (fun d => d.parameters.length) = some 1 := by decide +kernel
set_option maxHeartbeats 4000000 in
set_option maxRecDepth 100000 in
theorem m_X5_isGate (l : Launch) (D : va_G) (cI cC : ClassId) (x : Int32) : g_M l yX5_isGate wsX5_isGate rm_X5_isGate D cI cC [.int x] [] (fun vv ww => vv = some (.int (bI (isG x))) ∧ ww = []) := by
  refine g_entry (lv := [(0, .int x)]) (own := RX5) (by decide) rfl rfl (Nat.le_of_ble_eq_true rfl) rfl ?_
  intro p e s m args below meth co A Q C hr hQ
  refine g_iload_n (pc := 0) C dX5_isGate_0 0 rfl rfl ?_
  refine g_if_lt (pc := 1) C 13 dX5_isGate_1 (by decide) (fun c1 => ?_) (fun c1 => ?_)
  · refine g_iconst (pc := 13) (v := nI 0) C dX5_isGate_13 (by decide) ?_
    refine g_top (y := bI (isG x)) (by rw [isG_f1 c1]; rfl) ?_
    exact g_zret C hr hQ dX5_isGate_14 rfl ⟨rfl, rfl⟩
  · refine g_iload_n (pc := 4) C dX5_isGate_4 0 rfl rfl ?_
    refine g_iconst (pc := 5) (v := nI 4) C dX5_isGate_5 (by decide) ?_
    refine g_icmp_ge (pc := 6) C 13 dX5_isGate_6 (by decide) (fun c6 => ?_) (fun c6 => ?_)
    · refine g_iconst (pc := 13) (v := nI 0) C dX5_isGate_13 (by decide) ?_
      refine g_top (y := bI (isG x)) (by rw [isG_f2 c6]; rfl) ?_
      exact g_zret C hr hQ dX5_isGate_14 rfl ⟨rfl, rfl⟩
    · refine g_iconst (pc := 9) (v := nI 1) C dX5_isGate_9 (by decide) ?_
      refine g_goto (pc := 10) C 14 dX5_isGate_10 (by decide) ?_
      refine g_top (y := bI (isG x)) (by rw [isG_t c1 c6]; rfl) ?_
      exact g_zret C hr hQ dX5_isGate_14 rfl ⟨rfl, rfl⟩

abbrev rm_X5_wish : Room := { frames := 2, cells := 0, slots := 0, locals := 47 }
theorem yd_X5_wish : yX5_wish.cls = RX5 ∧ yX5_wish.cls ≠ "java/lang/invoke/MethodHandle" ∧ yX5_wish.cls ≠ "java/lang/invoke/VarHandle" ∧ (parseMethodDescriptor yX5_wish.desc).map (fun d => d.parameters.length) = some 2 := by decide +kernel
theorem in_X5_wish_X5 : ∀ w ∈ u_ws RX5 TX5 8, w ∈ wsX5_wish := by decide +kernel
theorem fl_X5_wish_12 : Cond.fieldLink RX5 12 "FenceHandshakes" "now" "LFenceHandshakes$Clans;" ∈ wsX5_wish := by decide +kernel
theorem fl_X5_wish_25 : Cond.fieldLink RX5 25 "FenceHandshakes" "history" "LFenceHandshakes$History;" ∈ wsX5_wish := by decide +kernel
set_option maxHeartbeats 4000000 in
set_option maxRecDepth 100000 in
theorem m_X5_wish (l : Launch) (D : va_G) (cI cC : ClassId) (x0 n0 n1 t0 t1 s0 s1 g0 g1 w0 w1 w2 m0 m1 m2 m3 m4 p0 p1 : Nat) (c : Nat → Int32) (ct : Nat → Int32) (cs : Nat → Int32) (r : Nat → Int32) (sg : Nat → Int32) (tr : Nat → Int32) (wi : Nat → Int32) (ol : Nat → Int32) (orr : Nat → Int32) (sf : Nat → Int32) (nb : Nat → Int32) (hs : Bool) (od : Nat) (z : Nat) (ln : Nat) (lf : Nat) (rg : Nat) (bd : Bool) (rl : Nat) (x : Int32) (y : Int32) (hc : cOK c) (ho : od < 5) (hz : z ≤ 5) : g_M l yX5_wish wsX5_wish rm_X5_wish D cI cC [.ref x0, .int x, .int y] (xW cI cC x0 n0 n1 t0 t1 s0 s1 g0 g1 w0 w1 w2 m0 m1 m2 m3 m4 p0 p1 (bI hs) c ct cs r (nI od) (nI z) sg (nI ln) tr (nI lf) (nI rg) (bI bd) wi ol orr sf (nI rl) nb) (fun vv ww => ∃ (c2 : Nat → Int32) (r2 : Nat → Int32) (od2 : Nat) (z2 : Nat), vv = some (.int (xwV c x y)) ∧ ww = (xW cI cC x0 n0 n1 t0 t1 s0 s1 g0 g1 w0 w1 w2 m0 m1 m2 m3 m4 p0 p1 (bI hs) c2 ct cs r2 (nI od2) (nI z2) sg (nI ln) tr (nI lf) (nI rg) (bI bd) wi ol orr sf (nI rl) nb) ∧ XA (xwQ c x y) c (xwC c x y) r od z c2 r2 od2 z2) := by
  refine g_entry (lv := [(0, .ref x0), (1, .int x), (2, .int y)]) (own := RX5) (by decide) rfl rfl (Nat.le_of_ble_eq_true rfl) rfl ?_
  intro p e s m args below meth co A Q C hr hQ
  refine g_iload_n (pc := 0) C dX5_wish_0 1 rfl rfl ?_
  refine g_iload_n (pc := 1) C dX5_wish_1 2 rfl rfl ?_
  refine g_callS (pc := 2) (st := []) (As := [.int x, .int y]) (nn := 2) C (m_X5_arePeople l D cI cC x y) gX5_wish_X5_arePeople rfl rfl rfl yd_X5_arePeople.2 ⟨Nat.le_of_ble_eq_true rfl, Nat.le_of_ble_eq_true rfl⟩ rfl [] rfl rfl rfl (Nat.le_of_ble_eq_true rfl) ⟨Nat.le_of_ble_eq_true rfl, Nat.le_of_ble_eq_true rfl⟩ dX5_wish_2 ?_
  rintro _ _ ⟨rfl, rfl⟩
  refine g_eq (ws' := (xW cI cC x0 n0 n1 t0 t1 s0 s1 g0 g1 w0 w1 w2 m0 m1 m2 m3 m4 p0 p1 (bI hs) c ct cs r (nI od) (nI z) sg (nI ln) tr (nI lf) (nI rg) (bI bd) wi ol orr sf (nI rl) nb)) (st' := [.int (bI (two x y))]) rfl rfl ?_
  refine g_if_neB (pc := 5) C 10 dX5_wish_5 (by decide) (fun c5 => ?_) (fun c5 => ?_)
  · obtain ⟨a, b, ha, hb, ex, ey, px, py⟩ := two_ex c5
    refine g_lveq (lv' := [(0, .ref x0), (1, .int (nI a)), (2, .int y)]) (by rw [ex]) ?_
    refine g_lveq (lv' := [(0, .ref x0), (1, .int (nI a)), (2, .int (nI b))]) (by rw [ey]) ?_
    refine g_aload_n (pc := 10) C dX5_wish_10 0 rfl rfl ?_
    refine g_get (pc := 11) (ci := 5) (T := TX5) (N := 8) (v := .ref n0) C in_X5_wish_X5 0 rfl rfl 0 (by decide) fl_X5_wish_12 rfl rfl dX5_wish_11 ?_
    refine g_iload_n (pc := 14) C dX5_wish_14 1 rfl rfl ?_
    refine g_iload_n (pc := 15) C dX5_wish_15 2 rfl rfl ?_
    refine g_callV (pc := 16) (st := []) (As := [.int (nI a), .int (nI b)]) (nn := 2) (ci := 0) (q0 := 0) C (m_X0_hasWish l D cI cC n0 n1 c a b (by first | assumption | omega) (by first | assumption | omega) (by first | assumption | omega)) gX5_wish_X0_hasWish rfl rfl rfl yd_X0_hasWish ⟨Nat.le_of_ble_eq_true rfl, Nat.le_of_ble_eq_true rfl⟩ rfl [1, 2] rfl rfl rfl rfl rfl (Nat.le_of_ble_eq_true rfl) ⟨Nat.le_of_ble_eq_true rfl, Nat.le_of_ble_eq_true rfl⟩ dX5_wish_16 ?_
    rintro _ _ ⟨rfl, rfl⟩
    refine g_eq (ws' := (xW cI cC x0 n0 n1 t0 t1 s0 s1 g0 g1 w0 w1 w2 m0 m1 m2 m3 m4 p0 p1 (bI hs) c ct cs r (nI od) (nI z) sg (nI ln) tr (nI lf) (nI rg) (bI bd) wi ol orr sf (nI rl) nb)) (st' := [.int (bI (wiC c a b))]) rfl rfl ?_
    refine g_if_eqB (pc := 19) C 25 dX5_wish_19 (by decide) (fun c19 => ?_) (fun c19 => ?_)
    · refine g_aload_n (pc := 25) C dX5_wish_25 0 rfl rfl ?_
      refine g_get (pc := 26) (ci := 5) (T := TX5) (N := 8) (v := .ref g0) C in_X5_wish_X5 0 rfl rfl 4 (by decide) fl_X5_wish_25 rfl rfl dX5_wish_26 ?_
      refine g_aload_n (pc := 29) C dX5_wish_29 0 rfl rfl ?_
      refine g_get (pc := 30) (ci := 5) (T := TX5) (N := 8) (v := .ref n0) C in_X5_wish_X5 0 rfl rfl 0 (by decide) fl_X5_wish_12 rfl rfl dX5_wish_30 ?_
      refine g_callV (pc := 33) (st := []) (As := [.ref n0]) (nn := 1) (ci := 1) (q0 := 0) C (m_X1_keep l D cI cC g0 g1 n0 n1 r c od z (by first | assumption | omega) (by first | assumption | omega)) gX5_wish_X1_keep rfl rfl rfl yd_X1_keep ⟨Nat.le_of_ble_eq_true rfl, Nat.le_of_ble_eq_true rfl⟩ rfl [7, 8, 1, 2] rfl rfl rfl rfl rfl (Nat.le_of_ble_eq_true rfl) ⟨Nat.le_of_ble_eq_true rfl, Nat.le_of_ble_eq_true rfl⟩ dX5_wish_33 ?_
      rintro _ _ ⟨rfl, rfl⟩
      refine g_eq (ws' := (xW cI cC x0 n0 n1 t0 t1 s0 s1 g0 g1 w0 w1 w2 m0 m1 m2 m3 m4 p0 p1 (bI hs) c ct cs (va_cpy c r 0 ((kpO od z + (kpS z - 1)) % 5 * 154) 154) (nI (kpO od z)) (nI (kpS z)) sg (nI ln) tr (nI lf) (nI rg) (bI bd) wi ol orr sf (nI rl) nb)) (st' := []) rfl rfl ?_
      refine g_aload_n (pc := 36) C dX5_wish_36 0 rfl rfl ?_
      refine g_get (pc := 37) (ci := 5) (T := TX5) (N := 8) (v := .ref n0) C in_X5_wish_X5 0 rfl rfl 0 (by decide) fl_X5_wish_12 rfl rfl dX5_wish_37 ?_
      refine g_iload_n (pc := 40) C dX5_wish_40 1 rfl rfl ?_
      refine g_iload_n (pc := 41) C dX5_wish_41 2 rfl rfl ?_
      refine g_callV (pc := 42) (st := []) (As := [.int (nI a), .int (nI b)]) (nn := 2) (ci := 0) (q0 := 0) C (m_X0_openWish l D cI cC n0 n1 c a b (by first | assumption | omega) (by first | assumption | omega) (by first | assumption | omega)) gX5_wish_X0_openWish rfl rfl rfl yd_X0_openWish ⟨Nat.le_of_ble_eq_true rfl, Nat.le_of_ble_eq_true rfl⟩ rfl [1, 2] rfl rfl rfl rfl rfl (Nat.le_of_ble_eq_true rfl) ⟨Nat.le_of_ble_eq_true rfl, Nat.le_of_ble_eq_true rfl⟩ dX5_wish_42 ?_
      rintro _ _ ⟨rfl, rfl⟩
      refine g_eq (ws' := (xW cI cC x0 n0 n1 t0 t1 s0 s1 g0 g1 w0 w1 w2 m0 m1 m2 m3 m4 p0 p1 (bI hs) (upd c (16 + a) (nI (cN c (16 + a) ||| (1 <<< b)))) ct cs (va_cpy c r 0 ((kpO od z + (kpS z - 1)) % 5 * 154) 154) (nI (kpO od z)) (nI (kpS z)) sg (nI ln) tr (nI lf) (nI rg) (bI bd) wi ol orr sf (nI rl) nb)) (st' := []) rfl rfl ?_
      refine g_aload_n (pc := 45) C dX5_wish_45 0 rfl rfl ?_
      refine g_get (pc := 46) (ci := 5) (T := TX5) (N := 8) (v := .ref n0) C in_X5_wish_X5 0 rfl rfl 0 (by decide) fl_X5_wish_12 rfl rfl dX5_wish_46 ?_
      refine g_callV (pc := 49) (st := []) (As := []) (nn := 0) (ci := 0) (q0 := 0) C (m_X0_numberOfWishes l D cI cC n0 n1 (upd c (16 + a) (nI (cN c (16 + a) ||| (1 <<< b)))) (cOK_w hc ha (or_lt (hc.w8 ha) (sh_lt hb)))) gX5_wish_X0_numberOfWishes rfl rfl rfl yd_X0_numberOfWishes ⟨Nat.le_of_ble_eq_true rfl, Nat.le_of_ble_eq_true rfl⟩ rfl [1, 2] rfl rfl rfl rfl rfl (Nat.le_of_ble_eq_true rfl) ⟨Nat.le_of_ble_eq_true rfl, Nat.le_of_ble_eq_true rfl⟩ dX5_wish_49 ?_
      rintro _ _ ⟨rfl, rfl⟩
      refine g_eq (ws' := (xW cI cC x0 n0 n1 t0 t1 s0 s1 g0 g1 w0 w1 w2 m0 m1 m2 m3 m4 p0 p1 (bI hs) (upd c (16 + a) (nI (cN c (16 + a) ||| (1 <<< b)))) ct cs (va_cpy c r 0 ((kpO od z + (kpS z - 1)) % 5 * 154) 154) (nI (kpO od z)) (nI (kpS z)) sg (nI ln) tr (nI lf) (nI rg) (bI bd) wi ol orr sf (nI rl) nb)) (st' := [.int (nI (nwC (upd c (16 + a) (nI (cN c (16 + a) ||| (1 <<< b)))) 8))]) rfl rfl ?_
      refine g_top (y := (xwV c x y)) (by rw [xwV, xwC, c5, px, py, c19]; rfl) ?_
      exact g_iret C hr hQ dX5_wish_52 rfl ⟨_, _, _, _, rfl, rfl, by rw [xwQ, xwC, c5, px, py, c19]; exact XA_t⟩
    · refine g_bipush (pc := 22) (v := (-4)) C dX5_wish_22 (by decide) ?_
      refine g_top (y := (xwV c x y)) (by rw [xwV, c5, px, py, c19]; rfl) ?_
      exact g_iret C hr hQ dX5_wish_24 rfl ⟨_, _, _, _, rfl, rfl, by rw [xwQ, c5, px, py, c19]; exact XA_f⟩
  · refine g_iconst (pc := 8) (v := (-1)) C dX5_wish_8 (by decide) ?_
    refine g_top (y := (xwV c x y)) (by rw [xwV, c5]; rfl) ?_
    exact g_iret C hr hQ dX5_wish_9 rfl ⟨_, _, _, _, rfl, rfl, by rw [xwQ, c5]; exact XA_f⟩

abbrev rm_X5_withdraw : Room := { frames := 2, cells := 0, slots := 0, locals := 47 }
theorem yd_X5_withdraw : yX5_withdraw.cls = RX5 ∧ yX5_withdraw.cls ≠ "java/lang/invoke/MethodHandle" ∧ yX5_withdraw.cls ≠ "java/lang/invoke/VarHandle" ∧ (parseMethodDescriptor yX5_withdraw.desc).map (fun d => d.parameters.length) = some 2 := by decide +kernel
theorem in_X5_withdraw_X5 : ∀ w ∈ u_ws RX5 TX5 8, w ∈ wsX5_withdraw := by decide +kernel
theorem fl_X5_withdraw_12 : Cond.fieldLink RX5 12 "FenceHandshakes" "now" "LFenceHandshakes$Clans;" ∈ wsX5_withdraw := by decide +kernel
theorem fl_X5_withdraw_25 : Cond.fieldLink RX5 25 "FenceHandshakes" "history" "LFenceHandshakes$History;" ∈ wsX5_withdraw := by decide +kernel
set_option maxHeartbeats 4000000 in
set_option maxRecDepth 100000 in
theorem m_X5_withdraw (l : Launch) (D : va_G) (cI cC : ClassId) (x0 n0 n1 t0 t1 s0 s1 g0 g1 w0 w1 w2 m0 m1 m2 m3 m4 p0 p1 : Nat) (c : Nat → Int32) (ct : Nat → Int32) (cs : Nat → Int32) (r : Nat → Int32) (sg : Nat → Int32) (tr : Nat → Int32) (wi : Nat → Int32) (ol : Nat → Int32) (orr : Nat → Int32) (sf : Nat → Int32) (nb : Nat → Int32) (hs : Bool) (od : Nat) (z : Nat) (ln : Nat) (lf : Nat) (rg : Nat) (bd : Bool) (rl : Nat) (x : Int32) (y : Int32) (hc : cOK c) (ho : od < 5) (hz : z ≤ 5) : g_M l yX5_withdraw wsX5_withdraw rm_X5_withdraw D cI cC [.ref x0, .int x, .int y] (xW cI cC x0 n0 n1 t0 t1 s0 s1 g0 g1 w0 w1 w2 m0 m1 m2 m3 m4 p0 p1 (bI hs) c ct cs r (nI od) (nI z) sg (nI ln) tr (nI lf) (nI rg) (bI bd) wi ol orr sf (nI rl) nb) (fun vv ww => ∃ (c2 : Nat → Int32) (r2 : Nat → Int32) (od2 : Nat) (z2 : Nat), vv = some (.int (wdV c x y)) ∧ ww = (xW cI cC x0 n0 n1 t0 t1 s0 s1 g0 g1 w0 w1 w2 m0 m1 m2 m3 m4 p0 p1 (bI hs) c2 ct cs r2 (nI od2) (nI z2) sg (nI ln) tr (nI lf) (nI rg) (bI bd) wi ol orr sf (nI rl) nb) ∧ XA (wdQ c x y) c (wdC c x y) r od z c2 r2 od2 z2) := by
  refine g_entry (lv := [(0, .ref x0), (1, .int x), (2, .int y)]) (own := RX5) (by decide) rfl rfl (Nat.le_of_ble_eq_true rfl) rfl ?_
  intro p e s m args below meth co A Q C hr hQ
  refine g_iload_n (pc := 0) C dX5_withdraw_0 1 rfl rfl ?_
  refine g_iload_n (pc := 1) C dX5_withdraw_1 2 rfl rfl ?_
  refine g_callS (pc := 2) (st := []) (As := [.int x, .int y]) (nn := 2) C (m_X5_arePeople l D cI cC x y) gX5_withdraw_X5_arePeople rfl rfl rfl yd_X5_arePeople.2 ⟨Nat.le_of_ble_eq_true rfl, Nat.le_of_ble_eq_true rfl⟩ rfl [] rfl rfl rfl (Nat.le_of_ble_eq_true rfl) ⟨Nat.le_of_ble_eq_true rfl, Nat.le_of_ble_eq_true rfl⟩ dX5_withdraw_2 ?_
  rintro _ _ ⟨rfl, rfl⟩
  refine g_eq (ws' := (xW cI cC x0 n0 n1 t0 t1 s0 s1 g0 g1 w0 w1 w2 m0 m1 m2 m3 m4 p0 p1 (bI hs) c ct cs r (nI od) (nI z) sg (nI ln) tr (nI lf) (nI rg) (bI bd) wi ol orr sf (nI rl) nb)) (st' := [.int (bI (two x y))]) rfl rfl ?_
  refine g_if_neB (pc := 5) C 10 dX5_withdraw_5 (by decide) (fun c5 => ?_) (fun c5 => ?_)
  · obtain ⟨a, b, ha, hb, ex, ey, px, py⟩ := two_ex c5
    refine g_lveq (lv' := [(0, .ref x0), (1, .int (nI a)), (2, .int y)]) (by rw [ex]) ?_
    refine g_lveq (lv' := [(0, .ref x0), (1, .int (nI a)), (2, .int (nI b))]) (by rw [ey]) ?_
    refine g_aload_n (pc := 10) C dX5_withdraw_10 0 rfl rfl ?_
    refine g_get (pc := 11) (ci := 5) (T := TX5) (N := 8) (v := .ref n0) C in_X5_withdraw_X5 0 rfl rfl 0 (by decide) fl_X5_withdraw_12 rfl rfl dX5_withdraw_11 ?_
    refine g_iload_n (pc := 14) C dX5_withdraw_14 1 rfl rfl ?_
    refine g_iload_n (pc := 15) C dX5_withdraw_15 2 rfl rfl ?_
    refine g_callV (pc := 16) (st := []) (As := [.int (nI a), .int (nI b)]) (nn := 2) (ci := 0) (q0 := 0) C (m_X0_hasWish l D cI cC n0 n1 c a b (by first | assumption | omega) (by first | assumption | omega) (by first | assumption | omega)) gX5_withdraw_X0_hasWish rfl rfl rfl yd_X0_hasWish ⟨Nat.le_of_ble_eq_true rfl, Nat.le_of_ble_eq_true rfl⟩ rfl [1, 2] rfl rfl rfl rfl rfl (Nat.le_of_ble_eq_true rfl) ⟨Nat.le_of_ble_eq_true rfl, Nat.le_of_ble_eq_true rfl⟩ dX5_withdraw_16 ?_
    rintro _ _ ⟨rfl, rfl⟩
    refine g_eq (ws' := (xW cI cC x0 n0 n1 t0 t1 s0 s1 g0 g1 w0 w1 w2 m0 m1 m2 m3 m4 p0 p1 (bI hs) c ct cs r (nI od) (nI z) sg (nI ln) tr (nI lf) (nI rg) (bI bd) wi ol orr sf (nI rl) nb)) (st' := [.int (bI (wiC c a b))]) rfl rfl ?_
    refine g_if_neB (pc := 19) C 25 dX5_withdraw_19 (by decide) (fun c19 => ?_) (fun c19 => ?_)
    · refine g_aload_n (pc := 25) C dX5_withdraw_25 0 rfl rfl ?_
      refine g_get (pc := 26) (ci := 5) (T := TX5) (N := 8) (v := .ref g0) C in_X5_withdraw_X5 0 rfl rfl 4 (by decide) fl_X5_withdraw_25 rfl rfl dX5_withdraw_26 ?_
      refine g_aload_n (pc := 29) C dX5_withdraw_29 0 rfl rfl ?_
      refine g_get (pc := 30) (ci := 5) (T := TX5) (N := 8) (v := .ref n0) C in_X5_withdraw_X5 0 rfl rfl 0 (by decide) fl_X5_withdraw_12 rfl rfl dX5_withdraw_30 ?_
      refine g_callV (pc := 33) (st := []) (As := [.ref n0]) (nn := 1) (ci := 1) (q0 := 0) C (m_X1_keep l D cI cC g0 g1 n0 n1 r c od z (by first | assumption | omega) (by first | assumption | omega)) gX5_withdraw_X1_keep rfl rfl rfl yd_X1_keep ⟨Nat.le_of_ble_eq_true rfl, Nat.le_of_ble_eq_true rfl⟩ rfl [7, 8, 1, 2] rfl rfl rfl rfl rfl (Nat.le_of_ble_eq_true rfl) ⟨Nat.le_of_ble_eq_true rfl, Nat.le_of_ble_eq_true rfl⟩ dX5_withdraw_33 ?_
      rintro _ _ ⟨rfl, rfl⟩
      refine g_eq (ws' := (xW cI cC x0 n0 n1 t0 t1 s0 s1 g0 g1 w0 w1 w2 m0 m1 m2 m3 m4 p0 p1 (bI hs) c ct cs (va_cpy c r 0 ((kpO od z + (kpS z - 1)) % 5 * 154) 154) (nI (kpO od z)) (nI (kpS z)) sg (nI ln) tr (nI lf) (nI rg) (bI bd) wi ol orr sf (nI rl) nb)) (st' := []) rfl rfl ?_
      refine g_aload_n (pc := 36) C dX5_withdraw_36 0 rfl rfl ?_
      refine g_get (pc := 37) (ci := 5) (T := TX5) (N := 8) (v := .ref n0) C in_X5_withdraw_X5 0 rfl rfl 0 (by decide) fl_X5_withdraw_12 rfl rfl dX5_withdraw_37 ?_
      refine g_iload_n (pc := 40) C dX5_withdraw_40 1 rfl rfl ?_
      refine g_iload_n (pc := 41) C dX5_withdraw_41 2 rfl rfl ?_
      refine g_callV (pc := 42) (st := []) (As := [.int (nI a), .int (nI b)]) (nn := 2) (ci := 0) (q0 := 0) C (m_X0_closeWish l D cI cC n0 n1 c a b (by first | assumption | omega) (by first | assumption | omega) (by first | assumption | omega)) gX5_withdraw_X0_closeWish rfl rfl rfl yd_X0_closeWish ⟨Nat.le_of_ble_eq_true rfl, Nat.le_of_ble_eq_true rfl⟩ rfl [1, 2] rfl rfl rfl rfl rfl (Nat.le_of_ble_eq_true rfl) ⟨Nat.le_of_ble_eq_true rfl, Nat.le_of_ble_eq_true rfl⟩ dX5_withdraw_42 ?_
      rintro _ _ ⟨rfl, rfl⟩
      refine g_eq (ws' := (xW cI cC x0 n0 n1 t0 t1 s0 s1 g0 g1 w0 w1 w2 m0 m1 m2 m3 m4 p0 p1 (bI hs) (upd c (16 + a) (nI (g_nand (cN c (16 + a)) (1 <<< b)))) ct cs (va_cpy c r 0 ((kpO od z + (kpS z - 1)) % 5 * 154) 154) (nI (kpO od z)) (nI (kpS z)) sg (nI ln) tr (nI lf) (nI rg) (bI bd) wi ol orr sf (nI rl) nb)) (st' := []) rfl rfl ?_
      refine g_aload_n (pc := 45) C dX5_withdraw_45 0 rfl rfl ?_
      refine g_get (pc := 46) (ci := 5) (T := TX5) (N := 8) (v := .ref n0) C in_X5_withdraw_X5 0 rfl rfl 0 (by decide) fl_X5_withdraw_12 rfl rfl dX5_withdraw_46 ?_
      refine g_callV (pc := 49) (st := []) (As := []) (nn := 0) (ci := 0) (q0 := 0) C (m_X0_numberOfWishes l D cI cC n0 n1 (upd c (16 + a) (nI (g_nand (cN c (16 + a)) (1 <<< b)))) (cOK_close hc b ha)) gX5_withdraw_X0_numberOfWishes rfl rfl rfl yd_X0_numberOfWishes ⟨Nat.le_of_ble_eq_true rfl, Nat.le_of_ble_eq_true rfl⟩ rfl [1, 2] rfl rfl rfl rfl rfl (Nat.le_of_ble_eq_true rfl) ⟨Nat.le_of_ble_eq_true rfl, Nat.le_of_ble_eq_true rfl⟩ dX5_withdraw_49 ?_
      rintro _ _ ⟨rfl, rfl⟩
      refine g_eq (ws' := (xW cI cC x0 n0 n1 t0 t1 s0 s1 g0 g1 w0 w1 w2 m0 m1 m2 m3 m4 p0 p1 (bI hs) (upd c (16 + a) (nI (g_nand (cN c (16 + a)) (1 <<< b)))) ct cs (va_cpy c r 0 ((kpO od z + (kpS z - 1)) % 5 * 154) 154) (nI (kpO od z)) (nI (kpS z)) sg (nI ln) tr (nI lf) (nI rg) (bI bd) wi ol orr sf (nI rl) nb)) (st' := [.int (nI (nwC (upd c (16 + a) (nI (g_nand (cN c (16 + a)) (1 <<< b)))) 8))]) rfl rfl ?_
      refine g_top (y := (wdV c x y)) (by rw [wdV, wdC, c5, px, py, c19]; rfl) ?_
      exact g_iret C hr hQ dX5_withdraw_52 rfl ⟨_, _, _, _, rfl, rfl, by rw [wdQ, wdC, c5, px, py, c19]; exact XA_t⟩
    · refine g_bipush (pc := 22) (v := (-4)) C dX5_withdraw_22 (by decide) ?_
      refine g_top (y := (wdV c x y)) (by rw [wdV, c5, px, py, c19]; rfl) ?_
      exact g_iret C hr hQ dX5_withdraw_24 rfl ⟨_, _, _, _, rfl, rfl, by rw [wdQ, c5, px, py, c19]; exact XA_f⟩
  · refine g_iconst (pc := 8) (v := (-1)) C dX5_withdraw_8 (by decide) ?_
    refine g_top (y := (wdV c x y)) (by rw [wdV, c5]; rfl) ?_
    exact g_iret C hr hQ dX5_withdraw_9 rfl ⟨_, _, _, _, rfl, rfl, by rw [wdQ, c5]; exact XA_f⟩

abbrev rm_X5_quarrel : Room := { frames := 2, cells := 0, slots := 0, locals := 47 }
theorem yd_X5_quarrel : yX5_quarrel.cls = RX5 ∧ yX5_quarrel.cls ≠ "java/lang/invoke/MethodHandle" ∧ yX5_quarrel.cls ≠ "java/lang/invoke/VarHandle" ∧ (parseMethodDescriptor yX5_quarrel.desc).map (fun d => d.parameters.length) = some 3 := by decide +kernel
theorem in_X5_quarrel_X5 : ∀ w ∈ u_ws RX5 TX5 8, w ∈ wsX5_quarrel := by decide +kernel
theorem fl_X5_quarrel_12 : Cond.fieldLink RX5 12 "FenceHandshakes" "now" "LFenceHandshakes$Clans;" ∈ wsX5_quarrel := by decide +kernel
theorem fl_X5_quarrel_25 : Cond.fieldLink RX5 25 "FenceHandshakes" "history" "LFenceHandshakes$History;" ∈ wsX5_quarrel := by decide +kernel
set_option maxHeartbeats 4000000 in
set_option maxRecDepth 100000 in
theorem m_X5_quarrel (l : Launch) (D : va_G) (cI cC : ClassId) (x0 n0 n1 t0 t1 s0 s1 g0 g1 w0 w1 w2 m0 m1 m2 m3 m4 p0 p1 : Nat) (c : Nat → Int32) (ct : Nat → Int32) (cs : Nat → Int32) (r : Nat → Int32) (sg : Nat → Int32) (tr : Nat → Int32) (wi : Nat → Int32) (ol : Nat → Int32) (orr : Nat → Int32) (sf : Nat → Int32) (nb : Nat → Int32) (hs : Bool) (od : Nat) (z : Nat) (ln : Nat) (lf : Nat) (rg : Nat) (bd : Bool) (rl : Nat) (x : Int32) (y : Int32) (w : Int32) (hc : cOK c) (ho : od < 5) (hz : z ≤ 5) : g_M l yX5_quarrel wsX5_quarrel rm_X5_quarrel D cI cC [.ref x0, .int x, .int y, .int w] (xW cI cC x0 n0 n1 t0 t1 s0 s1 g0 g1 w0 w1 w2 m0 m1 m2 m3 m4 p0 p1 (bI hs) c ct cs r (nI od) (nI z) sg (nI ln) tr (nI lf) (nI rg) (bI bd) wi ol orr sf (nI rl) nb) (fun vv ww => ∃ (c2 : Nat → Int32) (r2 : Nat → Int32) (od2 : Nat) (z2 : Nat), vv = some (.int (quV c x y w)) ∧ ww = (xW cI cC x0 n0 n1 t0 t1 s0 s1 g0 g1 w0 w1 w2 m0 m1 m2 m3 m4 p0 p1 (bI hs) c2 ct cs r2 (nI od2) (nI z2) sg (nI ln) tr (nI lf) (nI rg) (bI bd) wi ol orr sf (nI rl) nb) ∧ XA (quQ x y w) c (fdC c x y w) r od z c2 r2 od2 z2) := by
  refine g_entry (lv := [(0, .ref x0), (1, .int x), (2, .int y), (3, .int w)]) (own := RX5) (by decide) rfl rfl (Nat.le_of_ble_eq_true rfl) rfl ?_
  intro p e s m args below meth co A Q C hr hQ
  refine g_iload_n (pc := 0) C dX5_quarrel_0 1 rfl rfl ?_
  refine g_iload_n (pc := 1) C dX5_quarrel_1 2 rfl rfl ?_
  refine g_callS (pc := 2) (st := []) (As := [.int x, .int y]) (nn := 2) C (m_X5_arePeople l D cI cC x y) gX5_quarrel_X5_arePeople rfl rfl rfl yd_X5_arePeople.2 ⟨Nat.le_of_ble_eq_true rfl, Nat.le_of_ble_eq_true rfl⟩ rfl [] rfl rfl rfl (Nat.le_of_ble_eq_true rfl) ⟨Nat.le_of_ble_eq_true rfl, Nat.le_of_ble_eq_true rfl⟩ dX5_quarrel_2 ?_
  rintro _ _ ⟨rfl, rfl⟩
  refine g_eq (ws' := (xW cI cC x0 n0 n1 t0 t1 s0 s1 g0 g1 w0 w1 w2 m0 m1 m2 m3 m4 p0 p1 (bI hs) c ct cs r (nI od) (nI z) sg (nI ln) tr (nI lf) (nI rg) (bI bd) wi ol orr sf (nI rl) nb)) (st' := [.int (bI (two x y))]) rfl rfl ?_
  refine g_if_neB (pc := 5) C 10 dX5_quarrel_5 (by decide) (fun c5 => ?_) (fun c5 => ?_)
  · obtain ⟨a, b, ha, hb, ex, ey, px, py⟩ := two_ex c5
    refine g_lveq (lv' := [(0, .ref x0), (1, .int (nI a)), (2, .int y), (3, .int w)]) (by rw [ex]) ?_
    refine g_lveq (lv' := [(0, .ref x0), (1, .int (nI a)), (2, .int (nI b)), (3, .int w)]) (by rw [ey]) ?_
    refine g_iload_n (pc := 10) C dX5_quarrel_10 3 rfl rfl ?_
    refine g_iconst (pc := 11) (v := nI 1) C dX5_quarrel_11 (by decide) ?_
    refine g_icmp_lt (pc := 12) C 21 dX5_quarrel_12 (by decide) (fun c12 => ?_) (fun c12 => ?_)
    · refine g_bipush (pc := 21) (v := (-2)) C dX5_quarrel_21 (by decide) ?_
      refine g_top (y := (quV c x y w)) (by rw [quV, c5, inR_f1 c12]; rfl) ?_
      exact g_iret C hr hQ dX5_quarrel_23 rfl ⟨_, _, _, _, rfl, rfl, by rw [quQ, c5, inR_f1 c12]; exact XA_f⟩
    · refine g_iload_n (pc := 15) C dX5_quarrel_15 3 rfl rfl ?_
      refine g_bipush (pc := 16) (v := nI 50) C dX5_quarrel_16 (by decide) ?_
      refine g_icmp_le (pc := 18) C 24 dX5_quarrel_18 (by decide) (fun c18 => ?_) (fun c18 => ?_)
      · refine g_aload_n (pc := 24) C dX5_quarrel_24 0 rfl rfl ?_
        refine g_get (pc := 25) (ci := 5) (T := TX5) (N := 8) (v := .ref g0) C in_X5_quarrel_X5 0 rfl rfl 4 (by decide) fl_X5_quarrel_25 rfl rfl dX5_quarrel_25 ?_
        refine g_aload_n (pc := 28) C dX5_quarrel_28 0 rfl rfl ?_
        refine g_get (pc := 29) (ci := 5) (T := TX5) (N := 8) (v := .ref n0) C in_X5_quarrel_X5 0 rfl rfl 0 (by decide) fl_X5_quarrel_12 rfl rfl dX5_quarrel_29 ?_
        refine g_callV (pc := 32) (st := []) (As := [.ref n0]) (nn := 1) (ci := 1) (q0 := 0) C (m_X1_keep l D cI cC g0 g1 n0 n1 r c od z (by first | assumption | omega) (by first | assumption | omega)) gX5_quarrel_X1_keep rfl rfl rfl yd_X1_keep ⟨Nat.le_of_ble_eq_true rfl, Nat.le_of_ble_eq_true rfl⟩ rfl [7, 8, 1, 2] rfl rfl rfl rfl rfl (Nat.le_of_ble_eq_true rfl) ⟨Nat.le_of_ble_eq_true rfl, Nat.le_of_ble_eq_true rfl⟩ dX5_quarrel_32 ?_
        rintro _ _ ⟨rfl, rfl⟩
        refine g_eq (ws' := (xW cI cC x0 n0 n1 t0 t1 s0 s1 g0 g1 w0 w1 w2 m0 m1 m2 m3 m4 p0 p1 (bI hs) c ct cs (va_cpy c r 0 ((kpO od z + (kpS z - 1)) % 5 * 154) 154) (nI (kpO od z)) (nI (kpS z)) sg (nI ln) tr (nI lf) (nI rg) (bI bd) wi ol orr sf (nI rl) nb)) (st' := []) rfl rfl ?_
        refine g_aload_n (pc := 35) C dX5_quarrel_35 0 rfl rfl ?_
        refine g_get (pc := 36) (ci := 5) (T := TX5) (N := 8) (v := .ref n0) C in_X5_quarrel_X5 0 rfl rfl 0 (by decide) fl_X5_quarrel_12 rfl rfl dX5_quarrel_36 ?_
        refine g_iload_n (pc := 39) C dX5_quarrel_39 1 rfl rfl ?_
        refine g_iload_n (pc := 40) C dX5_quarrel_40 2 rfl rfl ?_
        refine g_callV (pc := 41) (st := []) (As := [.int (nI a), .int (nI b)]) (nn := 2) (ci := 0) (q0 := 0) C (m_X0_feudOf l D cI cC n0 n1 c a b (by first | assumption | omega) (by first | assumption | omega)) gX5_quarrel_X0_feudOf rfl rfl rfl yd_X0_feudOf ⟨Nat.le_of_ble_eq_true rfl, Nat.le_of_ble_eq_true rfl⟩ rfl [1, 2] rfl rfl rfl rfl rfl (Nat.le_of_ble_eq_true rfl) ⟨Nat.le_of_ble_eq_true rfl, Nat.le_of_ble_eq_true rfl⟩ dX5_quarrel_41 ?_
        rintro _ _ ⟨rfl, rfl⟩
        refine g_eq (ws' := (xW cI cC x0 n0 n1 t0 t1 s0 s1 g0 g1 w0 w1 w2 m0 m1 m2 m3 m4 p0 p1 (bI hs) c ct cs (va_cpy c r 0 ((kpO od z + (kpS z - 1)) % 5 * 154) 154) (nI (kpO od z)) (nI (kpS z)) sg (nI ln) tr (nI lf) (nI rg) (bI bd) wi ol orr sf (nI rl) nb)) (st' := [.int (feC c a b)]) rfl rfl ?_
        refine g_istore (pc := 44) (lv' := [(4, .int (feC c a b)), (0, .ref x0), (1, .int (nI a)), (2, .int (nI b)), (3, .int w)]) C dX5_quarrel_44 (by decide) rfl ?_
        refine g_aload_n (pc := 46) C dX5_quarrel_46 1 rfl rfl ?_
        refine g_get (pc := 47) (ci := 5) (T := TX5) (N := 8) (v := .ref n0) C in_X5_quarrel_X5 0 rfl rfl 0 (by decide) fl_X5_quarrel_12 rfl rfl dX5_quarrel_47 ?_
        refine g_iload_n (pc := 50) C dX5_quarrel_50 2 rfl rfl ?_
        refine g_iload_n (pc := 51) C dX5_quarrel_51 3 rfl rfl ?_
        refine g_iload_n (pc := 52) C dX5_quarrel_52 4 rfl rfl ?_
        refine g_callV (pc := 53) (st := []) (As := [.int (nI a), .int (nI b), .int w]) (nn := 3) (ci := 0) (q0 := 0) C (m_X0_setFeud l D cI cC n0 n1 c a b w (by first | assumption | omega) (by first | assumption | omega)) gX5_quarrel_X0_setFeud rfl rfl rfl yd_X0_setFeud ⟨Nat.le_of_ble_eq_true rfl, Nat.le_of_ble_eq_true rfl⟩ rfl [1, 2] rfl rfl rfl rfl rfl (Nat.le_of_ble_eq_true rfl) ⟨Nat.le_of_ble_eq_true rfl, Nat.le_of_ble_eq_true rfl⟩ dX5_quarrel_53 ?_
        rintro _ _ ⟨rfl, rfl⟩
        refine g_eq (ws' := (xW cI cC x0 n0 n1 t0 t1 s0 s1 g0 g1 w0 w1 w2 m0 m1 m2 m3 m4 p0 p1 (bI hs) (upd c (24 + 8 * a + b) w) ct cs (va_cpy c r 0 ((kpO od z + (kpS z - 1)) % 5 * 154) 154) (nI (kpO od z)) (nI (kpS z)) sg (nI ln) tr (nI lf) (nI rg) (bI bd) wi ol orr sf (nI rl) nb)) (st' := []) rfl rfl ?_
        refine g_iload (pc := 56) C dX5_quarrel_56 0 rfl ?_
        refine g_top (y := (quV c x y w)) (by rw [quV, c5, inR_t c12 c18, px, py]; rfl) ?_
        exact g_iret C hr hQ dX5_quarrel_58 rfl ⟨_, _, _, _, rfl, rfl, by rw [quQ, fdC, c5, inR_t c12 c18, px, py]; exact XA_t⟩
      · refine g_bipush (pc := 21) (v := (-2)) C dX5_quarrel_21 (by decide) ?_
        refine g_top (y := (quV c x y w)) (by rw [quV, c5, inR_f2 c18]; rfl) ?_
        exact g_iret C hr hQ dX5_quarrel_23 rfl ⟨_, _, _, _, rfl, rfl, by rw [quQ, c5, inR_f2 c18]; exact XA_f⟩
  · refine g_iconst (pc := 8) (v := (-1)) C dX5_quarrel_8 (by decide) ?_
    refine g_top (y := (quV c x y w)) (by rw [quV, c5]; rfl) ?_
    exact g_iret C hr hQ dX5_quarrel_9 rfl ⟨_, _, _, _, rfl, rfl, by rw [quQ, c5]; exact XA_f⟩

abbrev rm_X5_reconcile : Room := { frames := 2, cells := 0, slots := 0, locals := 47 }
theorem yd_X5_reconcile : yX5_reconcile.cls = RX5 ∧ yX5_reconcile.cls ≠ "java/lang/invoke/MethodHandle" ∧ yX5_reconcile.cls ≠ "java/lang/invoke/VarHandle" ∧ (parseMethodDescriptor yX5_reconcile.desc).map (fun d => d.parameters.length) = some 2 := by decide +kernel
theorem in_X5_reconcile_X5 : ∀ w ∈ u_ws RX5 TX5 8, w ∈ wsX5_reconcile := by decide +kernel
theorem fl_X5_reconcile_12 : Cond.fieldLink RX5 12 "FenceHandshakes" "now" "LFenceHandshakes$Clans;" ∈ wsX5_reconcile := by decide +kernel
theorem fl_X5_reconcile_25 : Cond.fieldLink RX5 25 "FenceHandshakes" "history" "LFenceHandshakes$History;" ∈ wsX5_reconcile := by decide +kernel
set_option maxHeartbeats 4000000 in
set_option maxRecDepth 100000 in
theorem m_X5_reconcile (l : Launch) (D : va_G) (cI cC : ClassId) (x0 n0 n1 t0 t1 s0 s1 g0 g1 w0 w1 w2 m0 m1 m2 m3 m4 p0 p1 : Nat) (c : Nat → Int32) (ct : Nat → Int32) (cs : Nat → Int32) (r : Nat → Int32) (sg : Nat → Int32) (tr : Nat → Int32) (wi : Nat → Int32) (ol : Nat → Int32) (orr : Nat → Int32) (sf : Nat → Int32) (nb : Nat → Int32) (hs : Bool) (od : Nat) (z : Nat) (ln : Nat) (lf : Nat) (rg : Nat) (bd : Bool) (rl : Nat) (x : Int32) (y : Int32) (hc : cOK c) (ho : od < 5) (hz : z ≤ 5) : g_M l yX5_reconcile wsX5_reconcile rm_X5_reconcile D cI cC [.ref x0, .int x, .int y] (xW cI cC x0 n0 n1 t0 t1 s0 s1 g0 g1 w0 w1 w2 m0 m1 m2 m3 m4 p0 p1 (bI hs) c ct cs r (nI od) (nI z) sg (nI ln) tr (nI lf) (nI rg) (bI bd) wi ol orr sf (nI rl) nb) (fun vv ww => ∃ (c2 : Nat → Int32) (r2 : Nat → Int32) (od2 : Nat) (z2 : Nat), vv = some (.int (rcV c x y)) ∧ ww = (xW cI cC x0 n0 n1 t0 t1 s0 s1 g0 g1 w0 w1 w2 m0 m1 m2 m3 m4 p0 p1 (bI hs) c2 ct cs r2 (nI od2) (nI z2) sg (nI ln) tr (nI lf) (nI rg) (bI bd) wi ol orr sf (nI rl) nb) ∧ XA (rcQ c x y) c (fdC c x y (nI 0)) r od z c2 r2 od2 z2) := by
  refine g_entry (lv := [(0, .ref x0), (1, .int x), (2, .int y)]) (own := RX5) (by decide) rfl rfl (Nat.le_of_ble_eq_true rfl) rfl ?_
  intro p e s m args below meth co A Q C hr hQ
  refine g_iload_n (pc := 0) C dX5_reconcile_0 1 rfl rfl ?_
  refine g_iload_n (pc := 1) C dX5_reconcile_1 2 rfl rfl ?_
  refine g_callS (pc := 2) (st := []) (As := [.int x, .int y]) (nn := 2) C (m_X5_arePeople l D cI cC x y) gX5_reconcile_X5_arePeople rfl rfl rfl yd_X5_arePeople.2 ⟨Nat.le_of_ble_eq_true rfl, Nat.le_of_ble_eq_true rfl⟩ rfl [] rfl rfl rfl (Nat.le_of_ble_eq_true rfl) ⟨Nat.le_of_ble_eq_true rfl, Nat.le_of_ble_eq_true rfl⟩ dX5_reconcile_2 ?_
  rintro _ _ ⟨rfl, rfl⟩
  refine g_eq (ws' := (xW cI cC x0 n0 n1 t0 t1 s0 s1 g0 g1 w0 w1 w2 m0 m1 m2 m3 m4 p0 p1 (bI hs) c ct cs r (nI od) (nI z) sg (nI ln) tr (nI lf) (nI rg) (bI bd) wi ol orr sf (nI rl) nb)) (st' := [.int (bI (two x y))]) rfl rfl ?_
  refine g_if_neB (pc := 5) C 10 dX5_reconcile_5 (by decide) (fun c5 => ?_) (fun c5 => ?_)
  · obtain ⟨a, b, ha, hb, ex, ey, px, py⟩ := two_ex c5
    refine g_lveq (lv' := [(0, .ref x0), (1, .int (nI a)), (2, .int y)]) (by rw [ex]) ?_
    refine g_lveq (lv' := [(0, .ref x0), (1, .int (nI a)), (2, .int (nI b))]) (by rw [ey]) ?_
    refine g_aload_n (pc := 10) C dX5_reconcile_10 0 rfl rfl ?_
    refine g_get (pc := 11) (ci := 5) (T := TX5) (N := 8) (v := .ref n0) C in_X5_reconcile_X5 0 rfl rfl 0 (by decide) fl_X5_reconcile_12 rfl rfl dX5_reconcile_11 ?_
    refine g_iload_n (pc := 14) C dX5_reconcile_14 1 rfl rfl ?_
    refine g_iload_n (pc := 15) C dX5_reconcile_15 2 rfl rfl ?_
    refine g_callV (pc := 16) (st := []) (As := [.int (nI a), .int (nI b)]) (nn := 2) (ci := 0) (q0 := 0) C (m_X0_feudOf l D cI cC n0 n1 c a b (by first | assumption | omega) (by first | assumption | omega)) gX5_reconcile_X0_feudOf rfl rfl rfl yd_X0_feudOf ⟨Nat.le_of_ble_eq_true rfl, Nat.le_of_ble_eq_true rfl⟩ rfl [1, 2] rfl rfl rfl rfl rfl (Nat.le_of_ble_eq_true rfl) ⟨Nat.le_of_ble_eq_true rfl, Nat.le_of_ble_eq_true rfl⟩ dX5_reconcile_16 ?_
    rintro _ _ ⟨rfl, rfl⟩
    refine g_eq (ws' := (xW cI cC x0 n0 n1 t0 t1 s0 s1 g0 g1 w0 w1 w2 m0 m1 m2 m3 m4 p0 p1 (bI hs) c ct cs r (nI od) (nI z) sg (nI ln) tr (nI lf) (nI rg) (bI bd) wi ol orr sf (nI rl) nb)) (st' := [.int (feC c a b)]) rfl rfl ?_
    refine g_istore_n (pc := 19) (lv' := [(3, .int (feC c a b)), (0, .ref x0), (1, .int (nI a)), (2, .int (nI b))]) C dX5_reconcile_19 rfl (by decide) rfl ?_
    refine g_iload_n (pc := 20) C dX5_reconcile_20 0 rfl rfl ?_
    refine g_if_ne (pc := 21) C 27 dX5_reconcile_21 (by decide) (fun c21 => ?_) (fun c21 => ?_)
    · refine g_aload_n (pc := 27) C dX5_reconcile_27 1 rfl rfl ?_
      refine g_get (pc := 28) (ci := 5) (T := TX5) (N := 8) (v := .ref g0) C in_X5_reconcile_X5 0 rfl rfl 4 (by decide) fl_X5_reconcile_25 rfl rfl dX5_reconcile_28 ?_
      refine g_aload_n (pc := 31) C dX5_reconcile_31 1 rfl rfl ?_
      refine g_get (pc := 32) (ci := 5) (T := TX5) (N := 8) (v := .ref n0) C in_X5_reconcile_X5 0 rfl rfl 0 (by decide) fl_X5_reconcile_12 rfl rfl dX5_reconcile_32 ?_
      refine g_callV (pc := 35) (st := []) (As := [.ref n0]) (nn := 1) (ci := 1) (q0 := 0) C (m_X1_keep l D cI cC g0 g1 n0 n1 r c od z (by first | assumption | omega) (by first | assumption | omega)) gX5_reconcile_X1_keep rfl rfl rfl yd_X1_keep ⟨Nat.le_of_ble_eq_true rfl, Nat.le_of_ble_eq_true rfl⟩ rfl [7, 8, 1, 2] rfl rfl rfl rfl rfl (Nat.le_of_ble_eq_true rfl) ⟨Nat.le_of_ble_eq_true rfl, Nat.le_of_ble_eq_true rfl⟩ dX5_reconcile_35 ?_
      rintro _ _ ⟨rfl, rfl⟩
      refine g_eq (ws' := (xW cI cC x0 n0 n1 t0 t1 s0 s1 g0 g1 w0 w1 w2 m0 m1 m2 m3 m4 p0 p1 (bI hs) c ct cs (va_cpy c r 0 ((kpO od z + (kpS z - 1)) % 5 * 154) 154) (nI (kpO od z)) (nI (kpS z)) sg (nI ln) tr (nI lf) (nI rg) (bI bd) wi ol orr sf (nI rl) nb)) (st' := []) rfl rfl ?_
      refine g_aload_n (pc := 38) C dX5_reconcile_38 1 rfl rfl ?_
      refine g_get (pc := 39) (ci := 5) (T := TX5) (N := 8) (v := .ref n0) C in_X5_reconcile_X5 0 rfl rfl 0 (by decide) fl_X5_reconcile_12 rfl rfl dX5_reconcile_39 ?_
      refine g_iload_n (pc := 42) C dX5_reconcile_42 2 rfl rfl ?_
      refine g_iload_n (pc := 43) C dX5_reconcile_43 3 rfl rfl ?_
      refine g_iconst (pc := 44) (v := nI 0) C dX5_reconcile_44 (by decide) ?_
      refine g_callV (pc := 45) (st := []) (As := [.int (nI a), .int (nI b), .int (nI 0)]) (nn := 3) (ci := 0) (q0 := 0) C (m_X0_setFeud l D cI cC n0 n1 c a b (nI 0) (by first | assumption | omega) (by first | assumption | omega)) gX5_reconcile_X0_setFeud rfl rfl rfl yd_X0_setFeud ⟨Nat.le_of_ble_eq_true rfl, Nat.le_of_ble_eq_true rfl⟩ rfl [1, 2] rfl rfl rfl rfl rfl (Nat.le_of_ble_eq_true rfl) ⟨Nat.le_of_ble_eq_true rfl, Nat.le_of_ble_eq_true rfl⟩ dX5_reconcile_45 ?_
      rintro _ _ ⟨rfl, rfl⟩
      refine g_eq (ws' := (xW cI cC x0 n0 n1 t0 t1 s0 s1 g0 g1 w0 w1 w2 m0 m1 m2 m3 m4 p0 p1 (bI hs) (upd c (24 + 8 * a + b) (nI 0)) ct cs (va_cpy c r 0 ((kpO od z + (kpS z - 1)) % 5 * 154) 154) (nI (kpO od z)) (nI (kpS z)) sg (nI ln) tr (nI lf) (nI rg) (bI bd) wi ol orr sf (nI rl) nb)) (st' := []) rfl rfl ?_
      refine g_iload_n (pc := 48) C dX5_reconcile_48 0 rfl rfl ?_
      refine g_top (y := (rcV c x y)) (by rw [rcV, c5, px, py, if_pos rfl, if_neg c21]) ?_
      exact g_iret C hr hQ dX5_reconcile_49 rfl ⟨_, _, _, _, rfl, rfl, by rw [rcQ, fdC, c5, px, py, decide_eq_false c21]; exact XA_t⟩
    · refine g_bipush (pc := 24) (v := (-4)) C dX5_reconcile_24 (by decide) ?_
      refine g_top (y := (rcV c x y)) (by rw [rcV, c5, px, py, if_pos rfl, if_pos c21]) ?_
      exact g_iret C hr hQ dX5_reconcile_26 rfl ⟨_, _, _, _, rfl, rfl, by rw [rcQ, c5, px, py, decide_eq_true c21]; exact XA_f⟩
  · refine g_iconst (pc := 8) (v := (-1)) C dX5_reconcile_8 (by decide) ?_
    refine g_top (y := (rcV c x y)) (by rw [rcV, c5]; rfl) ?_
    exact g_iret C hr hQ dX5_reconcile_9 rfl ⟨_, _, _, _, rfl, rfl, by rw [rcQ, c5]; exact XA_f⟩

abbrev rm_X5_link : Room := { frames := 2, cells := 0, slots := 0, locals := 47 }
theorem yd_X5_link : yX5_link.cls = RX5 ∧ yX5_link.cls ≠ "java/lang/invoke/MethodHandle" ∧ yX5_link.cls ≠ "java/lang/invoke/VarHandle" ∧ (parseMethodDescriptor yX5_link.desc).map (fun d => d.parameters.length) = some 3 := by decide +kernel
theorem in_X5_link_X5 : ∀ w ∈ u_ws RX5 TX5 8, w ∈ wsX5_link := by decide +kernel
theorem fl_X5_link_12 : Cond.fieldLink RX5 12 "FenceHandshakes" "now" "LFenceHandshakes$Clans;" ∈ wsX5_link := by decide +kernel
theorem fl_X5_link_25 : Cond.fieldLink RX5 25 "FenceHandshakes" "history" "LFenceHandshakes$History;" ∈ wsX5_link := by decide +kernel
set_option maxHeartbeats 4000000 in
set_option maxRecDepth 100000 in
theorem m_X5_link (l : Launch) (D : va_G) (cI cC : ClassId) (x0 n0 n1 t0 t1 s0 s1 g0 g1 w0 w1 w2 m0 m1 m2 m3 m4 p0 p1 : Nat) (c : Nat → Int32) (ct : Nat → Int32) (cs : Nat → Int32) (r : Nat → Int32) (sg : Nat → Int32) (tr : Nat → Int32) (wi : Nat → Int32) (ol : Nat → Int32) (orr : Nat → Int32) (sf : Nat → Int32) (nb : Nat → Int32) (hs : Bool) (od : Nat) (z : Nat) (ln : Nat) (lf : Nat) (rg : Nat) (bd : Bool) (rl : Nat) (x : Int32) (y : Int32) (q : Bool) (hc : cOK c) (ho : od < 5) (hz : z ≤ 5) : g_M l yX5_link wsX5_link rm_X5_link D cI cC [.ref x0, .int x, .int y, .int (bI q)] (xW cI cC x0 n0 n1 t0 t1 s0 s1 g0 g1 w0 w1 w2 m0 m1 m2 m3 m4 p0 p1 (bI hs) c ct cs r (nI od) (nI z) sg (nI ln) tr (nI lf) (nI rg) (bI bd) wi ol orr sf (nI rl) nb) (fun vv ww => ∃ (c2 : Nat → Int32) (r2 : Nat → Int32) (od2 : Nat) (z2 : Nat), vv = some (.int (lkV c x y)) ∧ ww = (xW cI cC x0 n0 n1 t0 t1 s0 s1 g0 g1 w0 w1 w2 m0 m1 m2 m3 m4 p0 p1 (bI hs) c2 ct cs r2 (nI od2) (nI z2) sg (nI ln) tr (nI lf) (nI rg) (bI bd) wi ol orr sf (nI rl) nb) ∧ XA (twG x y) c (cLink c (pN x) (pN y) q) r od z c2 r2 od2 z2) := by
  refine g_entry (lv := [(0, .ref x0), (1, .int x), (2, .int y), (3, .int (bI q))]) (own := RX5) (by decide) rfl rfl (Nat.le_of_ble_eq_true rfl) rfl ?_
  intro p e s m args below meth co A Q C hr hQ
  refine g_iload_n (pc := 0) C dX5_link_0 1 rfl rfl ?_
  refine g_callS (pc := 1) (st := []) (As := [.int x]) (nn := 1) C (m_X5_isGate l D cI cC x) gX5_link_X5_isGate rfl rfl rfl yd_X5_isGate.2 ⟨Nat.le_of_ble_eq_true rfl, Nat.le_of_ble_eq_true rfl⟩ rfl [] rfl rfl rfl (Nat.le_of_ble_eq_true rfl) ⟨Nat.le_of_ble_eq_true rfl, Nat.le_of_ble_eq_true rfl⟩ dX5_link_1 ?_
  rintro _ _ ⟨rfl, rfl⟩
  refine g_eq (ws' := (xW cI cC x0 n0 n1 t0 t1 s0 s1 g0 g1 w0 w1 w2 m0 m1 m2 m3 m4 p0 p1 (bI hs) c ct cs r (nI od) (nI z) sg (nI ln) tr (nI lf) (nI rg) (bI bd) wi ol orr sf (nI rl) nb)) (st' := [.int (bI (isG x))]) rfl rfl ?_
  refine g_if_eqB (pc := 4) C 14 dX5_link_4 (by decide) (fun c4 => ?_) (fun c4 => ?_)
  · refine g_iconst (pc := 14) (v := (-1)) C dX5_link_14 (by decide) ?_
    refine g_top (y := (lkV c x y)) (by rw [lkV, show twG x y = false from by rw [twG, c4]; rfl]; rfl) ?_
    exact g_iret C hr hQ dX5_link_15 rfl ⟨_, _, _, _, rfl, rfl, by rw [show twG x y = false from by rw [twG, c4]; rfl]; exact XA_f⟩
  · refine g_iload_n (pc := 7) C dX5_link_7 2 rfl rfl ?_
    refine g_callS (pc := 8) (st := []) (As := [.int y]) (nn := 1) C (m_X5_isGate l D cI cC y) gX5_link_X5_isGate rfl rfl rfl yd_X5_isGate.2 ⟨Nat.le_of_ble_eq_true rfl, Nat.le_of_ble_eq_true rfl⟩ rfl [] rfl rfl rfl (Nat.le_of_ble_eq_true rfl) ⟨Nat.le_of_ble_eq_true rfl, Nat.le_of_ble_eq_true rfl⟩ dX5_link_8 ?_
    rintro _ _ ⟨rfl, rfl⟩
    refine g_eq (ws' := (xW cI cC x0 n0 n1 t0 t1 s0 s1 g0 g1 w0 w1 w2 m0 m1 m2 m3 m4 p0 p1 (bI hs) c ct cs r (nI od) (nI z) sg (nI ln) tr (nI lf) (nI rg) (bI bd) wi ol orr sf (nI rl) nb)) (st' := [.int (bI (isG y))]) rfl rfl ?_
    refine g_if_neB (pc := 11) C 16 dX5_link_11 (by decide) (fun c11 => ?_) (fun c11 => ?_)
    · have tg : twG x y = true := by rw [twG, c4, c11]; rfl
      obtain ⟨a, b, ha, hb, ex, ey, px, py⟩ := twG_ex tg
      refine g_lveq (lv' := [(0, .ref x0), (1, .int (nI a)), (2, .int y), (3, .int (bI q))]) (by rw [ex]) ?_
      refine g_lveq (lv' := [(0, .ref x0), (1, .int (nI a)), (2, .int (nI b)), (3, .int (bI q))]) (by rw [ey]) ?_
      refine g_aload_n (pc := 16) C dX5_link_16 0 rfl rfl ?_
      refine g_get (pc := 17) (ci := 5) (T := TX5) (N := 8) (v := .ref g0) C in_X5_link_X5 0 rfl rfl 4 (by decide) fl_X5_link_25 rfl rfl dX5_link_17 ?_
      refine g_aload_n (pc := 20) C dX5_link_20 0 rfl rfl ?_
      refine g_get (pc := 21) (ci := 5) (T := TX5) (N := 8) (v := .ref n0) C in_X5_link_X5 0 rfl rfl 0 (by decide) fl_X5_link_12 rfl rfl dX5_link_21 ?_
      refine g_callV (pc := 24) (st := []) (As := [.ref n0]) (nn := 1) (ci := 1) (q0 := 0) C (m_X1_keep l D cI cC g0 g1 n0 n1 r c od z (by first | assumption | omega) (by first | assumption | omega)) gX5_link_X1_keep rfl rfl rfl yd_X1_keep ⟨Nat.le_of_ble_eq_true rfl, Nat.le_of_ble_eq_true rfl⟩ rfl [7, 8, 1, 2] rfl rfl rfl rfl rfl (Nat.le_of_ble_eq_true rfl) ⟨Nat.le_of_ble_eq_true rfl, Nat.le_of_ble_eq_true rfl⟩ dX5_link_24 ?_
      rintro _ _ ⟨rfl, rfl⟩
      refine g_eq (ws' := (xW cI cC x0 n0 n1 t0 t1 s0 s1 g0 g1 w0 w1 w2 m0 m1 m2 m3 m4 p0 p1 (bI hs) c ct cs (va_cpy c r 0 ((kpO od z + (kpS z - 1)) % 5 * 154) 154) (nI (kpO od z)) (nI (kpS z)) sg (nI ln) tr (nI lf) (nI rg) (bI bd) wi ol orr sf (nI rl) nb)) (st' := []) rfl rfl ?_
      refine g_aload_n (pc := 27) C dX5_link_27 0 rfl rfl ?_
      refine g_get (pc := 28) (ci := 5) (T := TX5) (N := 8) (v := .ref n0) C in_X5_link_X5 0 rfl rfl 0 (by decide) fl_X5_link_12 rfl rfl dX5_link_28 ?_
      refine g_iload_n (pc := 31) C dX5_link_31 1 rfl rfl ?_
      refine g_iload_n (pc := 32) C dX5_link_32 2 rfl rfl ?_
      refine g_callV (pc := 33) (st := []) (As := [.int (nI a), .int (nI b)]) (nn := 2) (ci := 0) (q0 := 0) C (m_X0_areLinked l D cI cC n0 n1 c a b (by first | assumption | omega) (by first | assumption | omega) (by first | assumption | omega)) gX5_link_X0_areLinked rfl rfl rfl yd_X0_areLinked ⟨Nat.le_of_ble_eq_true rfl, Nat.le_of_ble_eq_true rfl⟩ rfl [1, 2] rfl rfl rfl rfl rfl (Nat.le_of_ble_eq_true rfl) ⟨Nat.le_of_ble_eq_true rfl, Nat.le_of_ble_eq_true rfl⟩ dX5_link_33 ?_
      rintro _ _ ⟨rfl, rfl⟩
      refine g_eq (ws' := (xW cI cC x0 n0 n1 t0 t1 s0 s1 g0 g1 w0 w1 w2 m0 m1 m2 m3 m4 p0 p1 (bI hs) c ct cs (va_cpy c r 0 ((kpO od z + (kpS z - 1)) % 5 * 154) 154) (nI (kpO od z)) (nI (kpS z)) sg (nI ln) tr (nI lf) (nI rg) (bI bd) wi ol orr sf (nI rl) nb)) (st' := [.int (bI (lkC c a b))]) rfl rfl ?_
      refine g_callS (pc := 36) (st := []) (As := [.int (bI (lkC c a b))]) (nn := 1) C (m_X5_asNumber l D cI cC (lkC c a b)) gX5_link_X5_asNumber rfl rfl rfl yd_X5_asNumber.2 ⟨Nat.le_of_ble_eq_true rfl, Nat.le_of_ble_eq_true rfl⟩ rfl [] rfl rfl rfl (Nat.le_of_ble_eq_true rfl) ⟨Nat.le_of_ble_eq_true rfl, Nat.le_of_ble_eq_true rfl⟩ dX5_link_36 ?_
      rintro _ _ ⟨rfl, rfl⟩
      refine g_eq (ws' := (xW cI cC x0 n0 n1 t0 t1 s0 s1 g0 g1 w0 w1 w2 m0 m1 m2 m3 m4 p0 p1 (bI hs) c ct cs (va_cpy c r 0 ((kpO od z + (kpS z - 1)) % 5 * 154) 154) (nI (kpO od z)) (nI (kpS z)) sg (nI ln) tr (nI lf) (nI rg) (bI bd) wi ol orr sf (nI rl) nb)) (st' := [.int (bI (lkC c a b))]) rfl rfl ?_
      refine g_istore (pc := 39) (lv' := [(4, .int (bI (lkC c a b))), (0, .ref x0), (1, .int (nI a)), (2, .int (nI b)), (3, .int (bI q))]) C dX5_link_39 (by decide) rfl ?_
      refine g_aload_n (pc := 41) C dX5_link_41 1 rfl rfl ?_
      refine g_get (pc := 42) (ci := 5) (T := TX5) (N := 8) (v := .ref n0) C in_X5_link_X5 0 rfl rfl 0 (by decide) fl_X5_link_12 rfl rfl dX5_link_42 ?_
      refine g_iload_n (pc := 45) C dX5_link_45 2 rfl rfl ?_
      refine g_iload_n (pc := 46) C dX5_link_46 3 rfl rfl ?_
      refine g_iload_n (pc := 47) C dX5_link_47 4 rfl rfl ?_
      refine g_callV (pc := 48) (st := []) (As := [.int (nI a), .int (nI b), .int (bI q)]) (nn := 3) (ci := 0) (q0 := 0) C (m_X0_setLinked l D cI cC n0 n1 c a b q (by first | assumption | omega) (by first | assumption | omega) (by first | assumption | omega)) gX5_link_X0_setLinked rfl rfl rfl yd_X0_setLinked ⟨Nat.le_of_ble_eq_true rfl, Nat.le_of_ble_eq_true rfl⟩ rfl [1, 2] rfl rfl rfl rfl rfl (Nat.le_of_ble_eq_true rfl) ⟨Nat.le_of_ble_eq_true rfl, Nat.le_of_ble_eq_true rfl⟩ dX5_link_48 ?_
      rintro _ _ ⟨rfl, rfl⟩
      refine g_eq (ws' := (xW cI cC x0 n0 n1 t0 t1 s0 s1 g0 g1 w0 w1 w2 m0 m1 m2 m3 m4 p0 p1 (bI hs) (cLink c a b q) ct cs (va_cpy c r 0 ((kpO od z + (kpS z - 1)) % 5 * 154) 154) (nI (kpO od z)) (nI (kpS z)) sg (nI ln) tr (nI lf) (nI rg) (bI bd) wi ol orr sf (nI rl) nb)) (st' := []) rfl rfl ?_
      refine g_iload (pc := 51) C dX5_link_51 0 rfl ?_
      refine g_top (y := (lkV c x y)) (by rw [lkV, tg, px, py]; rfl) ?_
      exact g_iret C hr hQ dX5_link_53 rfl ⟨_, _, _, _, rfl, rfl, by rw [tg, px, py]; exact XA_t⟩
    · refine g_iconst (pc := 14) (v := (-1)) C dX5_link_14 (by decide) ?_
      refine g_top (y := (lkV c x y)) (by rw [lkV, show twG x y = false from by rw [twG, c4, c11]; rfl]; rfl) ?_
      exact g_iret C hr hQ dX5_link_15 rfl ⟨_, _, _, _, rfl, rfl, by rw [show twG x y = false from by rw [twG, c4, c11]; rfl]; exact XA_f⟩

abbrev rm_X5_move : Room := { frames := 2, cells := 0, slots := 0, locals := 47 }
theorem yd_X5_move : yX5_move.cls = RX5 ∧ yX5_move.cls ≠ "java/lang/invoke/MethodHandle" ∧ yX5_move.cls ≠ "java/lang/invoke/VarHandle" ∧ (parseMethodDescriptor yX5_move.desc).map (fun d => d.parameters.length) = some 3 := by decide +kernel
theorem in_X5_move_X5 : ∀ w ∈ u_ws RX5 TX5 8, w ∈ wsX5_move := by decide +kernel
theorem fl_X5_move_12 : Cond.fieldLink RX5 12 "FenceHandshakes" "now" "LFenceHandshakes$Clans;" ∈ wsX5_move := by decide +kernel
theorem fl_X5_move_25 : Cond.fieldLink RX5 25 "FenceHandshakes" "history" "LFenceHandshakes$History;" ∈ wsX5_move := by decide +kernel
set_option maxHeartbeats 4000000 in
set_option maxRecDepth 100000 in
theorem m_X5_move (l : Launch) (D : va_G) (cI cC : ClassId) (x0 n0 n1 t0 t1 s0 s1 g0 g1 w0 w1 w2 m0 m1 m2 m3 m4 p0 p1 : Nat) (c : Nat → Int32) (ct : Nat → Int32) (cs : Nat → Int32) (r : Nat → Int32) (sg : Nat → Int32) (tr : Nat → Int32) (wi : Nat → Int32) (ol : Nat → Int32) (orr : Nat → Int32) (sf : Nat → Int32) (nb : Nat → Int32) (hs : Bool) (od : Nat) (z : Nat) (ln : Nat) (lf : Nat) (rg : Nat) (bd : Bool) (rl : Nat) (q : Bool) (x : Int32) (y : Int32) (hc : cOK c) (ho : od < 5) (hz : z ≤ 5) : g_M l yX5_move wsX5_move rm_X5_move D cI cC [.ref x0, .int (bI q), .int x, .int y] (xW cI cC x0 n0 n1 t0 t1 s0 s1 g0 g1 w0 w1 w2 m0 m1 m2 m3 m4 p0 p1 (bI hs) c ct cs r (nI od) (nI z) sg (nI ln) tr (nI lf) (nI rg) (bI bd) wi ol orr sf (nI rl) nb) (fun vv ww => ∃ (c2 : Nat → Int32) (r2 : Nat → Int32) (od2 : Nat) (z2 : Nat), vv = some (.int (mvV c q x y)) ∧ ww = (xW cI cC x0 n0 n1 t0 t1 s0 s1 g0 g1 w0 w1 w2 m0 m1 m2 m3 m4 p0 p1 (bI hs) c2 ct cs r2 (nI od2) (nI z2) sg (nI ln) tr (nI lf) (nI rg) (bI bd) wi ol orr sf (nI rl) nb) ∧ XA (mvQ x y) c (mvC c q x y) r od z c2 r2 od2 z2) := by
  refine g_entry (lv := [(0, .ref x0), (1, .int (bI q)), (2, .int x), (3, .int y)]) (own := RX5) (by decide) rfl rfl (Nat.le_of_ble_eq_true rfl) rfl ?_
  intro p e s m args below meth co A Q C hr hQ
  refine g_iload_n (pc := 0) C dX5_move_0 2 rfl rfl ?_
  refine g_callS (pc := 1) (st := []) (As := [.int x]) (nn := 1) C (m_X5_isPerson l D cI cC x) gX5_move_X5_isPerson rfl rfl rfl yd_X5_isPerson.2 ⟨Nat.le_of_ble_eq_true rfl, Nat.le_of_ble_eq_true rfl⟩ rfl [] rfl rfl rfl (Nat.le_of_ble_eq_true rfl) ⟨Nat.le_of_ble_eq_true rfl, Nat.le_of_ble_eq_true rfl⟩ dX5_move_1 ?_
  rintro _ _ ⟨rfl, rfl⟩
  refine g_eq (ws' := (xW cI cC x0 n0 n1 t0 t1 s0 s1 g0 g1 w0 w1 w2 m0 m1 m2 m3 m4 p0 p1 (bI hs) c ct cs r (nI od) (nI z) sg (nI ln) tr (nI lf) (nI rg) (bI bd) wi ol orr sf (nI rl) nb)) (st' := [.int (bI (isP x))]) rfl rfl ?_
  refine g_if_eqB (pc := 4) C 14 dX5_move_4 (by decide) (fun c4 => ?_) (fun c4 => ?_)
  · refine g_iconst (pc := 14) (v := (-1)) C dX5_move_14 (by decide) ?_
    refine g_top (y := (mvV c q x y)) (by rw [mvV, show mvQ x y = false from by rw [mvQ, c4]; rfl]; rfl) ?_
    exact g_iret C hr hQ dX5_move_15 rfl ⟨_, _, _, _, rfl, rfl, by rw [show mvQ x y = false from by rw [mvQ, c4]; rfl]; exact XA_f⟩
  · refine g_iload_n (pc := 7) C dX5_move_7 3 rfl rfl ?_
    refine g_callS (pc := 8) (st := []) (As := [.int y]) (nn := 1) C (m_X5_isGate l D cI cC y) gX5_move_X5_isGate rfl rfl rfl yd_X5_isGate.2 ⟨Nat.le_of_ble_eq_true rfl, Nat.le_of_ble_eq_true rfl⟩ rfl [] rfl rfl rfl (Nat.le_of_ble_eq_true rfl) ⟨Nat.le_of_ble_eq_true rfl, Nat.le_of_ble_eq_true rfl⟩ dX5_move_8 ?_
    rintro _ _ ⟨rfl, rfl⟩
    refine g_eq (ws' := (xW cI cC x0 n0 n1 t0 t1 s0 s1 g0 g1 w0 w1 w2 m0 m1 m2 m3 m4 p0 p1 (bI hs) c ct cs r (nI od) (nI z) sg (nI ln) tr (nI lf) (nI rg) (bI bd) wi ol orr sf (nI rl) nb)) (st' := [.int (bI (isG y))]) rfl rfl ?_
    refine g_if_neB (pc := 11) C 16 dX5_move_11 (by decide) (fun c11 => ?_) (fun c11 => ?_)
    · have tg : mvQ x y = true := by rw [mvQ, c4, c11]; rfl
      obtain ⟨a, b, ha, hb, ex, ey, px, py⟩ := mvQ_ex tg
      refine g_lveq (lv' := [(0, .ref x0), (1, .int (bI q)), (2, .int (nI a)), (3, .int y)]) (by rw [ex]) ?_
      refine g_aload_n (pc := 16) C dX5_move_16 0 rfl rfl ?_
      refine g_get (pc := 17) (ci := 5) (T := TX5) (N := 8) (v := .ref g0) C in_X5_move_X5 0 rfl rfl 4 (by decide) fl_X5_move_25 rfl rfl dX5_move_17 ?_
      refine g_aload_n (pc := 20) C dX5_move_20 0 rfl rfl ?_
      refine g_get (pc := 21) (ci := 5) (T := TX5) (N := 8) (v := .ref n0) C in_X5_move_X5 0 rfl rfl 0 (by decide) fl_X5_move_12 rfl rfl dX5_move_21 ?_
      refine g_callV (pc := 24) (st := []) (As := [.ref n0]) (nn := 1) (ci := 1) (q0 := 0) C (m_X1_keep l D cI cC g0 g1 n0 n1 r c od z (by first | assumption | omega) (by first | assumption | omega)) gX5_move_X1_keep rfl rfl rfl yd_X1_keep ⟨Nat.le_of_ble_eq_true rfl, Nat.le_of_ble_eq_true rfl⟩ rfl [7, 8, 1, 2] rfl rfl rfl rfl rfl (Nat.le_of_ble_eq_true rfl) ⟨Nat.le_of_ble_eq_true rfl, Nat.le_of_ble_eq_true rfl⟩ dX5_move_24 ?_
      rintro _ _ ⟨rfl, rfl⟩
      refine g_eq (ws' := (xW cI cC x0 n0 n1 t0 t1 s0 s1 g0 g1 w0 w1 w2 m0 m1 m2 m3 m4 p0 p1 (bI hs) c ct cs (va_cpy c r 0 ((kpO od z + (kpS z - 1)) % 5 * 154) 154) (nI (kpO od z)) (nI (kpS z)) sg (nI ln) tr (nI lf) (nI rg) (bI bd) wi ol orr sf (nI rl) nb)) (st' := []) rfl rfl ?_
      refine g_aload_n (pc := 27) C dX5_move_27 0 rfl rfl ?_
      refine g_get (pc := 28) (ci := 5) (T := TX5) (N := 8) (v := .ref n0) C in_X5_move_X5 0 rfl rfl 0 (by decide) fl_X5_move_12 rfl rfl dX5_move_28 ?_
      refine g_iload_n (pc := 31) C dX5_move_31 1 rfl rfl ?_
      refine g_iload_n (pc := 32) C dX5_move_32 2 rfl rfl ?_
      refine g_callV (pc := 33) (st := []) (As := [.int (bI q), .int (nI a)]) (nn := 2) (ci := 0) (q0 := 0) C (m_X0_gateOf l D cI cC n0 n1 c q a (by first | assumption | omega)) gX5_move_X0_gateOf rfl rfl rfl yd_X0_gateOf ⟨Nat.le_of_ble_eq_true rfl, Nat.le_of_ble_eq_true rfl⟩ rfl [1, 2] rfl rfl rfl rfl rfl (Nat.le_of_ble_eq_true rfl) ⟨Nat.le_of_ble_eq_true rfl, Nat.le_of_ble_eq_true rfl⟩ dX5_move_33 ?_
      rintro _ _ ⟨rfl, rfl⟩
      refine g_eq (ws' := (xW cI cC x0 n0 n1 t0 t1 s0 s1 g0 g1 w0 w1 w2 m0 m1 m2 m3 m4 p0 p1 (bI hs) c ct cs (va_cpy c r 0 ((kpO od z + (kpS z - 1)) % 5 * 154) 154) (nI (kpO od z)) (nI (kpS z)) sg (nI ln) tr (nI lf) (nI rg) (bI bd) wi ol orr sf (nI rl) nb)) (st' := [.int (c ((if q then 0 else 8) + a))]) rfl rfl ?_
      refine g_istore (pc := 36) (lv' := [(4, .int (c ((if q then 0 else 8) + a))), (0, .ref x0), (1, .int (bI q)), (2, .int (nI a)), (3, .int y)]) C dX5_move_36 (by decide) rfl ?_
      refine g_aload_n (pc := 38) C dX5_move_38 1 rfl rfl ?_
      refine g_get (pc := 39) (ci := 5) (T := TX5) (N := 8) (v := .ref n0) C in_X5_move_X5 0 rfl rfl 0 (by decide) fl_X5_move_12 rfl rfl dX5_move_39 ?_
      refine g_iload_n (pc := 42) C dX5_move_42 2 rfl rfl ?_
      refine g_iload_n (pc := 43) C dX5_move_43 3 rfl rfl ?_
      refine g_iload_n (pc := 44) C dX5_move_44 4 rfl rfl ?_
      refine g_callV (pc := 45) (st := []) (As := [.int (bI q), .int (nI a), .int y]) (nn := 3) (ci := 0) (q0 := 0) C (m_X0_setGate l D cI cC n0 n1 c q a y (by first | assumption | omega)) gX5_move_X0_setGate rfl rfl rfl yd_X0_setGate ⟨Nat.le_of_ble_eq_true rfl, Nat.le_of_ble_eq_true rfl⟩ rfl [1, 2] rfl rfl rfl rfl rfl (Nat.le_of_ble_eq_true rfl) ⟨Nat.le_of_ble_eq_true rfl, Nat.le_of_ble_eq_true rfl⟩ dX5_move_45 ?_
      rintro _ _ ⟨rfl, rfl⟩
      refine g_eq (ws' := (xW cI cC x0 n0 n1 t0 t1 s0 s1 g0 g1 w0 w1 w2 m0 m1 m2 m3 m4 p0 p1 (bI hs) (upd c ((if q then 0 else 8) + a) y) ct cs (va_cpy c r 0 ((kpO od z + (kpS z - 1)) % 5 * 154) 154) (nI (kpO od z)) (nI (kpS z)) sg (nI ln) tr (nI lf) (nI rg) (bI bd) wi ol orr sf (nI rl) nb)) (st' := []) rfl rfl ?_
      refine g_iload (pc := 48) C dX5_move_48 0 rfl ?_
      refine g_top (y := (mvV c q x y)) (by rw [mvV, tg, px]; rfl) ?_
      exact g_iret C hr hQ dX5_move_50 rfl ⟨_, _, _, _, rfl, rfl, by rw [tg, mvC, px]; exact XA_t⟩
    · refine g_iconst (pc := 14) (v := (-1)) C dX5_move_14 (by decide) ?_
      refine g_top (y := (mvV c q x y)) (by rw [mvV, show mvQ x y = false from by rw [mvQ, c4, c11]; rfl]; rfl) ?_
      exact g_iret C hr hQ dX5_move_15 rfl ⟨_, _, _, _, rfl, rfl, by rw [show mvQ x y = false from by rw [mvQ, c4, c11]; rfl]; exact XA_f⟩

abbrev rm_X5_makeRound : Room := { frames := 5, cells := 0, slots := 0, locals := 126 }
theorem yd_X5_makeRound : yX5_makeRound.cls = RX5 ∧ yX5_makeRound.cls ≠ "java/lang/invoke/MethodHandle" ∧ yX5_makeRound.cls ≠ "java/lang/invoke/VarHandle" ∧ (parseMethodDescriptor yX5_makeRound.desc).map (fun d => d.parameters.length) = some 1 := by decide +kernel
theorem in_X5_makeRound_X5 : ∀ w ∈ u_ws RX5 TX5 8, w ∈ wsX5_makeRound := by decide +kernel
theorem fl_X5_makeRound_39 : Cond.fieldLink RX5 39 "FenceHandshakes" "matching" "LFenceHandshakes$Matching;" ∈ wsX5_makeRound := by decide +kernel
set_option maxHeartbeats 4000000 in
set_option maxRecDepth 100000 in
theorem m_X5_makeRound (l : Launch) (D : va_G) (cI cC : ClassId) (x0 n0 t0 s0 g0 w0 m0 m1 m2 m3 m4 p0 k0 k1 : Nat) (wi : Nat → Int32) (ol : Nat → Int32) (orr : Nat → Int32) (sf : Nat → Int32) (c : Nat → Int32) (hs : Bool) (rl : Nat) (hc : cOK c) (hrl : rl < 256) : g_M l yX5_makeRound wsX5_makeRound rm_X5_makeRound D cI cC [.ref x0, .ref k0] (mrW cI cC x0 n0 t0 s0 g0 w0 m0 m1 m2 m3 m4 p0 k0 k1 (bI hs) wi ol orr sf (nI rl) c) (fun vv ww => ∃ (wi2 : Nat → Int32) (ol2 : Nat → Int32) (orr2 : Nat → Int32) (sf2 : Nat → Int32) (rl2 : Nat), vv = some (.int (rnV c)) ∧ ww = (mrW cI cC x0 n0 t0 s0 g0 w0 m0 m1 m2 m3 m4 p0 k0 k1 (bI hs) wi2 ol2 orr2 sf2 (nI rl2) (rnd c)) ∧ rl2 < 256) := by
  refine g_entry (lv := [(0, .ref x0), (1, .ref k0)]) (own := RX5) (by decide) rfl rfl (Nat.le_of_ble_eq_true rfl) rfl ?_
  intro p e s m args below meth co A Q C hr hQ
  refine g_aload_n (pc := 0) C dX5_makeRound_0 0 rfl rfl ?_
  refine g_get (pc := 1) (ci := 5) (T := TX5) (N := 8) (v := .ref m0) C in_X5_makeRound_X5 0 rfl rfl 6 (by decide) fl_X5_makeRound_39 rfl rfl dX5_makeRound_1 ?_
  refine g_aload_n (pc := 4) C dX5_makeRound_4 1 rfl rfl ?_
  refine g_callV (pc := 5) (st := []) (As := [.ref k0]) (nn := 1) (ci := 2) (q0 := 0) C (m_X2_takeFirst l D cI cC m0 m1 m2 m3 m4 k0 k1 wi ol orr sf c rl (by first | assumption | omega) (by first | assumption | omega)) gX5_makeRound_X2_takeFirst rfl rfl rfl yd_X2_takeFirst ⟨Nat.le_of_ble_eq_true rfl, Nat.le_of_ble_eq_true rfl⟩ rfl [1, 2, 3, 4, 5, 6, 7] rfl rfl rfl rfl rfl (Nat.le_of_ble_eq_true rfl) ⟨Nat.le_of_ble_eq_true rfl, Nat.le_of_ble_eq_true rfl⟩ dX5_makeRound_5 ?_
  rintro _ _ ⟨wi2, ol2, orr2, sf2, rl2, R2, rfl, rfl, t1, t2⟩
  refine g_eq (ws' := (mrW cI cC x0 n0 t0 s0 g0 w0 m0 m1 m2 m3 m4 p0 k0 k1 (bI hs) wi2 ol2 orr2 sf2 (nI rl2) c)) (st' := []) rfl rfl ?_
  have hsp : ∀ a, a < 8 → ol2 a = pI (spE (EC c) a) := fun a ha => by rw [← sp_of t1 ha]; exact t2.1 a ha
  refine g_iconst (pc := 8) (v := nI 0) C dX5_makeRound_8 (by decide) ?_
  refine g_istore_n (pc := 9) (lv' := [(2, .int (nI 0)), (0, .ref x0), (1, .ref k0)]) C dX5_makeRound_9 rfl (by decide) rfl ?_
  have L10 : ∀ (NZ : Nat) (i : Nat), 8 - i < NZ → (i ≤ 8) → g_J p l e rm_X5_makeRound s m args below meth co Q D A 4 0 0 (mrW cI cC x0 n0 t0 s0 g0 w0 m0 m1 m2 m3 m4 p0 k0 k1 (bI hs) wi2 ol2 orr2 sf2 (nI rl2) (rsh c (spE (EC c)) i)) 10 [(0, .ref x0), (1, .ref k0), (2, .int (nI i))] [] := by
    intro NZ
    induction NZ with
    | zero => intro i hN; exact absurd hN (Nat.not_lt_zero _)
    | succ NZ ih10 =>
      intro i hN10 hi
      refine g_iload_n (pc := 10) C dX5_makeRound_10 2 rfl rfl ?_
      refine g_bipush (pc := 11) (v := nI 8) C dX5_makeRound_11 (by decide) ?_
      refine g_icmp_geN (pc := 13) C 45 (by omega) (by omega) dX5_makeRound_13 (by decide) (fun c13 => ?_) (fun c13 => ?_)
      · refine g_aload_n (pc := 45) C dX5_makeRound_45 1 rfl rfl ?_
        refine g_callV (pc := 46) (st := []) (As := []) (nn := 0) (ci := 0) (q0 := 0) C (m_X0_endRound l D cI cC k0 k1 (rsh c (spE (EC c)) i)) gX5_makeRound_X0_endRound rfl rfl rfl yd_X0_endRound ⟨Nat.le_of_ble_eq_true rfl, Nat.le_of_ble_eq_true rfl⟩ rfl [6, 7] rfl rfl rfl rfl rfl (Nat.le_of_ble_eq_true rfl) ⟨Nat.le_of_ble_eq_true rfl, Nat.le_of_ble_eq_true rfl⟩ dX5_makeRound_46 ?_
        rintro _ _ ⟨rfl, rfl⟩
        refine g_eq (ws' := (mrW cI cC x0 n0 t0 s0 g0 w0 m0 m1 m2 m3 m4 p0 k0 k1 (bI hs) wi2 ol2 orr2 sf2 (nI rl2) (cEnd (rsh c (spE (EC c)) i)))) (st' := []) rfl rfl ?_
        refine g_aload_n (pc := 49) C dX5_makeRound_49 0 rfl rfl ?_
        refine g_get (pc := 50) (ci := 5) (T := TX5) (N := 8) (v := .ref m0) C in_X5_makeRound_X5 0 rfl rfl 6 (by decide) fl_X5_makeRound_39 rfl rfl dX5_makeRound_50 ?_
        refine g_callV (pc := 53) (st := []) (As := []) (nn := 0) (ci := 2) (q0 := 0) C (m_X2_size l D cI cC m0 m1 m2 m3 m4 wi2 ol2 orr2 sf2 rl2 (spE (EC c)) (hsp) (fun a b _ e => spE_lt a b e)) gX5_makeRound_X2_size rfl rfl rfl yd_X2_size ⟨Nat.le_of_ble_eq_true rfl, Nat.le_of_ble_eq_true rfl⟩ rfl [1, 2, 3, 4, 5] rfl rfl rfl rfl rfl (Nat.le_of_ble_eq_true rfl) ⟨Nat.le_of_ble_eq_true rfl, Nat.le_of_ble_eq_true rfl⟩ dX5_makeRound_53 ?_
        rintro _ _ ⟨rfl, rfl⟩
        refine g_eq (ws' := (mrW cI cC x0 n0 t0 s0 g0 w0 m0 m1 m2 m3 m4 p0 k0 k1 (bI hs) wi2 ol2 orr2 sf2 (nI rl2) (cEnd (rsh c (spE (EC c)) i)))) (st' := [.int (nI (cnt (fun a => ((spE (EC c)) a).isSome) 8))]) rfl rfl ?_
        refine g_top (y := (rnV c)) (rfl) ?_
        exact g_iret C hr hQ dX5_makeRound_56 rfl ⟨_, _, _, _, _, rfl, by rw [show i = 8 by omega]; rfl, t2.2.2.2⟩
      · refine g_aload_n (pc := 16) C dX5_makeRound_16 0 rfl rfl ?_
        refine g_get (pc := 17) (ci := 5) (T := TX5) (N := 8) (v := .ref m0) C in_X5_makeRound_X5 0 rfl rfl 6 (by decide) fl_X5_makeRound_39 rfl rfl dX5_makeRound_17 ?_
        refine g_iconst (pc := 20) (v := nI 1) C dX5_makeRound_20 (by decide) ?_
        refine g_iload_n (pc := 21) C dX5_makeRound_21 2 rfl rfl ?_
        refine g_callV (pc := 22) (st := []) (As := [.int (bI true), .int (nI i)]) (nn := 2) (ci := 2) (q0 := 0) C (m_X2_partnerOf l D cI cC m0 m1 m2 m3 m4 wi2 ol2 orr2 sf2 rl2 true i (by first | assumption | omega)) gX5_makeRound_X2_partnerOf rfl rfl rfl yd_X2_partnerOf ⟨Nat.le_of_ble_eq_true rfl, Nat.le_of_ble_eq_true rfl⟩ rfl [1, 2, 3, 4, 5] rfl rfl rfl rfl rfl (Nat.le_of_ble_eq_true rfl) ⟨Nat.le_of_ble_eq_true rfl, Nat.le_of_ble_eq_true rfl⟩ dX5_makeRound_22 ?_
        rintro _ _ ⟨rfl, rfl⟩
        refine g_eq (ws' := (mrW cI cC x0 n0 t0 s0 g0 w0 m0 m1 m2 m3 m4 p0 k0 k1 (bI hs) wi2 ol2 orr2 sf2 (nI rl2) (rsh c (spE (EC c)) i))) (st' := [.int ((if true then ol2 else orr2) i)]) rfl rfl ?_
        refine g_top (y := (pI (spE (EC c) i))) (hsp i (by omega)) ?_
        refine g_istore_n (pc := 25) (lv' := [(3, .int (pI (spE (EC c) i))), (0, .ref x0), (1, .ref k0), (2, .int (nI i))]) C dX5_makeRound_25 rfl (by decide) rfl ?_
        refine g_iload_n (pc := 26) C dX5_makeRound_26 0 rfl rfl ?_
        refine g_callS (pc := 27) (st := []) (As := [.int (pI (spE (EC c) i))]) (nn := 1) C (m_X5_isPerson l D cI cC (pI (spE (EC c) i))) gX5_makeRound_X5_isPerson rfl rfl rfl yd_X5_isPerson.2 ⟨Nat.le_of_ble_eq_true rfl, Nat.le_of_ble_eq_true rfl⟩ rfl [] rfl rfl rfl (Nat.le_of_ble_eq_true rfl) ⟨Nat.le_of_ble_eq_true rfl, Nat.le_of_ble_eq_true rfl⟩ dX5_makeRound_27 ?_
        rintro _ _ ⟨rfl, rfl⟩
        refine g_eq (ws' := (mrW cI cC x0 n0 t0 s0 g0 w0 m0 m1 m2 m3 m4 p0 k0 k1 (bI hs) wi2 ol2 orr2 sf2 (nI rl2) (rsh c (spE (EC c)) i))) (st' := [.int (bI (isP (pI (spE (EC c) i))))]) rfl rfl ?_
        refine g_if_eqB (pc := 30) C 39 dX5_makeRound_30 (by decide) (fun c30 => ?_) (fun c30 => ?_)
        · have eN : spE (EC c) i = none := by cases hq : spE (EC c) i with | none => rfl | some y => (rw [hq, show isP (pI (some y)) = true from isP_nI (spE_lt i y hq)] at c30; cases c30)
          refine g_iinc (pc := 39) (lv' := [(2, .int (nI (i + 1))), (3, .int (pI (spE (EC c) i))), (0, .ref x0), (1, .ref k0)]) C dX5_makeRound_39 3 rfl (nI_add i 1) (by decide) rfl ?_
          refine g_goto (pc := 42) C 10 dX5_makeRound_42 (by decide) ?_
          refine g_ws (ws' := (mrW cI cC x0 n0 t0 s0 g0 w0 m0 m1 m2 m3 m4 p0 k0 k1 (bI hs) wi2 ol2 orr2 sf2 (nI rl2) (rsh c (spE (EC c)) (i + 1)))) (by rw [rsh, eN]) ?_
          refine g_lvp (lv' := [(0, .ref x0), (1, .ref k0), (2, .int (nI (i + 1)))]) [2, 3, 0] rfl ?_
          exact ih10 (i + 1) (by omega) (by first | assumption | omega)
        · obtain ⟨y, ey⟩ : ∃ y, spE (EC c) i = some y := by cases hq : spE (EC c) i with | none => (rw [hq] at c30; exact absurd c30 (by decide)) | some y => exact ⟨y, rfl⟩
          have hy : y < 8 := spE_lt i y ey
          refine g_lveq (lv' := [(3, .int (nI y)), (0, .ref x0), (1, .ref k0), (2, .int (nI i))]) (by rw [ey]; rfl) ?_
          refine g_aload_n (pc := 33) C dX5_makeRound_33 2 rfl rfl ?_
          refine g_iload_n (pc := 34) C dX5_makeRound_34 3 rfl rfl ?_
          refine g_iload_n (pc := 35) C dX5_makeRound_35 0 rfl rfl ?_
          refine g_callV (pc := 36) (st := []) (As := [.int (nI i), .int (nI y)]) (nn := 2) (ci := 0) (q0 := 0) C (m_X0_shakeHands l D cI cC k0 k1 (rsh c (spE (EC c)) i) i y (by first | assumption | omega) (by first | assumption | omega) (rsh_ok hc spE_lt i (by omega))) gX5_makeRound_X0_shakeHands rfl rfl rfl yd_X0_shakeHands ⟨Nat.le_of_ble_eq_true rfl, Nat.le_of_ble_eq_true rfl⟩ rfl [6, 7] rfl rfl rfl rfl rfl (Nat.le_of_ble_eq_true rfl) ⟨Nat.le_of_ble_eq_true rfl, Nat.le_of_ble_eq_true rfl⟩ dX5_makeRound_36 ?_
          rintro _ _ ⟨rfl, rfl⟩
          refine g_eq (ws' := (mrW cI cC x0 n0 t0 s0 g0 w0 m0 m1 m2 m3 m4 p0 k0 k1 (bI hs) wi2 ol2 orr2 sf2 (nI rl2) (cClose (cShk (rsh c (spE (EC c)) i) i y) i y))) (st' := []) rfl rfl ?_
          refine g_iinc (pc := 39) (lv' := [(2, .int (nI (i + 1))), (3, .int (nI y)), (0, .ref x0), (1, .ref k0)]) C dX5_makeRound_39 3 rfl (nI_add i 1) (by decide) rfl ?_
          refine g_goto (pc := 42) C 10 dX5_makeRound_42 (by decide) ?_
          refine g_ws (ws' := (mrW cI cC x0 n0 t0 s0 g0 w0 m0 m1 m2 m3 m4 p0 k0 k1 (bI hs) wi2 ol2 orr2 sf2 (nI rl2) (rsh c (spE (EC c)) (i + 1)))) (by rw [rsh, ey]) ?_
          refine g_lvp (lv' := [(0, .ref x0), (1, .ref k0), (2, .int (nI (i + 1)))]) [2, 3, 0] rfl ?_
          exact ih10 (i + 1) (by omega) (by first | assumption | omega)
  refine g_lvp (lv' := [(0, .ref x0), (1, .ref k0), (2, .int (nI 0))]) [1, 2, 0] rfl ?_
  exact L10 _ 0 (Nat.lt_succ_self _) (by first | assumption | omega)

abbrev rm_X5_round : Room := { frames := 6, cells := 0, slots := 0, locals := 149 }
theorem yd_X5_round : yX5_round.cls = RX5 ∧ yX5_round.cls ≠ "java/lang/invoke/MethodHandle" ∧ yX5_round.cls ≠ "java/lang/invoke/VarHandle" ∧ (parseMethodDescriptor yX5_round.desc).map (fun d => d.parameters.length) = some 0 := by decide +kernel
theorem in_X5_round_X5 : ∀ w ∈ u_ws RX5 TX5 8, w ∈ wsX5_round := by decide +kernel
theorem fl_X5_round_12 : Cond.fieldLink RX5 12 "FenceHandshakes" "now" "LFenceHandshakes$Clans;" ∈ wsX5_round := by decide +kernel
theorem fl_X5_round_25 : Cond.fieldLink RX5 25 "FenceHandshakes" "history" "LFenceHandshakes$History;" ∈ wsX5_round := by decide +kernel
set_option maxHeartbeats 4000000 in
set_option maxRecDepth 100000 in
theorem m_X5_round (l : Launch) (D : va_G) (cI cC : ClassId) (x0 n0 n1 t0 t1 s0 s1 g0 g1 w0 w1 w2 m0 m1 m2 m3 m4 p0 p1 : Nat) (c : Nat → Int32) (ct : Nat → Int32) (cs : Nat → Int32) (r : Nat → Int32) (sg : Nat → Int32) (tr : Nat → Int32) (wi : Nat → Int32) (ol : Nat → Int32) (orr : Nat → Int32) (sf : Nat → Int32) (nb : Nat → Int32) (hs : Bool) (od : Nat) (z : Nat) (ln : Nat) (lf : Nat) (rg : Nat) (bd : Bool) (rl : Nat) (hc : cOK c) (ho : od < 5) (hz : z ≤ 5) (hrl : rl < 256) : g_M l yX5_round wsX5_round rm_X5_round D cI cC [.ref x0] (xW cI cC x0 n0 n1 t0 t1 s0 s1 g0 g1 w0 w1 w2 m0 m1 m2 m3 m4 p0 p1 (bI hs) c ct cs r (nI od) (nI z) sg (nI ln) tr (nI lf) (nI rg) (bI bd) wi ol orr sf (nI rl) nb) (fun vv ww => ∃ (c2 : Nat → Int32) (r2 : Nat → Int32) (od2 : Nat) (z2 : Nat) (wi2 : Nat → Int32) (ol2 : Nat → Int32) (orr2 : Nat → Int32) (sf2 : Nat → Int32) (rl2 : Nat), vv = some (.int (rnV c)) ∧ ww = (xW cI cC x0 n0 n1 t0 t1 s0 s1 g0 g1 w0 w1 w2 m0 m1 m2 m3 m4 p0 p1 (bI hs) c2 ct cs r2 (nI od2) (nI z2) sg (nI ln) tr (nI lf) (nI rg) (bI bd) wi2 ol2 orr2 sf2 (nI rl2) nb) ∧ XA true c (rnd c) r od z c2 r2 od2 z2 ∧ rl2 < 256) := by
  refine g_entry (lv := [(0, .ref x0)]) (own := RX5) (by decide) rfl rfl (Nat.le_of_ble_eq_true rfl) rfl ?_
  intro p e s m args below meth co A Q C hr hQ
  refine g_aload_n (pc := 0) C dX5_round_0 0 rfl rfl ?_
  refine g_get (pc := 1) (ci := 5) (T := TX5) (N := 8) (v := .ref g0) C in_X5_round_X5 0 rfl rfl 4 (by decide) fl_X5_round_25 rfl rfl dX5_round_1 ?_
  refine g_aload_n (pc := 4) C dX5_round_4 0 rfl rfl ?_
  refine g_get (pc := 5) (ci := 5) (T := TX5) (N := 8) (v := .ref n0) C in_X5_round_X5 0 rfl rfl 0 (by decide) fl_X5_round_12 rfl rfl dX5_round_5 ?_
  refine g_callV (pc := 8) (st := []) (As := [.ref n0]) (nn := 1) (ci := 1) (q0 := 0) C (m_X1_keep l D cI cC g0 g1 n0 n1 r c od z (by first | assumption | omega) (by first | assumption | omega)) gX5_round_X1_keep rfl rfl rfl yd_X1_keep ⟨Nat.le_of_ble_eq_true rfl, Nat.le_of_ble_eq_true rfl⟩ rfl [7, 8, 1, 2] rfl rfl rfl rfl rfl (Nat.le_of_ble_eq_true rfl) ⟨Nat.le_of_ble_eq_true rfl, Nat.le_of_ble_eq_true rfl⟩ dX5_round_8 ?_
  rintro _ _ ⟨rfl, rfl⟩
  refine g_eq (ws' := (xW cI cC x0 n0 n1 t0 t1 s0 s1 g0 g1 w0 w1 w2 m0 m1 m2 m3 m4 p0 p1 (bI hs) c ct cs (va_cpy c r 0 ((kpO od z + (kpS z - 1)) % 5 * 154) 154) (nI (kpO od z)) (nI (kpS z)) sg (nI ln) tr (nI lf) (nI rg) (bI bd) wi ol orr sf (nI rl) nb)) (st' := []) rfl rfl ?_
  refine g_aload_n (pc := 11) C dX5_round_11 0 rfl rfl ?_
  refine g_aload_n (pc := 12) C dX5_round_12 0 rfl rfl ?_
  refine g_get (pc := 13) (ci := 5) (T := TX5) (N := 8) (v := .ref n0) C in_X5_round_X5 0 rfl rfl 0 (by decide) fl_X5_round_12 rfl rfl dX5_round_13 ?_
  refine g_callV (pc := 16) (st := []) (As := [.ref n0]) (nn := 1) (ci := 5) (q0 := 0) C (m_X5_makeRound l D cI cC x0 n0 t0 s0 g0 w0 m0 m1 m2 m3 m4 p0 n0 n1 wi ol orr sf c hs rl (by first | assumption | omega) (by first | assumption | omega)) gX5_round_X5_makeRound rfl rfl rfl yd_X5_makeRound ⟨Nat.le_of_ble_eq_true rfl, Nat.le_of_ble_eq_true rfl⟩ rfl [0, 12, 13, 14, 15, 16, 1, 2] rfl rfl rfl rfl rfl (Nat.le_of_ble_eq_true rfl) ⟨Nat.le_of_ble_eq_true rfl, Nat.le_of_ble_eq_true rfl⟩ dX5_round_16 ?_
  rintro _ _ ⟨wi2a, ol2a, orr2a, sf2a, rl2a, rfl, rfl, h9⟩
  refine g_eq (ws' := (xW cI cC x0 n0 n1 t0 t1 s0 s1 g0 g1 w0 w1 w2 m0 m1 m2 m3 m4 p0 p1 (bI hs) (rnd c) ct cs (va_cpy c r 0 ((kpO od z + (kpS z - 1)) % 5 * 154) 154) (nI (kpO od z)) (nI (kpS z)) sg (nI ln) tr (nI lf) (nI rg) (bI bd) wi2a ol2a orr2a sf2a (nI rl2a) nb)) (st' := [.int (rnV c)]) rfl rfl ?_
  exact g_iret C hr hQ dX5_round_19 rfl ⟨_, _, _, _, _, _, _, _, _, rfl, rfl, XA_t, h9⟩

abbrev rm_X5_undo : Room := { frames := 2, cells := 0, slots := 0, locals := 47 }
theorem yd_X5_undo : yX5_undo.cls = RX5 ∧ yX5_undo.cls ≠ "java/lang/invoke/MethodHandle" ∧ yX5_undo.cls ≠ "java/lang/invoke/VarHandle" ∧ (parseMethodDescriptor yX5_undo.desc).map (fun d => d.parameters.length) = some 0 := by decide +kernel
theorem in_X5_undo_X5 : ∀ w ∈ u_ws RX5 TX5 8, w ∈ wsX5_undo := by decide +kernel
theorem fl_X5_undo_12 : Cond.fieldLink RX5 12 "FenceHandshakes" "now" "LFenceHandshakes$Clans;" ∈ wsX5_undo := by decide +kernel
theorem fl_X5_undo_25 : Cond.fieldLink RX5 25 "FenceHandshakes" "history" "LFenceHandshakes$History;" ∈ wsX5_undo := by decide +kernel
set_option maxHeartbeats 4000000 in
set_option maxRecDepth 100000 in
theorem m_X5_undo (l : Launch) (D : va_G) (cI cC : ClassId) (x0 n0 n1 t0 t1 s0 s1 g0 g1 w0 w1 w2 m0 m1 m2 m3 m4 p0 p1 : Nat) (c : Nat → Int32) (ct : Nat → Int32) (cs : Nat → Int32) (r : Nat → Int32) (sg : Nat → Int32) (tr : Nat → Int32) (wi : Nat → Int32) (ol : Nat → Int32) (orr : Nat → Int32) (sf : Nat → Int32) (nb : Nat → Int32) (hs : Bool) (od : Nat) (z : Nat) (ln : Nat) (lf : Nat) (rg : Nat) (bd : Bool) (rl : Nat) (ho : od < 5) (hz : z ≤ 5) : g_M l yX5_undo wsX5_undo rm_X5_undo D cI cC [.ref x0] (xW cI cC x0 n0 n1 t0 t1 s0 s1 g0 g1 w0 w1 w2 m0 m1 m2 m3 m4 p0 p1 (bI hs) c ct cs r (nI od) (nI z) sg (nI ln) tr (nI lf) (nI rg) (bI bd) wi ol orr sf (nI rl) nb) (fun vv ww => ∃ (c2 : Nat → Int32) (z2 : Nat), vv = some (.int (if z = 0 then -5 else nI (z - 1))) ∧ ww = (xW cI cC x0 n0 n1 t0 t1 s0 s1 g0 g1 w0 w1 w2 m0 m1 m2 m3 m4 p0 p1 (bI hs) c2 ct cs r (nI od) (nI z2) sg (nI ln) tr (nI lf) (nI rg) (bI bd) wi ol orr sf (nI rl) nb) ∧ (z = 0 → c2 = c ∧ z2 = z) ∧ (z ≠ 0 → c2 = va_cpy r c ((od + (z - 1)) % 5 * 154) 0 154 ∧ z2 = z - 1)) := by
  refine g_entry (lv := [(0, .ref x0)]) (own := RX5) (by decide) rfl rfl (Nat.le_of_ble_eq_true rfl) rfl ?_
  intro p e s m args below meth co A Q C hr hQ
  refine g_aload_n (pc := 0) C dX5_undo_0 0 rfl rfl ?_
  refine g_get (pc := 1) (ci := 5) (T := TX5) (N := 8) (v := .ref g0) C in_X5_undo_X5 0 rfl rfl 4 (by decide) fl_X5_undo_25 rfl rfl dX5_undo_1 ?_
  refine g_callV (pc := 4) (st := []) (As := []) (nn := 0) (ci := 1) (q0 := 0) C (m_X1_size l D cI cC g0 g1 r od z) gX5_undo_X1_size rfl rfl rfl yd_X1_size ⟨Nat.le_of_ble_eq_true rfl, Nat.le_of_ble_eq_true rfl⟩ rfl [7, 8] rfl rfl rfl rfl rfl (Nat.le_of_ble_eq_true rfl) ⟨Nat.le_of_ble_eq_true rfl, Nat.le_of_ble_eq_true rfl⟩ dX5_undo_4 ?_
  rintro _ _ ⟨rfl, rfl⟩
  refine g_eq (ws' := (xW cI cC x0 n0 n1 t0 t1 s0 s1 g0 g1 w0 w1 w2 m0 m1 m2 m3 m4 p0 p1 (bI hs) c ct cs r (nI od) (nI z) sg (nI ln) tr (nI lf) (nI rg) (bI bd) wi ol orr sf (nI rl) nb)) (st' := [.int (nI z)]) rfl rfl ?_
  refine g_if_neN (pc := 7) C 13 (by omega) dX5_undo_7 (by decide) (fun c7 => ?_) (fun c7 => ?_)
  · refine g_aload_n (pc := 13) C dX5_undo_13 0 rfl rfl ?_
    refine g_get (pc := 14) (ci := 5) (T := TX5) (N := 8) (v := .ref g0) C in_X5_undo_X5 0 rfl rfl 4 (by decide) fl_X5_undo_25 rfl rfl dX5_undo_14 ?_
    refine g_aload_n (pc := 17) C dX5_undo_17 0 rfl rfl ?_
    refine g_get (pc := 18) (ci := 5) (T := TX5) (N := 8) (v := .ref n0) C in_X5_undo_X5 0 rfl rfl 0 (by decide) fl_X5_undo_12 rfl rfl dX5_undo_18 ?_
    refine g_callV (pc := 21) (st := []) (As := [.ref n0]) (nn := 1) (ci := 1) (q0 := 0) C (m_X1_takeLatest l D cI cC g0 g1 n0 n1 r c od z (by first | assumption | omega) (by first | assumption | omega) (by first | assumption | omega)) gX5_undo_X1_takeLatest rfl rfl rfl yd_X1_takeLatest ⟨Nat.le_of_ble_eq_true rfl, Nat.le_of_ble_eq_true rfl⟩ rfl [7, 8, 1, 2] rfl rfl rfl rfl rfl (Nat.le_of_ble_eq_true rfl) ⟨Nat.le_of_ble_eq_true rfl, Nat.le_of_ble_eq_true rfl⟩ dX5_undo_21 ?_
    rintro _ _ ⟨rfl, rfl⟩
    refine g_eq (ws' := (xW cI cC x0 n0 n1 t0 t1 s0 s1 g0 g1 w0 w1 w2 m0 m1 m2 m3 m4 p0 p1 (bI hs) (va_cpy r c ((od + (z - 1)) % 5 * 154) 0 154) ct cs r (nI od) (nI (z - 1)) sg (nI ln) tr (nI lf) (nI rg) (bI bd) wi ol orr sf (nI rl) nb)) (st' := []) rfl rfl ?_
    refine g_aload_n (pc := 24) C dX5_undo_24 0 rfl rfl ?_
    refine g_get (pc := 25) (ci := 5) (T := TX5) (N := 8) (v := .ref g0) C in_X5_undo_X5 0 rfl rfl 4 (by decide) fl_X5_undo_25 rfl rfl dX5_undo_25 ?_
    refine g_callV (pc := 28) (st := []) (As := []) (nn := 0) (ci := 1) (q0 := 0) C (m_X1_size l D cI cC g0 g1 r od (z - 1)) gX5_undo_X1_size rfl rfl rfl yd_X1_size ⟨Nat.le_of_ble_eq_true rfl, Nat.le_of_ble_eq_true rfl⟩ rfl [7, 8] rfl rfl rfl rfl rfl (Nat.le_of_ble_eq_true rfl) ⟨Nat.le_of_ble_eq_true rfl, Nat.le_of_ble_eq_true rfl⟩ dX5_undo_28 ?_
    rintro _ _ ⟨rfl, rfl⟩
    refine g_eq (ws' := (xW cI cC x0 n0 n1 t0 t1 s0 s1 g0 g1 w0 w1 w2 m0 m1 m2 m3 m4 p0 p1 (bI hs) (va_cpy r c ((od + (z - 1)) % 5 * 154) 0 154) ct cs r (nI od) (nI (z - 1)) sg (nI ln) tr (nI lf) (nI rg) (bI bd) wi ol orr sf (nI rl) nb)) (st' := [.int (nI (z - 1))]) rfl rfl ?_
    refine g_top (y := (if z = 0 then -5 else nI (z - 1))) (by rw [if_neg c7]) ?_
    exact g_iret C hr hQ dX5_undo_31 rfl ⟨_, _, rfl, rfl, fun h => absurd h c7, fun _ => ⟨rfl, rfl⟩⟩
  · refine g_bipush (pc := 10) (v := (-5)) C dX5_undo_10 (by decide) ?_
    refine g_top (y := (if z = 0 then -5 else nI (z - 1))) (by rw [if_pos c7]) ?_
    exact g_iret C hr hQ dX5_undo_12 rfl ⟨_, _, rfl, rfl, fun _ => ⟨rfl, rfl⟩, fun h => absurd c7 h⟩

abbrev rm_X5_save : Room := { frames := 2, cells := 0, slots := 0, locals := 47 }
theorem yd_X5_save : yX5_save.cls = RX5 ∧ yX5_save.cls ≠ "java/lang/invoke/MethodHandle" ∧ yX5_save.cls ≠ "java/lang/invoke/VarHandle" ∧ (parseMethodDescriptor yX5_save.desc).map (fun d => d.parameters.length) = some 0 := by decide +kernel
theorem in_X5_save_X5 : ∀ w ∈ u_ws RX5 TX5 8, w ∈ wsX5_save := by decide +kernel
theorem fl_X5_save_12 : Cond.fieldLink RX5 12 "FenceHandshakes" "now" "LFenceHandshakes$Clans;" ∈ wsX5_save := by decide +kernel
theorem fl_X5_save_19 : Cond.fieldLink RX5 19 "FenceHandshakes" "snapshot" "LFenceHandshakes$Clans;" ∈ wsX5_save := by decide +kernel
theorem fl_X5_save_50 : Cond.fieldLink RX5 50 "FenceHandshakes" "hasSnapshot" "Z" ∈ wsX5_save := by decide +kernel
set_option maxHeartbeats 4000000 in
set_option maxRecDepth 100000 in
theorem m_X5_save (l : Launch) (D : va_G) (cI cC : ClassId) (x0 n0 n1 t0 t1 s0 s1 g0 g1 w0 w1 w2 m0 m1 m2 m3 m4 p0 p1 : Nat) (c : Nat → Int32) (ct : Nat → Int32) (cs : Nat → Int32) (r : Nat → Int32) (sg : Nat → Int32) (tr : Nat → Int32) (wi : Nat → Int32) (ol : Nat → Int32) (orr : Nat → Int32) (sf : Nat → Int32) (nb : Nat → Int32) (hs : Bool) (od : Nat) (z : Nat) (ln : Nat) (lf : Nat) (rg : Nat) (bd : Bool) (rl : Nat) (hc : cOK c) : g_M l yX5_save wsX5_save rm_X5_save D cI cC [.ref x0] (xW cI cC x0 n0 n1 t0 t1 s0 s1 g0 g1 w0 w1 w2 m0 m1 m2 m3 m4 p0 p1 (bI hs) c ct cs r (nI od) (nI z) sg (nI ln) tr (nI lf) (nI rg) (bI bd) wi ol orr sf (nI rl) nb) (fun vv ww => vv = some (.int (nI (nwC c 8))) ∧ ww = (xW cI cC x0 n0 n1 t0 t1 s0 s1 g0 g1 w0 w1 w2 m0 m1 m2 m3 m4 p0 p1 (bI true) c ct (va_cpy c cs 0 0 154) r (nI od) (nI z) sg (nI ln) tr (nI lf) (nI rg) (bI bd) wi ol orr sf (nI rl) nb)) := by
  refine g_entry (lv := [(0, .ref x0)]) (own := RX5) (by decide) rfl rfl (Nat.le_of_ble_eq_true rfl) rfl ?_
  intro p e s m args below meth co A Q C hr hQ
  refine g_aload_n (pc := 0) C dX5_save_0 0 rfl rfl ?_
  refine g_get (pc := 1) (ci := 5) (T := TX5) (N := 8) (v := .ref s0) C in_X5_save_X5 0 rfl rfl 2 (by decide) fl_X5_save_19 rfl rfl dX5_save_1 ?_
  refine g_aload_n (pc := 4) C dX5_save_4 0 rfl rfl ?_
  refine g_get (pc := 5) (ci := 5) (T := TX5) (N := 8) (v := .ref n0) C in_X5_save_X5 0 rfl rfl 0 (by decide) fl_X5_save_12 rfl rfl dX5_save_5 ?_
  refine g_callV (pc := 8) (st := []) (As := [.ref n0]) (nn := 1) (ci := 0) (q0 := 0) C (m_X0_copyFrom l D cI cC s0 s1 n0 n1 cs c) gX5_save_X0_copyFrom rfl rfl rfl yd_X0_copyFrom ⟨Nat.le_of_ble_eq_true rfl, Nat.le_of_ble_eq_true rfl⟩ rfl [5, 6, 1, 2] rfl rfl rfl rfl rfl (Nat.le_of_ble_eq_true rfl) ⟨Nat.le_of_ble_eq_true rfl, Nat.le_of_ble_eq_true rfl⟩ dX5_save_8 ?_
  rintro _ _ ⟨rfl, rfl⟩
  refine g_eq (ws' := (xW cI cC x0 n0 n1 t0 t1 s0 s1 g0 g1 w0 w1 w2 m0 m1 m2 m3 m4 p0 p1 (bI hs) c ct (va_cpy c cs 0 0 154) r (nI od) (nI z) sg (nI ln) tr (nI lf) (nI rg) (bI bd) wi ol orr sf (nI rl) nb)) (st' := []) rfl rfl ?_
  refine g_aload_n (pc := 11) C dX5_save_11 0 rfl rfl ?_
  refine g_iconst (pc := 12) (v := nI 1) C dX5_save_12 (by decide) ?_
  refine g_top (y := bI true) rfl ?_
  refine g_put (pc := 13) (ci := 5) (T := TX5) (N := 8) (ws' := (xW cI cC x0 n0 n1 t0 t1 s0 s1 g0 g1 w0 w1 w2 m0 m1 m2 m3 m4 p0 p1 (bI true) c ct (va_cpy c cs 0 0 154) r (nI od) (nI z) sg (nI ln) tr (nI lf) (nI rg) (bI bd) wi ol orr sf (nI rl) nb)) (ty := .boolean) (v := .int (bI true)) C in_X5_save_X5 tyX5 tyX5_ok nmX5 0 rfl rfl 3 (by decide) fl_X5_save_50 rfl rfl (by decide +kernel) (g_nar _) (g_fit _) (Nat.le_of_ble_eq_true rfl) dX5_save_13 rfl ?_
  refine g_aload_n (pc := 16) C dX5_save_16 0 rfl rfl ?_
  refine g_get (pc := 17) (ci := 5) (T := TX5) (N := 8) (v := .ref n0) C in_X5_save_X5 0 rfl rfl 0 (by decide) fl_X5_save_12 rfl rfl dX5_save_17 ?_
  refine g_callV (pc := 20) (st := []) (As := []) (nn := 0) (ci := 0) (q0 := 0) C (m_X0_numberOfWishes l D cI cC n0 n1 c (by first | assumption | omega)) gX5_save_X0_numberOfWishes rfl rfl rfl yd_X0_numberOfWishes ⟨Nat.le_of_ble_eq_true rfl, Nat.le_of_ble_eq_true rfl⟩ rfl [1, 2] rfl rfl rfl rfl rfl (Nat.le_of_ble_eq_true rfl) ⟨Nat.le_of_ble_eq_true rfl, Nat.le_of_ble_eq_true rfl⟩ dX5_save_20 ?_
  rintro _ _ ⟨rfl, rfl⟩
  refine g_eq (ws' := (xW cI cC x0 n0 n1 t0 t1 s0 s1 g0 g1 w0 w1 w2 m0 m1 m2 m3 m4 p0 p1 (bI true) c ct (va_cpy c cs 0 0 154) r (nI od) (nI z) sg (nI ln) tr (nI lf) (nI rg) (bI bd) wi ol orr sf (nI rl) nb)) (st' := [.int (nI (nwC c 8))]) rfl rfl ?_
  exact g_iret C hr hQ dX5_save_23 rfl ⟨rfl, rfl⟩

abbrev rm_X5_restore : Room := { frames := 2, cells := 0, slots := 0, locals := 47 }
theorem yd_X5_restore : yX5_restore.cls = RX5 ∧ yX5_restore.cls ≠ "java/lang/invoke/MethodHandle" ∧ yX5_restore.cls ≠ "java/lang/invoke/VarHandle" ∧ (parseMethodDescriptor yX5_restore.desc).map (fun d => d.parameters.length) = some 0 := by decide +kernel
theorem in_X5_restore_X5 : ∀ w ∈ u_ws RX5 TX5 8, w ∈ wsX5_restore := by decide +kernel
theorem fl_X5_restore_12 : Cond.fieldLink RX5 12 "FenceHandshakes" "now" "LFenceHandshakes$Clans;" ∈ wsX5_restore := by decide +kernel
theorem fl_X5_restore_19 : Cond.fieldLink RX5 19 "FenceHandshakes" "snapshot" "LFenceHandshakes$Clans;" ∈ wsX5_restore := by decide +kernel
theorem fl_X5_restore_25 : Cond.fieldLink RX5 25 "FenceHandshakes" "history" "LFenceHandshakes$History;" ∈ wsX5_restore := by decide +kernel
theorem fl_X5_restore_50 : Cond.fieldLink RX5 50 "FenceHandshakes" "hasSnapshot" "Z" ∈ wsX5_restore := by decide +kernel
set_option maxHeartbeats 4000000 in
set_option maxRecDepth 100000 in
theorem m_X5_restore (l : Launch) (D : va_G) (cI cC : ClassId) (x0 n0 n1 t0 t1 s0 s1 g0 g1 w0 w1 w2 m0 m1 m2 m3 m4 p0 p1 : Nat) (c : Nat → Int32) (ct : Nat → Int32) (cs : Nat → Int32) (r : Nat → Int32) (sg : Nat → Int32) (tr : Nat → Int32) (wi : Nat → Int32) (ol : Nat → Int32) (orr : Nat → Int32) (sf : Nat → Int32) (nb : Nat → Int32) (hs : Bool) (od : Nat) (z : Nat) (ln : Nat) (lf : Nat) (rg : Nat) (bd : Bool) (rl : Nat) (hc : cOK c) (ho : od < 5) (hz : z ≤ 5) (hcs : hs = true → cOK cs) : g_M l yX5_restore wsX5_restore rm_X5_restore D cI cC [.ref x0] (xW cI cC x0 n0 n1 t0 t1 s0 s1 g0 g1 w0 w1 w2 m0 m1 m2 m3 m4 p0 p1 (bI hs) c ct cs r (nI od) (nI z) sg (nI ln) tr (nI lf) (nI rg) (bI bd) wi ol orr sf (nI rl) nb) (fun vv ww => ∃ (c2 : Nat → Int32) (r2 : Nat → Int32) (od2 : Nat) (z2 : Nat), vv = some (.int (if hs then nI (nwC (va_cpy cs c 0 0 154) 8) else -4)) ∧ ww = (xW cI cC x0 n0 n1 t0 t1 s0 s1 g0 g1 w0 w1 w2 m0 m1 m2 m3 m4 p0 p1 (bI hs) c2 ct cs r2 (nI od2) (nI z2) sg (nI ln) tr (nI lf) (nI rg) (bI bd) wi ol orr sf (nI rl) nb) ∧ XA hs c (va_cpy cs c 0 0 154) r od z c2 r2 od2 z2) := by
  refine g_entry (lv := [(0, .ref x0)]) (own := RX5) (by decide) rfl rfl (Nat.le_of_ble_eq_true rfl) rfl ?_
  intro p e s m args below meth co A Q C hr hQ
  refine g_aload_n (pc := 0) C dX5_restore_0 0 rfl rfl ?_
  refine g_get (pc := 1) (ci := 5) (T := TX5) (N := 8) (v := .int (bI hs)) C in_X5_restore_X5 0 rfl rfl 3 (by decide) fl_X5_restore_50 rfl rfl dX5_restore_1 ?_
  refine g_if_neB (pc := 4) C 10 dX5_restore_4 (by decide) (fun c4 => ?_) (fun c4 => ?_)
  · refine g_aload_n (pc := 10) C dX5_restore_10 0 rfl rfl ?_
    refine g_get (pc := 11) (ci := 5) (T := TX5) (N := 8) (v := .ref g0) C in_X5_restore_X5 0 rfl rfl 4 (by decide) fl_X5_restore_25 rfl rfl dX5_restore_11 ?_
    refine g_aload_n (pc := 14) C dX5_restore_14 0 rfl rfl ?_
    refine g_get (pc := 15) (ci := 5) (T := TX5) (N := 8) (v := .ref n0) C in_X5_restore_X5 0 rfl rfl 0 (by decide) fl_X5_restore_12 rfl rfl dX5_restore_15 ?_
    refine g_callV (pc := 18) (st := []) (As := [.ref n0]) (nn := 1) (ci := 1) (q0 := 0) C (m_X1_keep l D cI cC g0 g1 n0 n1 r c od z (by first | assumption | omega) (by first | assumption | omega)) gX5_restore_X1_keep rfl rfl rfl yd_X1_keep ⟨Nat.le_of_ble_eq_true rfl, Nat.le_of_ble_eq_true rfl⟩ rfl [7, 8, 1, 2] rfl rfl rfl rfl rfl (Nat.le_of_ble_eq_true rfl) ⟨Nat.le_of_ble_eq_true rfl, Nat.le_of_ble_eq_true rfl⟩ dX5_restore_18 ?_
    rintro _ _ ⟨rfl, rfl⟩
    refine g_eq (ws' := (xW cI cC x0 n0 n1 t0 t1 s0 s1 g0 g1 w0 w1 w2 m0 m1 m2 m3 m4 p0 p1 (bI hs) c ct cs (va_cpy c r 0 ((kpO od z + (kpS z - 1)) % 5 * 154) 154) (nI (kpO od z)) (nI (kpS z)) sg (nI ln) tr (nI lf) (nI rg) (bI bd) wi ol orr sf (nI rl) nb)) (st' := []) rfl rfl ?_
    refine g_aload_n (pc := 21) C dX5_restore_21 0 rfl rfl ?_
    refine g_get (pc := 22) (ci := 5) (T := TX5) (N := 8) (v := .ref n0) C in_X5_restore_X5 0 rfl rfl 0 (by decide) fl_X5_restore_12 rfl rfl dX5_restore_22 ?_
    refine g_aload_n (pc := 25) C dX5_restore_25 0 rfl rfl ?_
    refine g_get (pc := 26) (ci := 5) (T := TX5) (N := 8) (v := .ref s0) C in_X5_restore_X5 0 rfl rfl 2 (by decide) fl_X5_restore_19 rfl rfl dX5_restore_26 ?_
    refine g_callV (pc := 29) (st := []) (As := [.ref s0]) (nn := 1) (ci := 0) (q0 := 0) C (m_X0_copyFrom l D cI cC n0 n1 s0 s1 c cs) gX5_restore_X0_copyFrom rfl rfl rfl yd_X0_copyFrom ⟨Nat.le_of_ble_eq_true rfl, Nat.le_of_ble_eq_true rfl⟩ rfl [1, 2, 5, 6] rfl rfl rfl rfl rfl (Nat.le_of_ble_eq_true rfl) ⟨Nat.le_of_ble_eq_true rfl, Nat.le_of_ble_eq_true rfl⟩ dX5_restore_29 ?_
    rintro _ _ ⟨rfl, rfl⟩
    refine g_eq (ws' := (xW cI cC x0 n0 n1 t0 t1 s0 s1 g0 g1 w0 w1 w2 m0 m1 m2 m3 m4 p0 p1 (bI hs) (va_cpy cs c 0 0 154) ct cs (va_cpy c r 0 ((kpO od z + (kpS z - 1)) % 5 * 154) 154) (nI (kpO od z)) (nI (kpS z)) sg (nI ln) tr (nI lf) (nI rg) (bI bd) wi ol orr sf (nI rl) nb)) (st' := []) rfl rfl ?_
    refine g_aload_n (pc := 32) C dX5_restore_32 0 rfl rfl ?_
    refine g_get (pc := 33) (ci := 5) (T := TX5) (N := 8) (v := .ref n0) C in_X5_restore_X5 0 rfl rfl 0 (by decide) fl_X5_restore_12 rfl rfl dX5_restore_33 ?_
    refine g_callV (pc := 36) (st := []) (As := []) (nn := 0) (ci := 0) (q0 := 0) C (m_X0_numberOfWishes l D cI cC n0 n1 (va_cpy cs c 0 0 154) (cOK_cpy (hcs c4))) gX5_restore_X0_numberOfWishes rfl rfl rfl yd_X0_numberOfWishes ⟨Nat.le_of_ble_eq_true rfl, Nat.le_of_ble_eq_true rfl⟩ rfl [1, 2] rfl rfl rfl rfl rfl (Nat.le_of_ble_eq_true rfl) ⟨Nat.le_of_ble_eq_true rfl, Nat.le_of_ble_eq_true rfl⟩ dX5_restore_36 ?_
    rintro _ _ ⟨rfl, rfl⟩
    refine g_eq (ws' := (xW cI cC x0 n0 n1 t0 t1 s0 s1 g0 g1 w0 w1 w2 m0 m1 m2 m3 m4 p0 p1 (bI hs) (va_cpy cs c 0 0 154) ct cs (va_cpy c r 0 ((kpO od z + (kpS z - 1)) % 5 * 154) 154) (nI (kpO od z)) (nI (kpS z)) sg (nI ln) tr (nI lf) (nI rg) (bI bd) wi ol orr sf (nI rl) nb)) (st' := [.int (nI (nwC (va_cpy cs c 0 0 154) 8))]) rfl rfl ?_
    refine g_top (y := (if hs then nI (nwC (va_cpy cs c 0 0 154) 8) else -4)) (by rw [c4]; rfl) ?_
    exact g_iret C hr hQ dX5_restore_39 rfl ⟨_, _, _, _, rfl, rfl, by rw [c4]; exact XA_t⟩
  · refine g_bipush (pc := 7) (v := (-4)) C dX5_restore_7 (by decide) ?_
    refine g_top (y := (if hs then nI (nwC (va_cpy cs c 0 0 154) 8) else -4)) (by rw [c4]; exact rfl) ?_
    exact g_iret C hr hQ dX5_restore_9 rfl ⟨_, _, _, _, rfl, rfl, by rw [c4]; exact XA_f⟩
