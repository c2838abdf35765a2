/-! the two objects side by side: histories, snapshots, texts -/
def rowC (r : Nat → Int32) (i : Nat) : Nat → Int32 := fun j => r (i * 154 + j)
def rowS (sts : Nat → Int32) (k : Nat) : Nat → Int32 := fun j => sts (225 * k + j)
def HR (r sts : Nat → Int32) (od z : Nat) : Prop := ∀ k, k < z → SR (rowC r ((od + k) % 5)) (rowS sts k)
theorem cpy_in {c r : Nat → Int32} {t j : Nat} (hj : j < 154) : va_cpy c r 0 (t * 154) 154 (t * 154 + j) = c j := by
  rw [pk_cpy_in (by omega) (by omega)]; congr 1; omega
theorem cpy_out {c r : Nat → Int32} {t u j : Nat} (h : u ≠ t) (hj : j < 154) : va_cpy c r 0 (t * 154) 154 (u * 154 + j) = r (u * 154 + j) := by
  rw [pk_cpy_out (by omega)]
theorem rc_old5 {ss sts : Nat → Int32} {k j : Nat} (hk : k < 4) (hj : j < 225) : rcS ss sts 5 (225 * k + j) = sts (225 * (k + 1) + j) := by
  rw [rcS, if_pos rfl, wrF, if_neg (fun z => by simp only [kpS, if_pos] at z; omega), shF, if_pos (by omega)]
  congr 1; omega
theorem rc_old {ss sts : Nat → Int32} {z k j : Nat} (hz : z ≠ 5) (hk : k < z) (hj : j < 225) : rcS ss sts z (225 * k + j) = sts (225 * k + j) := by
  rw [rcS, if_neg hz, ← kpn hz, wrF, if_neg (fun q => by omega)]
theorem rc_new {ss sts : Nat → Int32} {z j : Nat} (hj : j < 225) : rcS ss sts z (225 * (kpS z - 1) + j) = ss j := by
  rw [rcS, wrF, if_pos ⟨by omega, by omega⟩]
  congr 1; omega
theorem HR_keep {c ss r sts : Nat → Int32} {od z : Nat} (h : HR r sts od z) (hS : SR c ss) (ho : od < 5) (hz : z ≤ 5) : HR (va_cpy c r 0 ((kpO od z + (kpS z - 1)) % 5 * 154) 154) (rcS ss sts z) (kpO od z) (kpS z) := by
  intro k hk
  by_cases e : k = kpS z - 1
  · subst e
    exact (hS.cells (fun j hj => cpy_in hj)).same (fun j hj => rc_new hj)
  · by_cases z5 : z = 5
    · subst z5
      have hk4 : k < 4 := by simp only [kpS, if_pos] at hk e; omega
      have h1 : kpO od 5 = (od + 1) % 5 := if_pos rfl
      have h2 : kpS 5 - 1 = 4 := rfl
      have hrow : (kpO od 5 + k) % 5 = (od + (k + 1)) % 5 := by rw [h1]; omega
      have hne : (kpO od 5 + k) % 5 ≠ (kpO od 5 + (kpS 5 - 1)) % 5 := by rw [h1, h2]; omega
      exact ((h (k + 1) (by omega)).cells (fun j hj => (cpy_out hne hj).trans (by rw [hrow]; rfl))).same (fun j hj => rc_old5 hk4 hj)
    · have h1 : kpO od z = od := if_neg z5
      have h2 := kpn z5
      have hkz : k < z := by rw [kpS, if_neg z5] at hk; omega
      have hne : (kpO od z + k) % 5 ≠ (kpO od z + (kpS z - 1)) % 5 := by rw [h1, ← h2]; omega
      exact ((h k hkz).cells (fun j hj => (cpy_out hne hj).trans (by rw [h1]; rfl))).same (fun j hj => rc_old z5 hkz hj)
/-- one action in both -/
theorem ACT {q : Bool} {c cn r ss sts c2 r2 ss2 sts2 : Nat → Int32} {od z od2 z2 y2 : Nat} (hX : XA q c cn r od z c2 r2 od2 z2) (hR : RA q cn ss sts z ss2 sts2 y2) (hS : SR c ss) (hH : HR r sts od z) (ho : od < 5) (hz : z ≤ 5) : SR c2 ss2 ∧ HR r2 sts2 od2 z2 ∧ y2 = z2 ∧ od2 < 5 ∧ z2 ≤ 5 := by
  cases q with
  | true =>
    obtain ⟨rfl, rfl, rfl, rfl⟩ := hX.1 rfl
    obtain ⟨h1, rfl, rfl⟩ := hR.1 rfl
    exact ⟨h1, HR_keep hH hS ho hz, rfl, kpO_lt ho, kpS_le hz⟩
  | false =>
    obtain ⟨rfl, rfl, rfl, rfl⟩ := hX.2 rfl
    obtain ⟨rfl, rfl, rfl⟩ := hR.2 rfl
    exact ⟨hS, hH, rfl, ho, hz⟩
theorem UND {c r ss sts : Nat → Int32} {od z : Nat} (hH : HR r sts od z) (h0 : z ≠ 0) : SR (va_cpy r c ((od + (z - 1)) % 5 * 154) 0 154) (cpF (fun k => sts (225 * (z - 1) + k)) ss 225) ∧ HR r sts od (z - 1) := by
  refine ⟨?_, fun k hk => hH k (by omega)⟩
  refine ((hH (z - 1) (by omega)).cells (fun j hj => ?_)).same (fun j hj => cpF_in hj)
  rw [pk_cpy_in (by omega) (by omega)]; rfl
/-- a wish between unlinked gates stays -/
theorem unl_same {c c2 : Nat → Int32} (h : same c c2) (hu : unl c) : unl c2 := by
  obtain ⟨a, ha, b, hb, h1, h2⟩ := hu
  refine ⟨a, ha, b, hb, ?_, ?_⟩
  · rw [wiC, ← same_N h (by omega)]; exact h1
  · rw [glC, lkC, ← same_N h (k := a) (by omega), ← same_N h (k := 8 + b) (by omega), ← same_N h (k := 152) (by omega)]; exact h2
theorem wi_shk {c : Nat → Int32} {a b x y : Nat} (hc : cOK c) (ha : a < 8) (hb : b < 8) (hx : x < 8) (h : wiC c a b = true) (hne : ¬ (a = x ∧ b = y)) : wiC (cClose (cShk c x y) x y) a b = true := by
  by_cases e : a = x
  · subst e
    have hlt : g_nand (cN (cShk c a y) (16 + a)) (1 <<< y) < 2 ^ 31 := Nat.lt_of_le_of_lt Nat.and_le_left (by rw [cN_shk (by omega)]; have := hc.w8 ha; omega)
    rw [wiC, cClose, cN_upd_eq hlt, g_nand_bit _ _ _ (by omega), bit_one, cN_shk (by omega), decide_eq_false (fun z => hne ⟨rfl, z.symm⟩), Bool.not_false, Bool.and_true]
    exact h
  · rw [wiC, cClose, cN_upd_ne (by omega), cN_shk (by omega)]
    exact h
theorem wi_rsh {c : Nat → Int32} {P : Nat → Option Nat} {a b : Nat} (hc : cOK c) (hP : ∀ i j, P i = some j → j < 8) (hPg : ∀ i j, i < 8 → P i = some j → glC c i j = true) (ha : a < 8) (hb : b < 8) (h : wiC c a b = true) (hg : glC c a b = false) : ∀ i, i ≤ 8 → wiC (rsh c P i) a b = true
  | 0, _ => h
  | i + 1, hi => by
    have ih := wi_rsh hc hP hPg ha hb h hg i (by omega)
    simp only [rsh]
    cases e : P i with
    | none => exact ih
    | some j => exact wi_shk (rsh_ok hc hP i (by omega)) ha hb (by omega) ih (fun z => by
        have := hPg i j (by omega) e
        rw [← z.1, ← z.2, hg] at this
        cases this)
theorem rsh_o {c : Nat → Int32} {P : Nat → Option Nat} (hP : ∀ i j, P i = some j → j < 8) {k : Nat} (hk : k < 16 ∨ k = 152) : ∀ i, i ≤ 8 → rsh c P i k = c k
  | 0, _ => rfl
  | i + 1, hi => by
    have ih := rsh_o (c := c) hP hk i (by omega)
    simp only [rsh]
    cases e : P i with
    | none => exact ih
    | some j =>
      have hj := hP i j e
      show cClose (cShk (rsh c P i) i j) i j k = c k
      rw [cClose, upd_ne (by omega), cShk, upd_ne (by omega)]
      exact ih
theorem unl_rnd {c : Nat → Int32} (hc : cOK c) (hu : unl c) : unl (rnd c) := by
  obtain ⟨a, ha, b, hb, h1, h2⟩ := hu
  have hPg : ∀ i j, i < 8 → spE (EC c) i = some j → glC c i j = true := fun i j hi e => by
    have h3 := (spE_some e).2.1
    rw [EC_at (spE_some e).1, poC, caC] at h3
    simp only [Bool.and_eq_true] at h3
    exact h3.2.2
  have o : ∀ k, k < 16 ∨ k = 152 → rnd c k = c k := fun k hk => by
    rw [rnd, cEnd_o _ (by omega) (by omega)]
    exact rsh_o spE_lt hk 8 (Nat.le_refl _)
  refine ⟨a, ha, b, hb, ?_, ?_⟩
  · rw [rnd, wi_of (cEnd_o _ (by omega) (by omega))]
    exact wi_rsh hc spE_lt hPg ha hb h1 h2 8 (Nat.le_refl _)
  · rw [glC, lkC, cN, cN, cN, o a (by omega), o (8 + b) (by omega), o 152 (by omega)]
    exact h2
theorem unl_rnds {c : Nat → Int32} (hc : cOK c) (hu : unl c) : ∀ k, unl (rnds c k)
  | 0 => hu
  | k + 1 => unl_rnd (rnds_ok hc k) (unl_rnds hc hu k)
theorem unl_nw {c : Nat → Int32} (hc : cOK c) (hu : unl c) : nwC c 8 ≠ 0 := fun h => by
  obtain ⟨a, ha, b, hb, h1, -⟩ := hu
  rw [← cnt_nw hc 8 (Nat.le_refl _)] at h
  have h2 := cnt_none (wq c) (8 * 8) h (8 * a + b) (by omega)
  rw [wq, show (8 * a + b) / 8 = a by omega, show (8 * a + b) % 8 = b by omega, h1] at h2
  cases h2
theorem unl_dn {c : Nat → Int32} (hc : cOK c) (hu : unl c) : dnW c = -5 := dnW_no (k := 201) (fun j _ => unl_nw (rnds_ok hc j) (unl_rnds hc hu j)) (Nat.le_refl _)
/-- what doneIn answers, in both -/
theorem dn_both {c t : Nat → Int32} {v : Int32} (hc : cOK c) (h1 : unl c → v = -5) (h2 : ¬ unl c → v = dnW (va_cpy c t 0 0 154)) : v = dnW (va_cpy c t 0 0 154) := by
  by_cases hu : unl c
  · rw [h1 hu]
    exact (unl_dn (cOK_cpy hc) (unl_same (fun k hk => (same_cpy c t k hk).symm) hu)).symm
  · exact h2 hu
