/-! pure: searches for a free right person, exchanges along a path -/
def pI (o : Option Nat) : Int32 := match o with
  | none => -5
  | some r => nI r
theorem pI_isP {o : Option Nat} (h : ∀ r, o = some r → r < 8) : isP (pI o) = o.isSome := by
  cases o with
  | none => decide
  | some r => exact isP_nI (h r rfl)
theorem pI_m5 {o : Option Nat} (h : ∀ r, o = some r → r < 8) : pI o = -5 ↔ o = none := by
  cases o with
  | none => exact ⟨fun _ => rfl, fun _ => rfl⟩
  | some r =>
    refine ⟨fun e => ?_, fun e => by cases e⟩
    exact absurd e (nI_m5 (by have := h r rfl; omega))
theorem pI_inj {o : Option Nat} {r : Nat} (h : ∀ r, o = some r → r < 8) (hr : r < 8) (e : pI o = nI r) : o = some r := by
  cases o with
  | none => exact absurd e.symm (nI_m5 (by omega))
  | some x =>
    have hx := h x rfl
    exact congrArg some ((nI_eq (by omega) (by omega)).mp e)
abbrev Ew (W : Nat → Nat) : Nat → Nat → Bool := fun a b => (W a).testBit b
def mt (W : Nat → Nat) (L R : Nat → Option Nat) : Prop := (∀ a b, a < 8 → L a = some b → b < 8 ∧ R b = some a ∧ (W a).testBit b = true) ∧ ∀ b a, b < 8 → R b = some a → a < 8 ∧ L a = some b
def sub (f S : Nat) (L R : Nat → Option Nat) : Prop := (∀ a b, f ≤ a → a < 8 → L a = some b → S.testBit b = true) ∧ ∀ b a, b < 8 → S.testBit b = true → R b = some a → f ≤ a
def oset (L : Nat → Option Nat) (k : Nat) (v : Option Nat) : Nat → Option Nat := fun j => if j = k then v else L j
theorem oset_eq {L : Nat → Option Nat} {k : Nat} {v : Option Nat} : oset L k v k = v := if_pos rfl
theorem oset_ne {L : Nat → Option Nat} {k j : Nat} {v : Option Nat} (h : j ≠ k) : oset L k v j = L j := if_neg h
def ch (W : Nat → Nat) (L : Nat → Option Nat) (f S : Nat) (Sn : Nat → Bool) (sl t : Nat → Nat) : Prop :=
  ∀ b, Sn b = true → b < 8 ∧ S.testBit b = true ∧ f ≤ sl b ∧ sl b < 8 ∧ (W (sl b)).testBit b = true ∧ t b < 8 ∧ (L (sl b) = none ∨ ∃ b', L (sl b) = some b' ∧ Sn b' = true ∧ t b' < t b)
/-- a matching but for the right person b, whom nobody has -/
def alm (W : Nat → Nat) (L : Nat → Option Nat) (Sn : Nat → Bool) (sl t : Nat → Nat) (L' R' : Nat → Option Nat) (b : Nat) : Prop :=
  Sn b = true ∧ (∀ a b', a < 8 → L' a = some b' → b' < 8 ∧ b' ≠ b ∧ R' b' = some a ∧ (W a).testBit b' = true) ∧ (∀ b' a, b' < 8 → b' ≠ b → R' b' = some a → a < 8 ∧ L' a = some b') ∧ ∀ b2, Sn b2 = true → t b2 ≤ t b → L' (sl b2) = L (sl b2)
theorem alm_end {W : Nat → Nat} {L L' R' : Nat → Option Nat} {f S : Nat} {Sn : Nat → Bool} {sl t : Nat → Nat} {b : Nat} (hc : ch W L f S Sn sl t) (h : alm W L Sn sl t L' R' b) (hn : L (sl b) = none) : mt W (oset L' (sl b) (some b)) (oset R' b (some (sl b))) := by
  obtain ⟨hs, h1, h2, h3⟩ := h
  obtain ⟨hb, -, -, hsl, hw, -, -⟩ := hc b hs
  have hn' : L' (sl b) = none := (h3 b hs (Nat.le_refl _)).trans hn
  constructor
  · intro a b' ha e
    by_cases q : a = sl b
    · subst q
      rw [oset_eq] at e
      cases e
      exact ⟨hb, oset_eq, hw⟩
    · rw [oset_ne q] at e
      obtain ⟨a1, a2, a3, a4⟩ := h1 a b' ha e
      exact ⟨a1, by rw [oset_ne a2]; exact a3, a4⟩
  · intro b' a hb' e
    by_cases q : b' = b
    · subst q
      rw [oset_eq] at e
      cases e
      exact ⟨hsl, oset_eq⟩
    · rw [oset_ne q] at e
      obtain ⟨a1, a2⟩ := h2 b' a hb' q e
      refine ⟨a1, ?_⟩
      rw [oset_ne (fun z => by rw [z, hn'] at a2; cases a2)]
      exact a2
theorem alm_step {W : Nat → Nat} {L L' R' : Nat → Option Nat} {f S : Nat} {Sn : Nat → Bool} {sl t : Nat → Nat} {b b1 : Nat} (hc : ch W L f S Sn sl t) (h : alm W L Sn sl t L' R' b) (hn : L (sl b) = some b1) : alm W L Sn sl t (oset L' (sl b) (some b)) (oset R' b (some (sl b))) b1 ∧ t b1 < t b := by
  obtain ⟨hs, h1, h2, h3⟩ := h
  obtain ⟨hb, -, -, hsl, hw, -, ho⟩ := hc b hs
  have hn' : L' (sl b) = some b1 := (h3 b hs (Nat.le_refl _)).trans hn
  obtain ⟨k1, k2, k3, k4⟩ := h1 (sl b) b1 hsl hn'
  have hlt : Sn b1 = true ∧ t b1 < t b := by
    rcases ho with e | ⟨b', e, e2, e3⟩
    · rw [hn] at e; cases e
    · rw [hn] at e; cases e; exact ⟨e2, e3⟩
  refine ⟨⟨hlt.1, ?_, ?_, ?_⟩, hlt.2⟩
  · intro a b' ha e
    by_cases q : a = sl b
    · subst q
      rw [oset_eq] at e
      cases e
      exact ⟨hb, fun z => k2 z.symm, oset_eq, hw⟩
    · rw [oset_ne q] at e
      obtain ⟨a1, a2, a3, a4⟩ := h1 a b' ha e
      refine ⟨a1, fun z => ?_, by rw [oset_ne a2]; exact a3, a4⟩
      subst z
      rw [k3] at a3
      exact q (Option.some.inj a3).symm
  · intro b' a hb' hne e
    by_cases q : b' = b
    · subst q
      rw [oset_eq] at e
      cases e
      exact ⟨hsl, oset_eq⟩
    · rw [oset_ne q] at e
      obtain ⟨a1, a2⟩ := h2 b' a hb' q e
      refine ⟨a1, ?_⟩
      rw [oset_ne (fun z => by rw [z, hn'] at a2; exact hne (Option.some.inj a2).symm)]
      exact a2
  · intro b2 hs2 ht
    rw [oset_ne (fun z => ?_)]
    · exact h3 b2 hs2 (by omega)
    · obtain ⟨-, -, -, -, -, -, ho2⟩ := hc b2 hs2
      rw [z, hn] at ho2
      rcases ho2 with e | ⟨b', e, e2, e3⟩
      · cases e
      · cases e; omega
/-- the exchange to its end -/
theorem alm_all {W : Nat → Nat} {L : Nat → Option Nat} {f S : Nat} {Sn : Nat → Bool} {sl t : Nat → Nat} (hc : ch W L f S Sn sl t) : ∀ n b (L' R' : Nat → Option Nat), t b < n → alm W L Sn sl t L' R' b → ∃ (L2 R2 : Nat → Option Nat) (a0 : Nat), mt W L2 R2 ∧ a0 < 8 ∧ L a0 = none ∧ ∀ a, (L2 a).isSome = ((L' a).isSome || decide (a = a0))
  | 0, b, L', R', h, _ => absurd h (Nat.not_lt_zero _)
  | n + 1, b, L', R', h, ha => by
    have hcb := hc b ha.1
    rcases hcb.2.2.2.2.2.2 with e | ⟨b1, e, -, -⟩
    · refine ⟨_, _, sl b, alm_end hc ha e, hcb.2.2.2.1, e, fun a => ?_⟩
      by_cases q : a = sl b
      · subst q; rw [oset_eq]; simp
      · rw [oset_ne q, decide_eq_false q]; simp
    · obtain ⟨h2, h3⟩ := alm_step hc ha e
      obtain ⟨L2, R2, a0, q1, q2, q3, q4⟩ := alm_all hc n b1 _ _ (by omega) h2
      refine ⟨L2, R2, a0, q1, q2, q3, fun a => ?_⟩
      rw [q4 a]
      by_cases q : a = sl b
      · subst q
        rw [oset_eq, ha.2.2.2 b ha.1 (Nat.le_refl _), e]
        rfl
      · rw [oset_ne q]
/-- counted by an injection -/
theorem cnt_inj (p : Nat → Bool) (L : Nat → Option Nat) : ∀ n (q : Nat → Bool), n ≤ 8 → (∀ b, b < 8 → q b = true → ∃ a, 8 - n ≤ a ∧ a < 8 ∧ p a = true ∧ L a = some b) → cnt q 8 ≤ cntT p n
  | 0, q, _, h => by
    have : ∀ b, b < 8 → q b = false := fun b hb => by
      cases hq : q b with
      | false => rfl
      | true => obtain ⟨a, h1, h2, -⟩ := h b hb hq; omega
    have e : cnt q 8 = cnt (fun _ => false) 8 := cnt_cong 8 (fun k hk => this k hk)
    rw [e]
    exact Nat.le_of_eq rfl
  | n + 1, q, hn, h => by
    simp only [cntT]
    have hcase : (∃ b0, b0 < 8 ∧ q b0 = true ∧ p (7 - n) = true ∧ L (7 - n) = some b0) ∨ ¬ ∃ b0, b0 < 8 ∧ q b0 = true ∧ p (7 - n) = true ∧ L (7 - n) = some b0 := Classical.em _
    rcases hcase with ⟨b0, h1, h2, h3, h4⟩ | hno
    · have e := cnt_out q h2 8 h1
      have hi := cnt_inj p L n (fun k => q k && !decide (b0 = k)) (by omega) (fun b hb hq => by
        simp only [Bool.and_eq_true, Bool.not_eq_true', decide_eq_false_iff_not] at hq
        obtain ⟨a, g1, g2, g3, g4⟩ := h b hb hq.1
        refine ⟨a, ?_, g2, g3, g4⟩
        by_cases z : a = 7 - n
        · subst z
          rw [h4] at g4
          exact absurd (Option.some.inj g4) hq.2
        · omega)
      rw [if_pos h3]
      omega
    · have hi := cnt_inj p L n q (by omega) (fun b hb hq => by
        obtain ⟨a, g1, g2, g3, g4⟩ := h b hb hq
        refine ⟨a, ?_, g2, g3, g4⟩
        by_cases z : a = 7 - n
        · subst z
          exact absurd ⟨b, hb, hq, g3, g4⟩ hno
        · omega)
      omega
theorem cntT_add (p q r : Nat → Bool) : ∀ n, n ≤ 8 → (∀ a, 8 - n ≤ a → a < 8 → (p a = true → r a = true) ∧ (q a = true → r a = true) ∧ ¬ (p a = true ∧ q a = true)) → cntT p n + cntT q n ≤ cntT r n
  | 0, _, _ => Nat.le_refl _
  | n + 1, hn, h => by
    have hi := cntT_add p q r n (by omega) (fun a h1 h2 => h a (by omega) h2)
    obtain ⟨h1, h2, h3⟩ := h (7 - n) (by omega) (by omega)
    simp only [cntT]
    by_cases hp : p (7 - n) = true
    · rw [if_pos hp, if_pos (h1 hp), if_neg (fun z => h3 ⟨hp, z⟩)]; omega
    · rw [if_neg hp]
      by_cases hq : q (7 - n) = true
      · rw [if_pos hq, if_pos (h2 hq)]; omega
      · rw [if_neg hq]; omega
/-- what a search has found that came to its end: rl the reached left people, Sn the seen right ones -/
def closed (W : Nat → Nat) (L R : Nat → Option Nat) (f S rl : Nat) (Sn : Nat → Bool) : Prop :=
  (∀ a, a < 8 → rl.testBit a = true → f ≤ a) ∧ (∀ a, f ≤ a → a < 8 → L a = none → rl.testBit a = true) ∧ (∀ a b, a < 8 → rl.testBit a = true → b < 8 → S.testBit b = true → (W a).testBit b = true → Sn b = true) ∧ (∀ b, Sn b = true → ∃ a, R b = some a ∧ rl.testBit a = true) ∧ ∀ a b, a < 8 → rl.testBit a = true → L a = some b → Sn b = true
theorem closed_le {W : Nat → Nat} {L R : Nat → Option Nat} {f S rl : Nat} {Sn : Nat → Bool} (hm : mt W L R) (h : closed W L R f S rl Sn) (hf : f ≤ 8) (A : Nat → Bool) (hA : ∀ a, f ≤ a → a < 8 → A a = true → rl.testBit a = false) :
    cntT A (8 - f) + cnt Sn 8 ≤ cntT A (8 - f) + cntT (fun a => rl.testBit a && (L a).isSome) (8 - f) := by
  refine Nat.add_le_add_left (cnt_inj _ L (8 - f) Sn (by omega) (fun b hb hq => ?_)) _
  obtain ⟨a, h1, h2⟩ := h.2.2.2.1 b hq
  obtain ⟨h3, h4⟩ := hm.2 b a hb h1
  refine ⟨a, ?_, h3, ?_, h4⟩
  · have := h.1 a h3 h2; omega
  · show (rl.testBit a && (L a).isSome) = true
    rw [h2, h4]; rfl
theorem closed_max {W : Nat → Nat} {L R : Nat → Option Nat} {f S rl : Nat} {Sn : Nat → Bool} (hm : mt W L R) (h : closed W L R f S rl Sn) (hf : f ≤ 8) : szN (Ew W) (8 - f) S ≤ cntT (fun a => (L a).isSome) (8 - f) := by
  have h1 := sz_cover (Ew W) (fun a => !rl.testBit a) Sn (8 - f) S (by omega) (fun a b ha ha2 hb hS hE => by
    by_cases q : rl.testBit a = true
    · exact Or.inr (h.2.2.1 a b ha2 q hb hS hE)
    · exact Or.inl (by simp [q]))
  have h2 : cnt (fun b => S.testBit b && Sn b) 8 ≤ cnt Sn 8 := cnt_mono 8 (fun k _ hk => by simp only [Bool.and_eq_true] at hk; exact hk.2)
  have h3 := closed_le hm h hf (fun a => !rl.testBit a) (fun a _ _ ha => by simpa using ha)
  have h4 := cntT_add (fun a => !rl.testBit a) (fun a => rl.testBit a && (L a).isSome) (fun a => (L a).isSome) (8 - f) (by omega) (fun a ha ha2 => ⟨fun q => by
    cases hL : L a with
    | none => rw [h.2.1 a (by omega) ha2 hL] at q; cases q
    | some b => rfl, fun q => by simp only [Bool.and_eq_true] at q; exact q.2, fun q => by
      simp only [Bool.and_eq_true, Bool.not_eq_true'] at q
      rw [q.1] at q; cases q.2.1⟩)
  omega
/-- a matching's size is at most the greatest -/
theorem mt_le {W : Nat → Nat} {L R : Nat → Option Nat} {f S : Nat} (hm : mt W L R) (hs : sub f S L R) (hf : f ≤ 8) : cntT (fun a => (L a).isSome) (8 - f) ≤ szN (Ew W) (8 - f) S := by
  refine sz_match (Ew W) (8 - f) S L (by omega) (fun a b h1 h2 h3 => ?_) (fun a a' b h1 h2 h3 h4 h5 h6 => ?_)
  · obtain ⟨q1, q2, q3⟩ := hm.1 a b h2 h3
    exact ⟨q1, hs.1 a b (by omega) h2 h3, q3⟩
  · have e1 := (hm.1 a b h2 h5).2.1
    have e2 := (hm.1 a' b h4 h6).2.1
    rw [e1] at e2
    exact Option.some.inj e2
/-- a graph without one left person -/
def eOut (E : Nat → Nat → Bool) (k : Nat) : Nat → Nat → Bool := fun a b => !decide (a = k) && E a b
theorem all_out {W : Nat → Nat} {L R : Nat → Option Nat} {rl : Nat} {Sn : Nat → Bool} {sl t : Nat → Nat} (hm : mt W L R) (h : closed W L R 0 255 rl Sn) (hc : ch W L 0 255 Sn sl t) {k : Nat} (hk : k < 8) : rl.testBit k = decide (szN (eOut (Ew W) k) 8 255 = szN (Ew W) 8 255) := by
  have h255 : ∀ b, b < 8 → (255 : Nat).testBit b = true := by decide
  have hsub : sub 0 255 L R := ⟨fun a b _ ha e => h255 b (hm.1 a b ha e).1, fun _ _ _ _ _ => Nat.zero_le _⟩
  have hK : szN (Ew W) 8 255 = cntT (fun a => (L a).isSome) 8 := Nat.le_antisymm (closed_max hm h (by omega)) (mt_le hm hsub (by omega))
  have hle : szN (eOut (Ew W) k) 8 255 ≤ cntT (fun a => !rl.testBit a && !decide (a = k)) 8 + cntT (fun a => rl.testBit a && (L a).isSome) 8 := by
    have h1 := sz_cover (eOut (Ew W) k) (fun a => !rl.testBit a && !decide (a = k)) Sn 8 255 (by omega) (fun a b ha ha2 hb hS hE => by
      simp only [eOut, Bool.and_eq_true] at hE
      by_cases q : rl.testBit a = true
      · exact Or.inr (h.2.2.1 a b ha2 q hb hS hE.2)
      · exact Or.inl (by simp only [Bool.and_eq_true]; exact ⟨by simp [q], hE.1⟩))
    have h2 : cnt (fun b => (255 : Nat).testBit b && Sn b) 8 ≤ cnt Sn 8 := cnt_mono 8 (fun k _ hk => by simp only [Bool.and_eq_true] at hk; exact hk.2)
    have h3 : cntT (fun a => !rl.testBit a && !decide (a = k)) 8 + cnt Sn 8 ≤ cntT (fun a => !rl.testBit a && !decide (a = k)) 8 + cntT (fun a => rl.testBit a && (L a).isSome) 8 := closed_le hm h (by omega) (fun a => !rl.testBit a && !decide (a = k)) (fun a _ _ ha => by simp only [Bool.and_eq_true] at ha; simpa using ha.1)
    omega
  have hadd : cntT (fun a => !rl.testBit a) 8 + cntT (fun a => rl.testBit a && (L a).isSome) 8 ≤ cntT (fun a => (L a).isSome) 8 :=
    cntT_add (fun a => !rl.testBit a) (fun a => rl.testBit a && (L a).isSome) (fun a => (L a).isSome) 8 (by omega) (fun a ha ha2 => ⟨fun q => by
      cases hL : L a with
      | none => rw [h.2.1 a (by omega) ha2 hL] at q; cases q
      | some b => rfl, fun q => by simp only [Bool.and_eq_true] at q; exact q.2, fun q => by
        simp only [Bool.and_eq_true, Bool.not_eq_true'] at q
        rw [q.1] at q; cases q.2.1⟩)
  have c0 : ∀ p : Nat → Bool, cntT p 8 = cnt p 8 := fun p => cntT_cnt p 8 (by omega)
  have hmono : cntT (fun a => !rl.testBit a && !decide (a = k)) 8 ≤ cntT (fun a => !rl.testBit a) 8 := by
    rw [c0, c0]
    exact cnt_mono 8 (fun a _ q => by simp only [Bool.and_eq_true] at q; exact q.1)
  by_cases hr : rl.testBit k = true
  · rw [hr]
    refine (decide_eq_true (Nat.le_antisymm (by omega) ?_)).symm
    -- a matching as great without k
    have hex : ∃ (L2 R2 : Nat → Option Nat), mt W L2 R2 ∧ L2 k = none ∧ cntT (fun a => (L2 a).isSome) 8 = cntT (fun a => (L a).isSome) 8 := by
      cases hL : L k with
      | none => exact ⟨L, R, hm, hL, rfl⟩
      | some b =>
        have hS := h.2.2.2.2 k b hk hr hL
        obtain ⟨k1, k2, k3⟩ := hm.1 k b hk hL
        have ha : alm W L Sn sl t (oset L k none) R b := by
          refine ⟨hS, ?_, ?_, ?_⟩
          · intro a b' ha e
            have hne : a ≠ k := fun z => by rw [z, oset_eq] at e; cases e
            rw [oset_ne hne] at e
            obtain ⟨a1, a2, a3⟩ := hm.1 a b' ha e
            refine ⟨a1, fun z => ?_, a2, a3⟩
            rw [z, k2] at a2
            exact hne (Option.some.inj a2).symm
          · intro b' a hb' hne e
            obtain ⟨a1, a2⟩ := hm.2 b' a hb' e
            refine ⟨a1, ?_⟩
            rw [oset_ne (fun z => by rw [z, hL] at a2; exact hne (Option.some.inj a2).symm)]
            exact a2
          · intro b2 hs2 ht
            rw [oset_ne (fun z => ?_)]
            obtain ⟨-, -, -, -, -, -, ho2⟩ := hc b2 hs2
            rw [z, hL] at ho2
            rcases ho2 with e | ⟨b', e, e2, e3⟩
            · cases e
            · cases e; omega
        obtain ⟨L2, R2, a0, q1, q2, q3, q4⟩ := alm_all hc (t b + 1) b _ _ (by omega) ha
        have hne : k ≠ a0 := fun z => by rw [← z, hL] at q3; cases q3
        refine ⟨L2, R2, q1, ?_, ?_⟩
        · have := q4 k
          rw [oset_eq, decide_eq_false hne] at this
          cases hq : L2 k with
          | none => rfl
          | some z => rw [hq] at this; cases this
        · rw [c0, c0]
          have e1 := cnt_out (fun a => (L2 a).isSome) (j := a0) (by rw [q4 a0, decide_eq_true rfl]; simp) 8 q2
          have e2 := cnt_out (fun a => (L a).isSome) (j := k) (by rw [hL]; rfl) 8 hk
          have e3 : cnt (fun a => (L2 a).isSome && !decide (a0 = a)) 8 = cnt (fun a => (L a).isSome && !decide (k = a)) 8 := cnt_cong 8 (fun a ha => by
            rw [q4 a]
            by_cases z : a = a0
            · subst z
              rw [q3]; simp
            · by_cases z2 : a = k
              · subst z2
                rw [oset_eq]; simp [z]
              · rw [oset_ne z2]
                simp [z, Ne.symm z, Ne.symm z2, fun h : a0 = a => z h.symm, fun h : k = a => z2 h.symm])
          omega
    obtain ⟨L2, R2, m1, m2, m3⟩ := hex
    rw [hK, ← m3]
    refine sz_match (eOut (Ew W) k) 8 255 L2 (by omega) (fun a b _ ha e => ?_) (fun a a' b _ h2 _ h4 h5 h6 => ?_)
    · obtain ⟨q1, q2, q3⟩ := m1.1 a b ha e
      refine ⟨q1, h255 b q1, ?_⟩
      have : ¬ a = k := fun z => by rw [z, m2] at e; cases e
      simp only [eOut, decide_eq_false this, Bool.not_false, Bool.true_and]
      exact q3
    · have e1 := (m1.1 a b h2 h5).2.1
      have e2 := (m1.1 a' b h4 h6).2.1
      rw [e1] at e2
      exact Option.some.inj e2
  · have hr' : rl.testBit k = false := Bool.eq_false_iff.mpr hr
    rw [hr']
    refine (decide_eq_false (fun e => ?_)).symm
    have e1 := cnt_out (fun a => !rl.testBit a) (j := k) (by rw [hr']; rfl) 8 hk
    have e2 : cnt (fun a => !rl.testBit a && !decide (k = a)) 8 = cnt (fun a => !rl.testBit a && !decide (a = k)) 8 := cnt_cong 8 (fun a _ => by
      by_cases z : a = k
      · subst z; rfl
      · rw [decide_eq_false z, decide_eq_false (fun h => z h.symm)])
    rw [← c0, ← c0] at e1
    rw [← c0, ← c0] at e2
    omega
