/-! the hindered ones have fewer people to meet than they are -/
theorem ch_free {W : Nat → Nat} {L R : Nat → Option Nat} {rl : Nat} {Sn : Nat → Bool} {sl t : Nat → Nat} (hc : closed W L R 0 255 rl Sn) (h : ch W L 0 255 Sn sl t) : ∀ n b, t b < n → Sn b = true → ∃ a, a < 8 ∧ rl.testBit a = true ∧ L a = none ∧ W a ≠ 0
  | 0, b, hn, _ => absurd hn (Nat.not_lt_zero _)
  | n + 1, b, hn, hs => by
    obtain ⟨h1, h2, h3, h4, h5, h6, h7⟩ := h b hs
    rcases h7 with h7 | ⟨b', e, hs', ht⟩
    · exact ⟨sl b, h4, hc.2.1 _ h3 h4 h7, h7, fun z => by rw [z, Nat.zero_testBit] at h5; cases h5⟩
    · exact ch_free hc h n b' (by omega) hs'
def hwD (W : Nat → Nat) (rl a : Nat) : Bool := rl.testBit a && decide (W a ≠ 0)
def hwN (W : Nat → Nat) (Df : Nat → Bool) (b : Nat) : Bool := decide (cnt (fun a => Df a && (W a).testBit b) 8 ≠ 0)
theorem cnt_pos {p : Nat → Bool} {j n : Nat} (hj : p j = true) (hn : j < n) : cnt p n ≠ 0 := fun z => by
  have := cnt_none p n z j hn
  rw [hj] at this
  cases this
theorem cnt_ex (p : Nat → Bool) : ∀ n, cnt p n ≠ 0 → ∃ j, j < n ∧ p j = true
  | 0, h => absurd rfl h
  | n + 1, h => by
    by_cases q : p n = true
    · exact ⟨n, Nat.lt_succ_self n, q⟩
    · obtain ⟨j, h1, h2⟩ := cnt_ex p n (fun z => h (by rw [cnt, if_neg q, z]))
      exact ⟨j, by omega, h2⟩
theorem cnt_strict {p q : Nat → Bool} {j n : Nat} (h : ∀ k, k < n → p k = true → q k = true) (hj : j < n) (h1 : q j = true) (h2 : p j = false) : cnt p n < cnt q n := by
  have h3 := cnt_out q h1 n hj
  have h4 : cnt p n ≤ cnt (fun k => q k && !decide (j = k)) n := cnt_mono n (fun k hk hp => by
    have hne : ¬ j = k := fun e => by subst e; rw [h2] at hp; cases hp
    rw [h k hk hp, decide_eq_false hne]; rfl)
  omega
theorem hw_bit {W : Nat → Nat} {L R : Nat → Option Nat} (hm : mt W L R) {a b : Nat} (ha : a < 8) (h : L a = some b) : W a ≠ 0 := fun z => by
  have := (hm.1 a b ha h).2.2
  rw [z, Nat.zero_testBit] at this
  cases this
theorem hw_free {W : Nat → Nat} {L R : Nat → Option Nat} {rl : Nat} {Sn : Nat → Bool} {sl t : Nat → Nat} (hW : ∀ a, a < 8 → W a < 256) (hc : closed W L R 0 255 rl Sn) (h : ch W L 0 255 Sn sl t) {a0 : Nat} (h0 : a0 < 8) (hd : hwD W rl a0 = true) : ∃ a, a < 8 ∧ rl.testBit a = true ∧ L a = none ∧ W a ≠ 0 := by
  rw [hwD, Bool.and_eq_true, decide_eq_true_eq] at hd
  obtain ⟨b, hb, hbit⟩ := bit_ex (hW a0 h0) hd.2
  exact ch_free hc h (t b + 1) b (Nat.lt_succ_self _) (hc.2.2.1 a0 b h0 hd.1 hb (b255 b hb) hbit)
theorem hw_lt {W : Nat → Nat} {L R : Nat → Option Nat} {rl : Nat} {Sn : Nat → Bool} {sl t : Nat → Nat} (hW : ∀ a, a < 8 → W a < 256) (hm : mt W L R) (hc : closed W L R 0 255 rl Sn) (h : ch W L 0 255 Sn sl t) {a0 : Nat} (h0 : a0 < 8) (hd : hwD W rl a0 = true) : cnt (hwN W (hwD W rl)) 8 < cnt (hwD W rl) 8 := by
  obtain ⟨a1, g1, g2, g3, g4⟩ := hw_free hW hc h h0 hd
  have hN : cnt (hwN W (hwD W rl)) 8 ≤ cnt Sn 8 := cnt_mono 8 (fun b hb hn => by
    rw [hwN, decide_eq_true_eq] at hn
    obtain ⟨a, ha, hp⟩ := cnt_ex _ 8 hn
    simp only [hwD, Bool.and_eq_true] at hp
    exact hc.2.2.1 a b ha hp.1.1 hb (b255 b hb) hp.2)
  have hS := cnt_inj (fun a => hwD W rl a && (L a).isSome) L 8 Sn (Nat.le_refl _) (fun b hb hq => by
    obtain ⟨a, q1, q2⟩ := hc.2.2.2.1 b hq
    obtain ⟨q3, q4⟩ := hm.2 b a hb q1
    refine ⟨a, Nat.zero_le _, q3, ?_, q4⟩
    show (hwD W rl a && (L a).isSome) = true
    rw [hwD, q2, decide_eq_true (hw_bit hm q3 q4), q4]
    rfl)
  rw [cntT8] at hS
  have hlt : cnt (fun a => hwD W rl a && (L a).isSome) 8 < cnt (hwD W rl) 8 := cnt_strict (j := a1) (fun k _ hk => by simp only [Bool.and_eq_true] at hk; exact hk.1) g1 (by rw [hwD, g2, decide_eq_true g4]; rfl) (by show (hwD W rl a1 && (L a1).isSome) = false; rw [g3, Bool.and_comm]; rfl)
  omega
theorem hw_none {W : Nat → Nat} {L R : Nat → Option Nat} {rl : Nat} {Sn : Nat → Bool} (hm : mt W L R) (hc : closed W L R 0 255 rl Sn) (h : ∀ a, a < 8 → hwD W rl a = false) : cnt (fun a => decide (W a ≠ 0)) 8 = cnt (fun a => (L a).isSome) 8 := cnt_cong 8 (fun a ha => by
  cases hL : L a with
  | some b => rw [decide_eq_true (hw_bit hm ha hL)]; rfl
  | none =>
    have h1 := h a ha
    rw [hwD, hc.2.1 a (Nat.zero_le _) ha hL, Bool.true_and] at h1
    rw [h1]; rfl)
theorem hw_less {W : Nat → Nat} {L R : Nat → Option Nat} {rl : Nat} {Sn : Nat → Bool} {sl t : Nat → Nat} (hW : ∀ a, a < 8 → W a < 256) (hm : mt W L R) (hc : closed W L R 0 255 rl Sn) (h : ch W L 0 255 Sn sl t) {a0 : Nat} (h0 : a0 < 8) (hd : hwD W rl a0 = true) : cnt (fun a => (L a).isSome) 8 < cnt (fun a => decide (W a ≠ 0)) 8 := by
  obtain ⟨a1, g1, g2, g3, g4⟩ := hw_free hW hc h h0 hd
  refine cnt_strict (j := a1) (fun k hk hs => ?_) g1 (decide_eq_true g4) (by rw [g3]; rfl)
  cases hL : L k with
  | some b => exact decide_eq_true (hw_bit hm hk hL)
  | none => rw [hL] at hs; cases hs
theorem hw_sz {W : Nat → Nat} {L R : Nat → Option Nat} {rl : Nat} {Sn : Nat → Bool} (hm : mt W L R) (hc : closed W L R 0 255 rl Sn) : szN (Ew W) 8 255 = cnt (fun a => (L a).isSome) 8 := by
  rw [← cntT8]
  exact Nat.le_antisymm (closed_max hm hc (Nat.zero_le _)) (mt_le hm (sub_all hm) (Nat.zero_le _))
/-- what hindered tells, of a graph of rows -/
def hnW (W : Nat → Nat) (a : Nat) : Bool := decide (szN (eOut (Ew W) a) 8 255 = szN (Ew W) 8 255) && decide (W a ≠ 0)
theorem hw_main {W : Nat → Nat} (hW : ∀ a, a < 8 → W a < 256) (h : HW W) : ((∃ a, a < 8 ∧ hnW W a = true) → cnt (hwN W (hnW W)) 8 < cnt (hnW W) 8 ∧ szN (Ew W) 8 255 < cnt (fun a => decide (W a ≠ 0)) 8) ∧ ((∀ a, a < 8 → hnW W a = false) → szN (Ew W) 8 255 = cnt (fun a => decide (W a ≠ 0)) 8) := by
  obtain ⟨L, R, rl, Sn, sl, t, hm, hc, hch⟩ := h
  have e : ∀ a, a < 8 → hwD W rl a = hnW W a := fun a ha => by rw [hwD, hnW, all_out hm hc hch ha]
  have e1 : cnt (hwD W rl) 8 = cnt (hnW W) 8 := cnt_cong 8 e
  have e2 : cnt (hwN W (hwD W rl)) 8 = cnt (hwN W (hnW W)) 8 := cnt_cong 8 (fun b _ => by
    rw [hwN, hwN, cnt_cong (p := fun a => hwD W rl a && (W a).testBit b) (q := fun a => hnW W a && (W a).testBit b) 8 (fun a ha => by rw [e a ha])])
  rw [hw_sz hm hc]
  refine ⟨fun ⟨a, ha, hd⟩ => ?_, fun hn => ?_⟩
  · rw [← e a ha] at hd
    rw [← e1, ← e2]
    exact ⟨hw_lt hW hm hc hch ha hd, hw_less hW hm hc hch ha hd⟩
  · exact (hw_none hm hc (fun a ha => by rw [e a ha]; exact hn a ha)).symm
/-! counts and sums of what one object answers -/
theorem bstF_att (q : Nat → Bool) (f : Nat → Nat) (b0 : Nat) : ∀ n, bstF q f b0 n = b0 ∨ ∃ j, j < n ∧ q j = true ∧ f j = bstF q f b0 n
  | 0 => Or.inl rfl
  | n + 1 => by
    simp only [bstF]
    by_cases h : q n = true
    · rw [if_pos h]
      rcases Nat.le_total (bstF q f b0 n) (f n) with h1 | h1
      · rw [Nat.max_eq_right h1]; exact Or.inr ⟨n, by omega, h, rfl⟩
      · rw [Nat.max_eq_left h1]
        rcases bstF_att q f b0 n with h2 | ⟨j, h3, h4, h5⟩
        · exact Or.inl h2
        · exact Or.inr ⟨j, by omega, h4, h5⟩
    · rw [if_neg h]
      rcases bstF_att q f b0 n with h2 | ⟨j, h3, h4, h5⟩
      · exact Or.inl h2
      · exact Or.inr ⟨j, by omega, h4, h5⟩
theorem sp_cntT (E : Nat → Nat → Bool) : ∀ n, n ≤ 8 → szN E n (stS E (8 - n)) = cntT (fun x => (spE E x).isSome) n
  | 0, _ => rfl
  | n + 1, hn => by
    have ih := sp_cntT E n (by omega)
    have e8 : 8 - (n + 1) = 7 - n := by omega
    have e7 : 7 - n + 1 = 8 - n := by omega
    rw [e8]
    show szN E (n + 1) (stS E (7 - n)) = cntT (fun x => (spE E x).isSome) n + if (spE E (7 - n)).isSome then 1 else 0
    cases h : spE E (7 - n) with
    | some j =>
      have h4 := (spE_some h).2.2.2
      rw [show 7 - (7 - n) = n by omega, show 8 - (7 - n) = n + 1 by omega] at h4
      have hst := st_some h
      rw [e7] at hst
      rw [← h4, ← ih, hst, Nat.add_comm]
      rfl
    | none =>
      have hst := st_none h
      rw [e7] at hst
      rw [hst] at ih
      have hno := (fstU_none _ 8).mp (show fstU _ 8 = none from h)
      rcases bstF_att (fun j => E (7 - n) j && (stS E (7 - n)).testBit j) (fun j => 1 + szN E n (clr (stS E (7 - n)) j)) (szN E n (stS E (7 - n))) 8 with h2 | ⟨j, h3, h4, h5⟩
      · show szN E (n + 1) (stS E (7 - n)) = cntT (fun x => (spE E x).isSome) n + 0
        rw [← ih]
        exact h2
      · have h6 := hno j h3
        rw [show 7 - (7 - n) = n by omega, show 8 - (7 - n) = n + 1 by omega] at h6
        rw [Bool.and_eq_false_iff] at h6
        rcases h6 with h6 | h6
        · rw [h4] at h6; cases h6
        · exact absurd h5 (of_decide_eq_false h6)
theorem sp_cnt (E : Nat → Nat → Bool) : cnt (fun x => (spE E x).isSome) 8 = szN E 8 255 := by
  rw [← cntT8]
  exact (sp_cntT E 8 (Nat.le_refl _)).symm
theorem i4 (a b c d : Int32) : (a + b) + (c + d) = (a + c) + (b + d) := by
  rw [Int32.add_assoc, Int32.add_assoc, ← Int32.add_assoc b, ← Int32.add_assoc c, Int32.add_comm b c]
theorem sI_plus (f g : Nat → Int32) : ∀ n, sI (fun k => f k + g k) n = sI f n + sI g n
  | 0 => rfl
  | n + 1 => by
    show sI (fun k => f k + g k) n + (f n + g n) = (sI f n + f n) + (sI g n + g n)
    rw [sI_plus f g n, i4]
theorem sI_zero : ∀ n, sI (fun _ => 0) n = 0
  | 0 => rfl
  | n + 1 => by
    show sI (fun _ => 0) n + 0 = 0
    rw [sI_zero n]; rfl
theorem sI_swap (f : Nat → Nat → Int32) (m : Nat) : ∀ n, sI (fun a => sI (f a) m) n = sI (fun b => sI (fun a => f a b) n) m
  | 0 => (sI_zero m).symm
  | n + 1 => by
    show sI (fun a => sI (f a) m) n + sI (f n) m = sI (fun b => sI (fun a => f a b) n + f n b) m
    rw [sI_swap f m n, sI_plus]
/-- the set of those whom the marked ones could meet, gathered in the order of the wishes -/
def nrF (P : Nat → Bool) : Nat → Nat
  | 0 => 0
  | k + 1 => if P k then nrF P k ||| (1 <<< (k % 8)) else nrF P k
theorem nrF_bit (P : Nat → Bool) (b : Nat) : ∀ n, (nrF P n).testBit b = true ↔ ∃ k, k < n ∧ k % 8 = b ∧ P k = true
  | 0 => by
    rw [nrF, Nat.zero_testBit]
    exact ⟨fun h => (by cases h), fun ⟨k, h, _⟩ => absurd h (Nat.not_lt_zero _)⟩
  | n + 1 => by
    have ih := nrF_bit P b n
    have split : (∃ k, k < n + 1 ∧ k % 8 = b ∧ P k = true) ↔ ((∃ k, k < n ∧ k % 8 = b ∧ P k = true) ∨ (n % 8 = b ∧ P n = true)) := by
      constructor
      · rintro ⟨k, h1, h2, h3⟩
        by_cases e : k = n
        · subst e; exact Or.inr ⟨h2, h3⟩
        · exact Or.inl ⟨k, by omega, h2, h3⟩
      · rintro (⟨k, h1, h2, h3⟩ | ⟨h2, h3⟩)
        · exact ⟨k, by omega, h2, h3⟩
        · exact ⟨n, by omega, h2, h3⟩
    rw [split]
    simp only [nrF]
    by_cases h : P n = true
    · rw [if_pos h, or_bit, Bool.or_eq_true, ih, decide_eq_true_eq]
      exact ⟨fun q => q.elim Or.inl (fun e => Or.inr ⟨e, h⟩), fun q => q.elim Or.inl (fun e => Or.inr e.1)⟩
    · rw [if_neg h, ih]
      exact ⟨Or.inl, fun q => q.elim id (fun e => absurd e.2 h)⟩
theorem nrF_lt (P : Nat → Bool) : ∀ n, nrF P n < 256
  | 0 => by show 0 < 256; decide
  | n + 1 => by
    have ih := nrF_lt P n
    simp only [nrF]
    split
    · exact Nat.or_lt_two_pow (n := 8) ih (by
        have : n % 8 = 0 ∨ n % 8 = 1 ∨ n % 8 = 2 ∨ n % 8 = 3 ∨ n % 8 = 4 ∨ n % 8 = 5 ∨ n % 8 = 6 ∨ n % 8 = 7 := by omega
        rcases this with h | h | h | h | h | h | h | h <;> rw [h] <;> decide)
    · exact ih
/-- the right people that have been taken -/
def tkF (E : Nat → Nat → Bool) : Nat → Nat
  | 0 => 0
  | k + 1 => match spE E k with
    | none => tkF E k
    | some r => tkF E k ||| (1 <<< r)
theorem tkF_bit (E : Nat → Nat → Bool) (b : Nat) : ∀ n, (tkF E n).testBit b = true → ∃ k, k < n ∧ spE E k = some b
  | 0, h => by rw [tkF, Nat.zero_testBit] at h; cases h
  | n + 1, h => by
    simp only [tkF] at h
    cases e : spE E n with
    | none =>
      rw [e] at h
      obtain ⟨k, h1, h2⟩ := tkF_bit E b n h
      exact ⟨k, by omega, h2⟩
    | some r =>
      rw [e] at h
      have h0 : (tkF E n ||| (1 <<< r)).testBit b = true := h
      rw [or_bit, Bool.or_eq_true, decide_eq_true_eq] at h0
      rcases h0 with h0 | h0
      · obtain ⟨k, h1, h2⟩ := tkF_bit E b n h0
        exact ⟨k, by omega, h2⟩
      · subst h0; exact ⟨n, by omega, e⟩
theorem tkF_no (E : Nat → Nat → Bool) {n r : Nat} (h : spE E n = some r) : (tkF E n).testBit r = false := by
  cases q : (tkF E n).testBit r with
  | false => rfl
  | true =>
    obtain ⟨k, h1, h2⟩ := tkF_bit E r n q
    exact absurd (sp_inj h2 h h1) id
/-- bits of a set, one taken out a turn -/
theorem ones_step : ∀ x, x < 256 → x ≠ 0 → cnt (fun k => (x &&& (x - 1)).testBit k) 8 + 1 = cnt (fun k => x.testBit k) 8 := by decide +kernel
theorem ones_zero : cnt (fun k => (0 : Nat).testBit k) 8 = 0 := by decide +kernel
