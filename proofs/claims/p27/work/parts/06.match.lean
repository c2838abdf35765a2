/-! pure: greatest matchings of eight left and eight right people -/
def clr (S j : Nat) : Nat := g_nand S (1 <<< j)
theorem bit_one (j i : Nat) : ((1 : Nat) <<< j).testBit i = decide (j = i) := by rw [Nat.shiftLeft_eq, Nat.one_mul, Nat.testBit_two_pow]
theorem clr_bit {S j i : Nat} (hi : i < 32) : (clr S j).testBit i = (S.testBit i && !decide (j = i)) := by rw [clr, g_nand_bit _ _ _ hi, bit_one]
theorem clr_lt {S j : Nat} (h : S < 256) : clr S j < 256 := Nat.lt_of_le_of_lt Nat.and_le_left h
def bstF (q : Nat → Bool) (f : Nat → Nat) (b0 : Nat) : Nat → Nat
  | 0 => b0
  | j + 1 => if q j then max (bstF q f b0 j) (f j) else bstF q f b0 j
theorem bstF_b0 (q : Nat → Bool) (f : Nat → Nat) (b0 : Nat) : ∀ n, b0 ≤ bstF q f b0 n
  | 0 => Nat.le_refl _
  | n + 1 => by
    have h := bstF_b0 q f b0 n
    simp only [bstF]
    split <;> omega
theorem bstF_ge (q : Nat → Bool) (f : Nat → Nat) (b0 : Nat) : ∀ n j, j < n → q j = true → f j ≤ bstF q f b0 n
  | 0, j, h, _ => absurd h (Nat.not_lt_zero _)
  | n + 1, j, h, hq => by
    simp only [bstF]
    by_cases e : j = n
    · subst e; rw [if_pos hq]; omega
    · have := bstF_ge q f b0 n j (by omega) hq
      split <;> omega
theorem bstF_le (q : Nat → Bool) (f : Nat → Nat) (b0 K : Nat) (h0 : b0 ≤ K) : ∀ n, (∀ j, j < n → q j = true → f j ≤ K) → bstF q f b0 n ≤ K
  | 0, _ => h0
  | n + 1, h => by
    have h1 := bstF_le q f b0 K h0 n (fun j hj => h j (by omega))
    simp only [bstF]
    split
    · next hq =>
      have := h n (by omega) hq
      omega
    · exact h1
theorem bstF_cong {q q' : Nat → Bool} {f f' : Nat → Nat} {b0 : Nat} : ∀ n, (∀ j, j < n → q j = q' j) → (∀ j, j < n → q j = true → f j = f' j) → bstF q f b0 n = bstF q' f' b0 n
  | 0, _, _ => rfl
  | n + 1, h1, h2 => by
    simp only [bstF]
    rw [bstF_cong n (fun j hj => h1 j (by omega)) (fun j hj => h2 j (by omega)), ← h1 n (by omega)]
    by_cases hq : q n = true
    · rw [if_pos hq, if_pos hq, h2 n (by omega) hq]
    · rw [if_neg hq, if_neg hq]
/-- the size of a greatest matching of the last n left people with right people of a set -/
def szN (E : Nat → Nat → Bool) : Nat → Nat → Nat
  | 0, _ => 0
  | n + 1, S => bstF (fun j => E (7 - n) j && S.testBit j) (fun j => 1 + szN E n (clr S j)) (szN E n S) 8
def cntT (p : Nat → Bool) : Nat → Nat
  | 0 => 0
  | n + 1 => cntT p n + if p (7 - n) then 1 else 0
def cnt (p : Nat → Bool) : Nat → Nat
  | 0 => 0
  | n + 1 => cnt p n + if p n then 1 else 0
theorem cntT_cong {p q : Nat → Bool} : ∀ n, n ≤ 8 → (∀ k, 8 - n ≤ k → k < 8 → p k = q k) → cntT p n = cntT q n
  | 0, _, _ => rfl
  | n + 1, hn, h => by
    simp only [cntT]
    rw [cntT_cong n (by omega) (fun k h1 h2 => h k (by omega) h2), h (7 - n) (by omega) (by omega)]
theorem cnt_cong {p q : Nat → Bool} : ∀ n, (∀ k, k < n → p k = q k) → cnt p n = cnt q n
  | 0, _ => rfl
  | n + 1, h => by
    simp only [cnt]
    rw [cnt_cong n (fun k h1 => h k (by omega)), h n (by omega)]
theorem cnt_le (p : Nat → Bool) : ∀ n, cnt p n ≤ n
  | 0 => Nat.le_refl _
  | n + 1 => by
    have := cnt_le p n
    simp only [cnt]
    split <;> omega
theorem cnt_mono {p q : Nat → Bool} : ∀ n, (∀ k, k < n → p k = true → q k = true) → cnt p n ≤ cnt q n
  | 0, _ => Nat.le_refl _
  | n + 1, h => by
    have h1 := cnt_mono n (fun k hk => h k (by omega))
    simp only [cnt]
    by_cases hp : p n = true
    · rw [if_pos hp, if_pos (h n (by omega) hp)]; omega
    · rw [if_neg hp]; split <;> omega
/-- taking one out -/
theorem cnt_out (p : Nat → Bool) {j : Nat} (hj : p j = true) : ∀ n, j < n → cnt (fun k => p k && !decide (j = k)) n + 1 = cnt p n
  | 0, h => absurd h (Nat.not_lt_zero _)
  | n + 1, h => by
    simp only [cnt]
    by_cases e : j = n
    · subst e
      have : cnt (fun k => p k && !decide (j = k)) j = cnt p j := cnt_cong j (fun k hk => by rw [decide_eq_false (by omega)]; simp)
      rw [if_neg (show ¬ ((p j && !decide (j = j)) = true) by simp), if_pos hj, this]
    · have := cnt_out p hj n (by omega)
      have e2 : (if (p n && !decide (j = n)) = true then 1 else 0) = (if p n = true then 1 else (0 : Nat)) := by simp [e]
      omega
theorem cnt_none (p : Nat → Bool) : ∀ n, cnt p n = 0 → ∀ k, k < n → p k = false
  | 0, _, k, h => absurd h (Nat.not_lt_zero _)
  | n + 1, h, k, hk => by
    simp only [cnt] at h
    by_cases hp : p n = true
    · rw [if_pos hp] at h; omega
    · by_cases e : k = n
      · subst e; exact Bool.eq_false_iff.mpr hp
      · exact cnt_none p n (by omega) k (by omega)
theorem cnt_full (p : Nat → Bool) : ∀ n, cnt p n = n → ∀ k, k < n → p k = true
  | 0, _, k, h => absurd h (Nat.not_lt_zero _)
  | n + 1, h, k, hk => by
    simp only [cnt] at h
    have h1 := cnt_le p n
    by_cases hp : p n = true
    · rw [if_pos hp] at h
      by_cases e : k = n
      · subst e; exact hp
      · exact cnt_full p n (by omega) k (by omega)
    · rw [if_neg hp] at h; omega
theorem cntT_cnt (p : Nat → Bool) : ∀ n, n ≤ 8 → cntT p n + cnt p (8 - n) = cnt p 8
  | 0, _ => by simp [cntT]
  | n + 1, hn => by
    have h := cntT_cnt p n (by omega)
    obtain ⟨m, hm⟩ : ∃ m, 8 - n = m + 1 := ⟨7 - n, by omega⟩
    have h2 : cntT p n + (cnt p m + if p m = true then 1 else 0) = cnt p 8 := by rw [hm] at h; exact h
    show cntT p n + (if p (7 - n) = true then 1 else 0) + cnt p (8 - (n + 1)) = cnt p 8
    rw [show 8 - (n + 1) = m by omega, show 7 - n = m by omega]
    omega
/-- no matching is greater than a cover -/
theorem sz_cover (E : Nat → Nat → Bool) (A B : Nat → Bool) : ∀ n S, n ≤ 8 → (∀ a b, 8 - n ≤ a → a < 8 → b < 8 → S.testBit b = true → E a b = true → A a = true ∨ B b = true) → szN E n S ≤ cntT A n + cnt (fun b => S.testBit b && B b) 8
  | 0, S, _, _ => Nat.zero_le _
  | n + 1, S, hn, hc => by
    have h0 := sz_cover E A B n S (by omega) (fun a b h1 => hc a b (by omega))
    have hA : cntT A n ≤ cntT A (n + 1) := by simp only [cntT]; omega
    simp only [szN]
    refine bstF_le _ _ _ _ (by omega) 8 (fun j hj hq => ?_)
    simp only [Bool.and_eq_true] at hq
    have h1 := sz_cover E A B n (clr S j) (by omega) (fun a b h1 h2 h3 h4 h5 => hc a b (by omega) h2 h3 (by rw [clr_bit (by omega)] at h4; simp only [Bool.and_eq_true] at h4; exact h4.1) h5)
    have e1 : cnt (fun b => (clr S j).testBit b && B b) 8 = cnt (fun b => (S.testBit b && B b) && !decide (j = b)) 8 := cnt_cong 8 (fun k hk => by rw [clr_bit (by omega)]; cases S.testBit k <;> cases B k <;> cases decide (j = k) <;> rfl)
    rcases hc (7 - n) j (by omega) (by omega) hj hq.2 hq.1 with ha | hb
    · have e2 : cntT A (n + 1) = cntT A n + 1 := by simp only [cntT, if_pos ha]
      have e3 : cnt (fun b => (S.testBit b && B b) && !decide (j = b)) 8 ≤ cnt (fun b => S.testBit b && B b) 8 := cnt_mono 8 (fun k _ h => by simp only [Bool.and_eq_true] at h ⊢; exact h.1)
      omega
    · have e3 := cnt_out (fun b => S.testBit b && B b) (j := j) (by simp only [hq.2, hb, Bool.and_self]) 8 hj
      omega
/-- every matching is at most as great -/
theorem sz_match (E : Nat → Nat → Bool) : ∀ n S (M : Nat → Option Nat), n ≤ 8 → (∀ a b, 8 - n ≤ a → a < 8 → M a = some b → b < 8 ∧ S.testBit b = true ∧ E a b = true) → (∀ a a' b, 8 - n ≤ a → a < 8 → 8 - n ≤ a' → a' < 8 → M a = some b → M a' = some b → a = a') → cntT (fun a => (M a).isSome) n ≤ szN E n S
  | 0, S, M, _, _, _ => Nat.zero_le _
  | n + 1, S, M, hn, h1, h2 => by
    simp only [szN, cntT]
    have hcase : M (7 - n) = none ∨ ∃ j, M (7 - n) = some j := by cases M (7 - n) <;> simp
    rcases hcase with hM | ⟨j, hM⟩
    · have := sz_match E n S M (by omega) (fun a b x => h1 a b (by omega)) (fun a a' b x y z => h2 a a' b (by omega) y (by omega))
      have := bstF_b0 (fun j => E (7 - n) j && S.testBit j) (fun j => 1 + szN E n (clr S j)) (szN E n S) 8
      rw [if_neg (by rw [hM]; decide)]
      omega
    · obtain ⟨hj, hS, hE⟩ := h1 (7 - n) j (by omega) (by omega) hM
      have hr := sz_match E n (clr S j) M (by omega) (fun a b x y z => by
        obtain ⟨q1, q2, q3⟩ := h1 a b (by omega) y z
        refine ⟨q1, ?_, q3⟩
        rw [clr_bit (by omega), q2]
        have : ¬ j = b := fun e => by
          subst e
          have := h2 a (7 - n) j (by omega) y (by omega) (by omega) z hM
          omega
        rw [decide_eq_false this]; rfl) (fun a a' b x y z => h2 a a' b (by omega) y (by omega))
      have := bstF_ge (fun j => E (7 - n) j && S.testBit j) (fun j => 1 + szN E n (clr S j)) (szN E n S) 8 j hj (by simp only [hE, hS, Bool.and_self])
      rw [if_pos (by rw [hM]; rfl)]
      omega
theorem szN_cong {E E' : Nat → Nat → Bool} : ∀ n S, n ≤ 8 → (∀ a b, 8 - n ≤ a → a < 8 → b < 8 → E a b = E' a b) → szN E n S = szN E' n S
  | 0, S, _, _ => rfl
  | n + 1, S, hn, h => by
    simp only [szN]
    rw [szN_cong n S (by omega) (fun a b x => h a b (by omega))]
    refine bstF_cong 8 (fun j hj => by rw [h (7 - n) j (by omega) (by omega) hj]) (fun j hj _ => by rw [szN_cong n (clr S j) (by omega) (fun a b x => h a b (by omega))])
theorem szN_le (E : Nat → Nat → Bool) : ∀ n S, n ≤ 8 → szN E n S ≤ n := fun n S hn => by
  have h := sz_cover E (fun _ => true) (fun _ => false) n S hn (fun _ _ _ _ _ _ _ => Or.inl rfl)
  have e1 : ∀ m, m ≤ 8 → cntT (fun _ => true) m = m := by
    intro m
    induction m with
    | zero => intro _; rfl
    | succ m ih => intro h; simp only [cntT, if_true]; rw [ih (by omega)]
  have e2 : cnt (fun b => S.testBit b && false) 8 = 0 := by simp [cnt]
  rw [e1 n hn, e2] at h
  omega
/-- the first that holds -/
def fstU (p : Nat → Bool) : Nat → Option Nat
  | 0 => none
  | n + 1 => match fstU p n with
    | some j => some j
    | none => if p n then some n else none
theorem fstU_none (p : Nat → Bool) : ∀ n, fstU p n = none ↔ ∀ j, j < n → p j = false
  | 0 => ⟨fun _ j h => absurd h (Nat.not_lt_zero _), fun _ => rfl⟩
  | n + 1 => by
    have ih := fstU_none p n
    simp only [fstU]
    cases h : fstU p n with
    | some j =>
      simp only [reduceCtorEq, false_iff]
      intro hh
      rw [ih.mpr (fun j hj => hh j (by omega))] at h
      cases h
    | none =>
      have hn := ih.mp h
      by_cases hp : p n = true
      · dsimp only
        rw [if_pos hp]
        constructor
        · intro e; cases e
        · intro hh
          rw [hh n (by omega)] at hp; cases hp
      · dsimp only
        rw [if_neg hp]
        refine ⟨fun _ => ?_, fun _ => rfl⟩
        intro j hj
        by_cases e : j = n
        · subst e; exact Bool.eq_false_iff.mpr hp
        · exact hn j (by omega)
theorem fstU_some (p : Nat → Bool) : ∀ n j, fstU p n = some j ↔ (j < n ∧ p j = true ∧ ∀ i, i < j → p i = false)
  | 0, j => ⟨fun h => (by cases h), fun h => absurd h.1 (Nat.not_lt_zero _)⟩
  | n + 1, j => by
    have ih := fstU_some p n
    simp only [fstU]
    cases h : fstU p n with
    | some i =>
      obtain ⟨h1, h2, h3⟩ := (ih i).mp h
      constructor
      · intro e
        cases e
        exact ⟨by omega, h2, h3⟩
      · rintro ⟨a, b, c⟩
        have : j = i := by
          rcases Nat.lt_trichotomy i j with q | q | q
          · rw [c i q] at h2; cases h2
          · exact q.symm
          · rw [h3 j q] at b; cases b
        rw [this]
    | none =>
      have hn := (fstU_none p n).mp h
      by_cases hp : p n = true
      · dsimp only
        rw [if_pos hp]
        simp only [Option.some.injEq]
        constructor
        · intro e; subst e; exact ⟨by omega, hp, hn⟩
        · rintro ⟨a, b, c⟩
          by_cases e : j = n
          · exact e.symm
          · rw [hn j (by omega)] at b; cases b
      · dsimp only
        rw [if_neg hp]
        constructor
        · intro e; cases e
        · rintro ⟨a, b, c⟩
          by_cases e : j = n
          · subst e; exact absurd b hp
          · rw [hn j (by omega)] at b; cases b
/-- the partner of a left person in the first greatest matching, when the right people of S are left -/
def spS (E : Nat → Nat → Bool) (a S : Nat) : Option Nat := fstU (fun j => (E a j && S.testBit j) && decide (1 + szN E (7 - a) (clr S j) = szN E (8 - a) S)) 8
def stS (E : Nat → Nat → Bool) : Nat → Nat
  | 0 => 255
  | a + 1 => match spS E a (stS E a) with
    | none => stS E a
    | some j => clr (stS E a) j
def spE (E : Nat → Nat → Bool) (a : Nat) : Option Nat := spS E a (stS E a)
theorem stS_lt (E : Nat → Nat → Bool) : ∀ a, stS E a < 256
  | 0 => by show 255 < 256; decide
  | a + 1 => by
    have := stS_lt E a
    simp only [stS]
    split
    · exact this
    · exact clr_lt this
theorem spE_some {E : Nat → Nat → Bool} {a j : Nat} (h : spE E a = some j) : j < 8 ∧ E a j = true ∧ (stS E a).testBit j = true ∧ 1 + szN E (7 - a) (clr (stS E a) j) = szN E (8 - a) (stS E a) := by
  obtain ⟨h1, h2, -⟩ := (fstU_some _ 8 j).mp h
  simp only [Bool.and_eq_true, decide_eq_true_eq] at h2
  exact ⟨h1, h2.1.1, h2.1.2, h2.2⟩
