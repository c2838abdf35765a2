/-! the two starts -/
def cI0 : Nat → Int32 := fun k => if k < 8 then nI (k / 2) else if k < 16 then nI ((k - 8) / 2) else if k = 152 then nI 33825 else nI 0
def sI0 : Nat → Int32 := fun k => if k = 0 then nI 0 else if k < 9 then nI ((k - 1) / 2) else if k < 17 then nI ((k - 9) / 2) else if k = 17 ∨ k = 22 ∨ k = 27 ∨ k = 32 then nI 1 else nI 0
theorem st_ok : cOK cI0 := ⟨by decide +kernel, by decide +kernel, by decide +kernel, by decide +kernel⟩
theorem st_l : ∀ a, a < 4 → ∀ b, b < 4 → sI0 (17 + 4 * a + b) = bI (lkC cI0 a b) := by decide +kernel
theorem st_w : ∀ a, a < 8 → ∀ b, b < 8 → sI0 (97 + 8 * a + b) = bI (wiC cI0 a b) := by decide +kernel
theorem st_g : ∀ k, k < 16 → sI0 (1 + k) = cI0 k := by decide +kernel
theorem st_f : ∀ k, k < 64 → sI0 (33 + k) = cI0 (24 + k) := by decide +kernel
theorem st_t : ∀ k, k < 64 → sI0 (161 + k) = cI0 (88 + k) := by decide +kernel
theorem SR_0 : SR cI0 sI0 := ⟨st_ok, st_g, fun a b ha hb => st_l a ha b hb, st_f, fun a b ha hb => st_w a ha b hb, st_t, rfl⟩
theorem HR_0 {r sts : Nat → Int32} {od : Nat} : HR r sts od 0 := fun k hk => absurd hk (Nat.not_lt_zero _)
/-- the loops of the constructors -/
def gaF (c : Nat → Int32) (o i : Nat) : Nat → Int32 := fun k => if o ≤ k ∧ k < o + i then nI ((k - o) / 2) else c k
theorem gaF_0 (c : Nat → Int32) (o : Nat) : gaF c o 0 = c := by funext k; exact if_neg (fun h => by omega)
theorem gaF_t {c : Nat → Int32} {o i k : Nat} (h : o ≤ k ∧ k < o + i) : gaF c o i k = nI ((k - o) / 2) := if_pos h
theorem gaF_n {c : Nat → Int32} {o i k : Nat} (h : ¬ (o ≤ k ∧ k < o + i)) : gaF c o i k = c k := if_neg h
theorem gaF_s (c : Nat → Int32) (o i : Nat) : upd (gaF c o i) (o + i) (nI (i / 2)) = gaF c o (i + 1) := by
  funext k
  by_cases h : k = o + i
  · subst h
    rw [upd_eq, gaF, if_pos ⟨by omega, by omega⟩, show o + i - o = i by omega]
  · rw [upd_ne h, gaF, gaF]
    by_cases h2 : o ≤ k ∧ k < o + i
    · rw [if_pos h2, if_pos ⟨h2.1, by omega⟩]
    · rw [if_neg h2, if_neg (fun q => h2 ⟨q.1, by omega⟩)]
/-- both rows of gates in one turn: first at 0 (or 1), then at 8 (or 9) -/
theorem gaF_2 (c : Nat → Int32) {o i : Nat} (hi : i < 8) : upd (upd (gaF (gaF c o i) (o + 8) i) (o + i) (nI (i / 2))) (o + 8 + i) (nI (i / 2)) = gaF (gaF c o (i + 1)) (o + 8) (i + 1) := by
  have e : upd (gaF (gaF c o i) (o + 8) i) (o + i) (nI (i / 2)) = gaF (gaF c o (i + 1)) (o + 8) i := by
    rw [← gaF_s c o i]
    funext k
    by_cases h : k = o + i
    · subst h
      rw [upd_eq, gaF_n (fun q => by omega), upd_eq]
    · rw [upd_ne h]
      by_cases h2 : o + 8 ≤ k ∧ k < o + 8 + i
      · rw [gaF_t h2, gaF_t h2]
      · rw [gaF_n h2, gaF_n h2, upd_ne h]
  rw [e, gaF_s]
