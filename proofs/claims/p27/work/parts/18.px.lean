/-! the reference's questions -/
def otC (c : Nat → Int32) (a b : Nat) (w : Int32) : Int32 := if w = nI 1 then bI (wiC c a b) else if w = nI 2 then bI (poC c a b) else if w = nI 3 then bI (decide (0 < feC c a b)) else if w = nI 4 then taC c a b else bI (caC c a b)
def otF (c : Nat → Int32) (q : Bool) (a : Nat) (w : Int32) (o : Nat) : Int32 := if q = true then otC c a o w else otC c o a w
def prF (c : Nat → Int32) (q : Bool) (a : Nat) (w : Int32) (o : Nat) : Int32 := if w = nI 5 then otF c q a w o <<< (nI o &&& 31) else otF c q a w o
theorem otF_t {c : Nat → Int32} {q : Bool} {a o : Nat} {w : Int32} (h : q = true) : otC c a o w = otF c q a w o := (if_pos h).symm
theorem otF_f {c : Nat → Int32} {q : Bool} {a o : Nat} {w : Int32} (h : q = false) : otC c o a w = otF c q a w o := (if_neg (by rw [h]; decide)).symm
theorem ot_am {c : Nat → Int32} {a b k : Nat} (h1 : 1 ≤ k) (h4 : k ≤ 4) : otC c a b (nI k) = amP c a b (nI k) := by
  have n : ∀ i j, i < 6 → j < 6 → i ≠ j → ¬ nI i = nI j := fun i j hi hj h e => h ((nI_eq (by omega) (by omega)).mp e)
  rcases (show k = 1 ∨ k = 2 ∨ k = 3 ∨ k = 4 by omega) with rfl | rfl | rfl | rfl
  · rw [otC, amP, if_pos rfl, if_pos rfl]
  · rw [otC, amP, if_neg (n 2 1 (by decide) (by decide) (by decide)), if_neg (n 2 1 (by decide) (by decide) (by decide)), if_pos rfl, if_pos rfl]
  · rw [otC, amP, if_neg (n 3 1 (by decide) (by decide) (by decide)), if_neg (n 3 1 (by decide) (by decide) (by decide)), if_neg (n 3 2 (by decide) (by decide) (by decide)), if_neg (n 3 2 (by decide) (by decide) (by decide)), if_pos rfl, if_pos rfl]
  · rw [otC, amP, if_neg (n 4 1 (by decide) (by decide) (by decide)), if_neg (n 4 1 (by decide) (by decide) (by decide)), if_neg (n 4 2 (by decide) (by decide) (by decide)), if_neg (n 4 2 (by decide) (by decide) (by decide)), if_neg (n 4 3 (by decide) (by decide) (by decide)), if_neg (n 4 3 (by decide) (by decide) (by decide)), if_pos rfl, if_pos rfl]
theorem ot_ca {c : Nat → Int32} {a b : Nat} : otC c a b (nI 5) = bI (caC c a b) := by
  have n : ∀ i j, i < 6 → j < 6 → i ≠ j → ¬ nI i = nI j := fun i j hi hj h e => h ((nI_eq (by omega) (by omega)).mp e)
  rw [otC, if_neg (n 5 1 (by decide) (by decide) (by decide)), if_neg (n 5 2 (by decide) (by decide) (by decide)), if_neg (n 5 3 (by decide) (by decide) (by decide)), if_neg (n 5 4 (by decide) (by decide) (by decide))]
theorem sI_mask (f : Nat → Bool) : ∀ n, n ≤ 8 → sI (fun o => bI (f o) <<< (nI o &&& 31)) n = nI (pmask f n)
  | 0, _ => rfl
  | n + 1, hn => by
    show sI _ n + bI (f n) <<< (nI n &&& 31) = _
    rw [sI_mask f n (by omega)]
    cases h : f n with
    | true =>
      rw [← pmask_s1 h, bI_t, show (1 : Int32) = nI 1 from rfl, g_shl 1 (by omega), nI_add]
      refine congrArg nI ?_
      have := Nat.two_pow_add_eq_or_of_lt (pmask_lt f n) 1
      rw [Nat.mul_one] at this
      rw [Nat.shiftLeft_eq, Nat.one_mul, Nat.or_comm, ← this, Nat.add_comm]
    | false =>
      rw [← pmask_s0 h, Nat.or_zero, bI_f, show (0 : Int32) = nI 0 from rfl, g_shl 0 (by omega), Nat.zero_shiftLeft, nI_add, Nat.add_zero]
theorem in_no {w : Int32} {n k : Nat} (h : inI w (nI 0) (nI n) = false) (hk : k ≤ n) (hn : n < 2 ^ 31) : ¬ w = nI k := fun e => by
  rw [e, inI, decide_eq_true (nI_leI (by omega) (by omega) |>.mpr (Nat.zero_le k)), decide_eq_true (nI_leI (by omega) hn |>.mpr hk)] at h
  cases h
theorem in_ex {w : Int32} {n : Nat} (h : inI w (nI 0) (nI n) = true) (hn : n < 2 ^ 31) : ∃ k, k ≤ n ∧ w = nI k := by
  simp only [inI, Bool.and_eq_true, decide_eq_true_eq] at h
  rw [Int32.le_iff_toInt_le, Int32.le_iff_toInt_le, nI_toInt (by omega), nI_toInt hn] at h
  refine ⟨w.toInt.toNat, by omega, Int32.toInt_inj.mp ?_⟩
  rw [nI_toInt (by omega)]
  omega
theorem pe_no {c : Nat → Int32} {q : Bool} {x w : Int32} (hp : isP x = true) (h : inI w (nI 0) (nI 5) = false) : peV c q x w = -2 := by
  rw [peV, if_pos hp, if_neg (in_no h (by decide) (by decide)), if_neg (in_no h (by decide) (by decide)), if_neg (in_no h (by decide) (by decide)), if_neg (in_no h (by decide) (by decide)), if_neg (in_no h (by decide) (by decide)), if_neg (in_no h (by decide) (by decide))]
theorem pe_r {c : Nat → Int32} {q : Bool} {x w : Int32} (hp : isP x = true) (h : inI w (nI 0) (nI 5) = true) (h0 : ¬ w = 0) : sI (prF c q (pN x) w) 8 = peV c q x w := by
  obtain ⟨k, hk, rfl⟩ := in_ex h (by decide)
  have hk0 : k ≠ 0 := fun e => h0 (by rw [e]; rfl)
  have n : ∀ i j, i < 6 → j < 6 → i ≠ j → ¬ nI i = nI j := fun i j hi hj h e => h ((nI_eq (by omega) (by omega)).mp e)
  have low : ∀ k, 1 ≤ k → k ≤ 4 → sI (prF c q (pN x) (nI k)) 8 = sI (amF c q (pN x) (nI k)) 8 := fun k h1 h4 => sI_cong 8 (fun o _ => by
    rw [prF, if_neg (n k 5 (by omega) (by decide) (by omega)), otF, amF, ot_am h1 h4, ot_am h1 h4])
  rcases (show k = 1 ∨ k = 2 ∨ k = 3 ∨ k = 4 ∨ k = 5 by omega) with rfl | rfl | rfl | rfl | rfl
  · rw [low 1 (by decide) (by decide), peV, if_pos hp, if_neg (n 1 0 (by decide) (by decide) (by decide)), if_pos rfl]
  · rw [low 2 (by decide) (by decide), peV, if_pos hp, if_neg (n 2 0 (by decide) (by decide) (by decide)), if_neg (n 2 1 (by decide) (by decide) (by decide)), if_pos rfl]
  · rw [low 3 (by decide) (by decide), peV, if_pos hp, if_neg (n 3 0 (by decide) (by decide) (by decide)), if_neg (n 3 1 (by decide) (by decide) (by decide)), if_neg (n 3 2 (by decide) (by decide) (by decide)), if_pos rfl]
  · rw [low 4 (by decide) (by decide), peV, if_pos hp, if_neg (n 4 0 (by decide) (by decide) (by decide)), if_neg (n 4 1 (by decide) (by decide) (by decide)), if_neg (n 4 2 (by decide) (by decide) (by decide)), if_neg (n 4 3 (by decide) (by decide) (by decide)), if_pos rfl]
  · rw [peV, if_pos hp, if_neg (n 5 0 (by decide) (by decide) (by decide)), if_neg (n 5 1 (by decide) (by decide) (by decide)), if_neg (n 5 2 (by decide) (by decide) (by decide)), if_neg (n 5 3 (by decide) (by decide) (by decide)), if_neg (n 5 4 (by decide) (by decide) (by decide)), if_pos rfl, ← sI_mask _ 8 (Nat.le_refl _)]
    refine sI_cong 8 (fun o _ => ?_)
    rw [prF, if_pos rfl, otF, ot_ca, ot_ca]
    cases q
    · rw [if_neg Bool.false_ne_true, if_neg Bool.false_ne_true]
    · rw [if_pos rfl, if_pos rfl]
/-- partners differ -/
theorem st_no {E : Nat → Nat → Bool} {a j : Nat} (h : spE E a = some j) : ∀ n, (stS E (a + 1 + n)).testBit j = false
  | 0 => by
    rw [Nat.add_zero, stS_s h, clr_bit (by have := (spE_some h).1; omega), decide_eq_true rfl, Bool.not_true, Bool.and_false]
  | n + 1 => by
    have ih := st_no h n
    cases e : spE E (a + 1 + n) with
    | none => rw [← Nat.add_assoc, stS_n e]; exact ih
    | some i => rw [← Nat.add_assoc, stS_s e, clr_bit (by have := (spE_some h).1; omega), ih, Bool.false_and]
theorem sp_inj {E : Nat → Nat → Bool} {a a2 j : Nat} (h : spE E a = some j) (h2 : spE E a2 = some j) (hl : a < a2) : False := by
  have h3 := st_no h (a2 - a - 1)
  rw [show a + 1 + (a2 - a - 1) = a2 by omega, (spE_some h2).2.2.1] at h3
  cases h3
def pqE (E : Nat → Nat → Bool) (b : Nat) : Nat → Bool := fun a => decide (spE E a = some b)
theorem pq_t {E : Nat → Nat → Bool} {b i : Nat} (h : spE E i = some b) : fstU (pqE E b) (i + 1) = some i := by
  refine (fstU_some _ (i + 1) i).mpr ⟨by omega, decide_eq_true h, fun j hj => decide_eq_false (fun e => sp_inj e h hj)⟩
theorem pq_f {E : Nat → Nat → Bool} {b i : Nat} (h : ¬ spE E i = some b) : fstU (pqE E b) (i + 1) = fstU (pqE E b) i := by
  show (match fstU (pqE E b) i with | some j => some j | none => if pqE E b i then some i else none) = _
  cases fstU (pqE E b) i with
  | some j => rfl
  | none => exact if_neg (by rw [pqE, decide_eq_false h]; decide)
theorem pI_ne {E : Nat → Nat → Bool} {b i : Nat} (h : ¬ pI (spE E i) = nI b) : ¬ spE E i = some b := fun e => h (by rw [e]; rfl)
/-- sums over pairs -/
theorem sI_add (f : Nat → Int32) (m : Nat) : ∀ n, sI f (m + n) = sI f m + sI (fun k => f (m + k)) n
  | 0 => (Int32.add_zero _).symm
  | n + 1 => by
    show sI f (m + n) + f (m + n) = sI f m + (sI (fun k => f (m + k)) n + f (m + n))
    rw [sI_add f m n, Int32.add_assoc]
theorem sI_flat (f : Nat → Nat → Int32) : ∀ n, sI (fun k => f (k / 8) (k % 8)) (8 * n) = sI (fun a => sI (f a) 8) n
  | 0 => rfl
  | n + 1 => by
    rw [Nat.mul_succ, sI_add, sI_flat f n]
    refine congrArg _ (sI_cong 8 (fun k hk => ?_))
    show f ((8 * n + k) / 8) ((8 * n + k) % 8) = f n k
    rw [show (8 * n + k) / 8 = n by omega, show (8 * n + k) % 8 = k by omega]
theorem am_flat (c : Nat → Int32) (w : Int32) : sI (fun k => amP c (k / 8) (k % 8) w) 64 = sI (amA c w) 8 := by
  rw [show 64 = 8 * 8 from rfl, sI_flat (fun a b => amP c a b w) 8]
  refine sI_cong 8 (fun a _ => sI_cong 8 (fun b _ => ?_))
  rw [amF_t]
theorem amP_4 (c : Nat → Int32) (a b : Nat) : amP c a b (nI 4) = taC c a b := by
  have n : ∀ i j, i < 6 → j < 6 → i ≠ j → ¬ nI i = nI j := fun i j hi hj h e => h ((nI_eq (by omega) (by omega)).mp e)
  rw [amP, if_neg (n 4 1 (by decide) (by decide) (by decide)), if_neg (n 4 2 (by decide) (by decide) (by decide)), if_neg (n 4 3 (by decide) (by decide) (by decide)), if_pos rfl]
theorem amP_3 (c : Nat → Int32) (a b : Nat) : amP c a b (nI 3) = bI (decide (0 < feC c a b)) := by
  have n : ∀ i j, i < 6 → j < 6 → i ≠ j → ¬ nI i = nI j := fun i j hi hj h e => h ((nI_eq (by omega) (by omega)).mp e)
  rw [amP, if_neg (n 3 1 (by decide) (by decide) (by decide)), if_neg (n 3 2 (by decide) (by decide) (by decide)), if_pos rfl]
theorem SR.fk {c ss : Nat → Int32} (h : SR c ss) {k : Nat} (hk : k < 64) : ss (33 + k) = feC c (k / 8) (k % 8) := by
  rw [h.f hk, feC, show 24 + 8 * (k / 8) + k % 8 = 24 + k by omega]
theorem SR.tk {c ss : Nat → Int32} (h : SR c ss) {k : Nat} (hk : k < 64) : ss (161 + k) = taC c (k / 8) (k % 8) := by
  rw [h.t hk, taC, show 88 + 8 * (k / 8) + k % 8 = 88 + k by omega]
/-- bits of sixteen -/
theorem bc_c0 : ∀ a, a < 16 → ∀ b, b < 256 → bcN (256 * (0 + a) + b) = bcN (0 + a) + bcN b := by decide +kernel
theorem bc_c1 : ∀ a, a < 16 → ∀ b, b < 256 → bcN (256 * (16 + a) + b) = bcN (16 + a) + bcN b := by decide +kernel
theorem bc_c2 : ∀ a, a < 16 → ∀ b, b < 256 → bcN (256 * (32 + a) + b) = bcN (32 + a) + bcN b := by decide +kernel
theorem bc_c3 : ∀ a, a < 16 → ∀ b, b < 256 → bcN (256 * (48 + a) + b) = bcN (48 + a) + bcN b := by decide +kernel
theorem bc_c4 : ∀ a, a < 16 → ∀ b, b < 256 → bcN (256 * (64 + a) + b) = bcN (64 + a) + bcN b := by decide +kernel
theorem bc_c5 : ∀ a, a < 16 → ∀ b, b < 256 → bcN (256 * (80 + a) + b) = bcN (80 + a) + bcN b := by decide +kernel
theorem bc_c6 : ∀ a, a < 16 → ∀ b, b < 256 → bcN (256 * (96 + a) + b) = bcN (96 + a) + bcN b := by decide +kernel
theorem bc_c7 : ∀ a, a < 16 → ∀ b, b < 256 → bcN (256 * (112 + a) + b) = bcN (112 + a) + bcN b := by decide +kernel
theorem bc_c8 : ∀ a, a < 16 → ∀ b, b < 256 → bcN (256 * (128 + a) + b) = bcN (128 + a) + bcN b := by decide +kernel
theorem bc_c9 : ∀ a, a < 16 → ∀ b, b < 256 → bcN (256 * (144 + a) + b) = bcN (144 + a) + bcN b := by decide +kernel
theorem bc_c10 : ∀ a, a < 16 → ∀ b, b < 256 → bcN (256 * (160 + a) + b) = bcN (160 + a) + bcN b := by decide +kernel
theorem bc_c11 : ∀ a, a < 16 → ∀ b, b < 256 → bcN (256 * (176 + a) + b) = bcN (176 + a) + bcN b := by decide +kernel
theorem bc_c12 : ∀ a, a < 16 → ∀ b, b < 256 → bcN (256 * (192 + a) + b) = bcN (192 + a) + bcN b := by decide +kernel
theorem bc_c13 : ∀ a, a < 16 → ∀ b, b < 256 → bcN (256 * (208 + a) + b) = bcN (208 + a) + bcN b := by decide +kernel
theorem bc_c14 : ∀ a, a < 16 → ∀ b, b < 256 → bcN (256 * (224 + a) + b) = bcN (224 + a) + bcN b := by decide +kernel
theorem bc_c15 : ∀ a, a < 16 → ∀ b, b < 256 → bcN (256 * (240 + a) + b) = bcN (240 + a) + bcN b := by decide +kernel
theorem bc_2 {a b : Nat} (ha : a < 256) (hb : b < 256) : bcN (256 * a + b) = bcN a + bcN b := by
  have h1 : a % 16 < 16 := Nat.mod_lt _ (by decide)
  rcases (show a = 0 + a % 16 ∨ a = 16 + a % 16 ∨ a = 32 + a % 16 ∨ a = 48 + a % 16 ∨ a = 64 + a % 16 ∨ a = 80 + a % 16 ∨ a = 96 + a % 16 ∨ a = 112 + a % 16 ∨ a = 128 + a % 16 ∨ a = 144 + a % 16 ∨ a = 160 + a % 16 ∨ a = 176 + a % 16 ∨ a = 192 + a % 16 ∨ a = 208 + a % 16 ∨ a = 224 + a % 16 ∨ a = 240 + a % 16 by omega) with e | e | e | e | e | e | e | e | e | e | e | e | e | e | e | e
  · rw [e]; exact bc_c0 _ h1 b hb
  · rw [e]; exact bc_c1 _ h1 b hb
  · rw [e]; exact bc_c2 _ h1 b hb
  · rw [e]; exact bc_c3 _ h1 b hb
  · rw [e]; exact bc_c4 _ h1 b hb
  · rw [e]; exact bc_c5 _ h1 b hb
  · rw [e]; exact bc_c6 _ h1 b hb
  · rw [e]; exact bc_c7 _ h1 b hb
  · rw [e]; exact bc_c8 _ h1 b hb
  · rw [e]; exact bc_c9 _ h1 b hb
  · rw [e]; exact bc_c10 _ h1 b hb
  · rw [e]; exact bc_c11 _ h1 b hb
  · rw [e]; exact bc_c12 _ h1 b hb
  · rw [e]; exact bc_c13 _ h1 b hb
  · rw [e]; exact bc_c14 _ h1 b hb
  · rw [e]; exact bc_c15 _ h1 b hb
theorem bc_16 {a b : Nat} (ha : a < 256) (hb : b < 256) : bcN (256 * a + b) = cnt (fun k => (256 * a + b).testBit k) 16 := by
  rw [bc_2 ha hb, bc_pop a ha, bc_pop b hb, show 16 = 8 + 8 from rfl, cnt_add, Nat.add_comm]
  refine congr (congrArg _ (cnt_cong 8 (fun k hk => ?_))) (cnt_cong 8 (fun k hk => ?_))
  · rw [show 256 = 2 ^ 8 from rfl, Nat.testBit_two_pow_mul_add a (by omega), if_pos hk]
  · rw [show 256 = 2 ^ 8 from rfl, Nat.testBit_two_pow_mul_add a (by omega), if_neg (by omega), show 8 + k - 8 = k by omega]
theorem bc_lk {c : Nat → Int32} (h : cOK c) : cnt (fun k => lkC c (k / 4) (k % 4)) 16 = bcN (cN c 152) := by
  have h1 := bc_16 (a := cN c 152 / 256) (b := cN c 152 % 256) (by have := h.l16; omega) (by omega)
  rw [show 256 * (cN c 152 / 256) + cN c 152 % 256 = cN c 152 by omega] at h1
  rw [h1]
  refine cnt_cong 16 (fun k _ => ?_)
  rw [lkC, show 4 * (k / 4) + k % 4 = k by omega]
theorem pmask_and (f g : Nat → Bool) (n : Nat) : pmask f n &&& pmask g n = pmask (fun a => f a && g a) n := by
  apply Nat.eq_of_testBit_eq
  intro i
  rw [Nat.testBit_and, pmask_bit, pmask_bit, pmask_bit]
  cases decide (i < n) <;> simp
theorem EC_row {c : Nat → Int32} {a : Nat} : pmask (EC c a) 8 = pmask (poC c a) 8 := pmask_cong 8 (fun k hk => EC_at hk)
theorem Eb_eOut {c : Nat → Int32} {i : Nat} (hi : i < 8) : szN (Eb c (nI i)) 8 255 = szN (eOut (EC c) i) 8 255 := szN_cong 8 255 (Nat.le_refl _) (fun a b _ ha hb => by
  rw [Eb, eOut, EC_at hb]
  by_cases e : a = i
  · rw [decide_eq_true e, decide_eq_true (by rw [e])]
  · rw [decide_eq_false e, decide_eq_false (fun z => e ((nI_eq (by omega) (by omega)).mp z))])
def hmE (c : Nat → Int32) (a : Nat) : Bool := decide (szN (eOut (EC c) a) 8 255 = szC c)
def hwE (c : Nat → Int32) (a : Nat) : Bool := decide (pmask (poC c a) 8 ≠ 0)
theorem hn_and (c : Nat → Int32) : pmask (hmE c) 8 &&& pmask (hwE c) 8 = hnN c := pmask_and _ _ 8
theorem bL_s (c : Nat → Int32) (k : Nat) : bLs c (k + 1) = if lkC c (k / 4) (k % 4) then bLs c k else if (bLs c k).1 < szC (cLink c (k / 4) (k % 4) true) then (szC (cLink c (k / 4) (k % 4) true), nI k) else bLs c k := rfl
theorem SR.linkk {c ss : Nat → Int32} (h : SR c ss) {k : Nat} (hk : k < 16) (q : Bool) : SR (cLink c (k / 4) (k % 4) q) (upd ss (17 + k) (bI q)) := by
  have := h.link (a := k / 4) (b := k % 4) (by omega) (by omega) q
  rw [show 17 + 4 * (k / 4) + k % 4 = 17 + k by omega] at this
  exact this
theorem SR.undo1 {c ss : Nat → Int32} (h : SR c ss) {k : Nat} {x y : Int32} (e : ss k = y) : SR c (upd (upd ss k x) k y) := h.same (fun i _ => by
  by_cases q : i = k
  · rw [q, upd_eq, e]
  · rw [upd_ne q, upd_ne q])
theorem SR.back {c ss a t : Nat → Int32} (h : SR c ss) : SR c (cpF (cpF ss a 225) t 225) := h.same (fun k hk => by rw [cpF_in hk, cpF_in hk])
