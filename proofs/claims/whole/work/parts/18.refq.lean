/-! the reference's questions -/
def otC (c : Nat → Int32) (a b : Nat) (w : Int32) : Int32 := if w = nI 1 then bI (wiC c a b) else if w = nI 2 then bI (poC c a b) else if w = nI 3 then bI (decide (0 < feC c a b)) else if w = nI 4 then taC c a b else bI (caC c a b)
def otF (c : Nat → Int32) (q : Bool) (a : Nat) (w : Int32) (o : Nat) : Int32 := if q = true then otC c a o w else otC c o a w
def prF (c : Nat → Int32) (q : Bool) (a : Nat) (w : Int32) (o : Nat) : Int32 := if w = nI 5 then otF c q a w o <<< (nI o &&& 31) else otF c q a w o
theorem otF_t {c : Nat → Int32} {q : Bool} {a o : Nat} {w : Int32} (h : q = true) : otC c a o w = otF c q a w o := (if_pos h).symm
theorem otF_f {c : Nat → Int32} {q : Bool} {a o : Nat} {w : Int32} (h : q = false) : otC c o a w = otF c q a w o := (if_neg (by rw [h]; decide)).symm
theorem ot_am {c : Nat → Int32} {a b k : Nat} (h1 : 1 ≤ k) (h4 : k ≤ 4) : otC c a b (nI k) = amP c a b (nI k) := by
  have n : ∀ i j, i < 6 → j < 6 → i ≠ j → ¬ nI i = nI j := fun i j hi hj h e => h ((nI_eq (by omega) (by omega)).mp e)
  rcases (show k = 1 ∨ k = 2 ∨ k = 3 ∨ k = 4 by omega) with rfl | rfl | rfl | rfl
  · rw [otC, amP, if_pos rfl, if_pos rfl]
  · rw [otC, amP, if_neg (n 2 1 (by decide) (by decide) (by decide)), if_neg (n 2 1 (by decide) (by decide) (by decide)), if_pos rfl, if_pos rfl]
  · rw [otC, amP, if_neg (n 3 1 (by decide) (by decide) (by decide)), if_neg (n 3 1 (by decide) (by decide) (by decide)), if_neg (n 3 2 (by decide) (by decide) (by decide)), if_neg (n 3 2 (by decide) (by decide) (by decide)), if_pos rfl, if_pos rfl]
  · rw [otC, amP, if_neg (n 4 1 (by decide) (by decide) (by decide)), if_neg (n 4 1 (by decide) (by decide) (by decide)), if_neg (n 4 2 (by decide) (by decide) (by decide)), if_neg (n 4 2 (by decide) (by decide) (by decide)), if_neg (n 4 3 (by decide) (by decide) (by decide)), if_neg (n 4 3 (by decide) (by decide) (by decide)), if_pos rfl, if_pos rfl]
theorem ot_ca {c : Nat → Int32} {a b : Nat} : otC c a b (nI 5) = bI (caC c a b) := by
  have n : ∀ i j, i < 6 → j < 6 → i ≠ j → ¬ nI i = nI j := fun i j hi hj h e => h ((nI_eq (by omega) (by omega)).mp e)
  rw [otC, if_neg (n 5 1 (by decide) (by decide) (by decide)), if_neg (n 5 2 (by decide) (by decide) (by decide)), if_neg (n 5 3 (by decide) (by decide) (by decide)), if_neg (n 5 4 (by decide) (by decide) (by decide))]
theorem sI_mask (f : Nat → Bool) : ∀ n, n ≤ 8 → sI (fun o => bI (f o) <<< (nI o &&& 31)) n = nI (pmask f n)
  | 0, _ => rfl
  | n + 1, hn => by
    show sI _ n + bI (f n) <<< (nI n &&& 31) = _
    rw [sI_mask f n (by omega)]
    cases h : f n with
    | true =>
      rw [← pmask_s1 h, bI_t, show (1 : Int32) = nI 1 from rfl, g_shl 1 (by omega), nI_add]
      refine congrArg nI ?_
      have := Nat.two_pow_add_eq_or_of_lt (pmask_lt f n) 1
      rw [Nat.mul_one] at this
      rw [Nat.shiftLeft_eq, Nat.one_mul, Nat.or_comm, ← this, Nat.add_comm]
    | false =>
      rw [← pmask_s0 h, Nat.or_zero, bI_f, show (0 : Int32) = nI 0 from rfl, g_shl 0 (by omega), Nat.zero_shiftLeft, nI_add, Nat.add_zero]
theorem in_no {w : Int32} {n k : Nat} (h : inI w (nI 0) (nI n) = false) (hk : k ≤ n) (hn : n < 2 ^ 31) : ¬ w = nI k := fun e => by
  rw [e, inI, decide_eq_true (nI_leI (by omega) (by omega) |>.mpr (Nat.zero_le k)), decide_eq_true (nI_leI (by omega) hn |>.mpr hk)] at h
  cases h
theorem in_ex {w : Int32} {n : Nat} (h : inI w (nI 0) (nI n) = true) (hn : n < 2 ^ 31) : ∃ k, k ≤ n ∧ w = nI k := by
  simp only [inI, Bool.and_eq_true, decide_eq_true_eq] at h
  rw [Int32.le_iff_toInt_le, Int32.le_iff_toInt_le, nI_toInt (by omega), nI_toInt hn] at h
  refine ⟨w.toInt.toNat, by omega, Int32.toInt_inj.mp ?_⟩
  rw [nI_toInt (by omega)]
  omega
theorem pe_no {c : Nat → Int32} {q : Bool} {x w : Int32} (hp : isP x = true) (h : inI w (nI 0) (nI 5) = false) : peV c q x w = -2 := by
  rw [peV, if_pos hp, if_neg (in_no h (by decide) (by decide)), if_neg (in_no h (by decide) (by decide)), if_neg (in_no h (by decide) (by decide)), if_neg (in_no h (by decide) (by decide)), if_neg (in_no h (by decide) (by decide)), if_neg (in_no h (by decide) (by decide))]
theorem pe_r {c : Nat → Int32} {q : Bool} {x w : Int32} (hp : isP x = true) (h : inI w (nI 0) (nI 5) = true) (h0 : ¬ w = 0) : sI (prF c q (pN x) w) 8 = peV c q x w := by
  obtain ⟨k, hk, rfl⟩ := in_ex h (by decide)
  have hk0 : k ≠ 0 := fun e => h0 (by rw [e]; rfl)
  have n : ∀ i j, i < 6 → j < 6 → i ≠ j → ¬ nI i = nI j := fun i j hi hj h e => h ((nI_eq (by omega) (by omega)).mp e)
  have low : ∀ k, 1 ≤ k → k ≤ 4 → sI (prF c q (pN x) (nI k)) 8 = sI (amF c q (pN x) (nI k)) 8 := fun k h1 h4 => sI_cong 8 (fun o _ => by
    rw [prF, if_neg (n k 5 (by omega) (by decide) (by omega)), otF, amF, ot_am h1 h4, ot_am h1 h4])
  rcases (show k = 1 ∨ k = 2 ∨ k = 3 ∨ k = 4 ∨ k = 5 by omega) with rfl | rfl | rfl | rfl | rfl
  · rw [low 1 (by decide) (by decide), peV, if_pos hp, if_neg (n 1 0 (by decide) (by decide) (by decide)), if_pos rfl]
  · rw [low 2 (by decide) (by decide), peV, if_pos hp, if_neg (n 2 0 (by decide) (by decide) (by decide)), if_neg (n 2 1 (by decide) (by decide) (by decide)), if_pos rfl]
  · rw [low 3 (by decide) (by decide), peV, if_pos hp, if_neg (n 3 0 (by decide) (by decide) (by decide)), if_neg (n 3 1 (by decide) (by decide) (by decide)), if_neg (n 3 2 (by decide) (by decide) (by decide)), if_pos rfl]
  · rw [low 4 (by decide) (by decide), peV, if_pos hp, if_neg (n 4 0 (by decide) (by decide) (by decide)), if_neg (n 4 1 (by decide) (by decide) (by decide)), if_neg (n 4 2 (by decide) (by decide) (by decide)), if_neg (n 4 3 (by decide) (by decide) (by decide)), if_pos rfl]
  · rw [peV, if_pos hp, if_neg (n 5 0 (by decide) (by decide) (by decide)), if_neg (n 5 1 (by decide) (by decide) (by decide)), if_neg (n 5 2 (by decide) (by decide) (by decide)), if_neg (n 5 3 (by decide) (by decide) (by decide)), if_neg (n 5 4 (by decide) (by decide) (by decide)), if_pos rfl, ← sI_mask _ 8 (Nat.le_refl _)]
    refine sI_cong 8 (fun o _ => ?_)
    rw [prF, if_pos rfl, otF, ot_ca, ot_ca]
    cases q
    · rw [if_neg Bool.false_ne_true, if_neg Bool.false_ne_true]
    · rw [if_pos rfl, if_pos rfl]
/-- partners differ -/
theorem st_no {E : Nat → Nat → Bool} {a j : Nat} (h : spE E a = some j) : ∀ n, (stS E (a + 1 + n)).testBit j = false
  | 0 => by
    rw [Nat.add_zero, stS_s h, clr_bit (by have := (spE_some h).1; omega), decide_eq_true rfl, Bool.not_true, Bool.and_false]
  | n + 1 => by
    have ih := st_no h n
    cases e : spE E (a + 1 + n) with
    | none => rw [← Nat.add_assoc, stS_n e]; exact ih
    | some i => rw [← Nat.add_assoc, stS_s e, clr_bit (by have := (spE_some h).1; omega), ih, Bool.false_and]
theorem sp_inj {E : Nat → Nat → Bool} {a a2 j : Nat} (h : spE E a = some j) (h2 : spE E a2 = some j) (hl : a < a2) : False := by
  have h3 := st_no h (a2 - a - 1)
  rw [show a + 1 + (a2 - a - 1) = a2 by omega, (spE_some h2).2.2.1] at h3
  cases h3
def pqE (E : Nat → Nat → Bool) (b : Nat) : Nat → Bool := fun a => decide (spE E a = some b)
theorem pq_t {E : Nat → Nat → Bool} {b i : Nat} (h : spE E i = some b) : fstU (pqE E b) (i + 1) = some i := by
  refine (fstU_some _ (i + 1) i).mpr ⟨by omega, decide_eq_true h, fun j hj => decide_eq_false (fun e => sp_inj e h hj)⟩
theorem pq_f {E : Nat → Nat → Bool} {b i : Nat} (h : ¬ spE E i = some b) : fstU (pqE E b) (i + 1) = fstU (pqE E b) i := by
  show (match fstU (pqE E b) i with | some j => some j | none => if pqE E b i then some i else none) = _
  cases fstU (pqE E b) i with
  | some j => rfl
  | none => exact if_neg (by rw [pqE, decide_eq_false h]; decide)
theorem pI_ne {E : Nat → Nat → Bool} {b i : Nat} (h : ¬ pI (spE E i) = nI b) : ¬ spE E i = some b := fun e => h (by rw [e]; rfl)
/-- sums over pairs -/
theorem sI_add (f : Nat → Int32) (m : Nat) : ∀ n, sI f (m + n) = sI f m + sI (fun k => f (m + k)) n
  | 0 => (Int32.add_zero _).symm
  | n + 1 => by
    show sI f (m + n) + f (m + n) = sI f m + (sI (fun k => f (m + k)) n + f (m + n))
    rw [sI_add f m n, Int32.add_assoc]
theorem sI_flat (f : Nat → Nat → Int32) : ∀ n, sI (fun k => f (k / 8) (k % 8)) (8 * n) = sI (fun a => sI (f a) 8) n
  | 0 => rfl
  | n + 1 => by
    rw [Nat.mul_succ, sI_add, sI_flat f n]
    refine congrArg _ (sI_cong 8 (fun k hk => ?_))
    show f ((8 * n + k) / 8) ((8 * n + k) % 8) = f n k
    rw [show (8 * n + k) / 8 = n by omega, show (8 * n + k) % 8 = k by omega]
theorem am_flat (c : Nat → Int32) (w : Int32) : sI (fun k => amP c (k / 8) (k % 8) w) 64 = sI (amA c w) 8 := by
  rw [show 64 = 8 * 8 from rfl, sI_flat (fun a b => amP c a b w) 8]
  refine sI_cong 8 (fun a _ => sI_cong 8 (fun b _ => ?_))
  rw [amF_t]
theorem amP_4 (c : Nat → Int32) (a b : Nat) : amP c a b (nI 4) = taC c a b := by
  have n : ∀ i j, i < 6 → j < 6 → i ≠ j → ¬ nI i = nI j := fun i j hi hj h e => h ((nI_eq (by omega) (by omega)).mp e)
  rw [amP, if_neg (n 4 1 (by decide) (by decide) (by decide)), if_neg (n 4 2 (by decide) (by decide) (by decide)), if_neg (n 4 3 (by decide) (by decide) (by decide)), if_pos rfl]
theorem amP_3 (c : Nat → Int32) (a b : Nat) : amP c a b (nI 3) = bI (decide (0 < feC c a b)) := by
  have n : ∀ i j, i < 6 → j < 6 → i ≠ j → ¬ nI i = nI j := fun i j hi hj h e => h ((nI_eq (by omega) (by omega)).mp e)
  rw [amP, if_neg (n 3 1 (by decide) (by decide) (by decide)), if_neg (n 3 2 (by decide) (by decide) (by decide)), if_pos rfl]
theorem SR.fk {c ss : Nat → Int32} (h : SR c ss) {k : Nat} (hk : k < 64) : ss (33 + k) = feC c (k / 8) (k % 8) := by
  rw [h.f hk, feC, show 24 + 8 * (k / 8) + k % 8 = 24 + k by omega]
theorem SR.tk {c ss : Nat → Int32} (h : SR c ss) {k : Nat} (hk : k < 64) : ss (161 + k) = taC c (k / 8) (k % 8) := by
  rw [h.t hk, taC, show 88 + 8 * (k / 8) + k % 8 = 88 + k by omega]
/-- bits of sixteen -/
theorem bc_c0 : ∀ a, a < 16 → ∀ b, b < 256 → bcN (256 * (0 + a) + b) = bcN (0 + a) + bcN b := by decide +kernel
theorem bc_c1 : ∀ a, a < 16 → ∀ b, b < 256 → bcN (256 * (16 + a) + b) = bcN (16 + a) + bcN b := by decide +kernel
theorem bc_c2 : ∀ a, a < 16 → ∀ b, b < 256 → bcN (256 * (32 + a) + b) = bcN (32 + a) + bcN b := by decide +kernel
theorem bc_c3 : ∀ a, a < 16 → ∀ b, b < 256 → bcN (256 * (48 + a) + b) = bcN (48 + a) + bcN b := by decide +kernel
theorem bc_c4 : ∀ a, a < 16 → ∀ b, b < 256 → bcN (256 * (64 + a) + b) = bcN (64 + a) + bcN b := by decide +kernel
theorem bc_c5 : ∀ a, a < 16 → ∀ b, b < 256 → bcN (256 * (80 + a) + b) = bcN (80 + a) + bcN b := by decide +kernel
theorem bc_c6 : ∀ a, a < 16 → ∀ b, b < 256 → bcN (256 * (96 + a) + b) = bcN (96 + a) + bcN b := by decide +kernel
theorem bc_c7 : ∀ a, a < 16 → ∀ b, b < 256 → bcN (256 * (112 + a) + b) = bcN (112 + a) + bcN b := by decide +kernel
theorem bc_c8 : ∀ a, a < 16 → ∀ b, b < 256 → bcN (256 * (128 + a) + b) = bcN (128 + a) + bcN b := by decide +kernel
theorem bc_c9 : ∀ a, a < 16 → ∀ b, b < 256 → bcN (256 * (144 + a) + b) = bcN (144 + a) + bcN b := by decide +kernel
theorem bc_c10 : ∀ a, a < 16 → ∀ b, b < 256 → bcN (256 * (160 + a) + b) = bcN (160 + a) + bcN b := by decide +kernel
theorem bc_c11 : ∀ a, a < 16 → ∀ b, b < 256 → bcN (256 * (176 + a) + b) = bcN (176 + a) + bcN b := by decide +kernel
theorem bc_c12 : ∀ a, a < 16 → ∀ b, b < 256 → bcN (256 * (192 + a) + b) = bcN (192 + a) + bcN b := by decide +kernel
theorem bc_c13 : ∀ a, a < 16 → ∀ b, b < 256 → bcN (256 * (208 + a) + b) = bcN (208 + a) + bcN b := by decide +kernel
theorem bc_c14 : ∀ a, a < 16 → ∀ b, b < 256 → bcN (256 * (224 + a) + b) = bcN (224 + a) + bcN b := by decide +kernel
theorem bc_c15 : ∀ a, a < 16 → ∀ b, b < 256 → bcN (256 * (240 + a) + b) = bcN (240 + a) + bcN b := by decide +kernel
theorem bc_2 {a b : Nat} (ha : a < 256) (hb : b < 256) : bcN (256 * a + b) = bcN a + bcN b := by
  have h1 : a % 16 < 16 := Nat.mod_lt _ (by decide)
  rcases (show a = 0 + a % 16 ∨ a = 16 + a % 16 ∨ a = 32 + a % 16 ∨ a = 48 + a % 16 ∨ a = 64 + a % 16 ∨ a = 80 + a % 16 ∨ a = 96 + a % 16 ∨ a = 112 + a % 16 ∨ a = 128 + a % 16 ∨ a = 144 + a % 16 ∨ a = 160 + a % 16 ∨ a = 176 + a % 16 ∨ a = 192 + a % 16 ∨ a = 208 + a % 16 ∨ a = 224 + a % 16 ∨ a = 240 + a % 16 by omega) with e | e | e | e | e | e | e | e | e | e | e | e | e | e | e | e
  · rw [e]; exact bc_c0 _ h1 b hb
  · rw [e]; exact bc_c1 _ h1 b hb
  · rw [e]; exact bc_c2 _ h1 b hb
  · rw [e]; exact bc_c3 _ h1 b hb
  · rw [e]; exact bc_c4 _ h1 b hb
  · rw [e]; exact bc_c5 _ h1 b hb
  · rw [e]; exact bc_c6 _ h1 b hb
  · rw [e]; exact bc_c7 _ h1 b hb
  · rw [e]; exact bc_c8 _ h1 b hb
  · rw [e]; exact bc_c9 _ h1 b hb
  · rw [e]; exact bc_c10 _ h1 b hb
  · rw [e]; exact bc_c11 _ h1 b hb
  · rw [e]; exact bc_c12 _ h1 b hb
  · rw [e]; exact bc_c13 _ h1 b hb
  · rw [e]; exact bc_c14 _ h1 b hb
  · rw [e]; exact bc_c15 _ h1 b hb
theorem bc_16 {a b : Nat} (ha : a < 256) (hb : b < 256) : bcN (256 * a + b) = cnt (fun k => (256 * a + b).testBit k) 16 := by
  rw [bc_2 ha hb, bc_pop a ha, bc_pop b hb, show 16 = 8 + 8 from rfl, cnt_add, Nat.add_comm]
  refine congr (congrArg _ (cnt_cong 8 (fun k hk => ?_))) (cnt_cong 8 (fun k hk => ?_))
  · rw [show 256 = 2 ^ 8 from rfl, Nat.testBit_two_pow_mul_add a (by omega), if_pos hk]
  · rw [show 256 = 2 ^ 8 from rfl, Nat.testBit_two_pow_mul_add a (by omega), if_neg (by omega), show 8 + k - 8 = k by omega]
theorem bc_lk {c : Nat → Int32} (h : cOK c) : cnt (fun k => lkC c (k / 4) (k % 4)) 16 = bcN (cN c 152) := by
  have h1 := bc_16 (a := cN c 152 / 256) (b := cN c 152 % 256) (by have := h.l16; omega) (by omega)
  rw [show 256 * (cN c 152 / 256) + cN c 152 % 256 = cN c 152 by omega] at h1
  rw [h1]
  refine cnt_cong 16 (fun k _ => ?_)
  rw [lkC, show 4 * (k / 4) + k % 4 = k by omega]
theorem pmask_and (f g : Nat → Bool) (n : Nat) : pmask f n &&& pmask g n = pmask (fun a => f a && g a) n := by
  apply Nat.eq_of_testBit_eq
  intro i
  rw [Nat.testBit_and, pmask_bit, pmask_bit, pmask_bit]
  cases decide (i < n) <;> simp
theorem EC_row {c : Nat → Int32} {a : Nat} : pmask (EC c a) 8 = pmask (poC c a) 8 := pmask_cong 8 (fun k hk => EC_at hk)
theorem Eb_eOut {c : Nat → Int32} {i : Nat} (hi : i < 8) : szN (Eb c (nI i)) 8 255 = szN (eOut (EC c) i) 8 255 := szN_cong 8 255 (Nat.le_refl _) (fun a b _ ha hb => by
  rw [Eb, eOut, EC_at hb]
  by_cases e : a = i
  · rw [decide_eq_true e, decide_eq_true (by rw [e])]
  · rw [decide_eq_false e, decide_eq_false (fun z => e ((nI_eq (by omega) (by omega)).mp z))])
def hmE (c : Nat → Int32) (a : Nat) : Bool := decide (szN (eOut (EC c) a) 8 255 = szC c)
def hwE (c : Nat → Int32) (a : Nat) : Bool := decide (pmask (poC c a) 8 ≠ 0)
theorem hn_and (c : Nat → Int32) : pmask (hmE c) 8 &&& pmask (hwE c) 8 = hnN c := pmask_and _ _ 8
theorem bL_s (c : Nat → Int32) (k : Nat) : bLs c (k + 1) = if lkC c (k / 4) (k % 4) then bLs c k else if (bLs c k).1 < szC (cLink c (k / 4) (k % 4) true) then (szC (cLink c (k / 4) (k % 4) true), nI k) else bLs c k := rfl
theorem SR.linkk {c ss : Nat → Int32} (h : SR c ss) {k : Nat} (hk : k < 16) (q : Bool) : SR (cLink c (k / 4) (k % 4) q) (upd ss (17 + k) (bI q)) := by
  have := h.link (a := k / 4) (b := k % 4) (by omega) (by omega) q
  rw [show 17 + 4 * (k / 4) + k % 4 = 17 + k by omega] at this
  exact this
theorem SR.undo1 {c ss : Nat → Int32} (h : SR c ss) {k : Nat} {x y : Int32} (e : ss k = y) : SR c (upd (upd ss k x) k y) := h.same (fun i _ => by
  by_cases q : i = k
  · rw [q, upd_eq, e]
  · rw [upd_ne q, upd_ne q])
theorem SR.back {c ss a t : Nat → Int32} (h : SR c ss) : SR c (cpF (cpF ss a 225) t 225) := h.same (fun k hk => by rw [cpF_in hk, cpF_in hk])
abbrev rm_X6_ofTwo : Room := { frames := 3, cells := 0, slots := 0, locals := 66 }
theorem yd_X6_ofTwo : yX6_ofTwo.cls = RX6 ∧ yX6_ofTwo.cls ≠ "java/lang/invoke/MethodHandle" ∧ yX6_ofTwo.cls ≠ "java/lang/invoke/VarHandle" ∧ (parseMethodDescriptor yX6_ofTwo.desc).map (fun d => d.parameters.length) = some 3 := by decide +kernel
theorem in_X6_ofTwo_X6 : ∀ w ∈ u_ws RX6 TX6 18, w ∈ wsX6_ofTwo := by decide +kernel
theorem fl_X6_ofTwo_7 : Cond.fieldLink RX6 7 "FenceHandshakesModel" "s" "[I" ∈ wsX6_ofTwo := by decide +kernel
set_option maxHeartbeats 4000000 in
set_option maxRecDepth 100000 in
theorem m_X6_ofTwo (l : Launch) (D : va_G) (cI cC : ClassId) (q0 q1 q2 q3 q4 q5 q6 q7 q8 q9 q10 q11 : Nat) (th : Int32) (ss : Nat → Int32) (asd : Nat → Int32) (sts : Nat → Int32) (sm : Int32) (snp : Nat → Int32) (hx : Int32) (tx : Nat → Int32) (lgt : Int32) (can : Nat → Int32) (szs : Nat → Int32) (ptn : Nat → Int32) (nms : Nat → Int32) (pth : Nat → Int32) (att : Int32) (isw : Int32) (rdd : Nat → Int32) (rmy : Int32) (c : Nat → Int32) (a : Nat) (b : Nat) (w : Int32) (ha : a < 8) (hb : b < 8) (hS : SR c ss) : g_M l yX6_ofTwo wsX6_ofTwo rm_X6_ofTwo D cI cC [.ref q0, .int (nI a), .int (nI b), .int w] (rW cI cC q0 q1 q2 q3 q4 q5 q6 q7 q8 q9 q10 q11 th ss asd sts sm snp hx tx lgt can szs ptn nms pth att isw rdd rmy) (fun vv ww => vv = some (.int (otC c a b w)) ∧ ww = (rW cI cC q0 q1 q2 q3 q4 q5 q6 q7 q8 q9 q10 q11 th ss asd sts sm snp hx tx lgt can szs ptn nms pth att isw rdd rmy)) := by
  refine g_entry (lv := [(0, .ref q0), (1, .int (nI a)), (2, .int (nI b)), (3, .int w)]) (own := RX6) (by decide) rfl rfl (Nat.le_of_ble_eq_true rfl) rfl ?_
  intro p e s m args below meth co A Q C hr hQ
  refine g_iload_n (pc := 0) C dX6_ofTwo_0 3 rfl rfl ?_
  by_cases t1_1 : w = nI 1
  · refine g_top (y := nI 1) t1_1 ?_
    refine g_tabIn (pc := 1) C 32 dX6_ofTwo_1 (by decide) (by decide) rfl (by decide) ?_
    refine g_aload_n (pc := 32) C dX6_ofTwo_32 0 rfl rfl ?_
    refine g_get (pc := 33) (ci := 6) (T := TX6) (N := 18) (v := .ref q1) C in_X6_ofTwo_X6 0 rfl rfl 1 (by decide) fl_X6_ofTwo_7 rfl rfl dX6_ofTwo_33 ?_
    refine g_bipush (pc := 36) (v := nI 97) C dX6_ofTwo_36 (by decide) ?_
    refine g_bipush (pc := 38) (v := nI 8) C dX6_ofTwo_38 (by decide) ?_
    refine g_iload_n (pc := 40) C dX6_ofTwo_40 1 rfl rfl ?_
    refine g_imulN (pc := 41) C dX6_ofTwo_41 ?_
    refine g_iaddN (pc := 42) C dX6_ofTwo_42 ?_
    refine g_iload_n (pc := 43) C dX6_ofTwo_43 2 rfl rfl ?_
    refine g_iaddN (pc := 44) C dX6_ofTwo_44 ?_
    refine g_ialdN (pc := 45) (f := ss) C 1 rfl (by omega) (by decide) dX6_ofTwo_45 ?_
    refine g_top (y := bI (wiC c a b)) (hS.w ha hb) ?_
    refine g_top (y := (otC c a b w)) (by rw [otC, if_pos t1_1]) ?_
    exact g_iret C hr hQ dX6_ofTwo_46 rfl ⟨rfl, rfl⟩
  by_cases t1_2 : w = nI 2
  · refine g_top (y := nI 2) t1_2 ?_
    refine g_tabIn (pc := 1) C 47 dX6_ofTwo_1 (by decide) (by decide) rfl (by decide) ?_
    refine g_aload_n (pc := 47) C dX6_ofTwo_47 0 rfl rfl ?_
    refine g_iload_n (pc := 48) C dX6_ofTwo_48 1 rfl rfl ?_
    refine g_iload_n (pc := 49) C dX6_ofTwo_49 2 rfl rfl ?_
    refine g_callV (pc := 50) (st := []) (As := [.int (nI a), .int (nI b)]) (nn := 2) (ci := 6) (q0 := 0) C (m_X6_isPossible l D cI cC q0 q1 q2 q3 q4 q5 q6 q7 q8 q9 q10 q11 th ss asd sts sm snp hx tx lgt can szs ptn nms pth att isw rdd rmy c a b (by first | assumption | omega) (by first | assumption | omega) (by first | assumption | omega)) gX6_ofTwo_X6_isPossible rfl rfl rfl yd_X6_isPossible ⟨Nat.le_of_ble_eq_true rfl, Nat.le_of_ble_eq_true rfl⟩ rfl [0, 1, 2, 3, 4, 5, 6, 7, 8, 9, 10, 11] rfl rfl rfl rfl rfl (Nat.le_of_ble_eq_true rfl) ⟨Nat.le_of_ble_eq_true rfl, Nat.le_of_ble_eq_true rfl⟩ dX6_ofTwo_50 ?_
    rintro _ _ ⟨rfl, rfl⟩
    refine g_eq (ws' := (rW cI cC q0 q1 q2 q3 q4 q5 q6 q7 q8 q9 q10 q11 th ss asd sts sm snp hx tx lgt can szs ptn nms pth att isw rdd rmy)) (st' := [.int (bI (poC c a b))]) rfl rfl ?_
    refine g_if_eqB (pc := 53) C 60 dX6_ofTwo_53 (by decide) (fun c53 => ?_) (fun c53 => ?_)
    · refine g_iconst (pc := 60) (v := nI 0) C dX6_ofTwo_60 (by decide) ?_
      refine g_top (y := (otC c a b w)) (by rw [otC, if_neg t1_1, if_pos t1_2, c53]; rfl) ?_
      exact g_iret C hr hQ dX6_ofTwo_61 rfl ⟨rfl, rfl⟩
    · refine g_iconst (pc := 56) (v := nI 1) C dX6_ofTwo_56 (by decide) ?_
      refine g_goto (pc := 57) C 61 dX6_ofTwo_57 (by decide) ?_
      refine g_top (y := (otC c a b w)) (by rw [otC, if_neg t1_1, if_pos t1_2, c53]; rfl) ?_
      exact g_iret C hr hQ dX6_ofTwo_61 rfl ⟨rfl, rfl⟩
  by_cases t1_3 : w = nI 3
  · refine g_top (y := nI 3) t1_3 ?_
    refine g_tabIn (pc := 1) C 62 dX6_ofTwo_1 (by decide) (by decide) rfl (by decide) ?_
    refine g_aload_n (pc := 62) C dX6_ofTwo_62 0 rfl rfl ?_
    refine g_get (pc := 63) (ci := 6) (T := TX6) (N := 18) (v := .ref q1) C in_X6_ofTwo_X6 0 rfl rfl 1 (by decide) fl_X6_ofTwo_7 rfl rfl dX6_ofTwo_63 ?_
    refine g_bipush (pc := 66) (v := nI 33) C dX6_ofTwo_66 (by decide) ?_
    refine g_bipush (pc := 68) (v := nI 8) C dX6_ofTwo_68 (by decide) ?_
    refine g_iload_n (pc := 70) C dX6_ofTwo_70 1 rfl rfl ?_
    refine g_imulN (pc := 71) C dX6_ofTwo_71 ?_
    refine g_iaddN (pc := 72) C dX6_ofTwo_72 ?_
    refine g_iload_n (pc := 73) C dX6_ofTwo_73 2 rfl rfl ?_
    refine g_iaddN (pc := 74) C dX6_ofTwo_74 ?_
    refine g_ialdN (pc := 75) (f := ss) C 1 rfl (by omega) (by decide) dX6_ofTwo_75 ?_
    refine g_top (y := (feC c a b)) (hS.fe ha hb) ?_
    refine g_if_le (pc := 76) C 83 dX6_ofTwo_76 (by decide) (fun c76 => ?_) (fun c76 => ?_)
    · refine g_iconst (pc := 83) (v := nI 0) C dX6_ofTwo_83 (by decide) ?_
      refine g_top (y := (otC c a b w)) (by rw [otC, if_neg t1_1, if_neg t1_2, if_pos t1_3, decide_eq_false (Int32.not_lt.mpr c76)]; rfl) ?_
      exact g_iret C hr hQ dX6_ofTwo_84 rfl ⟨rfl, rfl⟩
    · refine g_iconst (pc := 79) (v := nI 1) C dX6_ofTwo_79 (by decide) ?_
      refine g_goto (pc := 80) C 84 dX6_ofTwo_80 (by decide) ?_
      refine g_top (y := (otC c a b w)) (by rw [otC, if_neg t1_1, if_neg t1_2, if_pos t1_3, decide_eq_true (Int32.not_le.mp c76)]; rfl) ?_
      exact g_iret C hr hQ dX6_ofTwo_84 rfl ⟨rfl, rfl⟩
  by_cases t1_4 : w = nI 4
  · refine g_top (y := nI 4) t1_4 ?_
    refine g_tabIn (pc := 1) C 85 dX6_ofTwo_1 (by decide) (by decide) rfl (by decide) ?_
    refine g_aload_n (pc := 85) C dX6_ofTwo_85 0 rfl rfl ?_
    refine g_get (pc := 86) (ci := 6) (T := TX6) (N := 18) (v := .ref q1) C in_X6_ofTwo_X6 0 rfl rfl 1 (by decide) fl_X6_ofTwo_7 rfl rfl dX6_ofTwo_86 ?_
    refine g_sipush (pc := 89) (v := nI 161) C dX6_ofTwo_89 (by decide) ?_
    refine g_bipush (pc := 92) (v := nI 8) C dX6_ofTwo_92 (by decide) ?_
    refine g_iload_n (pc := 94) C dX6_ofTwo_94 1 rfl rfl ?_
    refine g_imulN (pc := 95) C dX6_ofTwo_95 ?_
    refine g_iaddN (pc := 96) C dX6_ofTwo_96 ?_
    refine g_iload_n (pc := 97) C dX6_ofTwo_97 2 rfl rfl ?_
    refine g_iaddN (pc := 98) C dX6_ofTwo_98 ?_
    refine g_ialdN (pc := 99) (f := ss) C 1 rfl (by omega) (by decide) dX6_ofTwo_99 ?_
    refine g_top (y := (taC c a b)) (hS.ta ha hb) ?_
    refine g_top (y := (otC c a b w)) (by rw [otC, if_neg t1_1, if_neg t1_2, if_neg t1_3, if_pos t1_4]) ?_
    exact g_iret C hr hQ dX6_ofTwo_100 rfl ⟨rfl, rfl⟩
  refine g_tabOut (pc := 1) C 101 dX6_ofTwo_1 (g_out 1 4 (by decide) (by intro k h1 h2; rcases (show k = 1 ∨ k = 2 ∨ k = 3 ∨ k = 4 by omega) with rfl | rfl | rfl | rfl <;> assumption)) (by decide) ?_
  refine g_aload_n (pc := 101) C dX6_ofTwo_101 0 rfl rfl ?_
  refine g_iload_n (pc := 102) C dX6_ofTwo_102 1 rfl rfl ?_
  refine g_iload_n (pc := 103) C dX6_ofTwo_103 2 rfl rfl ?_
  refine g_callV (pc := 104) (st := []) (As := [.int (nI a), .int (nI b)]) (nn := 2) (ci := 6) (q0 := 0) C (m_X6_canMeet l D cI cC q0 q1 q2 q3 q4 q5 q6 q7 q8 q9 q10 q11 th ss asd sts sm snp hx tx lgt can szs ptn nms pth att isw rdd rmy c a b (by first | assumption | omega) (by first | assumption | omega) (by first | assumption | omega)) gX6_ofTwo_X6_canMeet rfl rfl rfl yd_X6_canMeet ⟨Nat.le_of_ble_eq_true rfl, Nat.le_of_ble_eq_true rfl⟩ rfl [0, 1, 2, 3, 4, 5, 6, 7, 8, 9, 10, 11] rfl rfl rfl rfl rfl (Nat.le_of_ble_eq_true rfl) ⟨Nat.le_of_ble_eq_true rfl, Nat.le_of_ble_eq_true rfl⟩ dX6_ofTwo_104 ?_
  rintro _ _ ⟨rfl, rfl⟩
  refine g_eq (ws' := (rW cI cC q0 q1 q2 q3 q4 q5 q6 q7 q8 q9 q10 q11 th ss asd sts sm snp hx tx lgt can szs ptn nms pth att isw rdd rmy)) (st' := [.int (bI (caC c a b))]) rfl rfl ?_
  refine g_if_eqB (pc := 107) C 114 dX6_ofTwo_107 (by decide) (fun c107 => ?_) (fun c107 => ?_)
  · refine g_iconst (pc := 114) (v := nI 0) C dX6_ofTwo_114 (by decide) ?_
    refine g_top (y := (otC c a b w)) (by rw [otC, if_neg t1_1, if_neg t1_2, if_neg t1_3, if_neg t1_4, c107]; rfl) ?_
    exact g_iret C hr hQ dX6_ofTwo_115 rfl ⟨rfl, rfl⟩
  · refine g_iconst (pc := 110) (v := nI 1) C dX6_ofTwo_110 (by decide) ?_
    refine g_goto (pc := 111) C 115 dX6_ofTwo_111 (by decide) ?_
    refine g_top (y := (otC c a b w)) (by rw [otC, if_neg t1_1, if_neg t1_2, if_neg t1_3, if_neg t1_4, c107]; rfl) ?_
    exact g_iret C hr hQ dX6_ofTwo_115 rfl ⟨rfl, rfl⟩

abbrev rm_X6_person : Room := { frames := 4, cells := 0, slots := 0, locals := 89 }
theorem yd_X6_person : yX6_person.cls = RX6 ∧ yX6_person.cls ≠ "java/lang/invoke/MethodHandle" ∧ yX6_person.cls ≠ "java/lang/invoke/VarHandle" ∧ (parseMethodDescriptor yX6_person.desc).map (fun d => d.parameters.length) = some 3 := by decide +kernel
theorem in_X6_person_X6 : ∀ w ∈ u_ws RX6 TX6 18, w ∈ wsX6_person := by decide +kernel
theorem fl_X6_person_7 : Cond.fieldLink RX6 7 "FenceHandshakesModel" "s" "[I" ∈ wsX6_person := by decide +kernel
theorem fl_X6_person_43 : Cond.fieldLink RX6 43 "FenceHandshakesModel" "thrown" "I" ∈ wsX6_person := by decide +kernel
set_option maxHeartbeats 4000000 in
set_option maxRecDepth 100000 in
theorem m_X6_person (l : Launch) (D : va_G) (cI cC : ClassId) (q0 q1 q2 q3 q4 q5 q6 q7 q8 q9 q10 q11 : Nat) (th : Int32) (ss : Nat → Int32) (asd : Nat → Int32) (sts : Nat → Int32) (sm : Int32) (snp : Nat → Int32) (hx : Int32) (tx : Nat → Int32) (lgt : Int32) (can : Nat → Int32) (szs : Nat → Int32) (ptn : Nat → Int32) (nms : Nat → Int32) (pth : Nat → Int32) (att : Int32) (isw : Int32) (rdd : Nat → Int32) (rmy : Int32) (c : Nat → Int32) (q : Bool) (x : Int32) (w : Int32) (hS : SR c ss) : g_M l yX6_person wsX6_person rm_X6_person D cI cC [.ref q0, .int (bI q), .int x, .int w] (rW cI cC q0 q1 q2 q3 q4 q5 q6 q7 q8 q9 q10 q11 th ss asd sts sm snp hx tx lgt can szs ptn nms pth att isw rdd rmy) (fun vv ww => vv = some (.int (peV c q x w)) ∧ ww = (rW cI cC q0 q1 q2 q3 q4 q5 q6 q7 q8 q9 q10 q11 (nI 0) ss asd sts sm snp hx tx lgt can szs ptn nms pth att isw rdd rmy)) := by
  refine g_entry (lv := [(0, .ref q0), (1, .int (bI q)), (2, .int x), (3, .int w)]) (own := RX6) (by decide) rfl rfl (Nat.le_of_ble_eq_true rfl) rfl ?_
  intro p e s m args below meth co A Q C hr hQ
  refine g_aload_n (pc := 0) C dX6_person_0 0 rfl rfl ?_
  refine g_iconst (pc := 1) (v := nI 0) C dX6_person_1 (by decide) ?_
  refine g_put (pc := 2) (ci := 6) (T := TX6) (N := 18) (ws' := (rW cI cC q0 q1 q2 q3 q4 q5 q6 q7 q8 q9 q10 q11 (nI 0) ss asd sts sm snp hx tx lgt can szs ptn nms pth att isw rdd rmy)) (ty := .int) (v := .int (nI 0)) C in_X6_person_X6 tyX6 tyX6_ok nmX6 0 rfl rfl 0 (by decide) fl_X6_person_43 rfl rfl (by decide +kernel) rfl rfl (Nat.le_of_ble_eq_true rfl) dX6_person_2 rfl ?_
  refine g_iload_n (pc := 5) C dX6_person_5 2 rfl rfl ?_
  refine g_callS (pc := 6) (st := []) (As := [.int x]) (nn := 1) C (m_X6_isPerson l D cI cC x) gX6_person_X6_isPerson rfl rfl rfl yd_X6_isPerson.2 ⟨Nat.le_of_ble_eq_true rfl, Nat.le_of_ble_eq_true rfl⟩ rfl [] rfl rfl rfl (Nat.le_of_ble_eq_true rfl) ⟨Nat.le_of_ble_eq_true rfl, Nat.le_of_ble_eq_true rfl⟩ dX6_person_6 ?_
  rintro _ _ ⟨rfl, rfl⟩
  refine g_eq (ws' := (rW cI cC q0 q1 q2 q3 q4 q5 q6 q7 q8 q9 q10 q11 (nI 0) ss asd sts sm snp hx tx lgt can szs ptn nms pth att isw rdd rmy)) (st' := [.int (bI (isP x))]) rfl rfl ?_
  refine g_if_neB (pc := 9) C 14 dX6_person_9 (by decide) (fun c9 => ?_) (fun c9 => ?_)
  · obtain ⟨a, ha, ex⟩ := isP_ex c9
    have px : pN x = a := by rw [ex]; exact pN_nI ha
    refine g_lveq (lv' := [(0, .ref q0), (1, .int (bI q)), (2, .int (nI a)), (3, .int w)]) (by rw [ex]) ?_
    refine g_iload_n (pc := 14) C dX6_person_14 3 rfl rfl ?_
    refine g_iconst (pc := 15) (v := nI 0) C dX6_person_15 (by decide) ?_
    refine g_iconst (pc := 16) (v := nI 5) C dX6_person_16 (by decide) ?_
    refine g_callS (pc := 17) (st := []) (As := [.int w, .int (nI 0), .int (nI 5)]) (nn := 3) C (m_X6_in l D cI cC w (nI 0) (nI 5)) gX6_person_X6_in rfl rfl rfl yd_X6_in.2 ⟨Nat.le_of_ble_eq_true rfl, Nat.le_of_ble_eq_true rfl⟩ rfl [] rfl rfl rfl (Nat.le_of_ble_eq_true rfl) ⟨Nat.le_of_ble_eq_true rfl, Nat.le_of_ble_eq_true rfl⟩ dX6_person_17 ?_
    rintro _ _ ⟨rfl, rfl⟩
    refine g_eq (ws' := (rW cI cC q0 q1 q2 q3 q4 q5 q6 q7 q8 q9 q10 q11 (nI 0) ss asd sts sm snp hx tx lgt can szs ptn nms pth att isw rdd rmy)) (st' := [.int (bI (inI w (nI 0) (nI 5)))]) rfl rfl ?_
    refine g_if_neB (pc := 20) C 26 dX6_person_20 (by decide) (fun c20 => ?_) (fun c20 => ?_)
    · refine g_iload_n (pc := 26) C dX6_person_26 3 rfl rfl ?_
      refine g_if_ne (pc := 27) C 50 dX6_person_27 (by decide) (fun c27 => ?_) (fun c27 => ?_)
      · refine g_iconst (pc := 50) (v := nI 0) C dX6_person_50 (by decide) ?_
        refine g_istore (pc := 51) (lv' := [(4, .int (nI 0)), (0, .ref q0), (1, .int (bI q)), (2, .int (nI a)), (3, .int w)]) C dX6_person_51 (by decide) rfl ?_
        refine g_iconst (pc := 53) (v := nI 0) C dX6_person_53 (by decide) ?_
        refine g_istore (pc := 54) (lv' := [(5, .int (nI 0)), (4, .int (nI 0)), (0, .ref q0), (1, .int (bI q)), (2, .int (nI a)), (3, .int w)]) C dX6_person_54 (by decide) rfl ?_
        have L56 : ∀ (NZ : Nat) (i : Nat) (u : Int32), 8 - i < NZ → (i ≤ 8) → (u = sI (prF c q a w) i) → g_J p l e rm_X6_person s m args below meth co Q D A 7 0 0 (rW cI cC q0 q1 q2 q3 q4 q5 q6 q7 q8 q9 q10 q11 (nI 0) ss asd sts sm snp hx tx lgt can szs ptn nms pth att isw rdd rmy) 56 [(0, .ref q0), (1, .int (bI q)), (2, .int (nI a)), (3, .int w), (4, .int u), (5, .int (nI i))] [] := by
          intro NZ
          induction NZ with
          | zero => intro i u hN; exact absurd hN (Nat.not_lt_zero _)
          | succ NZ ih56 =>
            intro i u hN56 hi hu
            refine g_iload (pc := 56) C dX6_person_56 5 rfl ?_
            refine g_bipush (pc := 58) (v := nI 8) C dX6_person_58 (by decide) ?_
            refine g_icmp_geN (pc := 60) C 114 (by omega) (by omega) dX6_person_60 (by decide) (fun c60 => ?_) (fun c60 => ?_)
            · refine g_iload (pc := 114) C dX6_person_114 4 rfl ?_
              refine g_top (y := (peV c q x w)) (by rw [hu, show i = 8 by omega, ← px]; exact pe_r c9 c20 c27) ?_
              exact g_iret C hr hQ dX6_person_116 rfl ⟨rfl, rfl⟩
            · refine g_iload_n (pc := 63) C dX6_person_63 1 rfl rfl ?_
              refine g_if_eqB (pc := 64) C 78 dX6_person_64 (by decide) (fun c64 => ?_) (fun c64 => ?_)
              · refine g_aload_n (pc := 78) C dX6_person_78 0 rfl rfl ?_
                refine g_iload (pc := 79) C dX6_person_79 5 rfl ?_
                refine g_iload_n (pc := 81) C dX6_person_81 2 rfl rfl ?_
                refine g_iload_n (pc := 82) C dX6_person_82 3 rfl rfl ?_
                refine g_callV (pc := 83) (st := []) (As := [.int (nI i), .int (nI a), .int w]) (nn := 3) (ci := 6) (q0 := 0) C (m_X6_ofTwo l D cI cC q0 q1 q2 q3 q4 q5 q6 q7 q8 q9 q10 q11 (nI 0) ss asd sts sm snp hx tx lgt can szs ptn nms pth att isw rdd rmy c i a w (by first | assumption | omega) (by first | assumption | omega) (by first | assumption | omega)) gX6_person_X6_ofTwo rfl rfl rfl yd_X6_ofTwo ⟨Nat.le_of_ble_eq_true rfl, Nat.le_of_ble_eq_true rfl⟩ rfl [0, 1, 2, 3, 4, 5, 6, 7, 8, 9, 10, 11] rfl rfl rfl rfl rfl (Nat.le_of_ble_eq_true rfl) ⟨Nat.le_of_ble_eq_true rfl, Nat.le_of_ble_eq_true rfl⟩ dX6_person_83 ?_
                rintro _ _ ⟨rfl, rfl⟩
                refine g_eq (ws' := (rW cI cC q0 q1 q2 q3 q4 q5 q6 q7 q8 q9 q10 q11 (nI 0) ss asd sts sm snp hx tx lgt can szs ptn nms pth att isw rdd rmy)) (st' := [.int (otC c i a w)]) rfl rfl ?_
                refine g_top (y := (otF c q a w i)) (by rw [otF_f c64]) ?_
                refine g_istore (pc := 86) (lv' := [(6, .int (otF c q a w i)), (0, .ref q0), (1, .int (bI q)), (2, .int (nI a)), (3, .int w), (4, .int u), (5, .int (nI i))]) C dX6_person_86 (by decide) rfl ?_
                refine g_iload (pc := 88) C dX6_person_88 5 rfl ?_
                refine g_iload_n (pc := 90) C dX6_person_90 4 rfl rfl ?_
                refine g_iconst (pc := 91) (v := nI 5) C dX6_person_91 (by decide) ?_
                refine g_icmp_ne (pc := 92) C 103 dX6_person_92 (by decide) (fun c92 => ?_) (fun c92 => ?_)
                · refine g_iload (pc := 103) C dX6_person_103 0 rfl ?_
                  refine g_iadd (pc := 105) C dX6_person_105 ?_
                  refine g_istore (pc := 106) (lv' := [(4, .int (u + (otF c q a w i))), (6, .int (otF c q a w i)), (0, .ref q0), (1, .int (bI q)), (2, .int (nI a)), (3, .int w), (5, .int (nI i))]) C dX6_person_106 (by decide) rfl ?_
                  refine g_iinc (pc := 108) (lv' := [(5, .int (nI (i + 1))), (4, .int (u + (otF c q a w i))), (6, .int (otF c q a w i)), (0, .ref q0), (1, .int (bI q)), (2, .int (nI a)), (3, .int w)]) C dX6_person_108 6 rfl (nI_add i 1) (by decide) rfl ?_
                  refine g_goto (pc := 111) C 56 dX6_person_111 (by decide) ?_
                  refine g_lvp (lv' := [(0, .ref q0), (1, .int (bI q)), (2, .int (nI a)), (3, .int w), (4, .int (u + (otF c q a w i))), (5, .int (nI (i + 1)))]) [3, 4, 5, 6, 1, 0] rfl ?_
                  exact ih56 (i + 1) (u + (otF c q a w i)) (by omega) (by first | assumption | omega) (by rw [hu, show sI (prF c q a w) (i + 1) = sI (prF c q a w) i + prF c q a w i from rfl, prF, if_neg c92])
                · refine g_iload (pc := 95) C dX6_person_95 0 rfl ?_
                  refine g_iload (pc := 97) C dX6_person_97 6 rfl ?_
                  refine g_ishl (pc := 99) C dX6_person_99 ?_
                  refine g_goto (pc := 100) C 105 dX6_person_100 (by decide) ?_
                  refine g_iadd (pc := 105) C dX6_person_105 ?_
                  refine g_istore (pc := 106) (lv' := [(4, .int (u + ((otF c q a w i) <<< ((nI i) &&& 31)))), (6, .int (otF c q a w i)), (0, .ref q0), (1, .int (bI q)), (2, .int (nI a)), (3, .int w), (5, .int (nI i))]) C dX6_person_106 (by decide) rfl ?_
                  refine g_iinc (pc := 108) (lv' := [(5, .int (nI (i + 1))), (4, .int (u + ((otF c q a w i) <<< ((nI i) &&& 31)))), (6, .int (otF c q a w i)), (0, .ref q0), (1, .int (bI q)), (2, .int (nI a)), (3, .int w)]) C dX6_person_108 6 rfl (nI_add i 1) (by decide) rfl ?_
                  refine g_goto (pc := 111) C 56 dX6_person_111 (by decide) ?_
                  refine g_lvp (lv' := [(0, .ref q0), (1, .int (bI q)), (2, .int (nI a)), (3, .int w), (4, .int (u + ((otF c q a w i) <<< ((nI i) &&& 31)))), (5, .int (nI (i + 1)))]) [3, 4, 5, 6, 1, 0] rfl ?_
                  exact ih56 (i + 1) (u + ((otF c q a w i) <<< ((nI i) &&& 31))) (by omega) (by first | assumption | omega) (by rw [hu, show sI (prF c q a w) (i + 1) = sI (prF c q a w) i + prF c q a w i from rfl, prF, if_pos c92])
              · refine g_aload_n (pc := 67) C dX6_person_67 0 rfl rfl ?_
                refine g_iload_n (pc := 68) C dX6_person_68 2 rfl rfl ?_
                refine g_iload (pc := 69) C dX6_person_69 5 rfl ?_
                refine g_iload_n (pc := 71) C dX6_person_71 3 rfl rfl ?_
                refine g_callV (pc := 72) (st := []) (As := [.int (nI a), .int (nI i), .int w]) (nn := 3) (ci := 6) (q0 := 0) C (m_X6_ofTwo l D cI cC q0 q1 q2 q3 q4 q5 q6 q7 q8 q9 q10 q11 (nI 0) ss asd sts sm snp hx tx lgt can szs ptn nms pth att isw rdd rmy c a i w (by first | assumption | omega) (by first | assumption | omega) (by first | assumption | omega)) gX6_person_X6_ofTwo rfl rfl rfl yd_X6_ofTwo ⟨Nat.le_of_ble_eq_true rfl, Nat.le_of_ble_eq_true rfl⟩ rfl [0, 1, 2, 3, 4, 5, 6, 7, 8, 9, 10, 11] rfl rfl rfl rfl rfl (Nat.le_of_ble_eq_true rfl) ⟨Nat.le_of_ble_eq_true rfl, Nat.le_of_ble_eq_true rfl⟩ dX6_person_72 ?_
                rintro _ _ ⟨rfl, rfl⟩
                refine g_eq (ws' := (rW cI cC q0 q1 q2 q3 q4 q5 q6 q7 q8 q9 q10 q11 (nI 0) ss asd sts sm snp hx tx lgt can szs ptn nms pth att isw rdd rmy)) (st' := [.int (otC c a i w)]) rfl rfl ?_
                refine g_goto (pc := 75) C 86 dX6_person_75 (by decide) ?_
                refine g_top (y := (otF c q a w i)) (by rw [otF_t c64]) ?_
                refine g_istore (pc := 86) (lv' := [(6, .int (otF c q a w i)), (0, .ref q0), (1, .int (bI q)), (2, .int (nI a)), (3, .int w), (4, .int u), (5, .int (nI i))]) C dX6_person_86 (by decide) rfl ?_
                refine g_iload (pc := 88) C dX6_person_88 5 rfl ?_
                refine g_iload_n (pc := 90) C dX6_person_90 4 rfl rfl ?_
                refine g_iconst (pc := 91) (v := nI 5) C dX6_person_91 (by decide) ?_
                refine g_icmp_ne (pc := 92) C 103 dX6_person_92 (by decide) (fun c92 => ?_) (fun c92 => ?_)
                · refine g_iload (pc := 103) C dX6_person_103 0 rfl ?_
                  refine g_iadd (pc := 105) C dX6_person_105 ?_
                  refine g_istore (pc := 106) (lv' := [(4, .int (u + (otF c q a w i))), (6, .int (otF c q a w i)), (0, .ref q0), (1, .int (bI q)), (2, .int (nI a)), (3, .int w), (5, .int (nI i))]) C dX6_person_106 (by decide) rfl ?_
                  refine g_iinc (pc := 108) (lv' := [(5, .int (nI (i + 1))), (4, .int (u + (otF c q a w i))), (6, .int (otF c q a w i)), (0, .ref q0), (1, .int (bI q)), (2, .int (nI a)), (3, .int w)]) C dX6_person_108 6 rfl (nI_add i 1) (by decide) rfl ?_
                  refine g_goto (pc := 111) C 56 dX6_person_111 (by decide) ?_
                  refine g_lvp (lv' := [(0, .ref q0), (1, .int (bI q)), (2, .int (nI a)), (3, .int w), (4, .int (u + (otF c q a w i))), (5, .int (nI (i + 1)))]) [3, 4, 5, 6, 1, 0] rfl ?_
                  exact ih56 (i + 1) (u + (otF c q a w i)) (by omega) (by first | assumption | omega) (by rw [hu, show sI (prF c q a w) (i + 1) = sI (prF c q a w) i + prF c q a w i from rfl, prF, if_neg c92])
                · refine g_iload (pc := 95) C dX6_person_95 0 rfl ?_
                  refine g_iload (pc := 97) C dX6_person_97 6 rfl ?_
                  refine g_ishl (pc := 99) C dX6_person_99 ?_
                  refine g_goto (pc := 100) C 105 dX6_person_100 (by decide) ?_
                  refine g_iadd (pc := 105) C dX6_person_105 ?_
                  refine g_istore (pc := 106) (lv' := [(4, .int (u + ((otF c q a w i) <<< ((nI i) &&& 31)))), (6, .int (otF c q a w i)), (0, .ref q0), (1, .int (bI q)), (2, .int (nI a)), (3, .int w), (5, .int (nI i))]) C dX6_person_106 (by decide) rfl ?_
                  refine g_iinc (pc := 108) (lv' := [(5, .int (nI (i + 1))), (4, .int (u + ((otF c q a w i) <<< ((nI i) &&& 31)))), (6, .int (otF c q a w i)), (0, .ref q0), (1, .int (bI q)), (2, .int (nI a)), (3, .int w)]) C dX6_person_108 6 rfl (nI_add i 1) (by decide) rfl ?_
                  refine g_goto (pc := 111) C 56 dX6_person_111 (by decide) ?_
                  refine g_lvp (lv' := [(0, .ref q0), (1, .int (bI q)), (2, .int (nI a)), (3, .int w), (4, .int (u + ((otF c q a w i) <<< ((nI i) &&& 31)))), (5, .int (nI (i + 1)))]) [3, 4, 5, 6, 1, 0] rfl ?_
                  exact ih56 (i + 1) (u + ((otF c q a w i) <<< ((nI i) &&& 31))) (by omega) (by first | assumption | omega) (by rw [hu, show sI (prF c q a w) (i + 1) = sI (prF c q a w) i + prF c q a w i from rfl, prF, if_pos c92])
        refine g_lvp (lv' := [(0, .ref q0), (1, .int (bI q)), (2, .int (nI a)), (3, .int w), (4, .int (nI 0)), (5, .int (nI 0))]) [2, 3, 4, 5, 1, 0] rfl ?_
        exact L56 _ 0 (nI 0) (Nat.lt_succ_self _) (by first | assumption | omega) (rfl)
      · refine g_aload_n (pc := 30) C dX6_person_30 0 rfl rfl ?_
        refine g_get (pc := 31) (ci := 6) (T := TX6) (N := 18) (v := .ref q1) C in_X6_person_X6 0 rfl rfl 1 (by decide) fl_X6_person_7 rfl rfl dX6_person_31 ?_
        refine g_iconst (pc := 34) (v := nI 1) C dX6_person_34 (by decide) ?_
        refine g_iload_n (pc := 35) C dX6_person_35 1 rfl rfl ?_
        refine g_if_eqB (pc := 36) C 43 dX6_person_36 (by decide) (fun c36 => ?_) (fun c36 => ?_)
        · refine g_bipush (pc := 43) (v := nI 8) C dX6_person_43 (by decide) ?_
          refine g_iaddN (pc := 45) C dX6_person_45 ?_
          refine g_iload_n (pc := 46) C dX6_person_46 2 rfl rfl ?_
          refine g_iaddN (pc := 47) C dX6_person_47 ?_
          refine g_ialdN (pc := 48) (f := ss) C 1 rfl (by omega) (by decide) dX6_person_48 ?_
          refine g_top (y := (c (8 + a))) (by rw [Nat.add_assoc]; exact hS.g (by omega)) ?_
          refine g_top (y := (peV c q x w)) (by rw [peV, if_pos c9, if_pos (show w = nI 0 from c27), px, c36]; rfl) ?_
          exact g_iret C hr hQ dX6_person_49 rfl ⟨rfl, rfl⟩
        · refine g_iconst (pc := 39) (v := nI 0) C dX6_person_39 (by decide) ?_
          refine g_goto (pc := 40) C 45 dX6_person_40 (by decide) ?_
          refine g_iaddN (pc := 45) C dX6_person_45 ?_
          refine g_iload_n (pc := 46) C dX6_person_46 2 rfl rfl ?_
          refine g_iaddN (pc := 47) C dX6_person_47 ?_
          refine g_ialdN (pc := 48) (f := ss) C 1 rfl (by omega) (by decide) dX6_person_48 ?_
          refine g_top (y := (c (0 + a))) (by rw [Nat.add_assoc]; exact hS.g (by omega)) ?_
          refine g_top (y := (peV c q x w)) (by rw [peV, if_pos c9, if_pos (show w = nI 0 from c27), px, c36]; rfl) ?_
          exact g_iret C hr hQ dX6_person_49 rfl ⟨rfl, rfl⟩
    · refine g_bipush (pc := 23) (v := (-2)) C dX6_person_23 (by decide) ?_
      refine g_top (y := (peV c q x w)) (by rw [pe_no c9 c20]) ?_
      exact g_iret C hr hQ dX6_person_25 rfl ⟨rfl, rfl⟩
  · refine g_iconst (pc := 12) (v := (-1)) C dX6_person_12 (by decide) ?_
    refine g_top (y := (peV c q x w)) (by rw [peV, c9]; rfl) ?_
    exact g_iret C hr hQ dX6_person_13 rfl ⟨rfl, rfl⟩

abbrev rm_X6_why : Room := { frames := 5, cells := 0, slots := 0, locals := 112 }
theorem yd_X6_why : yX6_why.cls = RX6 ∧ yX6_why.cls ≠ "java/lang/invoke/MethodHandle" ∧ yX6_why.cls ≠ "java/lang/invoke/VarHandle" ∧ (parseMethodDescriptor yX6_why.desc).map (fun d => d.parameters.length) = some 2 := by decide +kernel
theorem in_X6_why_X6 : ∀ w ∈ u_ws RX6 TX6 18, w ∈ wsX6_why := by decide +kernel
theorem fl_X6_why_7 : Cond.fieldLink RX6 7 "FenceHandshakesModel" "s" "[I" ∈ wsX6_why := by decide +kernel
theorem fl_X6_why_31 : Cond.fieldLink RX6 31 "FenceHandshakesModel" "partners" "[I" ∈ wsX6_why := by decide +kernel
set_option maxHeartbeats 4000000 in
set_option maxRecDepth 100000 in
theorem m_X6_why (l : Launch) (D : va_G) (cI cC : ClassId) (q0 q1 q2 q3 q4 q5 q6 q7 q8 q9 q10 q11 : Nat) (th : Int32) (ss : Nat → Int32) (asd : Nat → Int32) (sts : Nat → Int32) (sm : Int32) (snp : Nat → Int32) (hx : Int32) (tx : Nat → Int32) (lgt : Int32) (can : Nat → Int32) (szs : Nat → Int32) (ptn : Nat → Int32) (nms : Nat → Int32) (pth : Nat → Int32) (att : Int32) (isw : Int32) (rdd : Nat → Int32) (rmy : Int32) (c : Nat → Int32) (a : Nat) (b : Nat) (ha : a < 8) (hb : b < 8) (hS : SR c ss) : g_M l yX6_why wsX6_why rm_X6_why D cI cC [.ref q0, .int (nI a), .int (nI b)] (rW cI cC q0 q1 q2 q3 q4 q5 q6 q7 q8 q9 q10 q11 th ss asd sts sm snp hx tx lgt can szs ptn nms pth att isw rdd rmy) (fun vv ww => ∃ (can2 : Nat → Int32) (szs2 : Nat → Int32) (ptn2 : Nat → Int32), vv = some (.int (whV c a b)) ∧ ww = (rW cI cC q0 q1 q2 q3 q4 q5 q6 q7 q8 q9 q10 q11 th ss asd sts sm snp hx tx lgt can2 szs2 ptn2 nms pth att isw rdd rmy)) := by
  refine g_entry (lv := [(0, .ref q0), (1, .int (nI a)), (2, .int (nI b))]) (own := RX6) (by decide) rfl rfl (Nat.le_of_ble_eq_true rfl) rfl ?_
  intro p e s m args below meth co A Q C hr hQ
  refine g_aload_n (pc := 0) C dX6_why_0 0 rfl rfl ?_
  refine g_iload_n (pc := 1) C dX6_why_1 1 rfl rfl ?_
  refine g_iload_n (pc := 2) C dX6_why_2 2 rfl rfl ?_
  refine g_callV (pc := 3) (st := []) (As := [.int (nI a), .int (nI b)]) (nn := 2) (ci := 6) (q0 := 0) C (m_X6_isOpen l D cI cC q0 q1 q2 q3 q4 q5 q6 q7 q8 q9 q10 q11 th ss asd sts sm snp hx tx lgt can szs ptn nms pth att isw rdd rmy c a b (by first | assumption | omega) (by first | assumption | omega) (by first | assumption | omega)) gX6_why_X6_isOpen rfl rfl rfl yd_X6_isOpen ⟨Nat.le_of_ble_eq_true rfl, Nat.le_of_ble_eq_true rfl⟩ rfl [0, 1, 2, 3, 4, 5, 6, 7, 8, 9, 10, 11] rfl rfl rfl rfl rfl (Nat.le_of_ble_eq_true rfl) ⟨Nat.le_of_ble_eq_true rfl, Nat.le_of_ble_eq_true rfl⟩ dX6_why_3 ?_
  rintro _ _ ⟨rfl, rfl⟩
  refine g_eq (ws' := (rW cI cC q0 q1 q2 q3 q4 q5 q6 q7 q8 q9 q10 q11 th ss asd sts sm snp hx tx lgt can szs ptn nms pth att isw rdd rmy)) (st' := [.int (bI (wiC c a b))]) rfl rfl ?_
  refine g_if_neB (pc := 6) C 11 dX6_why_6 (by decide) (fun c6 => ?_) (fun c6 => ?_)
  · refine g_aload_n (pc := 11) C dX6_why_11 0 rfl rfl ?_
    refine g_iload_n (pc := 12) C dX6_why_12 1 rfl rfl ?_
    refine g_iload_n (pc := 13) C dX6_why_13 2 rfl rfl ?_
    refine g_callV (pc := 14) (st := []) (As := [.int (nI a), .int (nI b)]) (nn := 2) (ci := 6) (q0 := 0) C (m_X6_areLinked l D cI cC q0 q1 q2 q3 q4 q5 q6 q7 q8 q9 q10 q11 th ss asd sts sm snp hx tx lgt can szs ptn nms pth att isw rdd rmy c a b (by first | assumption | omega) (by first | assumption | omega) (by first | assumption | omega)) gX6_why_X6_areLinked rfl rfl rfl yd_X6_areLinked ⟨Nat.le_of_ble_eq_true rfl, Nat.le_of_ble_eq_true rfl⟩ rfl [0, 1, 2, 3, 4, 5, 6, 7, 8, 9, 10, 11] rfl rfl rfl rfl rfl (Nat.le_of_ble_eq_true rfl) ⟨Nat.le_of_ble_eq_true rfl, Nat.le_of_ble_eq_true rfl⟩ dX6_why_14 ?_
    rintro _ _ ⟨rfl, rfl⟩
    refine g_eq (ws' := (rW cI cC q0 q1 q2 q3 q4 q5 q6 q7 q8 q9 q10 q11 th ss asd sts sm snp hx tx lgt can szs ptn nms pth att isw rdd rmy)) (st' := [.int (bI (glC c a b))]) rfl rfl ?_
    refine g_if_neB (pc := 17) C 22 dX6_why_17 (by decide) (fun c17 => ?_) (fun c17 => ?_)
    · refine g_aload_n (pc := 22) C dX6_why_22 0 rfl rfl ?_
      refine g_get (pc := 23) (ci := 6) (T := TX6) (N := 18) (v := .ref q1) C in_X6_why_X6 0 rfl rfl 1 (by decide) fl_X6_why_7 rfl rfl dX6_why_23 ?_
      refine g_bipush (pc := 26) (v := nI 33) C dX6_why_26 (by decide) ?_
      refine g_bipush (pc := 28) (v := nI 8) C dX6_why_28 (by decide) ?_
      refine g_iload_n (pc := 30) C dX6_why_30 1 rfl rfl ?_
      refine g_imulN (pc := 31) C dX6_why_31 ?_
      refine g_iaddN (pc := 32) C dX6_why_32 ?_
      refine g_iload_n (pc := 33) C dX6_why_33 2 rfl rfl ?_
      refine g_iaddN (pc := 34) C dX6_why_34 ?_
      refine g_ialdN (pc := 35) (f := ss) C 1 rfl (by omega) (by decide) dX6_why_35 ?_
      refine g_top (y := (feC c a b)) (hS.fe ha hb) ?_
      refine g_if_le (pc := 36) C 41 dX6_why_36 (by decide) (fun c36 => ?_) (fun c36 => ?_)
      · refine g_aload_n (pc := 41) C dX6_why_41 0 rfl rfl ?_
        refine g_callV (pc := 42) (st := []) (As := []) (nn := 0) (ci := 6) (q0 := 0) C (m_X6_matches l D cI cC q0 q1 q2 q3 q4 q5 q6 q7 q8 q9 q10 q11 th ss asd sts sm snp hx tx lgt can szs ptn nms pth att isw rdd rmy c (by first | assumption | omega)) gX6_why_X6_matches rfl rfl rfl yd_X6_matches ⟨Nat.le_of_ble_eq_true rfl, Nat.le_of_ble_eq_true rfl⟩ rfl [0, 1, 2, 3, 4, 5, 6, 7, 8, 9, 10, 11] rfl rfl rfl rfl rfl (Nat.le_of_ble_eq_true rfl) ⟨Nat.le_of_ble_eq_true rfl, Nat.le_of_ble_eq_true rfl⟩ dX6_why_42 ?_
        rintro _ _ ⟨can9, szs9, ptn9, rfl, rfl, u1, u2⟩
        refine g_eq (ws' := (rW cI cC q0 q1 q2 q3 q4 q5 q6 q7 q8 q9 q10 q11 th ss asd sts sm snp hx tx lgt can9 szs9 ptn9 nms pth att isw rdd rmy)) (st' := [.int (nI (szC c))]) rfl rfl ?_
        refine g_pop (pc := 45) C dX6_why_45 rfl ?_
        refine g_aload_n (pc := 46) C dX6_why_46 0 rfl rfl ?_
        refine g_get (pc := 47) (ci := 6) (T := TX6) (N := 18) (v := .ref q8) C in_X6_why_X6 0 rfl rfl 11 (by decide) fl_X6_why_31 rfl rfl dX6_why_47 ?_
        refine g_iload_n (pc := 50) C dX6_why_50 1 rfl rfl ?_
        refine g_ialdN (pc := 51) (f := ptn9) C 8 rfl (by omega) (by decide) dX6_why_51 ?_
        refine g_top (y := (pI (spE (EC c) a))) (u2 a ha) ?_
        refine g_iload_n (pc := 52) C dX6_why_52 2 rfl rfl ?_
        refine g_icmp_ne (pc := 53) C 60 dX6_why_53 (by decide) (fun c53 => ?_) (fun c53 => ?_)
        · refine g_iconst (pc := 60) (v := nI 4) C dX6_why_60 (by decide) ?_
          refine g_top (y := (whV c a b)) (by rw [whV, if_neg (by rw [c6]; decide), if_neg (by rw [c17]; decide), if_neg (Int32.not_lt.mpr c36), if_neg c53]) ?_
          exact g_iret C hr hQ dX6_why_61 rfl ⟨_, _, _, rfl, rfl⟩
        · refine g_iconst (pc := 56) (v := nI 0) C dX6_why_56 (by decide) ?_
          refine g_goto (pc := 57) C 61 dX6_why_57 (by decide) ?_
          refine g_top (y := (whV c a b)) (by rw [whV, if_neg (by rw [c6]; decide), if_neg (by rw [c17]; decide), if_neg (Int32.not_lt.mpr c36), if_pos c53]) ?_
          exact g_iret C hr hQ dX6_why_61 rfl ⟨_, _, _, rfl, rfl⟩
      · refine g_iconst (pc := 39) (v := nI 3) C dX6_why_39 (by decide) ?_
        refine g_top (y := (whV c a b)) (by rw [whV, if_neg (by rw [c6]; decide), if_neg (by rw [c17]; decide), if_pos (Int32.not_le.mp c36)]) ?_
        exact g_iret C hr hQ dX6_why_40 rfl ⟨_, _, _, rfl, rfl⟩
    · refine g_iconst (pc := 20) (v := nI 2) C dX6_why_20 (by decide) ?_
      refine g_top (y := (whV c a b)) (by rw [whV, if_neg (by rw [c6]; decide), if_pos c17]) ?_
      exact g_iret C hr hQ dX6_why_21 rfl ⟨_, _, _, rfl, rfl⟩
  · refine g_iconst (pc := 9) (v := nI 1) C dX6_why_9 (by decide) ?_
    refine g_top (y := (whV c a b)) (by rw [whV, if_pos c6]) ?_
    exact g_iret C hr hQ dX6_why_10 rfl ⟨_, _, _, rfl, rfl⟩

abbrev rm_X6_pair : Room := { frames := 6, cells := 0, slots := 0, locals := 134 }
theorem yd_X6_pair : yX6_pair.cls = RX6 ∧ yX6_pair.cls ≠ "java/lang/invoke/MethodHandle" ∧ yX6_pair.cls ≠ "java/lang/invoke/VarHandle" ∧ (parseMethodDescriptor yX6_pair.desc).map (fun d => d.parameters.length) = some 3 := by decide +kernel
theorem in_X6_pair_X6 : ∀ w ∈ u_ws RX6 TX6 18, w ∈ wsX6_pair := by decide +kernel
theorem fl_X6_pair_7 : Cond.fieldLink RX6 7 "FenceHandshakesModel" "s" "[I" ∈ wsX6_pair := by decide +kernel
theorem fl_X6_pair_43 : Cond.fieldLink RX6 43 "FenceHandshakesModel" "thrown" "I" ∈ wsX6_pair := by decide +kernel
set_option maxHeartbeats 4000000 in
set_option maxRecDepth 100000 in
theorem m_X6_pair (l : Launch) (D : va_G) (cI cC : ClassId) (q0 q1 q2 q3 q4 q5 q6 q7 q8 q9 q10 q11 : Nat) (th : Int32) (ss : Nat → Int32) (asd : Nat → Int32) (sts : Nat → Int32) (sm : Int32) (snp : Nat → Int32) (hx : Int32) (tx : Nat → Int32) (lgt : Int32) (can : Nat → Int32) (szs : Nat → Int32) (ptn : Nat → Int32) (nms : Nat → Int32) (pth : Nat → Int32) (att : Int32) (isw : Int32) (rdd : Nat → Int32) (rmy : Int32) (c : Nat → Int32) (x : Int32) (y : Int32) (w : Int32) (hS : SR c ss) : g_M l yX6_pair wsX6_pair rm_X6_pair D cI cC [.ref q0, .int x, .int y, .int w] (rW cI cC q0 q1 q2 q3 q4 q5 q6 q7 q8 q9 q10 q11 th ss asd sts sm snp hx tx lgt can szs ptn nms pth att isw rdd rmy) (fun vv ww => ∃ (can2 : Nat → Int32) (szs2 : Nat → Int32) (ptn2 : Nat → Int32), vv = some (.int (paV c x y w)) ∧ ww = (rW cI cC q0 q1 q2 q3 q4 q5 q6 q7 q8 q9 q10 q11 (nI 0) ss asd sts sm snp hx tx lgt can2 szs2 ptn2 nms pth att isw rdd rmy)) := by
  refine g_entry (lv := [(0, .ref q0), (1, .int x), (2, .int y), (3, .int w)]) (own := RX6) (by decide) rfl rfl (Nat.le_of_ble_eq_true rfl) rfl ?_
  intro p e s m args below meth co A Q C hr hQ
  refine g_aload_n (pc := 0) C dX6_pair_0 0 rfl rfl ?_
  refine g_iconst (pc := 1) (v := nI 0) C dX6_pair_1 (by decide) ?_
  refine g_put (pc := 2) (ci := 6) (T := TX6) (N := 18) (ws' := (rW cI cC q0 q1 q2 q3 q4 q5 q6 q7 q8 q9 q10 q11 (nI 0) ss asd sts sm snp hx tx lgt can szs ptn nms pth att isw rdd rmy)) (ty := .int) (v := .int (nI 0)) C in_X6_pair_X6 tyX6 tyX6_ok nmX6 0 rfl rfl 0 (by decide) fl_X6_pair_43 rfl rfl (by decide +kernel) rfl rfl (Nat.le_of_ble_eq_true rfl) dX6_pair_2 rfl ?_
  refine g_iload_n (pc := 5) C dX6_pair_5 1 rfl rfl ?_
  refine g_iload_n (pc := 6) C dX6_pair_6 2 rfl rfl ?_
  refine g_callS (pc := 7) (st := []) (As := [.int x, .int y]) (nn := 2) C (m_X6_isPair l D cI cC x y) gX6_pair_X6_isPair rfl rfl rfl yd_X6_isPair.2 ⟨Nat.le_of_ble_eq_true rfl, Nat.le_of_ble_eq_true rfl⟩ rfl [] rfl rfl rfl (Nat.le_of_ble_eq_true rfl) ⟨Nat.le_of_ble_eq_true rfl, Nat.le_of_ble_eq_true rfl⟩ dX6_pair_7 ?_
  rintro _ _ ⟨rfl, rfl⟩
  refine g_eq (ws' := (rW cI cC q0 q1 q2 q3 q4 q5 q6 q7 q8 q9 q10 q11 (nI 0) ss asd sts sm snp hx tx lgt can szs ptn nms pth att isw rdd rmy)) (st' := [.int (bI (two x y))]) rfl rfl ?_
  refine g_if_neB (pc := 10) C 15 dX6_pair_10 (by decide) (fun c10 => ?_) (fun c10 => ?_)
  · obtain ⟨a, b, ha, hb, ex, ey, px, py⟩ := two_ex c10
    refine g_lveq (lv' := [(0, .ref q0), (1, .int (nI a)), (2, .int y), (3, .int w)]) (by rw [ex]) ?_
    refine g_lveq (lv' := [(0, .ref q0), (1, .int (nI a)), (2, .int (nI b)), (3, .int w)]) (by rw [ey]) ?_
    refine g_iload_n (pc := 15) C dX6_pair_15 3 rfl rfl ?_
    by_cases t16_0 : w = nI 0
    · refine g_top (y := nI 0) t16_0 ?_
      refine g_tabIn (pc := 16) C 48 dX6_pair_16 (by decide) (by decide) rfl (by decide) ?_
      refine g_aload_n (pc := 48) C dX6_pair_48 0 rfl rfl ?_
      refine g_get (pc := 49) (ci := 6) (T := TX6) (N := 18) (v := .ref q1) C in_X6_pair_X6 0 rfl rfl 1 (by decide) fl_X6_pair_7 rfl rfl dX6_pair_49 ?_
      refine g_bipush (pc := 52) (v := nI 97) C dX6_pair_52 (by decide) ?_
      refine g_bipush (pc := 54) (v := nI 8) C dX6_pair_54 (by decide) ?_
      refine g_iload_n (pc := 56) C dX6_pair_56 1 rfl rfl ?_
      refine g_imulN (pc := 57) C dX6_pair_57 ?_
      refine g_iaddN (pc := 58) C dX6_pair_58 ?_
      refine g_iload_n (pc := 59) C dX6_pair_59 2 rfl rfl ?_
      refine g_iaddN (pc := 60) C dX6_pair_60 ?_
      refine g_ialdN (pc := 61) (f := ss) C 1 rfl (by omega) (by decide) dX6_pair_61 ?_
      refine g_top (y := bI (wiC c a b)) (hS.w ha hb) ?_
      refine g_top (y := (paV c x y w)) (by rw [paV, c10, px, py, if_pos rfl, if_pos t16_0]) ?_
      exact g_iret C hr hQ dX6_pair_62 rfl ⟨_, _, _, rfl, rfl⟩
    by_cases t16_1 : w = nI 1
    · refine g_top (y := nI 1) t16_1 ?_
      refine g_tabIn (pc := 16) C 63 dX6_pair_16 (by decide) (by decide) rfl (by decide) ?_
      refine g_aload_n (pc := 63) C dX6_pair_63 0 rfl rfl ?_
      refine g_get (pc := 64) (ci := 6) (T := TX6) (N := 18) (v := .ref q1) C in_X6_pair_X6 0 rfl rfl 1 (by decide) fl_X6_pair_7 rfl rfl dX6_pair_64 ?_
      refine g_bipush (pc := 67) (v := nI 33) C dX6_pair_67 (by decide) ?_
      refine g_bipush (pc := 69) (v := nI 8) C dX6_pair_69 (by decide) ?_
      refine g_iload_n (pc := 71) C dX6_pair_71 1 rfl rfl ?_
      refine g_imulN (pc := 72) C dX6_pair_72 ?_
      refine g_iaddN (pc := 73) C dX6_pair_73 ?_
      refine g_iload_n (pc := 74) C dX6_pair_74 2 rfl rfl ?_
      refine g_iaddN (pc := 75) C dX6_pair_75 ?_
      refine g_ialdN (pc := 76) (f := ss) C 1 rfl (by omega) (by decide) dX6_pair_76 ?_
      refine g_top (y := (feC c a b)) (hS.fe ha hb) ?_
      refine g_top (y := (paV c x y w)) (by rw [paV, c10, px, py, if_pos rfl, if_neg t16_0, if_pos t16_1]) ?_
      exact g_iret C hr hQ dX6_pair_77 rfl ⟨_, _, _, rfl, rfl⟩
    by_cases t16_2 : w = nI 2
    · refine g_top (y := nI 2) t16_2 ?_
      refine g_tabIn (pc := 16) C 78 dX6_pair_16 (by decide) (by decide) rfl (by decide) ?_
      refine g_aload_n (pc := 78) C dX6_pair_78 0 rfl rfl ?_
      refine g_get (pc := 79) (ci := 6) (T := TX6) (N := 18) (v := .ref q1) C in_X6_pair_X6 0 rfl rfl 1 (by decide) fl_X6_pair_7 rfl rfl dX6_pair_79 ?_
      refine g_sipush (pc := 82) (v := nI 161) C dX6_pair_82 (by decide) ?_
      refine g_bipush (pc := 85) (v := nI 8) C dX6_pair_85 (by decide) ?_
      refine g_iload_n (pc := 87) C dX6_pair_87 1 rfl rfl ?_
      refine g_imulN (pc := 88) C dX6_pair_88 ?_
      refine g_iaddN (pc := 89) C dX6_pair_89 ?_
      refine g_iload_n (pc := 90) C dX6_pair_90 2 rfl rfl ?_
      refine g_iaddN (pc := 91) C dX6_pair_91 ?_
      refine g_ialdN (pc := 92) (f := ss) C 1 rfl (by omega) (by decide) dX6_pair_92 ?_
      refine g_top (y := (taC c a b)) (hS.ta ha hb) ?_
      refine g_top (y := (paV c x y w)) (by rw [paV, c10, px, py, if_pos rfl, if_neg t16_0, if_neg t16_1, if_pos t16_2]) ?_
      exact g_iret C hr hQ dX6_pair_93 rfl ⟨_, _, _, rfl, rfl⟩
    by_cases t16_3 : w = nI 3
    · refine g_top (y := nI 3) t16_3 ?_
      refine g_tabIn (pc := 16) C 94 dX6_pair_16 (by decide) (by decide) rfl (by decide) ?_
      refine g_aload_n (pc := 94) C dX6_pair_94 0 rfl rfl ?_
      refine g_iload_n (pc := 95) C dX6_pair_95 1 rfl rfl ?_
      refine g_iload_n (pc := 96) C dX6_pair_96 2 rfl rfl ?_
      refine g_callV (pc := 97) (st := []) (As := [.int (nI a), .int (nI b)]) (nn := 2) (ci := 6) (q0 := 0) C (m_X6_why l D cI cC q0 q1 q2 q3 q4 q5 q6 q7 q8 q9 q10 q11 (nI 0) ss asd sts sm snp hx tx lgt can szs ptn nms pth att isw rdd rmy c a b (by first | assumption | omega) (by first | assumption | omega) (by first | assumption | omega)) gX6_pair_X6_why rfl rfl rfl yd_X6_why ⟨Nat.le_of_ble_eq_true rfl, Nat.le_of_ble_eq_true rfl⟩ rfl [0, 1, 2, 3, 4, 5, 6, 7, 8, 9, 10, 11] rfl rfl rfl rfl rfl (Nat.le_of_ble_eq_true rfl) ⟨Nat.le_of_ble_eq_true rfl, Nat.le_of_ble_eq_true rfl⟩ dX6_pair_97 ?_
      rintro _ _ ⟨can9, szs9, ptn9, rfl, rfl⟩
      refine g_eq (ws' := (rW cI cC q0 q1 q2 q3 q4 q5 q6 q7 q8 q9 q10 q11 (nI 0) ss asd sts sm snp hx tx lgt can9 szs9 ptn9 nms pth att isw rdd rmy)) (st' := [.int (whV c a b)]) rfl rfl ?_
      refine g_top (y := (paV c x y w)) (by rw [paV, c10, px, py, if_pos rfl, if_neg t16_0, if_neg t16_1, if_neg t16_2, if_pos t16_3]) ?_
      exact g_iret C hr hQ dX6_pair_100 rfl ⟨_, _, _, rfl, rfl⟩
    refine g_tabOut (pc := 16) C 101 dX6_pair_16 (g_out 0 3 (by decide) (by intro k h1 h2; rcases (show k = 0 ∨ k = 1 ∨ k = 2 ∨ k = 3 by omega) with rfl | rfl | rfl | rfl <;> assumption)) (by decide) ?_
    refine g_bipush (pc := 101) (v := (-2)) C dX6_pair_101 (by decide) ?_
    refine g_top (y := (paV c x y w)) (by rw [paV, c10, if_pos rfl, if_neg t16_0, if_neg t16_1, if_neg t16_2, if_neg t16_3]) ?_
    exact g_iret C hr hQ dX6_pair_103 rfl ⟨_, _, _, rfl, rfl⟩
  · refine g_iconst (pc := 13) (v := (-1)) C dX6_pair_13 (by decide) ?_
    refine g_top (y := (paV c x y w)) (by rw [paV, c10]; rfl) ?_
    exact g_iret C hr hQ dX6_pair_14 rfl ⟨_, _, _, rfl, rfl⟩

abbrev rm_X6_isLinked : Room := { frames := 2, cells := 0, slots := 0, locals := 42 }
theorem yd_X6_isLinked : yX6_isLinked.cls = RX6 ∧ yX6_isLinked.cls ≠ "java/lang/invoke/MethodHandle" ∧ yX6_isLinked.cls ≠ "java/lang/invoke/VarHandle" ∧ (parseMethodDescriptor yX6_isLinked.desc).map (fun d => d.parameters.length) = some 2 := by decide +kernel
theorem in_X6_isLinked_X6 : ∀ w ∈ u_ws RX6 TX6 18, w ∈ wsX6_isLinked := by decide +kernel
theorem fl_X6_isLinked_7 : Cond.fieldLink RX6 7 "FenceHandshakesModel" "s" "[I" ∈ wsX6_isLinked := by decide +kernel
theorem fl_X6_isLinked_43 : Cond.fieldLink RX6 43 "FenceHandshakesModel" "thrown" "I" ∈ wsX6_isLinked := by decide +kernel
set_option maxHeartbeats 4000000 in
set_option maxRecDepth 100000 in
theorem m_X6_isLinked (l : Launch) (D : va_G) (cI cC : ClassId) (q0 q1 q2 q3 q4 q5 q6 q7 q8 q9 q10 q11 : Nat) (th : Int32) (ss : Nat → Int32) (asd : Nat → Int32) (sts : Nat → Int32) (sm : Int32) (snp : Nat → Int32) (hx : Int32) (tx : Nat → Int32) (lgt : Int32) (can : Nat → Int32) (szs : Nat → Int32) (ptn : Nat → Int32) (nms : Nat → Int32) (pth : Nat → Int32) (att : Int32) (isw : Int32) (rdd : Nat → Int32) (rmy : Int32) (c : Nat → Int32) (x : Int32) (y : Int32) (hS : SR c ss) : g_M l yX6_isLinked wsX6_isLinked rm_X6_isLinked D cI cC [.ref q0, .int x, .int y] (rW cI cC q0 q1 q2 q3 q4 q5 q6 q7 q8 q9 q10 q11 th ss asd sts sm snp hx tx lgt can szs ptn nms pth att isw rdd rmy) (fun vv ww => vv = some (.int (lkV c x y)) ∧ ww = (rW cI cC q0 q1 q2 q3 q4 q5 q6 q7 q8 q9 q10 q11 (nI 0) ss asd sts sm snp hx tx lgt can szs ptn nms pth att isw rdd rmy)) := by
  refine g_entry (lv := [(0, .ref q0), (1, .int x), (2, .int y)]) (own := RX6) (by decide) rfl rfl (Nat.le_of_ble_eq_true rfl) rfl ?_
  intro p e s m args below meth co A Q C hr hQ
  refine g_aload_n (pc := 0) C dX6_isLinked_0 0 rfl rfl ?_
  refine g_iconst (pc := 1) (v := nI 0) C dX6_isLinked_1 (by decide) ?_
  refine g_put (pc := 2) (ci := 6) (T := TX6) (N := 18) (ws' := (rW cI cC q0 q1 q2 q3 q4 q5 q6 q7 q8 q9 q10 q11 (nI 0) ss asd sts sm snp hx tx lgt can szs ptn nms pth att isw rdd rmy)) (ty := .int) (v := .int (nI 0)) C in_X6_isLinked_X6 tyX6 tyX6_ok nmX6 0 rfl rfl 0 (by decide) fl_X6_isLinked_43 rfl rfl (by decide +kernel) rfl rfl (Nat.le_of_ble_eq_true rfl) dX6_isLinked_2 rfl ?_
  refine g_iload_n (pc := 5) C dX6_isLinked_5 1 rfl rfl ?_
  refine g_callS (pc := 6) (st := []) (As := [.int x]) (nn := 1) C (m_X6_isGate l D cI cC x) gX6_isLinked_X6_isGate rfl rfl rfl yd_X6_isGate.2 ⟨Nat.le_of_ble_eq_true rfl, Nat.le_of_ble_eq_true rfl⟩ rfl [] rfl rfl rfl (Nat.le_of_ble_eq_true rfl) ⟨Nat.le_of_ble_eq_true rfl, Nat.le_of_ble_eq_true rfl⟩ dX6_isLinked_6 ?_
  rintro _ _ ⟨rfl, rfl⟩
  refine g_eq (ws' := (rW cI cC q0 q1 q2 q3 q4 q5 q6 q7 q8 q9 q10 q11 (nI 0) ss asd sts sm snp hx tx lgt can szs ptn nms pth att isw rdd rmy)) (st' := [.int (bI (isG x))]) rfl rfl ?_
  refine g_if_eqB (pc := 9) C 35 dX6_isLinked_9 (by decide) (fun c9 => ?_) (fun c9 => ?_)
  · refine g_iconst (pc := 35) (v := (-1)) C dX6_isLinked_35 (by decide) ?_
    refine g_top (y := (lkV c x y)) (by rw [lkV, show twG x y = false from by rw [twG, c9]; rfl]; rfl) ?_
    exact g_iret C hr hQ dX6_isLinked_36 rfl ⟨rfl, rfl⟩
  · refine g_iload_n (pc := 12) C dX6_isLinked_12 2 rfl rfl ?_
    refine g_callS (pc := 13) (st := []) (As := [.int y]) (nn := 1) C (m_X6_isGate l D cI cC y) gX6_isLinked_X6_isGate rfl rfl rfl yd_X6_isGate.2 ⟨Nat.le_of_ble_eq_true rfl, Nat.le_of_ble_eq_true rfl⟩ rfl [] rfl rfl rfl (Nat.le_of_ble_eq_true rfl) ⟨Nat.le_of_ble_eq_true rfl, Nat.le_of_ble_eq_true rfl⟩ dX6_isLinked_13 ?_
    rintro _ _ ⟨rfl, rfl⟩
    refine g_eq (ws' := (rW cI cC q0 q1 q2 q3 q4 q5 q6 q7 q8 q9 q10 q11 (nI 0) ss asd sts sm snp hx tx lgt can szs ptn nms pth att isw rdd rmy)) (st' := [.int (bI (isG y))]) rfl rfl ?_
    refine g_if_eqB (pc := 16) C 35 dX6_isLinked_16 (by decide) (fun c16 => ?_) (fun c16 => ?_)
    · refine g_iconst (pc := 35) (v := (-1)) C dX6_isLinked_35 (by decide) ?_
      refine g_top (y := (lkV c x y)) (by rw [lkV, show twG x y = false from by rw [twG, c9, c16]; rfl]; rfl) ?_
      exact g_iret C hr hQ dX6_isLinked_36 rfl ⟨rfl, rfl⟩
    · have tg : twG x y = true := by rw [twG, c9, c16]; rfl
      obtain ⟨a, b, ha, hb, ex, ey, px, py⟩ := twG_ex tg
      refine g_lveq (lv' := [(0, .ref q0), (1, .int (nI a)), (2, .int y)]) (by rw [ex]) ?_
      refine g_lveq (lv' := [(0, .ref q0), (1, .int (nI a)), (2, .int (nI b))]) (by rw [ey]) ?_
      refine g_aload_n (pc := 19) C dX6_isLinked_19 0 rfl rfl ?_
      refine g_get (pc := 20) (ci := 6) (T := TX6) (N := 18) (v := .ref q1) C in_X6_isLinked_X6 0 rfl rfl 1 (by decide) fl_X6_isLinked_7 rfl rfl dX6_isLinked_20 ?_
      refine g_bipush (pc := 23) (v := nI 17) C dX6_isLinked_23 (by decide) ?_
      refine g_iconst (pc := 25) (v := nI 4) C dX6_isLinked_25 (by decide) ?_
      refine g_iload_n (pc := 26) C dX6_isLinked_26 1 rfl rfl ?_
      refine g_imulN (pc := 27) C dX6_isLinked_27 ?_
      refine g_iaddN (pc := 28) C dX6_isLinked_28 ?_
      refine g_iload_n (pc := 29) C dX6_isLinked_29 2 rfl rfl ?_
      refine g_iaddN (pc := 30) C dX6_isLinked_30 ?_
      refine g_ialdN (pc := 31) (f := ss) C 1 rfl (by omega) (by decide) dX6_isLinked_31 ?_
      refine g_top (y := bI (lkC c a b)) (hS.l ha hb) ?_
      refine g_goto (pc := 32) C 36 dX6_isLinked_32 (by decide) ?_
      refine g_top (y := (lkV c x y)) (by rw [lkV, tg, px, py]; rfl) ?_
      exact g_iret C hr hQ dX6_isLinked_36 rfl ⟨rfl, rfl⟩

abbrev rm_X6_partner : Room := { frames := 5, cells := 0, slots := 0, locals := 112 }
theorem yd_X6_partner : yX6_partner.cls = RX6 ∧ yX6_partner.cls ≠ "java/lang/invoke/MethodHandle" ∧ yX6_partner.cls ≠ "java/lang/invoke/VarHandle" ∧ (parseMethodDescriptor yX6_partner.desc).map (fun d => d.parameters.length) = some 2 := by decide +kernel
theorem in_X6_partner_X6 : ∀ w ∈ u_ws RX6 TX6 18, w ∈ wsX6_partner := by decide +kernel
theorem fl_X6_partner_31 : Cond.fieldLink RX6 31 "FenceHandshakesModel" "partners" "[I" ∈ wsX6_partner := by decide +kernel
theorem fl_X6_partner_43 : Cond.fieldLink RX6 43 "FenceHandshakesModel" "thrown" "I" ∈ wsX6_partner := by decide +kernel
set_option maxHeartbeats 4000000 in
set_option maxRecDepth 100000 in
theorem m_X6_partner (l : Launch) (D : va_G) (cI cC : ClassId) (q0 q1 q2 q3 q4 q5 q6 q7 q8 q9 q10 q11 : Nat) (th : Int32) (ss : Nat → Int32) (asd : Nat → Int32) (sts : Nat → Int32) (sm : Int32) (snp : Nat → Int32) (hx : Int32) (tx : Nat → Int32) (lgt : Int32) (can : Nat → Int32) (szs : Nat → Int32) (ptn : Nat → Int32) (nms : Nat → Int32) (pth : Nat → Int32) (att : Int32) (isw : Int32) (rdd : Nat → Int32) (rmy : Int32) (c : Nat → Int32) (q : Bool) (x : Int32) (hS : SR c ss) : g_M l yX6_partner wsX6_partner rm_X6_partner D cI cC [.ref q0, .int (bI q), .int x] (rW cI cC q0 q1 q2 q3 q4 q5 q6 q7 q8 q9 q10 q11 th ss asd sts sm snp hx tx lgt can szs ptn nms pth att isw rdd rmy) (fun vv ww => ∃ (can2 : Nat → Int32) (szs2 : Nat → Int32) (ptn2 : Nat → Int32), vv = some (.int (ptV c q x)) ∧ ww = (rW cI cC q0 q1 q2 q3 q4 q5 q6 q7 q8 q9 q10 q11 (nI 0) ss asd sts sm snp hx tx lgt can2 szs2 ptn2 nms pth att isw rdd rmy)) := by
  refine g_entry (lv := [(0, .ref q0), (1, .int (bI q)), (2, .int x)]) (own := RX6) (by decide) rfl rfl (Nat.le_of_ble_eq_true rfl) rfl ?_
  intro p e s m args below meth co A Q C hr hQ
  refine g_aload_n (pc := 0) C dX6_partner_0 0 rfl rfl ?_
  refine g_iconst (pc := 1) (v := nI 0) C dX6_partner_1 (by decide) ?_
  refine g_put (pc := 2) (ci := 6) (T := TX6) (N := 18) (ws' := (rW cI cC q0 q1 q2 q3 q4 q5 q6 q7 q8 q9 q10 q11 (nI 0) ss asd sts sm snp hx tx lgt can szs ptn nms pth att isw rdd rmy)) (ty := .int) (v := .int (nI 0)) C in_X6_partner_X6 tyX6 tyX6_ok nmX6 0 rfl rfl 0 (by decide) fl_X6_partner_43 rfl rfl (by decide +kernel) rfl rfl (Nat.le_of_ble_eq_true rfl) dX6_partner_2 rfl ?_
  refine g_iload_n (pc := 5) C dX6_partner_5 2 rfl rfl ?_
  refine g_callS (pc := 6) (st := []) (As := [.int x]) (nn := 1) C (m_X6_isPerson l D cI cC x) gX6_partner_X6_isPerson rfl rfl rfl yd_X6_isPerson.2 ⟨Nat.le_of_ble_eq_true rfl, Nat.le_of_ble_eq_true rfl⟩ rfl [] rfl rfl rfl (Nat.le_of_ble_eq_true rfl) ⟨Nat.le_of_ble_eq_true rfl, Nat.le_of_ble_eq_true rfl⟩ dX6_partner_6 ?_
  rintro _ _ ⟨rfl, rfl⟩
  refine g_eq (ws' := (rW cI cC q0 q1 q2 q3 q4 q5 q6 q7 q8 q9 q10 q11 (nI 0) ss asd sts sm snp hx tx lgt can szs ptn nms pth att isw rdd rmy)) (st' := [.int (bI (isP x))]) rfl rfl ?_
  refine g_if_neB (pc := 9) C 14 dX6_partner_9 (by decide) (fun c9 => ?_) (fun c9 => ?_)
  · obtain ⟨a, ha, ex⟩ := isP_ex c9
    have px : pN x = a := by rw [ex]; exact pN_nI ha
    refine g_lveq (lv' := [(0, .ref q0), (1, .int (bI q)), (2, .int (nI a))]) (by rw [ex]) ?_
    refine g_aload_n (pc := 14) C dX6_partner_14 0 rfl rfl ?_
    refine g_callV (pc := 15) (st := []) (As := []) (nn := 0) (ci := 6) (q0 := 0) C (m_X6_matches l D cI cC q0 q1 q2 q3 q4 q5 q6 q7 q8 q9 q10 q11 (nI 0) ss asd sts sm snp hx tx lgt can szs ptn nms pth att isw rdd rmy c (by first | assumption | omega)) gX6_partner_X6_matches rfl rfl rfl yd_X6_matches ⟨Nat.le_of_ble_eq_true rfl, Nat.le_of_ble_eq_true rfl⟩ rfl [0, 1, 2, 3, 4, 5, 6, 7, 8, 9, 10, 11] rfl rfl rfl rfl rfl (Nat.le_of_ble_eq_true rfl) ⟨Nat.le_of_ble_eq_true rfl, Nat.le_of_ble_eq_true rfl⟩ dX6_partner_15 ?_
    rintro _ _ ⟨can9, szs9, ptn9, rfl, rfl, u1, u2⟩
    refine g_eq (ws' := (rW cI cC q0 q1 q2 q3 q4 q5 q6 q7 q8 q9 q10 q11 (nI 0) ss asd sts sm snp hx tx lgt can9 szs9 ptn9 nms pth att isw rdd rmy)) (st' := [.int (nI (szC c))]) rfl rfl ?_
    refine g_pop (pc := 18) C dX6_partner_18 rfl ?_
    refine g_bipush (pc := 19) (v := (-5)) C dX6_partner_19 (by decide) ?_
    refine g_istore_n (pc := 21) (lv' := [(3, .int (-5)), (0, .ref q0), (1, .int (bI q)), (2, .int (nI a))]) C dX6_partner_21 rfl (by decide) rfl ?_
    refine g_iconst (pc := 22) (v := nI 0) C dX6_partner_22 (by decide) ?_
    refine g_istore (pc := 23) (lv' := [(4, .int (nI 0)), (3, .int (-5)), (0, .ref q0), (1, .int (bI q)), (2, .int (nI a))]) C dX6_partner_23 (by decide) rfl ?_
    have L25 : ∀ (NZ : Nat) (i : Nat) (v : Int32), 8 - i < NZ → (i ≤ 8) → (q = false → v = pI (fstU (pqE (EC c) a) i)) → g_J p l e rm_X6_partner s m args below meth co Q D A 5 0 0 (rW cI cC q0 q1 q2 q3 q4 q5 q6 q7 q8 q9 q10 q11 (nI 0) ss asd sts sm snp hx tx lgt can9 szs9 ptn9 nms pth att isw rdd rmy) 25 [(0, .ref q0), (1, .int (bI q)), (2, .int (nI a)), (3, .int v), (4, .int (nI i))] [] := by
      intro NZ
      induction NZ with
      | zero => intro i v hN; exact absurd hN (Nat.not_lt_zero _)
      | succ NZ ih25 =>
        intro i v hN25 hi hv
        refine g_iload (pc := 25) C dX6_partner_25 4 rfl ?_
        refine g_bipush (pc := 27) (v := nI 8) C dX6_partner_27 (by decide) ?_
        refine g_icmp_geN (pc := 29) C 60 (by omega) (by omega) dX6_partner_29 (by decide) (fun c29 => ?_) (fun c29 => ?_)
        · refine g_iload_n (pc := 60) C dX6_partner_60 1 rfl rfl ?_
          refine g_if_eqB (pc := 61) C 73 dX6_partner_61 (by decide) (fun c61 => ?_) (fun c61 => ?_)
          · refine g_iload_n (pc := 73) C dX6_partner_73 3 rfl rfl ?_
            refine g_top (y := (ptV c q x)) (by rw [ptV, c9, px, if_pos rfl, c61, hv c61, show i = 8 by omega]; rfl) ?_
            exact g_iret C hr hQ dX6_partner_74 rfl ⟨_, _, _, rfl, rfl⟩
          · refine g_aload_n (pc := 64) C dX6_partner_64 0 rfl rfl ?_
            refine g_get (pc := 65) (ci := 6) (T := TX6) (N := 18) (v := .ref q8) C in_X6_partner_X6 0 rfl rfl 11 (by decide) fl_X6_partner_31 rfl rfl dX6_partner_65 ?_
            refine g_iload_n (pc := 68) C dX6_partner_68 2 rfl rfl ?_
            refine g_ialdN (pc := 69) (f := ptn9) C 8 rfl (by omega) (by decide) dX6_partner_69 ?_
            refine g_goto (pc := 70) C 74 dX6_partner_70 (by decide) ?_
            refine g_top (y := (ptV c q x)) (by rw [ptV, c9, px, if_pos rfl, c61, u2 a ha]; rfl) ?_
            exact g_iret C hr hQ dX6_partner_74 rfl ⟨_, _, _, rfl, rfl⟩
        · refine g_iload_n (pc := 32) C dX6_partner_32 1 rfl rfl ?_
          refine g_if_neB (pc := 33) C 52 dX6_partner_33 (by decide) (fun c33 => ?_) (fun c33 => ?_)
          · refine g_iload_n (pc := 52) C dX6_partner_52 3 rfl rfl ?_
            refine g_istore_n (pc := 53) (lv' := [(3, .int v), (0, .ref q0), (1, .int (bI q)), (2, .int (nI a)), (4, .int (nI i))]) C dX6_partner_53 rfl (by decide) rfl ?_
            refine g_iinc (pc := 54) (lv' := [(4, .int (nI (i + 1))), (3, .int v), (0, .ref q0), (1, .int (bI q)), (2, .int (nI a))]) C dX6_partner_54 4 rfl (nI_add i 1) (by decide) rfl ?_
            refine g_goto (pc := 57) C 25 dX6_partner_57 (by decide) ?_
            refine g_lvp (lv' := [(0, .ref q0), (1, .int (bI q)), (2, .int (nI a)), (3, .int v), (4, .int (nI (i + 1)))]) [2, 3, 4, 1, 0] rfl ?_
            exact ih25 (i + 1) v (by omega) (by first | assumption | omega) (fun h => absurd c33 (by rw [h]; decide))
          · refine g_aload_n (pc := 36) C dX6_partner_36 0 rfl rfl ?_
            refine g_get (pc := 37) (ci := 6) (T := TX6) (N := 18) (v := .ref q8) C in_X6_partner_X6 0 rfl rfl 11 (by decide) fl_X6_partner_31 rfl rfl dX6_partner_37 ?_
            refine g_iload (pc := 40) C dX6_partner_40 4 rfl ?_
            refine g_ialdN (pc := 42) (f := ptn9) C 8 rfl (by omega) (by decide) dX6_partner_42 ?_
            refine g_top (y := (pI (spE (EC c) i))) (u2 i (by omega)) ?_
            refine g_iload_n (pc := 43) C dX6_partner_43 2 rfl rfl ?_
            refine g_icmp_ne (pc := 44) C 52 dX6_partner_44 (by decide) (fun c44 => ?_) (fun c44 => ?_)
            · refine g_iload_n (pc := 52) C dX6_partner_52 3 rfl rfl ?_
              refine g_istore_n (pc := 53) (lv' := [(3, .int v), (0, .ref q0), (1, .int (bI q)), (2, .int (nI a)), (4, .int (nI i))]) C dX6_partner_53 rfl (by decide) rfl ?_
              refine g_iinc (pc := 54) (lv' := [(4, .int (nI (i + 1))), (3, .int v), (0, .ref q0), (1, .int (bI q)), (2, .int (nI a))]) C dX6_partner_54 4 rfl (nI_add i 1) (by decide) rfl ?_
              refine g_goto (pc := 57) C 25 dX6_partner_57 (by decide) ?_
              refine g_lvp (lv' := [(0, .ref q0), (1, .int (bI q)), (2, .int (nI a)), (3, .int v), (4, .int (nI (i + 1)))]) [2, 3, 4, 1, 0] rfl ?_
              exact ih25 (i + 1) v (by omega) (by first | assumption | omega) (fun h => by rw [pq_f (pI_ne c44)]; exact hv h)
            · refine g_iload (pc := 47) C dX6_partner_47 4 rfl ?_
              refine g_goto (pc := 49) C 53 dX6_partner_49 (by decide) ?_
              refine g_istore_n (pc := 53) (lv' := [(3, .int (nI i)), (0, .ref q0), (1, .int (bI q)), (2, .int (nI a)), (4, .int (nI i))]) C dX6_partner_53 rfl (by decide) rfl ?_
              refine g_iinc (pc := 54) (lv' := [(4, .int (nI (i + 1))), (3, .int (nI i)), (0, .ref q0), (1, .int (bI q)), (2, .int (nI a))]) C dX6_partner_54 4 rfl (nI_add i 1) (by decide) rfl ?_
              refine g_goto (pc := 57) C 25 dX6_partner_57 (by decide) ?_
              refine g_lvp (lv' := [(0, .ref q0), (1, .int (bI q)), (2, .int (nI a)), (3, .int (nI i)), (4, .int (nI (i + 1)))]) [2, 3, 4, 1, 0] rfl ?_
              exact ih25 (i + 1) (nI i) (by omega) (by first | assumption | omega) (fun _ => by rw [pq_t (pI_inj (fun r hr => spE_lt i r hr) ha c44)]; rfl)
    refine g_lvp (lv' := [(0, .ref q0), (1, .int (bI q)), (2, .int (nI a)), (3, .int (-5)), (4, .int (nI 0))]) [2, 3, 4, 1, 0] rfl ?_
    exact L25 _ 0 (-5) (Nat.lt_succ_self _) (by first | assumption | omega) (fun _ => rfl)
  · refine g_iconst (pc := 12) (v := (-1)) C dX6_partner_12 (by decide) ?_
    refine g_top (y := (ptV c q x)) (by rw [ptV, c9]; rfl) ?_
    exact g_iret C hr hQ dX6_partner_13 rfl ⟨_, _, _, rfl, rfl⟩

abbrev rm_X6_hindered : Room := { frames := 5, cells := 0, slots := 0, locals := 112 }
theorem yd_X6_hindered : yX6_hindered.cls = RX6 ∧ yX6_hindered.cls ≠ "java/lang/invoke/MethodHandle" ∧ yX6_hindered.cls ≠ "java/lang/invoke/VarHandle" ∧ (parseMethodDescriptor yX6_hindered.desc).map (fun d => d.parameters.length) = some 0 := by decide +kernel
theorem in_X6_hindered_X6 : ∀ w ∈ u_ws RX6 TX6 18, w ∈ wsX6_hindered := by decide +kernel
theorem fl_X6_hindered_25 : Cond.fieldLink RX6 25 "FenceHandshakesModel" "can" "[I" ∈ wsX6_hindered := by decide +kernel
theorem fl_X6_hindered_43 : Cond.fieldLink RX6 43 "FenceHandshakesModel" "thrown" "I" ∈ wsX6_hindered := by decide +kernel
set_option maxHeartbeats 4000000 in
set_option maxRecDepth 100000 in
theorem m_X6_hindered (l : Launch) (D : va_G) (cI cC : ClassId) (q0 q1 q2 q3 q4 q5 q6 q7 q8 q9 q10 q11 : Nat) (th : Int32) (ss : Nat → Int32) (asd : Nat → Int32) (sts : Nat → Int32) (sm : Int32) (snp : Nat → Int32) (hx : Int32) (tx : Nat → Int32) (lgt : Int32) (can : Nat → Int32) (szs : Nat → Int32) (ptn : Nat → Int32) (nms : Nat → Int32) (pth : Nat → Int32) (att : Int32) (isw : Int32) (rdd : Nat → Int32) (rmy : Int32) (c : Nat → Int32) (hS : SR c ss) : g_M l yX6_hindered wsX6_hindered rm_X6_hindered D cI cC [.ref q0] (rW cI cC q0 q1 q2 q3 q4 q5 q6 q7 q8 q9 q10 q11 th ss asd sts sm snp hx tx lgt can szs ptn nms pth att isw rdd rmy) (fun vv ww => ∃ (can2 : Nat → Int32) (szs2 : Nat → Int32) (ptn2 : Nat → Int32), vv = some (.int (nI (hnN c))) ∧ ww = (rW cI cC q0 q1 q2 q3 q4 q5 q6 q7 q8 q9 q10 q11 (nI 0) ss asd sts sm snp hx tx lgt can2 szs2 ptn2 nms pth att isw rdd rmy)) := by
  refine g_entry (lv := [(0, .ref q0)]) (own := RX6) (by decide) rfl rfl (Nat.le_of_ble_eq_true rfl) rfl ?_
  intro p e s m args below meth co A Q C hr hQ
  refine g_aload_n (pc := 0) C dX6_hindered_0 0 rfl rfl ?_
  refine g_iconst (pc := 1) (v := nI 0) C dX6_hindered_1 (by decide) ?_
  refine g_put (pc := 2) (ci := 6) (T := TX6) (N := 18) (ws' := (rW cI cC q0 q1 q2 q3 q4 q5 q6 q7 q8 q9 q10 q11 (nI 0) ss asd sts sm snp hx tx lgt can szs ptn nms pth att isw rdd rmy)) (ty := .int) (v := .int (nI 0)) C in_X6_hindered_X6 tyX6 tyX6_ok nmX6 0 rfl rfl 0 (by decide) fl_X6_hindered_43 rfl rfl (by decide +kernel) rfl rfl (Nat.le_of_ble_eq_true rfl) dX6_hindered_2 rfl ?_
  refine g_aload_n (pc := 5) C dX6_hindered_5 0 rfl rfl ?_
  refine g_callV (pc := 6) (st := []) (As := []) (nn := 0) (ci := 6) (q0 := 0) C (m_X6_matches l D cI cC q0 q1 q2 q3 q4 q5 q6 q7 q8 q9 q10 q11 (nI 0) ss asd sts sm snp hx tx lgt can szs ptn nms pth att isw rdd rmy c (by first | assumption | omega)) gX6_hindered_X6_matches rfl rfl rfl yd_X6_matches ⟨Nat.le_of_ble_eq_true rfl, Nat.le_of_ble_eq_true rfl⟩ rfl [0, 1, 2, 3, 4, 5, 6, 7, 8, 9, 10, 11] rfl rfl rfl rfl rfl (Nat.le_of_ble_eq_true rfl) ⟨Nat.le_of_ble_eq_true rfl, Nat.le_of_ble_eq_true rfl⟩ dX6_hindered_6 ?_
  rintro _ _ ⟨can9, szs9, ptn9, rfl, rfl, u1, u2⟩
  refine g_eq (ws' := (rW cI cC q0 q1 q2 q3 q4 q5 q6 q7 q8 q9 q10 q11 (nI 0) ss asd sts sm snp hx tx lgt can9 szs9 ptn9 nms pth att isw rdd rmy)) (st' := [.int (nI (szC c))]) rfl rfl ?_
  refine g_istore_n (pc := 9) (lv' := [(1, .int (nI (szC c))), (0, .ref q0)]) C dX6_hindered_9 rfl (by decide) rfl ?_
  refine g_iconst (pc := 10) (v := nI 0) C dX6_hindered_10 (by decide) ?_
  refine g_istore_n (pc := 11) (lv' := [(2, .int (nI 0)), (1, .int (nI (szC c))), (0, .ref q0)]) C dX6_hindered_11 rfl (by decide) rfl ?_
  refine g_iconst (pc := 12) (v := nI 0) C dX6_hindered_12 (by decide) ?_
  refine g_istore_n (pc := 13) (lv' := [(3, .int (nI 0)), (2, .int (nI 0)), (1, .int (nI (szC c))), (0, .ref q0)]) C dX6_hindered_13 rfl (by decide) rfl ?_
  refine g_iconst (pc := 14) (v := nI 0) C dX6_hindered_14 (by decide) ?_
  refine g_istore (pc := 15) (lv' := [(4, .int (nI 0)), (3, .int (nI 0)), (2, .int (nI 0)), (1, .int (nI (szC c))), (0, .ref q0)]) C dX6_hindered_15 (by decide) rfl ?_
  have L17 : ∀ (NZ : Nat) (i : Nat) (u : Nat), 8 - i < NZ → (i ≤ 8) → (u = pmask (hwE c) i) → g_J p l e rm_X6_hindered s m args below meth co Q D A 5 0 0 (rW cI cC q0 q1 q2 q3 q4 q5 q6 q7 q8 q9 q10 q11 (nI 0) ss asd sts sm snp hx tx lgt can9 szs9 ptn9 nms pth att isw rdd rmy) 17 [(0, .ref q0), (1, .int (nI (szC c))), (2, .int (nI 0)), (3, .int (nI u)), (4, .int (nI i))] [] := by
    intro NZ
    induction NZ with
    | zero => intro i u hN; exact absurd hN (Nat.not_lt_zero _)
    | succ NZ ih17 =>
      intro i u hN17 hi hu
      refine g_iload (pc := 17) C dX6_hindered_17 4 rfl ?_
      refine g_bipush (pc := 19) (v := nI 8) C dX6_hindered_19 (by decide) ?_
      refine g_icmp_geN (pc := 21) C 51 (by omega) (by omega) dX6_hindered_21 (by decide) (fun c21 => ?_) (fun c21 => ?_)
      · have hu9 : u = pmask (hwE c) 8 := by rw [hu, show i = 8 by omega]
        refine g_iconst (pc := 51) (v := nI 0) C dX6_hindered_51 (by decide) ?_
        refine g_istore (pc := 52) (lv' := [(4, .int (nI 0)), (0, .ref q0), (1, .int (nI (szC c))), (2, .int (nI 0)), (3, .int (nI u))]) C dX6_hindered_52 (by decide) rfl ?_
        have L54 : ∀ (NZ : Nat) (i : Nat) (y : Nat) (can6 : Nat → Int32) (szs6 : Nat → Int32), 8 - i < NZ → (i ≤ 8) → (y = pmask (hmE c) i) → g_J p l e rm_X6_hindered s m args below meth co Q D A 5 0 0 (rW cI cC q0 q1 q2 q3 q4 q5 q6 q7 q8 q9 q10 q11 (nI 0) ss asd sts sm snp hx tx lgt can6 szs6 ptn9 nms pth att isw rdd rmy) 54 [(0, .ref q0), (1, .int (nI (szC c))), (2, .int (nI y)), (3, .int (nI u)), (4, .int (nI i))] [] := by
          intro NZ
          induction NZ with
          | zero => intro i y can6 szs6 hN; exact absurd hN (Nat.not_lt_zero _)
          | succ NZ ih54 =>
            intro i y can6 szs6 hN54 hi2 hy
            refine g_iload (pc := 54) C dX6_hindered_54 4 rfl ?_
            refine g_bipush (pc := 56) (v := nI 8) C dX6_hindered_56 (by decide) ?_
            refine g_icmp_geN (pc := 58) C 92 (by omega) (by omega) dX6_hindered_58 (by decide) (fun c58 => ?_) (fun c58 => ?_)
            · refine g_iload_n (pc := 92) C dX6_hindered_92 2 rfl rfl ?_
              refine g_iload_n (pc := 93) C dX6_hindered_93 3 rfl rfl ?_
              refine g_iandN (pc := 94) C dX6_hindered_94 ?_
              refine g_top (y := nI (hnN c)) (by rw [hu9, hy, show i = 8 by omega, hn_and]) ?_
              exact g_iret C hr hQ dX6_hindered_95 rfl ⟨_, _, _, rfl, rfl⟩
            · refine g_aload_n (pc := 61) C dX6_hindered_61 0 rfl rfl ?_
              refine g_iload (pc := 62) C dX6_hindered_62 4 rfl ?_
              refine g_callV (pc := 64) (st := []) (As := [.int (nI i)]) (nn := 1) (ci := 6) (q0 := 0) C (m_X6_findsCan l D cI cC q0 q1 q2 q3 q4 q5 q6 q7 q8 q9 q10 q11 (nI 0) ss asd sts sm snp hx tx lgt can6 szs6 ptn9 nms pth att isw rdd rmy c (nI i) (by first | assumption | omega)) gX6_hindered_X6_findsCan rfl rfl rfl yd_X6_findsCan ⟨Nat.le_of_ble_eq_true rfl, Nat.le_of_ble_eq_true rfl⟩ rfl [0, 1, 2, 3, 4, 5, 6, 7, 8, 9, 10, 11] rfl rfl rfl rfl rfl (Nat.le_of_ble_eq_true rfl) ⟨Nat.le_of_ble_eq_true rfl, Nat.le_of_ble_eq_true rfl⟩ dX6_hindered_64 ?_
              rintro _ _ ⟨can7, rfl, rfl, v1⟩
              refine g_eq (ws' := (rW cI cC q0 q1 q2 q3 q4 q5 q6 q7 q8 q9 q10 q11 (nI 0) ss asd sts sm snp hx tx lgt can7 szs6 ptn9 nms pth att isw rdd rmy)) (st' := []) rfl rfl ?_
              refine g_iload_n (pc := 67) C dX6_hindered_67 2 rfl rfl ?_
              refine g_aload_n (pc := 68) C dX6_hindered_68 0 rfl rfl ?_
              refine g_callV (pc := 69) (st := [.int (nI y)]) (As := []) (nn := 0) (ci := 6) (q0 := 0) C (m_X6_fills l D cI cC q0 q1 q2 q3 q4 q5 q6 q7 q8 q9 q10 q11 (nI 0) ss asd sts sm snp hx tx lgt can7 szs6 ptn9 nms pth att isw rdd rmy (Eb c (nI i)) (by first | assumption | omega)) gX6_hindered_X6_fills rfl rfl rfl yd_X6_fills ⟨Nat.le_of_ble_eq_true rfl, Nat.le_of_ble_eq_true rfl⟩ rfl [0, 1, 2, 3, 4, 5, 6, 7, 8, 9, 10, 11] rfl rfl rfl rfl rfl (Nat.le_of_ble_eq_true rfl) ⟨Nat.le_of_ble_eq_true rfl, Nat.le_of_ble_eq_true rfl⟩ dX6_hindered_69 ?_
              rintro _ _ ⟨szs7, rfl, rfl, v2⟩
              refine g_eq (ws' := (rW cI cC q0 q1 q2 q3 q4 q5 q6 q7 q8 q9 q10 q11 (nI 0) ss asd sts sm snp hx tx lgt can7 szs7 ptn9 nms pth att isw rdd rmy)) (st' := [.int (nI (szN (Eb c (nI i)) 8 255)), .int (nI y)]) rfl rfl ?_
              refine g_top (y := nI (szN (eOut (EC c) i) 8 255)) (by rw [Eb_eOut (by omega)]) ?_
              have w8 := szN_le (eOut (EC c) i) 8 255 (Nat.le_refl _)
              have w7 := szC_le c
              refine g_iload_n (pc := 72) C dX6_hindered_72 1 rfl rfl ?_
              refine g_icmp_neN (pc := 73) C 83 (by omega) (by omega) dX6_hindered_73 (by decide) (fun c73 => ?_) (fun c73 => ?_)
              · refine g_iconst (pc := 83) (v := nI 0) C dX6_hindered_83 (by decide) ?_
                refine g_iorN (pc := 84) C dX6_hindered_84 ?_
                refine g_istore_n (pc := 85) (lv' := [(2, .int (nI (y ||| 0))), (0, .ref q0), (1, .int (nI (szC c))), (3, .int (nI u)), (4, .int (nI i))]) C dX6_hindered_85 rfl (by decide) rfl ?_
                refine g_iinc (pc := 86) (lv' := [(4, .int (nI (i + 1))), (2, .int (nI (y ||| 0))), (0, .ref q0), (1, .int (nI (szC c))), (3, .int (nI u))]) C dX6_hindered_86 4 rfl (nI_add i 1) (by decide) rfl ?_
                refine g_goto (pc := 89) C 54 dX6_hindered_89 (by decide) ?_
                refine g_lvp (lv' := [(0, .ref q0), (1, .int (nI (szC c))), (2, .int (nI (y ||| 0))), (3, .int (nI u)), (4, .int (nI (i + 1)))]) [2, 3, 1, 4, 0] rfl ?_
                exact ih54 (i + 1) (y ||| 0) can7 szs7 (by omega) (by first | assumption | omega) (by rw [hy, pmask_s0 (decide_eq_false c73)])
              · refine g_iconst (pc := 76) (v := nI 1) C dX6_hindered_76 (by decide) ?_
                refine g_iload (pc := 77) C dX6_hindered_77 4 rfl ?_
                refine g_ishlN (pc := 79) C (by omega) dX6_hindered_79 ?_
                refine g_goto (pc := 80) C 84 dX6_hindered_80 (by decide) ?_
                refine g_iorN (pc := 84) C dX6_hindered_84 ?_
                refine g_istore_n (pc := 85) (lv' := [(2, .int (nI (y ||| (1 <<< i)))), (0, .ref q0), (1, .int (nI (szC c))), (3, .int (nI u)), (4, .int (nI i))]) C dX6_hindered_85 rfl (by decide) rfl ?_
                refine g_iinc (pc := 86) (lv' := [(4, .int (nI (i + 1))), (2, .int (nI (y ||| (1 <<< i)))), (0, .ref q0), (1, .int (nI (szC c))), (3, .int (nI u))]) C dX6_hindered_86 4 rfl (nI_add i 1) (by decide) rfl ?_
                refine g_goto (pc := 89) C 54 dX6_hindered_89 (by decide) ?_
                refine g_lvp (lv' := [(0, .ref q0), (1, .int (nI (szC c))), (2, .int (nI (y ||| (1 <<< i)))), (3, .int (nI u)), (4, .int (nI (i + 1)))]) [2, 3, 1, 4, 0] rfl ?_
                exact ih54 (i + 1) (y ||| (1 <<< i)) can7 szs7 (by omega) (by first | assumption | omega) (by rw [hy, pmask_s1 (decide_eq_true c73)])
        refine g_lvp (lv' := [(0, .ref q0), (1, .int (nI (szC c))), (2, .int (nI 0)), (3, .int (nI u)), (4, .int (nI 0))]) [1, 2, 3, 4, 0] rfl ?_
        exact L54 _ 0 0 can9 szs9 (Nat.lt_succ_self _) (by first | assumption | omega) (rfl)
      · refine g_iload_n (pc := 24) C dX6_hindered_24 3 rfl rfl ?_
        refine g_aload_n (pc := 25) C dX6_hindered_25 0 rfl rfl ?_
        refine g_get (pc := 26) (ci := 6) (T := TX6) (N := 18) (v := .ref q6) C in_X6_hindered_X6 0 rfl rfl 9 (by decide) fl_X6_hindered_25 rfl rfl dX6_hindered_26 ?_
        refine g_iload (pc := 29) C dX6_hindered_29 4 rfl ?_
        refine g_ialdN (pc := 31) (f := can9) C 6 rfl (by omega) (by decide) dX6_hindered_31 ?_
        refine g_top (y := nI (pmask (poC c i) 8)) (by rw [u1 i (by omega), EC_row]) ?_
        refine g_if_eqN (pc := 32) C 42 (Nat.lt_trans pm_lt (by decide)) dX6_hindered_32 (by decide) (fun c32 => ?_) (fun c32 => ?_)
        · refine g_iconst (pc := 42) (v := nI 0) C dX6_hindered_42 (by decide) ?_
          refine g_iorN (pc := 43) C dX6_hindered_43 ?_
          refine g_istore_n (pc := 44) (lv' := [(3, .int (nI (u ||| 0))), (0, .ref q0), (1, .int (nI (szC c))), (2, .int (nI 0)), (4, .int (nI i))]) C dX6_hindered_44 rfl (by decide) rfl ?_
          refine g_iinc (pc := 45) (lv' := [(4, .int (nI (i + 1))), (3, .int (nI (u ||| 0))), (0, .ref q0), (1, .int (nI (szC c))), (2, .int (nI 0))]) C dX6_hindered_45 4 rfl (nI_add i 1) (by decide) rfl ?_
          refine g_goto (pc := 48) C 17 dX6_hindered_48 (by decide) ?_
          refine g_lvp (lv' := [(0, .ref q0), (1, .int (nI (szC c))), (2, .int (nI 0)), (3, .int (nI (u ||| 0))), (4, .int (nI (i + 1)))]) [2, 3, 4, 1, 0] rfl ?_
          exact ih17 (i + 1) (u ||| 0) (by omega) (by first | assumption | omega) (by rw [hu, pmask_s0 (decide_eq_false (fun z => z c32))])
        · refine g_iconst (pc := 35) (v := nI 1) C dX6_hindered_35 (by decide) ?_
          refine g_iload (pc := 36) C dX6_hindered_36 4 rfl ?_
          refine g_ishlN (pc := 38) C (by omega) dX6_hindered_38 ?_
          refine g_goto (pc := 39) C 43 dX6_hindered_39 (by decide) ?_
          refine g_iorN (pc := 43) C dX6_hindered_43 ?_
          refine g_istore_n (pc := 44) (lv' := [(3, .int (nI (u ||| (1 <<< i)))), (0, .ref q0), (1, .int (nI (szC c))), (2, .int (nI 0)), (4, .int (nI i))]) C dX6_hindered_44 rfl (by decide) rfl ?_
          refine g_iinc (pc := 45) (lv' := [(4, .int (nI (i + 1))), (3, .int (nI (u ||| (1 <<< i)))), (0, .ref q0), (1, .int (nI (szC c))), (2, .int (nI 0))]) C dX6_hindered_45 4 rfl (nI_add i 1) (by decide) rfl ?_
          refine g_goto (pc := 48) C 17 dX6_hindered_48 (by decide) ?_
          refine g_lvp (lv' := [(0, .ref q0), (1, .int (nI (szC c))), (2, .int (nI 0)), (3, .int (nI (u ||| (1 <<< i)))), (4, .int (nI (i + 1)))]) [2, 3, 4, 1, 0] rfl ?_
          exact ih17 (i + 1) (u ||| (1 <<< i)) (by omega) (by first | assumption | omega) (by rw [hu, pmask_s1 (decide_eq_true c32)])
  refine g_lvp (lv' := [(0, .ref q0), (1, .int (nI (szC c))), (2, .int (nI 0)), (3, .int (nI 0)), (4, .int (nI 0))]) [4, 3, 2, 1, 0] rfl ?_
  exact L17 _ 0 0 (Nat.lt_succ_self _) (by first | assumption | omega) (rfl)

abbrev rm_X6_possibleMany : Room := { frames := 3, cells := 0, slots := 0, locals := 66 }
theorem yd_X6_possibleMany : yX6_possibleMany.cls = RX6 ∧ yX6_possibleMany.cls ≠ "java/lang/invoke/MethodHandle" ∧ yX6_possibleMany.cls ≠ "java/lang/invoke/VarHandle" ∧ (parseMethodDescriptor yX6_possibleMany.desc).map (fun d => d.parameters.length) = some 0 := by decide +kernel
set_option maxHeartbeats 4000000 in
set_option maxRecDepth 100000 in
theorem m_X6_possibleMany (l : Launch) (D : va_G) (cI cC : ClassId) (q0 q1 q2 q3 q4 q5 q6 q7 q8 q9 q10 q11 : Nat) (th : Int32) (ss : Nat → Int32) (asd : Nat → Int32) (sts : Nat → Int32) (sm : Int32) (snp : Nat → Int32) (hx : Int32) (tx : Nat → Int32) (lgt : Int32) (can : Nat → Int32) (szs : Nat → Int32) (ptn : Nat → Int32) (nms : Nat → Int32) (pth : Nat → Int32) (att : Int32) (isw : Int32) (rdd : Nat → Int32) (rmy : Int32) (c : Nat → Int32) (hS : SR c ss) : g_M l yX6_possibleMany wsX6_possibleMany rm_X6_possibleMany D cI cC [.ref q0] (rW cI cC q0 q1 q2 q3 q4 q5 q6 q7 q8 q9 q10 q11 th ss asd sts sm snp hx tx lgt can szs ptn nms pth att isw rdd rmy) (fun vv ww => vv = some (.int (sI (amA c (nI 2)) 8)) ∧ ww = (rW cI cC q0 q1 q2 q3 q4 q5 q6 q7 q8 q9 q10 q11 th ss asd sts sm snp hx tx lgt can szs ptn nms pth att isw rdd rmy)) := by
  refine g_entry (lv := [(0, .ref q0)]) (own := RX6) (by decide) rfl rfl (Nat.le_of_ble_eq_true rfl) rfl ?_
  intro p e s m args below meth co A Q C hr hQ
  refine g_iconst (pc := 0) (v := nI 0) C dX6_possibleMany_0 (by decide) ?_
  refine g_istore_n (pc := 1) (lv' := [(1, .int (nI 0)), (0, .ref q0)]) C dX6_possibleMany_1 rfl (by decide) rfl ?_
  refine g_iconst (pc := 2) (v := nI 0) C dX6_possibleMany_2 (by decide) ?_
  refine g_istore_n (pc := 3) (lv' := [(2, .int (nI 0)), (1, .int (nI 0)), (0, .ref q0)]) C dX6_possibleMany_3 rfl (by decide) rfl ?_
  have L4 : ∀ (NZ : Nat) (i : Nat) (u : Int32), 64 - i < NZ → (i ≤ 64) → (u = sI (fun k => amP c (k / 8) (k % 8) (nI 2)) i) → g_J p l e rm_X6_possibleMany s m args below meth co Q D A 3 0 0 (rW cI cC q0 q1 q2 q3 q4 q5 q6 q7 q8 q9 q10 q11 th ss asd sts sm snp hx tx lgt can szs ptn nms pth att isw rdd rmy) 4 [(0, .ref q0), (1, .int u), (2, .int (nI i))] [] := by
    intro NZ
    induction NZ with
    | zero => intro i u hN; exact absurd hN (Nat.not_lt_zero _)
    | succ NZ ih4 =>
      intro i u hN4 hi hu
      refine g_iload_n (pc := 4) C dX6_possibleMany_4 2 rfl rfl ?_
      refine g_bipush (pc := 5) (v := nI 64) C dX6_possibleMany_5 (by decide) ?_
      refine g_icmp_geN (pc := 7) C 39 (by omega) (by omega) dX6_possibleMany_7 (by decide) (fun c7 => ?_) (fun c7 => ?_)
      · refine g_iload_n (pc := 39) C dX6_possibleMany_39 1 rfl rfl ?_
        refine g_top (y := (sI (amA c (nI 2)) 8)) (by rw [hu, show i = 64 by omega, am_flat]) ?_
        exact g_iret C hr hQ dX6_possibleMany_40 rfl ⟨rfl, rfl⟩
      · refine g_iload_n (pc := 10) C dX6_possibleMany_10 1 rfl rfl ?_
        refine g_aload_n (pc := 11) C dX6_possibleMany_11 0 rfl rfl ?_
        refine g_iload_n (pc := 12) C dX6_possibleMany_12 2 rfl rfl ?_
        refine g_bipush (pc := 13) (v := nI 8) C dX6_possibleMany_13 (by decide) ?_
        refine g_idivN (pc := 15) C dX6_possibleMany_15 (by omega) (by omega) (by omega) ?_
        refine g_iload_n (pc := 16) C dX6_possibleMany_16 2 rfl rfl ?_
        refine g_bipush (pc := 17) (v := nI 8) C dX6_possibleMany_17 (by decide) ?_
        refine g_iremN (pc := 19) C dX6_possibleMany_19 (by omega) (by omega) (by omega) ?_
        refine g_callV (pc := 20) (st := [.int u]) (As := [.int (nI (i / 8)), .int (nI (i % 8))]) (nn := 2) (ci := 6) (q0 := 0) C (m_X6_isPossible l D cI cC q0 q1 q2 q3 q4 q5 q6 q7 q8 q9 q10 q11 th ss asd sts sm snp hx tx lgt can szs ptn nms pth att isw rdd rmy c (i / 8) (i % 8) (by first | assumption | omega) (by first | assumption | omega) (by first | assumption | omega)) gX6_possibleMany_X6_isPossible rfl rfl rfl yd_X6_isPossible ⟨Nat.le_of_ble_eq_true rfl, Nat.le_of_ble_eq_true rfl⟩ rfl [0, 1, 2, 3, 4, 5, 6, 7, 8, 9, 10, 11] rfl rfl rfl rfl rfl (Nat.le_of_ble_eq_true rfl) ⟨Nat.le_of_ble_eq_true rfl, Nat.le_of_ble_eq_true rfl⟩ dX6_possibleMany_20 ?_
        rintro _ _ ⟨rfl, rfl⟩
        refine g_eq (ws' := (rW cI cC q0 q1 q2 q3 q4 q5 q6 q7 q8 q9 q10 q11 th ss asd sts sm snp hx tx lgt can szs ptn nms pth att isw rdd rmy)) (st' := [.int (bI (poC c (i / 8) (i % 8))), .int u]) rfl rfl ?_
        refine g_if_eqB (pc := 23) C 30 dX6_possibleMany_23 (by decide) (fun c23 => ?_) (fun c23 => ?_)
        · refine g_iconst (pc := 30) (v := nI 0) C dX6_possibleMany_30 (by decide) ?_
          refine g_iadd (pc := 31) C dX6_possibleMany_31 ?_
          refine g_istore_n (pc := 32) (lv' := [(1, .int (u + (nI 0))), (0, .ref q0), (2, .int (nI i))]) C dX6_possibleMany_32 rfl (by decide) rfl ?_
          refine g_iinc (pc := 33) (lv' := [(2, .int (nI (i + 1))), (1, .int (u + (nI 0))), (0, .ref q0)]) C dX6_possibleMany_33 2 rfl (nI_add i 1) (by decide) rfl ?_
          refine g_goto (pc := 36) C 4 dX6_possibleMany_36 (by decide) ?_
          refine g_lvp (lv' := [(0, .ref q0), (1, .int (u + (nI 0))), (2, .int (nI (i + 1)))]) [2, 1, 0] rfl ?_
          exact ih4 (i + 1) (u + (nI 0)) (by omega) (by first | assumption | omega) (by rw [hu, show sI (fun k => amP c (k / 8) (k % 8) (nI 2)) (i + 1) = sI (fun k => amP c (k / 8) (k % 8) (nI 2)) i + amP c (i / 8) (i % 8) (nI 2) from rfl, amP_2, c23]; rfl)
        · refine g_iconst (pc := 26) (v := nI 1) C dX6_possibleMany_26 (by decide) ?_
          refine g_goto (pc := 27) C 31 dX6_possibleMany_27 (by decide) ?_
          refine g_iadd (pc := 31) C dX6_possibleMany_31 ?_
          refine g_istore_n (pc := 32) (lv' := [(1, .int (u + (nI 1))), (0, .ref q0), (2, .int (nI i))]) C dX6_possibleMany_32 rfl (by decide) rfl ?_
          refine g_iinc (pc := 33) (lv' := [(2, .int (nI (i + 1))), (1, .int (u + (nI 1))), (0, .ref q0)]) C dX6_possibleMany_33 2 rfl (nI_add i 1) (by decide) rfl ?_
          refine g_goto (pc := 36) C 4 dX6_possibleMany_36 (by decide) ?_
          refine g_lvp (lv' := [(0, .ref q0), (1, .int (u + (nI 1))), (2, .int (nI (i + 1)))]) [2, 1, 0] rfl ?_
          exact ih4 (i + 1) (u + (nI 1)) (by omega) (by first | assumption | omega) (by rw [hu, show sI (fun k => amP c (k / 8) (k % 8) (nI 2)) (i + 1) = sI (fun k => amP c (k / 8) (k % 8) (nI 2)) i + amP c (i / 8) (i % 8) (nI 2) from rfl, amP_2, c23]; rfl)
  refine g_lvp (lv' := [(0, .ref q0), (1, .int (nI 0)), (2, .int (nI 0))]) [2, 1, 0] rfl ?_
  exact L4 _ 0 (nI 0) (Nat.lt_succ_self _) (by first | assumption | omega) (rfl)

abbrev rm_X6_feuds : Room := { frames := 0, cells := 0, slots := 0, locals := 0 }
theorem yd_X6_feuds : yX6_feuds.cls = RX6 ∧ yX6_feuds.cls ≠ "java/lang/invoke/MethodHandle" ∧ yX6_feuds.cls ≠ "java/lang/invoke/VarHandle" ∧ (parseMethodDescriptor yX6_feuds.desc).map (fun d => d.parameters.length) = some 0 := by decide +kernel
theorem in_X6_feuds_X6 : ∀ w ∈ u_ws RX6 TX6 18, w ∈ wsX6_feuds := by decide +kernel
theorem fl_X6_feuds_7 : Cond.fieldLink RX6 7 "FenceHandshakesModel" "s" "[I" ∈ wsX6_feuds := by decide +kernel
set_option maxHeartbeats 4000000 in
set_option maxRecDepth 100000 in
theorem m_X6_feuds (l : Launch) (D : va_G) (cI cC : ClassId) (q0 q1 q2 q3 q4 q5 q6 q7 q8 q9 q10 q11 : Nat) (th : Int32) (ss : Nat → Int32) (asd : Nat → Int32) (sts : Nat → Int32) (sm : Int32) (snp : Nat → Int32) (hx : Int32) (tx : Nat → Int32) (lgt : Int32) (can : Nat → Int32) (szs : Nat → Int32) (ptn : Nat → Int32) (nms : Nat → Int32) (pth : Nat → Int32) (att : Int32) (isw : Int32) (rdd : Nat → Int32) (rmy : Int32) (c : Nat → Int32) (hS : SR c ss) : g_M l yX6_feuds wsX6_feuds rm_X6_feuds D cI cC [.ref q0] (rW cI cC q0 q1 q2 q3 q4 q5 q6 q7 q8 q9 q10 q11 th ss asd sts sm snp hx tx lgt can szs ptn nms pth att isw rdd rmy) (fun vv ww => vv = some (.int (sI (amA c (nI 3)) 8)) ∧ ww = (rW cI cC q0 q1 q2 q3 q4 q5 q6 q7 q8 q9 q10 q11 th ss asd sts sm snp hx tx lgt can szs ptn nms pth att isw rdd rmy)) := by
  refine g_entry (lv := [(0, .ref q0)]) (own := RX6) (by decide) rfl rfl (Nat.le_of_ble_eq_true rfl) rfl ?_
  intro p e s m args below meth co A Q C hr hQ
  refine g_iconst (pc := 0) (v := nI 0) C dX6_feuds_0 (by decide) ?_
  refine g_istore_n (pc := 1) (lv' := [(1, .int (nI 0)), (0, .ref q0)]) C dX6_feuds_1 rfl (by decide) rfl ?_
  refine g_iconst (pc := 2) (v := nI 0) C dX6_feuds_2 (by decide) ?_
  refine g_istore_n (pc := 3) (lv' := [(2, .int (nI 0)), (1, .int (nI 0)), (0, .ref q0)]) C dX6_feuds_3 rfl (by decide) rfl ?_
  have L4 : ∀ (NZ : Nat) (i : Nat) (u : Int32), 64 - i < NZ → (i ≤ 64) → (u = sI (fun k => amP c (k / 8) (k % 8) (nI 3)) i) → g_J p l e rm_X6_feuds s m args below meth co Q D A 3 0 0 (rW cI cC q0 q1 q2 q3 q4 q5 q6 q7 q8 q9 q10 q11 th ss asd sts sm snp hx tx lgt can szs ptn nms pth att isw rdd rmy) 4 [(0, .ref q0), (1, .int u), (2, .int (nI i))] [] := by
    intro NZ
    induction NZ with
    | zero => intro i u hN; exact absurd hN (Nat.not_lt_zero _)
    | succ NZ ih4 =>
      intro i u hN4 hi hu
      refine g_iload_n (pc := 4) C dX6_feuds_4 2 rfl rfl ?_
      refine g_bipush (pc := 5) (v := nI 64) C dX6_feuds_5 (by decide) ?_
      refine g_icmp_geN (pc := 7) C 36 (by omega) (by omega) dX6_feuds_7 (by decide) (fun c7 => ?_) (fun c7 => ?_)
      · refine g_iload_n (pc := 36) C dX6_feuds_36 1 rfl rfl ?_
        refine g_top (y := (sI (amA c (nI 3)) 8)) (by rw [hu, show i = 64 by omega, am_flat]) ?_
        exact g_iret C hr hQ dX6_feuds_37 rfl ⟨rfl, rfl⟩
      · refine g_iload_n (pc := 10) C dX6_feuds_10 1 rfl rfl ?_
        refine g_aload_n (pc := 11) C dX6_feuds_11 0 rfl rfl ?_
        refine g_get (pc := 12) (ci := 6) (T := TX6) (N := 18) (v := .ref q1) C in_X6_feuds_X6 0 rfl rfl 1 (by decide) fl_X6_feuds_7 rfl rfl dX6_feuds_12 ?_
        refine g_bipush (pc := 15) (v := nI 33) C dX6_feuds_15 (by decide) ?_
        refine g_iload_n (pc := 17) C dX6_feuds_17 2 rfl rfl ?_
        refine g_iaddN (pc := 18) C dX6_feuds_18 ?_
        refine g_ialdN (pc := 19) (f := ss) C 1 rfl (by omega) (by decide) dX6_feuds_19 ?_
        refine g_top (y := (feC c (i / 8) (i % 8))) (hS.fk (by omega)) ?_
        refine g_if_le (pc := 20) C 27 dX6_feuds_20 (by decide) (fun c20 => ?_) (fun c20 => ?_)
        · refine g_iconst (pc := 27) (v := nI 0) C dX6_feuds_27 (by decide) ?_
          refine g_iadd (pc := 28) C dX6_feuds_28 ?_
          refine g_istore_n (pc := 29) (lv' := [(1, .int (u + (nI 0))), (0, .ref q0), (2, .int (nI i))]) C dX6_feuds_29 rfl (by decide) rfl ?_
          refine g_iinc (pc := 30) (lv' := [(2, .int (nI (i + 1))), (1, .int (u + (nI 0))), (0, .ref q0)]) C dX6_feuds_30 2 rfl (nI_add i 1) (by decide) rfl ?_
          refine g_goto (pc := 33) C 4 dX6_feuds_33 (by decide) ?_
          refine g_lvp (lv' := [(0, .ref q0), (1, .int (u + (nI 0))), (2, .int (nI (i + 1)))]) [2, 1, 0] rfl ?_
          exact ih4 (i + 1) (u + (nI 0)) (by omega) (by first | assumption | omega) (by rw [hu, show sI (fun k => amP c (k / 8) (k % 8) (nI 3)) (i + 1) = sI (fun k => amP c (k / 8) (k % 8) (nI 3)) i + amP c (i / 8) (i % 8) (nI 3) from rfl, amP_3, decide_eq_false (Int32.not_lt.mpr c20)]; rfl)
        · refine g_iconst (pc := 23) (v := nI 1) C dX6_feuds_23 (by decide) ?_
          refine g_goto (pc := 24) C 28 dX6_feuds_24 (by decide) ?_
          refine g_iadd (pc := 28) C dX6_feuds_28 ?_
          refine g_istore_n (pc := 29) (lv' := [(1, .int (u + (nI 1))), (0, .ref q0), (2, .int (nI i))]) C dX6_feuds_29 rfl (by decide) rfl ?_
          refine g_iinc (pc := 30) (lv' := [(2, .int (nI (i + 1))), (1, .int (u + (nI 1))), (0, .ref q0)]) C dX6_feuds_30 2 rfl (nI_add i 1) (by decide) rfl ?_
          refine g_goto (pc := 33) C 4 dX6_feuds_33 (by decide) ?_
          refine g_lvp (lv' := [(0, .ref q0), (1, .int (u + (nI 1))), (2, .int (nI (i + 1)))]) [2, 1, 0] rfl ?_
          exact ih4 (i + 1) (u + (nI 1)) (by omega) (by first | assumption | omega) (by rw [hu, show sI (fun k => amP c (k / 8) (k % 8) (nI 3)) (i + 1) = sI (fun k => amP c (k / 8) (k % 8) (nI 3)) i + amP c (i / 8) (i % 8) (nI 3) from rfl, amP_3, decide_eq_true (Int32.not_le.mp c20)]; rfl)
  refine g_lvp (lv' := [(0, .ref q0), (1, .int (nI 0)), (2, .int (nI 0))]) [2, 1, 0] rfl ?_
  exact L4 _ 0 (nI 0) (Nat.lt_succ_self _) (by first | assumption | omega) (rfl)

abbrev rm_X6_links : Room := { frames := 0, cells := 0, slots := 0, locals := 0 }
theorem yd_X6_links : yX6_links.cls = RX6 ∧ yX6_links.cls ≠ "java/lang/invoke/MethodHandle" ∧ yX6_links.cls ≠ "java/lang/invoke/VarHandle" ∧ (parseMethodDescriptor yX6_links.desc).map (fun d => d.parameters.length) = some 0 := by decide +kernel
theorem in_X6_links_X6 : ∀ w ∈ u_ws RX6 TX6 18, w ∈ wsX6_links := by decide +kernel
theorem fl_X6_links_7 : Cond.fieldLink RX6 7 "FenceHandshakesModel" "s" "[I" ∈ wsX6_links := by decide +kernel
set_option maxHeartbeats 4000000 in
set_option maxRecDepth 100000 in
theorem m_X6_links (l : Launch) (D : va_G) (cI cC : ClassId) (q0 q1 q2 q3 q4 q5 q6 q7 q8 q9 q10 q11 : Nat) (th : Int32) (ss : Nat → Int32) (asd : Nat → Int32) (sts : Nat → Int32) (sm : Int32) (snp : Nat → Int32) (hx : Int32) (tx : Nat → Int32) (lgt : Int32) (can : Nat → Int32) (szs : Nat → Int32) (ptn : Nat → Int32) (nms : Nat → Int32) (pth : Nat → Int32) (att : Int32) (isw : Int32) (rdd : Nat → Int32) (rmy : Int32) (c : Nat → Int32) (hS : SR c ss) : g_M l yX6_links wsX6_links rm_X6_links D cI cC [.ref q0] (rW cI cC q0 q1 q2 q3 q4 q5 q6 q7 q8 q9 q10 q11 th ss asd sts sm snp hx tx lgt can szs ptn nms pth att isw rdd rmy) (fun vv ww => vv = some (.int (nI (bcN (cN c 152)))) ∧ ww = (rW cI cC q0 q1 q2 q3 q4 q5 q6 q7 q8 q9 q10 q11 th ss asd sts sm snp hx tx lgt can szs ptn nms pth att isw rdd rmy)) := by
  refine g_entry (lv := [(0, .ref q0)]) (own := RX6) (by decide) rfl rfl (Nat.le_of_ble_eq_true rfl) rfl ?_
  intro p e s m args below meth co A Q C hr hQ
  refine g_iconst (pc := 0) (v := nI 0) C dX6_links_0 (by decide) ?_
  refine g_istore_n (pc := 1) (lv' := [(1, .int (nI 0)), (0, .ref q0)]) C dX6_links_1 rfl (by decide) rfl ?_
  refine g_iconst (pc := 2) (v := nI 0) C dX6_links_2 (by decide) ?_
  refine g_istore_n (pc := 3) (lv' := [(2, .int (nI 0)), (1, .int (nI 0)), (0, .ref q0)]) C dX6_links_3 rfl (by decide) rfl ?_
  have L4 : ∀ (NZ : Nat) (i : Nat) (u : Nat), 16 - i < NZ → (i ≤ 16) → (u = cnt (fun k => lkC c (k / 4) (k % 4)) i) → g_J p l e rm_X6_links s m args below meth co Q D A 3 0 0 (rW cI cC q0 q1 q2 q3 q4 q5 q6 q7 q8 q9 q10 q11 th ss asd sts sm snp hx tx lgt can szs ptn nms pth att isw rdd rmy) 4 [(0, .ref q0), (1, .int (nI u)), (2, .int (nI i))] [] := by
    intro NZ
    induction NZ with
    | zero => intro i u hN; exact absurd hN (Nat.not_lt_zero _)
    | succ NZ ih4 =>
      intro i u hN4 hi hu
      refine g_iload_n (pc := 4) C dX6_links_4 2 rfl rfl ?_
      refine g_bipush (pc := 5) (v := nI 16) C dX6_links_5 (by decide) ?_
      refine g_icmp_geN (pc := 7) C 28 (by omega) (by omega) dX6_links_7 (by decide) (fun c7 => ?_) (fun c7 => ?_)
      · refine g_iload_n (pc := 28) C dX6_links_28 1 rfl rfl ?_
        refine g_top (y := nI (bcN (cN c 152))) (by rw [hu, show i = 16 by omega, bc_lk hS.ok]) ?_
        exact g_iret C hr hQ dX6_links_29 rfl ⟨rfl, rfl⟩
      · refine g_iload_n (pc := 10) C dX6_links_10 1 rfl rfl ?_
        refine g_aload_n (pc := 11) C dX6_links_11 0 rfl rfl ?_
        refine g_get (pc := 12) (ci := 6) (T := TX6) (N := 18) (v := .ref q1) C in_X6_links_X6 0 rfl rfl 1 (by decide) fl_X6_links_7 rfl rfl dX6_links_12 ?_
        refine g_bipush (pc := 15) (v := nI 17) C dX6_links_15 (by decide) ?_
        refine g_iload_n (pc := 17) C dX6_links_17 2 rfl rfl ?_
        refine g_iaddN (pc := 18) C dX6_links_18 ?_
        refine g_ialdN (pc := 19) (f := ss) C 1 rfl (by omega) (by decide) dX6_links_19 ?_
        refine g_top (y := bI (lkC c (i / 4) (i % 4))) (hS.lk (by omega)) ?_
        refine g_top (y := nI (if (lkC c (i / 4) (i % 4)) then 1 else 0)) (bI_nI _) ?_
        refine g_iaddN (pc := 20) C dX6_links_20 ?_
        refine g_istore_n (pc := 21) (lv' := [(1, .int (nI (u + (if (lkC c (i / 4) (i % 4)) then 1 else 0)))), (0, .ref q0), (2, .int (nI i))]) C dX6_links_21 rfl (by decide) rfl ?_
        refine g_iinc (pc := 22) (lv' := [(2, .int (nI (i + 1))), (1, .int (nI (u + (if (lkC c (i / 4) (i % 4)) then 1 else 0)))), (0, .ref q0)]) C dX6_links_22 2 rfl (nI_add i 1) (by decide) rfl ?_
        refine g_goto (pc := 25) C 4 dX6_links_25 (by decide) ?_
        refine g_lvp (lv' := [(0, .ref q0), (1, .int (nI (u + (if (lkC c (i / 4) (i % 4)) then 1 else 0)))), (2, .int (nI (i + 1)))]) [2, 1, 0] rfl ?_
        exact ih4 (i + 1) (u + (if (lkC c (i / 4) (i % 4)) then 1 else 0)) (by omega) (by first | assumption | omega) (by rw [hu]; rfl)
  refine g_lvp (lv' := [(0, .ref q0), (1, .int (nI 0)), (2, .int (nI 0))]) [2, 1, 0] rfl ?_
  exact L4 _ 0 0 (Nat.lt_succ_self _) (by first | assumption | omega) (rfl)

abbrev rm_X6_shaken : Room := { frames := 0, cells := 0, slots := 0, locals := 0 }
theorem yd_X6_shaken : yX6_shaken.cls = RX6 ∧ yX6_shaken.cls ≠ "java/lang/invoke/MethodHandle" ∧ yX6_shaken.cls ≠ "java/lang/invoke/VarHandle" ∧ (parseMethodDescriptor yX6_shaken.desc).map (fun d => d.parameters.length) = some 0 := by decide +kernel
theorem in_X6_shaken_X6 : ∀ w ∈ u_ws RX6 TX6 18, w ∈ wsX6_shaken := by decide +kernel
theorem fl_X6_shaken_7 : Cond.fieldLink RX6 7 "FenceHandshakesModel" "s" "[I" ∈ wsX6_shaken := by decide +kernel
set_option maxHeartbeats 4000000 in
set_option maxRecDepth 100000 in
theorem m_X6_shaken (l : Launch) (D : va_G) (cI cC : ClassId) (q0 q1 q2 q3 q4 q5 q6 q7 q8 q9 q10 q11 : Nat) (th : Int32) (ss : Nat → Int32) (asd : Nat → Int32) (sts : Nat → Int32) (sm : Int32) (snp : Nat → Int32) (hx : Int32) (tx : Nat → Int32) (lgt : Int32) (can : Nat → Int32) (szs : Nat → Int32) (ptn : Nat → Int32) (nms : Nat → Int32) (pth : Nat → Int32) (att : Int32) (isw : Int32) (rdd : Nat → Int32) (rmy : Int32) (c : Nat → Int32) (hS : SR c ss) : g_M l yX6_shaken wsX6_shaken rm_X6_shaken D cI cC [.ref q0] (rW cI cC q0 q1 q2 q3 q4 q5 q6 q7 q8 q9 q10 q11 th ss asd sts sm snp hx tx lgt can szs ptn nms pth att isw rdd rmy) (fun vv ww => vv = some (.int (sI (amA c (nI 4)) 8)) ∧ ww = (rW cI cC q0 q1 q2 q3 q4 q5 q6 q7 q8 q9 q10 q11 th ss asd sts sm snp hx tx lgt can szs ptn nms pth att isw rdd rmy)) := by
  refine g_entry (lv := [(0, .ref q0)]) (own := RX6) (by decide) rfl rfl (Nat.le_of_ble_eq_true rfl) rfl ?_
  intro p e s m args below meth co A Q C hr hQ
  refine g_iconst (pc := 0) (v := nI 0) C dX6_shaken_0 (by decide) ?_
  refine g_istore_n (pc := 1) (lv' := [(1, .int (nI 0)), (0, .ref q0)]) C dX6_shaken_1 rfl (by decide) rfl ?_
  refine g_iconst (pc := 2) (v := nI 0) C dX6_shaken_2 (by decide) ?_
  refine g_istore_n (pc := 3) (lv' := [(2, .int (nI 0)), (1, .int (nI 0)), (0, .ref q0)]) C dX6_shaken_3 rfl (by decide) rfl ?_
  have L4 : ∀ (NZ : Nat) (i : Nat) (u : Int32), 64 - i < NZ → (i ≤ 64) → (u = sI (fun k => amP c (k / 8) (k % 8) (nI 4)) i) → g_J p l e rm_X6_shaken s m args below meth co Q D A 3 0 0 (rW cI cC q0 q1 q2 q3 q4 q5 q6 q7 q8 q9 q10 q11 th ss asd sts sm snp hx tx lgt can szs ptn nms pth att isw rdd rmy) 4 [(0, .ref q0), (1, .int u), (2, .int (nI i))] [] := by
    intro NZ
    induction NZ with
    | zero => intro i u hN; exact absurd hN (Nat.not_lt_zero _)
    | succ NZ ih4 =>
      intro i u hN4 hi hu
      refine g_iload_n (pc := 4) C dX6_shaken_4 2 rfl rfl ?_
      refine g_bipush (pc := 5) (v := nI 64) C dX6_shaken_5 (by decide) ?_
      refine g_icmp_geN (pc := 7) C 29 (by omega) (by omega) dX6_shaken_7 (by decide) (fun c7 => ?_) (fun c7 => ?_)
      · refine g_iload_n (pc := 29) C dX6_shaken_29 1 rfl rfl ?_
        refine g_top (y := (sI (amA c (nI 4)) 8)) (by rw [hu, show i = 64 by omega, am_flat]) ?_
        exact g_iret C hr hQ dX6_shaken_30 rfl ⟨rfl, rfl⟩
      · refine g_iload_n (pc := 10) C dX6_shaken_10 1 rfl rfl ?_
        refine g_aload_n (pc := 11) C dX6_shaken_11 0 rfl rfl ?_
        refine g_get (pc := 12) (ci := 6) (T := TX6) (N := 18) (v := .ref q1) C in_X6_shaken_X6 0 rfl rfl 1 (by decide) fl_X6_shaken_7 rfl rfl dX6_shaken_12 ?_
        refine g_sipush (pc := 15) (v := nI 161) C dX6_shaken_15 (by decide) ?_
        refine g_iload_n (pc := 18) C dX6_shaken_18 2 rfl rfl ?_
        refine g_iaddN (pc := 19) C dX6_shaken_19 ?_
        refine g_ialdN (pc := 20) (f := ss) C 1 rfl (by omega) (by decide) dX6_shaken_20 ?_
        refine g_top (y := (taC c (i / 8) (i % 8))) (hS.tk (by omega)) ?_
        refine g_iadd (pc := 21) C dX6_shaken_21 ?_
        refine g_istore_n (pc := 22) (lv' := [(1, .int (u + (taC c (i / 8) (i % 8)))), (0, .ref q0), (2, .int (nI i))]) C dX6_shaken_22 rfl (by decide) rfl ?_
        refine g_iinc (pc := 23) (lv' := [(2, .int (nI (i + 1))), (1, .int (u + (taC c (i / 8) (i % 8)))), (0, .ref q0)]) C dX6_shaken_23 2 rfl (nI_add i 1) (by decide) rfl ?_
        refine g_goto (pc := 26) C 4 dX6_shaken_26 (by decide) ?_
        refine g_lvp (lv' := [(0, .ref q0), (1, .int (u + (taC c (i / 8) (i % 8)))), (2, .int (nI (i + 1)))]) [2, 1, 0] rfl ?_
        exact ih4 (i + 1) (u + (taC c (i / 8) (i % 8))) (by omega) (by first | assumption | omega) (by rw [hu, show sI (fun k => amP c (k / 8) (k % 8) (nI 4)) (i + 1) = sI (fun k => amP c (k / 8) (k % 8) (nI 4)) i + amP c (i / 8) (i % 8) (nI 4) from rfl, amP_4])
  refine g_lvp (lv' := [(0, .ref q0), (1, .int (nI 0)), (2, .int (nI 0))]) [2, 1, 0] rfl ?_
  exact L4 _ 0 (nI 0) (Nat.lt_succ_self _) (by first | assumption | omega) (rfl)

abbrev rm_X6_greatest : Room := { frames := 3, cells := 0, slots := 0, locals := 66 }
theorem yd_X6_greatest : yX6_greatest.cls = RX6 ∧ yX6_greatest.cls ≠ "java/lang/invoke/MethodHandle" ∧ yX6_greatest.cls ≠ "java/lang/invoke/VarHandle" ∧ (parseMethodDescriptor yX6_greatest.desc).map (fun d => d.parameters.length) = some 0 := by decide +kernel
set_option maxHeartbeats 4000000 in
set_option maxRecDepth 100000 in
theorem m_X6_greatest (l : Launch) (D : va_G) (cI cC : ClassId) (q0 q1 q2 q3 q4 q5 q6 q7 q8 q9 q10 q11 : Nat) (th : Int32) (ss : Nat → Int32) (asd : Nat → Int32) (sts : Nat → Int32) (sm : Int32) (snp : Nat → Int32) (hx : Int32) (tx : Nat → Int32) (lgt : Int32) (can : Nat → Int32) (szs : Nat → Int32) (ptn : Nat → Int32) (nms : Nat → Int32) (pth : Nat → Int32) (att : Int32) (isw : Int32) (rdd : Nat → Int32) (rmy : Int32) (c : Nat → Int32) (hS : SR c ss) : g_M l yX6_greatest wsX6_greatest rm_X6_greatest D cI cC [.ref q0] (rW cI cC q0 q1 q2 q3 q4 q5 q6 q7 q8 q9 q10 q11 th ss asd sts sm snp hx tx lgt can szs ptn nms pth att isw rdd rmy) (fun vv ww => vv = some (.int (nI (mxF c 8))) ∧ ww = (rW cI cC q0 q1 q2 q3 q4 q5 q6 q7 q8 q9 q10 q11 th ss asd sts sm snp hx tx lgt can szs ptn nms pth att isw rdd rmy)) := by
  refine g_entry (lv := [(0, .ref q0)]) (own := RX6) (by decide) rfl rfl (Nat.le_of_ble_eq_true rfl) rfl ?_
  intro p e s m args below meth co A Q C hr hQ
  refine g_iconst (pc := 0) (v := nI 0) C dX6_greatest_0 (by decide) ?_
  refine g_istore_n (pc := 1) (lv' := [(1, .int (nI 0)), (0, .ref q0)]) C dX6_greatest_1 rfl (by decide) rfl ?_
  refine g_iconst (pc := 2) (v := nI 0) C dX6_greatest_2 (by decide) ?_
  refine g_istore_n (pc := 3) (lv' := [(2, .int (nI 0)), (1, .int (nI 0)), (0, .ref q0)]) C dX6_greatest_3 rfl (by decide) rfl ?_
  have L4 : ∀ (NZ : Nat) (i : Nat) (u : Nat), 8 - i < NZ → (i ≤ 8) → (u ≤ 8) → (u = mxF c i) → g_J p l e rm_X6_greatest s m args below meth co Q D A 6 0 0 (rW cI cC q0 q1 q2 q3 q4 q5 q6 q7 q8 q9 q10 q11 th ss asd sts sm snp hx tx lgt can szs ptn nms pth att isw rdd rmy) 4 [(0, .ref q0), (1, .int (nI u)), (2, .int (nI i))] [] := by
    intro NZ
    induction NZ with
    | zero => intro i u hN; exact absurd hN (Nat.not_lt_zero _)
    | succ NZ ih4 =>
      intro i u hN4 hi hu8 hu
      refine g_iload_n (pc := 4) C dX6_greatest_4 2 rfl rfl ?_
      refine g_bipush (pc := 5) (v := nI 8) C dX6_greatest_5 (by decide) ?_
      refine g_icmp_geN (pc := 7) C 99 (by omega) (by omega) dX6_greatest_7 (by decide) (fun c7 => ?_) (fun c7 => ?_)
      · refine g_iload_n (pc := 99) C dX6_greatest_99 1 rfl rfl ?_
        refine g_top (y := nI (mxF c 8)) (by rw [hu, show i = 8 by omega]) ?_
        exact g_iret C hr hQ dX6_greatest_100 rfl ⟨rfl, rfl⟩
      · refine g_iconst (pc := 10) (v := nI 0) C dX6_greatest_10 (by decide) ?_
        refine g_istore_n (pc := 11) (lv' := [(3, .int (nI 0)), (0, .ref q0), (1, .int (nI u)), (2, .int (nI i))]) C dX6_greatest_11 rfl (by decide) rfl ?_
        refine g_iconst (pc := 12) (v := nI 0) C dX6_greatest_12 (by decide) ?_
        refine g_istore (pc := 13) (lv' := [(4, .int (nI 0)), (3, .int (nI 0)), (0, .ref q0), (1, .int (nI u)), (2, .int (nI i))]) C dX6_greatest_13 (by decide) rfl ?_
        refine g_iconst (pc := 15) (v := nI 0) C dX6_greatest_15 (by decide) ?_
        refine g_istore (pc := 16) (lv' := [(5, .int (nI 0)), (4, .int (nI 0)), (3, .int (nI 0)), (0, .ref q0), (1, .int (nI u)), (2, .int (nI i))]) C dX6_greatest_16 (by decide) rfl ?_
        have L18 : ∀ (NZ : Nat) (j : Nat) (x1 : Nat) (y1 : Nat), 8 - j < NZ → (j ≤ 8) → (x1 = cnt (fun o => poC c i o) j) → (y1 = cnt (fun o => poC c o i) j) → g_J p l e rm_X6_greatest s m args below meth co Q D A 6 0 0 (rW cI cC q0 q1 q2 q3 q4 q5 q6 q7 q8 q9 q10 q11 th ss asd sts sm snp hx tx lgt can szs ptn nms pth att isw rdd rmy) 18 [(0, .ref q0), (1, .int (nI u)), (2, .int (nI i)), (3, .int (nI x1)), (4, .int (nI y1)), (5, .int (nI j))] [] := by
          intro NZ
          induction NZ with
          | zero => intro j x1 y1 hN; exact absurd hN (Nat.not_lt_zero _)
          | succ NZ ih18 =>
            intro j x1 y1 hN18 hj hx1 hy1
            refine g_iload (pc := 18) C dX6_greatest_18 5 rfl ?_
            refine g_bipush (pc := 20) (v := nI 8) C dX6_greatest_20 (by decide) ?_
            refine g_icmp_geN (pc := 22) C 69 (by omega) (by omega) dX6_greatest_22 (by decide) (fun c22 => ?_) (fun c22 => ?_)
            · have hx8 : x1 = cnt (fun o => poC c i o) 8 := by rw [hx1, show j = 8 by omega]
              have hy8 : y1 = cnt (fun o => poC c o i) 8 := by rw [hy1, show j = 8 by omega]
              have w1 := cnt_le (fun o => poC c i o) 8
              have w2 := cnt_le (fun o => poC c o i) 8
              rw [← hx8] at w1
              rw [← hy8] at w2
              refine g_iload_n (pc := 69) C dX6_greatest_69 3 rfl rfl ?_
              refine g_iload_n (pc := 70) C dX6_greatest_70 1 rfl rfl ?_
              refine g_icmp_leN (pc := 71) C 78 (by omega) (by omega) dX6_greatest_71 (by decide) (fun c71 => ?_) (fun c71 => ?_)
              · refine g_iload_n (pc := 78) C dX6_greatest_78 1 rfl rfl ?_
                refine g_istore_n (pc := 79) (lv' := [(1, .int (nI u)), (0, .ref q0), (2, .int (nI i)), (3, .int (nI x1)), (4, .int (nI y1)), (5, .int (nI j))]) C dX6_greatest_79 rfl (by decide) rfl ?_
                refine g_iload (pc := 80) C dX6_greatest_80 4 rfl ?_
                refine g_iload_n (pc := 82) C dX6_greatest_82 0 rfl rfl ?_
                refine g_icmp_leN (pc := 83) C 91 (by omega) (by omega) dX6_greatest_83 (by decide) (fun c83 => ?_) (fun c83 => ?_)
                · refine g_iload_n (pc := 91) C dX6_greatest_91 0 rfl rfl ?_
                  refine g_istore_n (pc := 92) (lv' := [(1, .int (nI u)), (0, .ref q0), (2, .int (nI i)), (3, .int (nI x1)), (4, .int (nI y1)), (5, .int (nI j))]) C dX6_greatest_92 rfl (by decide) rfl ?_
                  refine g_iinc (pc := 93) (lv' := [(2, .int (nI (i + 1))), (1, .int (nI u)), (0, .ref q0), (3, .int (nI x1)), (4, .int (nI y1)), (5, .int (nI j))]) C dX6_greatest_93 2 rfl (nI_add i 1) (by decide) rfl ?_
                  refine g_goto (pc := 96) C 4 dX6_greatest_96 (by decide) ?_
                  refine g_lvp (lv' := [(0, .ref q0), (1, .int (nI u)), (2, .int (nI (i + 1)))]) [2, 1, 0] rfl ?_
                  exact ih4 (i + 1) u (by omega) (by first | assumption | omega) (by omega) (by rw [show mxF c (i + 1) = max (max (mxF c i) (cnt (fun o => poC c i o) 8)) (cnt (fun o => poC c o i) 8) from rfl, ← hu, ← hx8, ← hy8]; omega)
                · refine g_iload (pc := 86) C dX6_greatest_86 4 rfl ?_
                  refine g_goto (pc := 88) C 92 dX6_greatest_88 (by decide) ?_
                  refine g_istore_n (pc := 92) (lv' := [(1, .int (nI y1)), (0, .ref q0), (2, .int (nI i)), (3, .int (nI x1)), (4, .int (nI y1)), (5, .int (nI j))]) C dX6_greatest_92 rfl (by decide) rfl ?_
                  refine g_iinc (pc := 93) (lv' := [(2, .int (nI (i + 1))), (1, .int (nI y1)), (0, .ref q0), (3, .int (nI x1)), (4, .int (nI y1)), (5, .int (nI j))]) C dX6_greatest_93 2 rfl (nI_add i 1) (by decide) rfl ?_
                  refine g_goto (pc := 96) C 4 dX6_greatest_96 (by decide) ?_
                  refine g_lvp (lv' := [(0, .ref q0), (1, .int (nI y1)), (2, .int (nI (i + 1)))]) [2, 1, 0] rfl ?_
                  exact ih4 (i + 1) y1 (by omega) (by first | assumption | omega) (by omega) (by rw [show mxF c (i + 1) = max (max (mxF c i) (cnt (fun o => poC c i o) 8)) (cnt (fun o => poC c o i) 8) from rfl, ← hu, ← hx8, ← hy8]; omega)
              · refine g_iload_n (pc := 74) C dX6_greatest_74 3 rfl rfl ?_
                refine g_goto (pc := 75) C 79 dX6_greatest_75 (by decide) ?_
                refine g_istore_n (pc := 79) (lv' := [(1, .int (nI x1)), (0, .ref q0), (2, .int (nI i)), (3, .int (nI x1)), (4, .int (nI y1)), (5, .int (nI j))]) C dX6_greatest_79 rfl (by decide) rfl ?_
                refine g_iload (pc := 80) C dX6_greatest_80 4 rfl ?_
                refine g_iload_n (pc := 82) C dX6_greatest_82 0 rfl rfl ?_
                refine g_icmp_leN (pc := 83) C 91 (by omega) (by omega) dX6_greatest_83 (by decide) (fun c83 => ?_) (fun c83 => ?_)
                · refine g_iload_n (pc := 91) C dX6_greatest_91 0 rfl rfl ?_
                  refine g_istore_n (pc := 92) (lv' := [(1, .int (nI x1)), (0, .ref q0), (2, .int (nI i)), (3, .int (nI x1)), (4, .int (nI y1)), (5, .int (nI j))]) C dX6_greatest_92 rfl (by decide) rfl ?_
                  refine g_iinc (pc := 93) (lv' := [(2, .int (nI (i + 1))), (1, .int (nI x1)), (0, .ref q0), (3, .int (nI x1)), (4, .int (nI y1)), (5, .int (nI j))]) C dX6_greatest_93 2 rfl (nI_add i 1) (by decide) rfl ?_
                  refine g_goto (pc := 96) C 4 dX6_greatest_96 (by decide) ?_
                  refine g_lvp (lv' := [(0, .ref q0), (1, .int (nI x1)), (2, .int (nI (i + 1)))]) [2, 1, 0] rfl ?_
                  exact ih4 (i + 1) x1 (by omega) (by first | assumption | omega) (by omega) (by rw [show mxF c (i + 1) = max (max (mxF c i) (cnt (fun o => poC c i o) 8)) (cnt (fun o => poC c o i) 8) from rfl, ← hu, ← hx8, ← hy8]; omega)
                · refine g_iload (pc := 86) C dX6_greatest_86 4 rfl ?_
                  refine g_goto (pc := 88) C 92 dX6_greatest_88 (by decide) ?_
                  refine g_istore_n (pc := 92) (lv' := [(1, .int (nI y1)), (0, .ref q0), (2, .int (nI i)), (3, .int (nI x1)), (4, .int (nI y1)), (5, .int (nI j))]) C dX6_greatest_92 rfl (by decide) rfl ?_
                  refine g_iinc (pc := 93) (lv' := [(2, .int (nI (i + 1))), (1, .int (nI y1)), (0, .ref q0), (3, .int (nI x1)), (4, .int (nI y1)), (5, .int (nI j))]) C dX6_greatest_93 2 rfl (nI_add i 1) (by decide) rfl ?_
                  refine g_goto (pc := 96) C 4 dX6_greatest_96 (by decide) ?_
                  refine g_lvp (lv' := [(0, .ref q0), (1, .int (nI y1)), (2, .int (nI (i + 1)))]) [2, 1, 0] rfl ?_
                  exact ih4 (i + 1) y1 (by omega) (by first | assumption | omega) (by omega) (by rw [show mxF c (i + 1) = max (max (mxF c i) (cnt (fun o => poC c i o) 8)) (cnt (fun o => poC c o i) 8) from rfl, ← hu, ← hx8, ← hy8]; omega)
            · refine g_iload_n (pc := 25) C dX6_greatest_25 3 rfl rfl ?_
              refine g_aload_n (pc := 26) C dX6_greatest_26 0 rfl rfl ?_
              refine g_iload_n (pc := 27) C dX6_greatest_27 2 rfl rfl ?_
              refine g_iload (pc := 28) C dX6_greatest_28 5 rfl ?_
              refine g_callV (pc := 30) (st := [.int (nI x1)]) (As := [.int (nI i), .int (nI j)]) (nn := 2) (ci := 6) (q0 := 0) C (m_X6_isPossible l D cI cC q0 q1 q2 q3 q4 q5 q6 q7 q8 q9 q10 q11 th ss asd sts sm snp hx tx lgt can szs ptn nms pth att isw rdd rmy c i j (by first | assumption | omega) (by first | assumption | omega) (by first | assumption | omega)) gX6_greatest_X6_isPossible rfl rfl rfl yd_X6_isPossible ⟨Nat.le_of_ble_eq_true rfl, Nat.le_of_ble_eq_true rfl⟩ rfl [0, 1, 2, 3, 4, 5, 6, 7, 8, 9, 10, 11] rfl rfl rfl rfl rfl (Nat.le_of_ble_eq_true rfl) ⟨Nat.le_of_ble_eq_true rfl, Nat.le_of_ble_eq_true rfl⟩ dX6_greatest_30 ?_
              rintro _ _ ⟨rfl, rfl⟩
              refine g_eq (ws' := (rW cI cC q0 q1 q2 q3 q4 q5 q6 q7 q8 q9 q10 q11 th ss asd sts sm snp hx tx lgt can szs ptn nms pth att isw rdd rmy)) (st' := [.int (bI (poC c i j)), .int (nI x1)]) rfl rfl ?_
              refine g_if_eqB (pc := 33) C 40 dX6_greatest_33 (by decide) (fun c33 => ?_) (fun c33 => ?_)
              · refine g_iconst (pc := 40) (v := nI 0) C dX6_greatest_40 (by decide) ?_
                refine g_iaddN (pc := 41) C dX6_greatest_41 ?_
                refine g_istore_n (pc := 42) (lv' := [(3, .int (nI (x1 + 0))), (0, .ref q0), (1, .int (nI u)), (2, .int (nI i)), (4, .int (nI y1)), (5, .int (nI j))]) C dX6_greatest_42 rfl (by decide) rfl ?_
                refine g_iload (pc := 43) C dX6_greatest_43 4 rfl ?_
                refine g_aload_n (pc := 45) C dX6_greatest_45 1 rfl rfl ?_
                refine g_iload (pc := 46) C dX6_greatest_46 5 rfl ?_
                refine g_iload_n (pc := 48) C dX6_greatest_48 3 rfl rfl ?_
                refine g_callV (pc := 49) (st := [.int (nI y1)]) (As := [.int (nI j), .int (nI i)]) (nn := 2) (ci := 6) (q0 := 0) C (m_X6_isPossible l D cI cC q0 q1 q2 q3 q4 q5 q6 q7 q8 q9 q10 q11 th ss asd sts sm snp hx tx lgt can szs ptn nms pth att isw rdd rmy c j i (by first | assumption | omega) (by first | assumption | omega) (by first | assumption | omega)) gX6_greatest_X6_isPossible rfl rfl rfl yd_X6_isPossible ⟨Nat.le_of_ble_eq_true rfl, Nat.le_of_ble_eq_true rfl⟩ rfl [0, 1, 2, 3, 4, 5, 6, 7, 8, 9, 10, 11] rfl rfl rfl rfl rfl (Nat.le_of_ble_eq_true rfl) ⟨Nat.le_of_ble_eq_true rfl, Nat.le_of_ble_eq_true rfl⟩ dX6_greatest_49 ?_
                rintro _ _ ⟨rfl, rfl⟩
                refine g_eq (ws' := (rW cI cC q0 q1 q2 q3 q4 q5 q6 q7 q8 q9 q10 q11 th ss asd sts sm snp hx tx lgt can szs ptn nms pth att isw rdd rmy)) (st' := [.int (bI (poC c j i)), .int (nI y1)]) rfl rfl ?_
                refine g_if_eqB (pc := 52) C 59 dX6_greatest_52 (by decide) (fun c52 => ?_) (fun c52 => ?_)
                · refine g_iconst (pc := 59) (v := nI 0) C dX6_greatest_59 (by decide) ?_
                  refine g_iaddN (pc := 60) C dX6_greatest_60 ?_
                  refine g_istore (pc := 61) (lv' := [(4, .int (nI (y1 + 0))), (3, .int (nI (x1 + 0))), (0, .ref q0), (1, .int (nI u)), (2, .int (nI i)), (5, .int (nI j))]) C dX6_greatest_61 (by decide) rfl ?_
                  refine g_iinc (pc := 63) (lv' := [(5, .int (nI (j + 1))), (4, .int (nI (y1 + 0))), (3, .int (nI (x1 + 0))), (0, .ref q0), (1, .int (nI u)), (2, .int (nI i))]) C dX6_greatest_63 5 rfl (nI_add j 1) (by decide) rfl ?_
                  refine g_goto (pc := 66) C 18 dX6_greatest_66 (by decide) ?_
                  refine g_lvp (lv' := [(0, .ref q0), (1, .int (nI u)), (2, .int (nI i)), (3, .int (nI (x1 + 0))), (4, .int (nI (y1 + 0))), (5, .int (nI (j + 1)))]) [3, 4, 5, 2, 1, 0] rfl ?_
                  exact ih18 (j + 1) (x1 + 0) (y1 + 0) (by omega) (by first | assumption | omega) (by rw [hx1, show cnt (fun o => poC c i o) (j + 1) = cnt (fun o => poC c i o) j + (if poC c i j then 1 else 0) from rfl, c33]; rfl) (by rw [hy1, show cnt (fun o => poC c o i) (j + 1) = cnt (fun o => poC c o i) j + (if poC c j i then 1 else 0) from rfl, c52]; rfl)
                · refine g_iconst (pc := 55) (v := nI 1) C dX6_greatest_55 (by decide) ?_
                  refine g_goto (pc := 56) C 60 dX6_greatest_56 (by decide) ?_
                  refine g_iaddN (pc := 60) C dX6_greatest_60 ?_
                  refine g_istore (pc := 61) (lv' := [(4, .int (nI (y1 + 1))), (3, .int (nI (x1 + 0))), (0, .ref q0), (1, .int (nI u)), (2, .int (nI i)), (5, .int (nI j))]) C dX6_greatest_61 (by decide) rfl ?_
                  refine g_iinc (pc := 63) (lv' := [(5, .int (nI (j + 1))), (4, .int (nI (y1 + 1))), (3, .int (nI (x1 + 0))), (0, .ref q0), (1, .int (nI u)), (2, .int (nI i))]) C dX6_greatest_63 5 rfl (nI_add j 1) (by decide) rfl ?_
                  refine g_goto (pc := 66) C 18 dX6_greatest_66 (by decide) ?_
                  refine g_lvp (lv' := [(0, .ref q0), (1, .int (nI u)), (2, .int (nI i)), (3, .int (nI (x1 + 0))), (4, .int (nI (y1 + 1))), (5, .int (nI (j + 1)))]) [3, 4, 5, 2, 1, 0] rfl ?_
                  exact ih18 (j + 1) (x1 + 0) (y1 + 1) (by omega) (by first | assumption | omega) (by rw [hx1, show cnt (fun o => poC c i o) (j + 1) = cnt (fun o => poC c i o) j + (if poC c i j then 1 else 0) from rfl, c33]; rfl) (by rw [hy1, show cnt (fun o => poC c o i) (j + 1) = cnt (fun o => poC c o i) j + (if poC c j i then 1 else 0) from rfl, c52]; rfl)
              · refine g_iconst (pc := 36) (v := nI 1) C dX6_greatest_36 (by decide) ?_
                refine g_goto (pc := 37) C 41 dX6_greatest_37 (by decide) ?_
                refine g_iaddN (pc := 41) C dX6_greatest_41 ?_
                refine g_istore_n (pc := 42) (lv' := [(3, .int (nI (x1 + 1))), (0, .ref q0), (1, .int (nI u)), (2, .int (nI i)), (4, .int (nI y1)), (5, .int (nI j))]) C dX6_greatest_42 rfl (by decide) rfl ?_
                refine g_iload (pc := 43) C dX6_greatest_43 4 rfl ?_
                refine g_aload_n (pc := 45) C dX6_greatest_45 1 rfl rfl ?_
                refine g_iload (pc := 46) C dX6_greatest_46 5 rfl ?_
                refine g_iload_n (pc := 48) C dX6_greatest_48 3 rfl rfl ?_
                refine g_callV (pc := 49) (st := [.int (nI y1)]) (As := [.int (nI j), .int (nI i)]) (nn := 2) (ci := 6) (q0 := 0) C (m_X6_isPossible l D cI cC q0 q1 q2 q3 q4 q5 q6 q7 q8 q9 q10 q11 th ss asd sts sm snp hx tx lgt can szs ptn nms pth att isw rdd rmy c j i (by first | assumption | omega) (by first | assumption | omega) (by first | assumption | omega)) gX6_greatest_X6_isPossible rfl rfl rfl yd_X6_isPossible ⟨Nat.le_of_ble_eq_true rfl, Nat.le_of_ble_eq_true rfl⟩ rfl [0, 1, 2, 3, 4, 5, 6, 7, 8, 9, 10, 11] rfl rfl rfl rfl rfl (Nat.le_of_ble_eq_true rfl) ⟨Nat.le_of_ble_eq_true rfl, Nat.le_of_ble_eq_true rfl⟩ dX6_greatest_49 ?_
                rintro _ _ ⟨rfl, rfl⟩
                refine g_eq (ws' := (rW cI cC q0 q1 q2 q3 q4 q5 q6 q7 q8 q9 q10 q11 th ss asd sts sm snp hx tx lgt can szs ptn nms pth att isw rdd rmy)) (st' := [.int (bI (poC c j i)), .int (nI y1)]) rfl rfl ?_
                refine g_if_eqB (pc := 52) C 59 dX6_greatest_52 (by decide) (fun c52 => ?_) (fun c52 => ?_)
                · refine g_iconst (pc := 59) (v := nI 0) C dX6_greatest_59 (by decide) ?_
                  refine g_iaddN (pc := 60) C dX6_greatest_60 ?_
                  refine g_istore (pc := 61) (lv' := [(4, .int (nI (y1 + 0))), (3, .int (nI (x1 + 1))), (0, .ref q0), (1, .int (nI u)), (2, .int (nI i)), (5, .int (nI j))]) C dX6_greatest_61 (by decide) rfl ?_
                  refine g_iinc (pc := 63) (lv' := [(5, .int (nI (j + 1))), (4, .int (nI (y1 + 0))), (3, .int (nI (x1 + 1))), (0, .ref q0), (1, .int (nI u)), (2, .int (nI i))]) C dX6_greatest_63 5 rfl (nI_add j 1) (by decide) rfl ?_
                  refine g_goto (pc := 66) C 18 dX6_greatest_66 (by decide) ?_
                  refine g_lvp (lv' := [(0, .ref q0), (1, .int (nI u)), (2, .int (nI i)), (3, .int (nI (x1 + 1))), (4, .int (nI (y1 + 0))), (5, .int (nI (j + 1)))]) [3, 4, 5, 2, 1, 0] rfl ?_
                  exact ih18 (j + 1) (x1 + 1) (y1 + 0) (by omega) (by first | assumption | omega) (by rw [hx1, show cnt (fun o => poC c i o) (j + 1) = cnt (fun o => poC c i o) j + (if poC c i j then 1 else 0) from rfl, c33]; rfl) (by rw [hy1, show cnt (fun o => poC c o i) (j + 1) = cnt (fun o => poC c o i) j + (if poC c j i then 1 else 0) from rfl, c52]; rfl)
                · refine g_iconst (pc := 55) (v := nI 1) C dX6_greatest_55 (by decide) ?_
                  refine g_goto (pc := 56) C 60 dX6_greatest_56 (by decide) ?_
                  refine g_iaddN (pc := 60) C dX6_greatest_60 ?_
                  refine g_istore (pc := 61) (lv' := [(4, .int (nI (y1 + 1))), (3, .int (nI (x1 + 1))), (0, .ref q0), (1, .int (nI u)), (2, .int (nI i)), (5, .int (nI j))]) C dX6_greatest_61 (by decide) rfl ?_
                  refine g_iinc (pc := 63) (lv' := [(5, .int (nI (j + 1))), (4, .int (nI (y1 + 1))), (3, .int (nI (x1 + 1))), (0, .ref q0), (1, .int (nI u)), (2, .int (nI i))]) C dX6_greatest_63 5 rfl (nI_add j 1) (by decide) rfl ?_
                  refine g_goto (pc := 66) C 18 dX6_greatest_66 (by decide) ?_
                  refine g_lvp (lv' := [(0, .ref q0), (1, .int (nI u)), (2, .int (nI i)), (3, .int (nI (x1 + 1))), (4, .int (nI (y1 + 1))), (5, .int (nI (j + 1)))]) [3, 4, 5, 2, 1, 0] rfl ?_
                  exact ih18 (j + 1) (x1 + 1) (y1 + 1) (by omega) (by first | assumption | omega) (by rw [hx1, show cnt (fun o => poC c i o) (j + 1) = cnt (fun o => poC c i o) j + (if poC c i j then 1 else 0) from rfl, c33]; rfl) (by rw [hy1, show cnt (fun o => poC c o i) (j + 1) = cnt (fun o => poC c o i) j + (if poC c j i then 1 else 0) from rfl, c52]; rfl)
        refine g_lvp (lv' := [(0, .ref q0), (1, .int (nI u)), (2, .int (nI i)), (3, .int (nI 0)), (4, .int (nI 0)), (5, .int (nI 0))]) [3, 4, 5, 2, 1, 0] rfl ?_
        exact L18 _ 0 0 0 (Nat.lt_succ_self _) (by first | assumption | omega) (rfl) (rfl)
  refine g_lvp (lv' := [(0, .ref q0), (1, .int (nI 0)), (2, .int (nI 0))]) [2, 1, 0] rfl ?_
  exact L4 _ 0 0 (Nat.lt_succ_self _) (by first | assumption | omega) (by first | assumption | omega) (rfl)

abbrev rm_X6_count : Room := { frames := 5, cells := 0, slots := 0, locals := 112 }
theorem yd_X6_count : yX6_count.cls = RX6 ∧ yX6_count.cls ≠ "java/lang/invoke/MethodHandle" ∧ yX6_count.cls ≠ "java/lang/invoke/VarHandle" ∧ (parseMethodDescriptor yX6_count.desc).map (fun d => d.parameters.length) = some 1 := by decide +kernel
theorem in_X6_count_X6 : ∀ w ∈ u_ws RX6 TX6 18, w ∈ wsX6_count := by decide +kernel
theorem fl_X6_count_7 : Cond.fieldLink RX6 7 "FenceHandshakesModel" "s" "[I" ∈ wsX6_count := by decide +kernel
theorem fl_X6_count_43 : Cond.fieldLink RX6 43 "FenceHandshakesModel" "thrown" "I" ∈ wsX6_count := by decide +kernel
theorem fl_X6_count_55 : Cond.fieldLink RX6 55 "FenceHandshakesModel" "stateMany" "I" ∈ wsX6_count := by decide +kernel
theorem fl_X6_count_107 : Cond.fieldLink RX6 107 "FenceHandshakesModel" "length" "I" ∈ wsX6_count := by decide +kernel
set_option maxHeartbeats 4000000 in
set_option maxRecDepth 100000 in
theorem m_X6_count (l : Launch) (D : va_G) (cI cC : ClassId) (q0 q1 q2 q3 q4 q5 q6 q7 q8 q9 q10 q11 : Nat) (th : Int32) (ss : Nat → Int32) (asd : Nat → Int32) (sts : Nat → Int32) (snp : Nat → Int32) (hx : Int32) (tx : Nat → Int32) (can : Nat → Int32) (szs : Nat → Int32) (ptn : Nat → Int32) (nms : Nat → Int32) (pth : Nat → Int32) (att : Int32) (isw : Int32) (rdd : Nat → Int32) (rmy : Int32) (z : Nat) (ln : Nat) (c : Nat → Int32) (w : Int32) (hS : SR c ss) : g_M l yX6_count wsX6_count rm_X6_count D cI cC [.ref q0, .int w] (rW cI cC q0 q1 q2 q3 q4 q5 q6 q7 q8 q9 q10 q11 th ss asd sts (nI z) snp hx tx (nI ln) can szs ptn nms pth att isw rdd rmy) (fun vv ww => ∃ (can2 : Nat → Int32) (szs2 : Nat → Int32) (ptn2 : Nat → Int32), vv = some (.int (coV c z ln w)) ∧ ww = (rW cI cC q0 q1 q2 q3 q4 q5 q6 q7 q8 q9 q10 q11 (nI 0) ss asd sts (nI z) snp hx tx (nI ln) can2 szs2 ptn2 nms pth att isw rdd rmy)) := by
  refine g_entry (lv := [(0, .ref q0), (1, .int w)]) (own := RX6) (by decide) rfl rfl (Nat.le_of_ble_eq_true rfl) rfl ?_
  intro p e s m args below meth co A Q C hr hQ
  refine g_aload_n (pc := 0) C dX6_count_0 0 rfl rfl ?_
  refine g_iconst (pc := 1) (v := nI 0) C dX6_count_1 (by decide) ?_
  refine g_put (pc := 2) (ci := 6) (T := TX6) (N := 18) (ws' := (rW cI cC q0 q1 q2 q3 q4 q5 q6 q7 q8 q9 q10 q11 (nI 0) ss asd sts (nI z) snp hx tx (nI ln) can szs ptn nms pth att isw rdd rmy)) (ty := .int) (v := .int (nI 0)) C in_X6_count_X6 tyX6 tyX6_ok nmX6 0 rfl rfl 0 (by decide) fl_X6_count_43 rfl rfl (by decide +kernel) rfl rfl (Nat.le_of_ble_eq_true rfl) dX6_count_2 rfl ?_
  refine g_iload_n (pc := 5) C dX6_count_5 1 rfl rfl ?_
  by_cases t6_0 : w = nI 0
  · refine g_top (y := nI 0) t6_0 ?_
    refine g_tabIn (pc := 6) C 60 dX6_count_6 (by decide) (by decide) rfl (by decide) ?_
    refine g_aload_n (pc := 60) C dX6_count_60 0 rfl rfl ?_
    refine g_callV (pc := 61) (st := []) (As := []) (nn := 0) (ci := 6) (q0 := 0) C (m_X6_openMany l D cI cC q0 q1 q2 q3 q4 q5 q6 q7 q8 q9 q10 q11 (nI 0) ss asd sts (nI z) snp hx tx (nI ln) can szs ptn nms pth att isw rdd rmy c (by first | assumption | omega)) gX6_count_X6_openMany rfl rfl rfl yd_X6_openMany ⟨Nat.le_of_ble_eq_true rfl, Nat.le_of_ble_eq_true rfl⟩ rfl [0, 1, 2, 3, 4, 5, 6, 7, 8, 9, 10, 11] rfl rfl rfl rfl rfl (Nat.le_of_ble_eq_true rfl) ⟨Nat.le_of_ble_eq_true rfl, Nat.le_of_ble_eq_true rfl⟩ dX6_count_61 ?_
    rintro _ _ ⟨rfl, rfl⟩
    refine g_eq (ws' := (rW cI cC q0 q1 q2 q3 q4 q5 q6 q7 q8 q9 q10 q11 (nI 0) ss asd sts (nI z) snp hx tx (nI ln) can szs ptn nms pth att isw rdd rmy)) (st' := [.int (nI (nwC c 8))]) rfl rfl ?_
    refine g_top (y := (coV c z ln w)) (by rw [coV, if_pos t6_0]) ?_
    exact g_iret C hr hQ dX6_count_64 rfl ⟨_, _, _, rfl, rfl⟩
  by_cases t6_1 : w = nI 1
  · refine g_top (y := nI 1) t6_1 ?_
    refine g_tabIn (pc := 6) C 65 dX6_count_6 (by decide) (by decide) rfl (by decide) ?_
    refine g_aload_n (pc := 65) C dX6_count_65 0 rfl rfl ?_
    refine g_callV (pc := 66) (st := []) (As := []) (nn := 0) (ci := 6) (q0 := 0) C (m_X6_possibleMany l D cI cC q0 q1 q2 q3 q4 q5 q6 q7 q8 q9 q10 q11 (nI 0) ss asd sts (nI z) snp hx tx (nI ln) can szs ptn nms pth att isw rdd rmy c (by first | assumption | omega)) gX6_count_X6_possibleMany rfl rfl rfl yd_X6_possibleMany ⟨Nat.le_of_ble_eq_true rfl, Nat.le_of_ble_eq_true rfl⟩ rfl [0, 1, 2, 3, 4, 5, 6, 7, 8, 9, 10, 11] rfl rfl rfl rfl rfl (Nat.le_of_ble_eq_true rfl) ⟨Nat.le_of_ble_eq_true rfl, Nat.le_of_ble_eq_true rfl⟩ dX6_count_66 ?_
    rintro _ _ ⟨rfl, rfl⟩
    refine g_eq (ws' := (rW cI cC q0 q1 q2 q3 q4 q5 q6 q7 q8 q9 q10 q11 (nI 0) ss asd sts (nI z) snp hx tx (nI ln) can szs ptn nms pth att isw rdd rmy)) (st' := [.int (sI (amA c (nI 2)) 8)]) rfl rfl ?_
    refine g_top (y := (coV c z ln w)) (by rw [coV, if_neg t6_0, if_pos t6_1]) ?_
    exact g_iret C hr hQ dX6_count_69 rfl ⟨_, _, _, rfl, rfl⟩
  by_cases t6_2 : w = nI 2
  · refine g_top (y := nI 2) t6_2 ?_
    refine g_tabIn (pc := 6) C 70 dX6_count_6 (by decide) (by decide) rfl (by decide) ?_
    refine g_aload_n (pc := 70) C dX6_count_70 0 rfl rfl ?_
    refine g_callV (pc := 71) (st := []) (As := []) (nn := 0) (ci := 6) (q0 := 0) C (m_X6_feuds l D cI cC q0 q1 q2 q3 q4 q5 q6 q7 q8 q9 q10 q11 (nI 0) ss asd sts (nI z) snp hx tx (nI ln) can szs ptn nms pth att isw rdd rmy c (by first | assumption | omega)) gX6_count_X6_feuds rfl rfl rfl yd_X6_feuds ⟨Nat.le_of_ble_eq_true rfl, Nat.le_of_ble_eq_true rfl⟩ rfl [0, 1, 2, 3, 4, 5, 6, 7, 8, 9, 10, 11] rfl rfl rfl rfl rfl (Nat.le_of_ble_eq_true rfl) ⟨Nat.le_of_ble_eq_true rfl, Nat.le_of_ble_eq_true rfl⟩ dX6_count_71 ?_
    rintro _ _ ⟨rfl, rfl⟩
    refine g_eq (ws' := (rW cI cC q0 q1 q2 q3 q4 q5 q6 q7 q8 q9 q10 q11 (nI 0) ss asd sts (nI z) snp hx tx (nI ln) can szs ptn nms pth att isw rdd rmy)) (st' := [.int (sI (amA c (nI 3)) 8)]) rfl rfl ?_
    refine g_top (y := (coV c z ln w)) (by rw [coV, if_neg t6_0, if_neg t6_1, if_pos t6_2]) ?_
    exact g_iret C hr hQ dX6_count_74 rfl ⟨_, _, _, rfl, rfl⟩
  by_cases t6_3 : w = nI 3
  · refine g_top (y := nI 3) t6_3 ?_
    refine g_tabIn (pc := 6) C 75 dX6_count_6 (by decide) (by decide) rfl (by decide) ?_
    refine g_aload_n (pc := 75) C dX6_count_75 0 rfl rfl ?_
    refine g_callV (pc := 76) (st := []) (As := []) (nn := 0) (ci := 6) (q0 := 0) C (m_X6_links l D cI cC q0 q1 q2 q3 q4 q5 q6 q7 q8 q9 q10 q11 (nI 0) ss asd sts (nI z) snp hx tx (nI ln) can szs ptn nms pth att isw rdd rmy c (by first | assumption | omega)) gX6_count_X6_links rfl rfl rfl yd_X6_links ⟨Nat.le_of_ble_eq_true rfl, Nat.le_of_ble_eq_true rfl⟩ rfl [0, 1, 2, 3, 4, 5, 6, 7, 8, 9, 10, 11] rfl rfl rfl rfl rfl (Nat.le_of_ble_eq_true rfl) ⟨Nat.le_of_ble_eq_true rfl, Nat.le_of_ble_eq_true rfl⟩ dX6_count_76 ?_
    rintro _ _ ⟨rfl, rfl⟩
    refine g_eq (ws' := (rW cI cC q0 q1 q2 q3 q4 q5 q6 q7 q8 q9 q10 q11 (nI 0) ss asd sts (nI z) snp hx tx (nI ln) can szs ptn nms pth att isw rdd rmy)) (st' := [.int (nI (bcN (cN c 152)))]) rfl rfl ?_
    refine g_top (y := (coV c z ln w)) (by rw [coV, if_neg t6_0, if_neg t6_1, if_neg t6_2, if_pos t6_3]) ?_
    exact g_iret C hr hQ dX6_count_79 rfl ⟨_, _, _, rfl, rfl⟩
  by_cases t6_4 : w = nI 4
  · refine g_top (y := nI 4) t6_4 ?_
    refine g_tabIn (pc := 6) C 80 dX6_count_6 (by decide) (by decide) rfl (by decide) ?_
    refine g_aload_n (pc := 80) C dX6_count_80 0 rfl rfl ?_
    refine g_get (pc := 81) (ci := 6) (T := TX6) (N := 18) (v := .ref q1) C in_X6_count_X6 0 rfl rfl 1 (by decide) fl_X6_count_7 rfl rfl dX6_count_81 ?_
    refine g_iconst (pc := 84) (v := nI 0) C dX6_count_84 (by decide) ?_
    refine g_ialdN (pc := 85) (f := ss) C 1 rfl (by omega) (by decide) dX6_count_85 ?_
    refine g_top (y := (c 153)) (hS.r) ?_
    refine g_top (y := (coV c z ln w)) (by rw [coV, if_neg t6_0, if_neg t6_1, if_neg t6_2, if_neg t6_3, if_pos t6_4]) ?_
    exact g_iret C hr hQ dX6_count_86 rfl ⟨_, _, _, rfl, rfl⟩
  by_cases t6_5 : w = nI 5
  · refine g_top (y := nI 5) t6_5 ?_
    refine g_tabIn (pc := 6) C 87 dX6_count_6 (by decide) (by decide) rfl (by decide) ?_
    refine g_aload_n (pc := 87) C dX6_count_87 0 rfl rfl ?_
    refine g_callV (pc := 88) (st := []) (As := []) (nn := 0) (ci := 6) (q0 := 0) C (m_X6_shaken l D cI cC q0 q1 q2 q3 q4 q5 q6 q7 q8 q9 q10 q11 (nI 0) ss asd sts (nI z) snp hx tx (nI ln) can szs ptn nms pth att isw rdd rmy c (by first | assumption | omega)) gX6_count_X6_shaken rfl rfl rfl yd_X6_shaken ⟨Nat.le_of_ble_eq_true rfl, Nat.le_of_ble_eq_true rfl⟩ rfl [0, 1, 2, 3, 4, 5, 6, 7, 8, 9, 10, 11] rfl rfl rfl rfl rfl (Nat.le_of_ble_eq_true rfl) ⟨Nat.le_of_ble_eq_true rfl, Nat.le_of_ble_eq_true rfl⟩ dX6_count_88 ?_
    rintro _ _ ⟨rfl, rfl⟩
    refine g_eq (ws' := (rW cI cC q0 q1 q2 q3 q4 q5 q6 q7 q8 q9 q10 q11 (nI 0) ss asd sts (nI z) snp hx tx (nI ln) can szs ptn nms pth att isw rdd rmy)) (st' := [.int (sI (amA c (nI 4)) 8)]) rfl rfl ?_
    refine g_top (y := (coV c z ln w)) (by rw [coV, if_neg t6_0, if_neg t6_1, if_neg t6_2, if_neg t6_3, if_neg t6_4, if_pos t6_5]) ?_
    exact g_iret C hr hQ dX6_count_91 rfl ⟨_, _, _, rfl, rfl⟩
  by_cases t6_6 : w = nI 6
  · refine g_top (y := nI 6) t6_6 ?_
    refine g_tabIn (pc := 6) C 92 dX6_count_6 (by decide) (by decide) rfl (by decide) ?_
    refine g_aload_n (pc := 92) C dX6_count_92 0 rfl rfl ?_
    refine g_callV (pc := 93) (st := []) (As := []) (nn := 0) (ci := 6) (q0 := 0) C (m_X6_matches l D cI cC q0 q1 q2 q3 q4 q5 q6 q7 q8 q9 q10 q11 (nI 0) ss asd sts (nI z) snp hx tx (nI ln) can szs ptn nms pth att isw rdd rmy c (by first | assumption | omega)) gX6_count_X6_matches rfl rfl rfl yd_X6_matches ⟨Nat.le_of_ble_eq_true rfl, Nat.le_of_ble_eq_true rfl⟩ rfl [0, 1, 2, 3, 4, 5, 6, 7, 8, 9, 10, 11] rfl rfl rfl rfl rfl (Nat.le_of_ble_eq_true rfl) ⟨Nat.le_of_ble_eq_true rfl, Nat.le_of_ble_eq_true rfl⟩ dX6_count_93 ?_
    rintro _ _ ⟨can9, szs9, ptn9, rfl, rfl, u1, u2⟩
    refine g_eq (ws' := (rW cI cC q0 q1 q2 q3 q4 q5 q6 q7 q8 q9 q10 q11 (nI 0) ss asd sts (nI z) snp hx tx (nI ln) can9 szs9 ptn9 nms pth att isw rdd rmy)) (st' := [.int (nI (szC c))]) rfl rfl ?_
    refine g_top (y := (coV c z ln w)) (by rw [coV, if_neg t6_0, if_neg t6_1, if_neg t6_2, if_neg t6_3, if_neg t6_4, if_neg t6_5, if_pos t6_6]) ?_
    exact g_iret C hr hQ dX6_count_96 rfl ⟨_, _, _, rfl, rfl⟩
  by_cases t6_7 : w = nI 7
  · refine g_top (y := nI 7) t6_7 ?_
    refine g_tabIn (pc := 6) C 97 dX6_count_6 (by decide) (by decide) rfl (by decide) ?_
    refine g_aload_n (pc := 97) C dX6_count_97 0 rfl rfl ?_
    refine g_callV (pc := 98) (st := []) (As := []) (nn := 0) (ci := 6) (q0 := 0) C (m_X6_greatest l D cI cC q0 q1 q2 q3 q4 q5 q6 q7 q8 q9 q10 q11 (nI 0) ss asd sts (nI z) snp hx tx (nI ln) can szs ptn nms pth att isw rdd rmy c (by first | assumption | omega)) gX6_count_X6_greatest rfl rfl rfl yd_X6_greatest ⟨Nat.le_of_ble_eq_true rfl, Nat.le_of_ble_eq_true rfl⟩ rfl [0, 1, 2, 3, 4, 5, 6, 7, 8, 9, 10, 11] rfl rfl rfl rfl rfl (Nat.le_of_ble_eq_true rfl) ⟨Nat.le_of_ble_eq_true rfl, Nat.le_of_ble_eq_true rfl⟩ dX6_count_98 ?_
    rintro _ _ ⟨rfl, rfl⟩
    refine g_eq (ws' := (rW cI cC q0 q1 q2 q3 q4 q5 q6 q7 q8 q9 q10 q11 (nI 0) ss asd sts (nI z) snp hx tx (nI ln) can szs ptn nms pth att isw rdd rmy)) (st' := [.int (nI (mxF c 8))]) rfl rfl ?_
    refine g_top (y := (coV c z ln w)) (by rw [coV, if_neg t6_0, if_neg t6_1, if_neg t6_2, if_neg t6_3, if_neg t6_4, if_neg t6_5, if_neg t6_6, if_pos t6_7]) ?_
    exact g_iret C hr hQ dX6_count_101 rfl ⟨_, _, _, rfl, rfl⟩
  by_cases t6_8 : w = nI 8
  · refine g_top (y := nI 8) t6_8 ?_
    refine g_tabIn (pc := 6) C 102 dX6_count_6 (by decide) (by decide) rfl (by decide) ?_
    refine g_aload_n (pc := 102) C dX6_count_102 0 rfl rfl ?_
    refine g_get (pc := 103) (ci := 6) (T := TX6) (N := 18) (v := .int (nI z)) C in_X6_count_X6 0 rfl rfl 4 (by decide) fl_X6_count_55 rfl rfl dX6_count_103 ?_
    refine g_top (y := (coV c z ln w)) (by rw [coV, if_neg t6_0, if_neg t6_1, if_neg t6_2, if_neg t6_3, if_neg t6_4, if_neg t6_5, if_neg t6_6, if_neg t6_7, if_pos t6_8]) ?_
    exact g_iret C hr hQ dX6_count_106 rfl ⟨_, _, _, rfl, rfl⟩
  by_cases t6_9 : w = nI 9
  · refine g_top (y := nI 9) t6_9 ?_
    refine g_tabIn (pc := 6) C 107 dX6_count_6 (by decide) (by decide) rfl (by decide) ?_
    refine g_aload_n (pc := 107) C dX6_count_107 0 rfl rfl ?_
    refine g_get (pc := 108) (ci := 6) (T := TX6) (N := 18) (v := .int (nI ln)) C in_X6_count_X6 0 rfl rfl 8 (by decide) fl_X6_count_107 rfl rfl dX6_count_108 ?_
    refine g_top (y := (coV c z ln w)) (by rw [coV, if_neg t6_0, if_neg t6_1, if_neg t6_2, if_neg t6_3, if_neg t6_4, if_neg t6_5, if_neg t6_6, if_neg t6_7, if_neg t6_8, if_pos t6_9]) ?_
    exact g_iret C hr hQ dX6_count_111 rfl ⟨_, _, _, rfl, rfl⟩
  refine g_tabOut (pc := 6) C 112 dX6_count_6 (g_out 0 9 (by decide) (by intro k h1 h2; rcases (show k = 0 ∨ k = 1 ∨ k = 2 ∨ k = 3 ∨ k = 4 ∨ k = 5 ∨ k = 6 ∨ k = 7 ∨ k = 8 ∨ k = 9 by omega) with rfl | rfl | rfl | rfl | rfl | rfl | rfl | rfl | rfl | rfl <;> assumption)) (by decide) ?_
  refine g_bipush (pc := 112) (v := (-2)) C dX6_count_112 (by decide) ?_
  refine g_top (y := (coV c z ln w)) (by rw [coV, if_neg t6_0, if_neg t6_1, if_neg t6_2, if_neg t6_3, if_neg t6_4, if_neg t6_5, if_neg t6_6, if_neg t6_7, if_neg t6_8, if_neg t6_9]) ?_
  exact g_iret C hr hQ dX6_count_114 rfl ⟨_, _, _, rfl, rfl⟩

abbrev rm_X6_doneIn : Room := { frames := 6, cells := 0, slots := 0, locals := 134 }
theorem yd_X6_doneIn : yX6_doneIn.cls = RX6 ∧ yX6_doneIn.cls ≠ "java/lang/invoke/MethodHandle" ∧ yX6_doneIn.cls ≠ "java/lang/invoke/VarHandle" ∧ (parseMethodDescriptor yX6_doneIn.desc).map (fun d => d.parameters.length) = some 0 := by decide +kernel
theorem in_X6_doneIn_X6 : ∀ w ∈ u_ws RX6 TX6 18, w ∈ wsX6_doneIn := by decide +kernel
theorem fl_X6_doneIn_43 : Cond.fieldLink RX6 43 "FenceHandshakesModel" "thrown" "I" ∈ wsX6_doneIn := by decide +kernel
set_option maxHeartbeats 4000000 in
set_option maxRecDepth 100000 in
theorem m_X6_doneIn (l : Launch) (D : va_G) (cI cC : ClassId) (q0 q1 q2 q3 q4 q5 q6 q7 q8 q9 q10 q11 : Nat) (th : Int32) (ss : Nat → Int32) (asd : Nat → Int32) (sts : Nat → Int32) (sm : Int32) (snp : Nat → Int32) (hx : Int32) (tx : Nat → Int32) (lgt : Int32) (can : Nat → Int32) (szs : Nat → Int32) (ptn : Nat → Int32) (nms : Nat → Int32) (pth : Nat → Int32) (att : Int32) (isw : Int32) (rdd : Nat → Int32) (rmy : Int32) (c : Nat → Int32) (hS : SR c ss) : g_M l yX6_doneIn wsX6_doneIn rm_X6_doneIn D cI cC [.ref q0] (rW cI cC q0 q1 q2 q3 q4 q5 q6 q7 q8 q9 q10 q11 th ss asd sts sm snp hx tx lgt can szs ptn nms pth att isw rdd rmy) (fun vv ww => ∃ (asd2 : Nat → Int32) (ss2 : Nat → Int32) (can2 : Nat → Int32) (szs2 : Nat → Int32) (ptn2 : Nat → Int32), vv = some (.int (dnW c)) ∧ ww = (rW cI cC q0 q1 q2 q3 q4 q5 q6 q7 q8 q9 q10 q11 (nI 0) ss2 asd2 sts sm snp hx tx lgt can2 szs2 ptn2 nms pth att isw rdd rmy) ∧ SR c ss2) := by
  refine g_entry (lv := [(0, .ref q0)]) (own := RX6) (by decide) rfl rfl (Nat.le_of_ble_eq_true rfl) rfl ?_
  intro p e s m args below meth co A Q C hr hQ
  refine g_aload_n (pc := 0) C dX6_doneIn_0 0 rfl rfl ?_
  refine g_iconst (pc := 1) (v := nI 0) C dX6_doneIn_1 (by decide) ?_
  refine g_put (pc := 2) (ci := 6) (T := TX6) (N := 18) (ws' := (rW cI cC q0 q1 q2 q3 q4 q5 q6 q7 q8 q9 q10 q11 (nI 0) ss asd sts sm snp hx tx lgt can szs ptn nms pth att isw rdd rmy)) (ty := .int) (v := .int (nI 0)) C in_X6_doneIn_X6 tyX6 tyX6_ok nmX6 0 rfl rfl 0 (by decide) fl_X6_doneIn_43 rfl rfl (by decide +kernel) rfl rfl (Nat.le_of_ble_eq_true rfl) dX6_doneIn_2 rfl ?_
  refine g_aload_n (pc := 5) C dX6_doneIn_5 0 rfl rfl ?_
  refine g_callV (pc := 6) (st := []) (As := []) (nn := 0) (ci := 6) (q0 := 0) C (m_X6_putAside l D cI cC q0 q1 q2 q3 q4 q5 q6 q7 q8 q9 q10 q11 (nI 0) ss asd sts sm snp hx tx lgt can szs ptn nms pth att isw rdd rmy) gX6_doneIn_X6_putAside rfl rfl rfl yd_X6_putAside ⟨Nat.le_of_ble_eq_true rfl, Nat.le_of_ble_eq_true rfl⟩ rfl [0, 1, 2, 3, 4, 5, 6, 7, 8, 9, 10, 11] rfl rfl rfl rfl rfl (Nat.le_of_ble_eq_true rfl) ⟨Nat.le_of_ble_eq_true rfl, Nat.le_of_ble_eq_true rfl⟩ dX6_doneIn_6 ?_
  rintro _ _ ⟨rfl, rfl⟩
  refine g_eq (ws' := (rW cI cC q0 q1 q2 q3 q4 q5 q6 q7 q8 q9 q10 q11 (nI 0) ss (cpF ss asd 225) sts sm snp hx tx lgt can szs ptn nms pth att isw rdd rmy)) (st' := []) rfl rfl ?_
  refine g_iconst (pc := 9) (v := nI 0) C dX6_doneIn_9 (by decide) ?_
  refine g_istore_n (pc := 10) (lv' := [(1, .int (nI 0)), (0, .ref q0)]) C dX6_doneIn_10 rfl (by decide) rfl ?_
  have L11 : ∀ (NZ : Nat) (k : Nat) (ss1 : Nat → Int32) (can6 : Nat → Int32) (szs6 : Nat → Int32) (ptn6 : Nat → Int32), 200 - k < NZ → (k ≤ 200) → (SR (rnds c k) ss1) → (∀ j, j < k → nwC (rnds c j) 8 ≠ 0) → g_J p l e rm_X6_doneIn s m args below meth co Q D A 3 0 0 (rW cI cC q0 q1 q2 q3 q4 q5 q6 q7 q8 q9 q10 q11 (nI 0) ss1 (cpF ss asd 225) sts sm snp hx tx lgt can6 szs6 ptn6 nms pth att isw rdd rmy) 11 [(0, .ref q0), (1, .int (nI k))] [] := by
    intro NZ
    induction NZ with
    | zero => intro k ss1 can6 szs6 ptn6 hN; exact absurd hN (Nat.not_lt_zero _)
    | succ NZ ih11 =>
      intro k ss1 can6 szs6 ptn6 hN11 hk hS1 hj
      refine g_iload_n (pc := 11) C dX6_doneIn_11 1 rfl rfl ?_
      refine g_sipush (pc := 12) (v := nI 200) C dX6_doneIn_12 (by decide) ?_
      refine g_icmp_geN (pc := 15) C 36 (by omega) (by omega) dX6_doneIn_15 (by decide) (fun c15 => ?_) (fun c15 => ?_)
      · refine g_aload_n (pc := 36) C dX6_doneIn_36 0 rfl rfl ?_
        refine g_callV (pc := 37) (st := []) (As := []) (nn := 0) (ci := 6) (q0 := 0) C (m_X6_openMany l D cI cC q0 q1 q2 q3 q4 q5 q6 q7 q8 q9 q10 q11 (nI 0) ss1 (cpF ss asd 225) sts sm snp hx tx lgt can6 szs6 ptn6 nms pth att isw rdd rmy (rnds c k) (by first | assumption | omega)) gX6_doneIn_X6_openMany rfl rfl rfl yd_X6_openMany ⟨Nat.le_of_ble_eq_true rfl, Nat.le_of_ble_eq_true rfl⟩ rfl [0, 1, 2, 3, 4, 5, 6, 7, 8, 9, 10, 11] rfl rfl rfl rfl rfl (Nat.le_of_ble_eq_true rfl) ⟨Nat.le_of_ble_eq_true rfl, Nat.le_of_ble_eq_true rfl⟩ dX6_doneIn_37 ?_
        rintro _ _ ⟨rfl, rfl⟩
        refine g_eq (ws' := (rW cI cC q0 q1 q2 q3 q4 q5 q6 q7 q8 q9 q10 q11 (nI 0) ss1 (cpF ss asd 225) sts sm snp hx tx lgt can6 szs6 ptn6 nms pth att isw rdd rmy)) (st' := [.int (nI (nwC (rnds c k) 8))]) rfl rfl ?_
        refine g_if_leN (pc := 40) C 48 (Nat.lt_of_le_of_lt (nwC_le _ 8) (by decide)) dX6_doneIn_40 (by decide) (fun c40 => ?_) (fun c40 => ?_)
        · refine g_iload_n (pc := 48) C dX6_doneIn_48 1 rfl rfl ?_
          refine g_istore_n (pc := 49) (lv' := [(2, .int (nI k)), (0, .ref q0), (1, .int (nI k))]) C dX6_doneIn_49 rfl (by decide) rfl ?_
          refine g_aload_n (pc := 50) C dX6_doneIn_50 1 rfl rfl ?_
          refine g_callV (pc := 51) (st := []) (As := []) (nn := 0) (ci := 6) (q0 := 0) C (m_X6_takeBack l D cI cC q0 q1 q2 q3 q4 q5 q6 q7 q8 q9 q10 q11 (nI 0) ss1 (cpF ss asd 225) sts sm snp hx tx lgt can6 szs6 ptn6 nms pth att isw rdd rmy) gX6_doneIn_X6_takeBack rfl rfl rfl yd_X6_takeBack ⟨Nat.le_of_ble_eq_true rfl, Nat.le_of_ble_eq_true rfl⟩ rfl [0, 1, 2, 3, 4, 5, 6, 7, 8, 9, 10, 11] rfl rfl rfl rfl rfl (Nat.le_of_ble_eq_true rfl) ⟨Nat.le_of_ble_eq_true rfl, Nat.le_of_ble_eq_true rfl⟩ dX6_doneIn_51 ?_
          rintro _ _ ⟨rfl, rfl⟩
          refine g_eq (ws' := (rW cI cC q0 q1 q2 q3 q4 q5 q6 q7 q8 q9 q10 q11 (nI 0) (cpF (cpF ss asd 225) ss1 225) (cpF ss asd 225) sts sm snp hx tx lgt can6 szs6 ptn6 nms pth att isw rdd rmy)) (st' := []) rfl rfl ?_
          refine g_iload_n (pc := 54) C dX6_doneIn_54 0 rfl rfl ?_
          refine g_top (y := (dnW c)) (by rw [dnW_at hj c40 (by omega)]) ?_
          exact g_iret C hr hQ dX6_doneIn_55 rfl ⟨_, _, _, _, _, rfl, rfl, hS.back⟩
        · refine g_bipush (pc := 43) (v := (-5)) C dX6_doneIn_43 (by decide) ?_
          refine g_goto (pc := 45) C 49 dX6_doneIn_45 (by decide) ?_
          refine g_istore_n (pc := 49) (lv' := [(2, .int (-5)), (0, .ref q0), (1, .int (nI k))]) C dX6_doneIn_49 rfl (by decide) rfl ?_
          refine g_aload_n (pc := 50) C dX6_doneIn_50 1 rfl rfl ?_
          refine g_callV (pc := 51) (st := []) (As := []) (nn := 0) (ci := 6) (q0 := 0) C (m_X6_takeBack l D cI cC q0 q1 q2 q3 q4 q5 q6 q7 q8 q9 q10 q11 (nI 0) ss1 (cpF ss asd 225) sts sm snp hx tx lgt can6 szs6 ptn6 nms pth att isw rdd rmy) gX6_doneIn_X6_takeBack rfl rfl rfl yd_X6_takeBack ⟨Nat.le_of_ble_eq_true rfl, Nat.le_of_ble_eq_true rfl⟩ rfl [0, 1, 2, 3, 4, 5, 6, 7, 8, 9, 10, 11] rfl rfl rfl rfl rfl (Nat.le_of_ble_eq_true rfl) ⟨Nat.le_of_ble_eq_true rfl, Nat.le_of_ble_eq_true rfl⟩ dX6_doneIn_51 ?_
          rintro _ _ ⟨rfl, rfl⟩
          refine g_eq (ws' := (rW cI cC q0 q1 q2 q3 q4 q5 q6 q7 q8 q9 q10 q11 (nI 0) (cpF (cpF ss asd 225) ss1 225) (cpF ss asd 225) sts sm snp hx tx lgt can6 szs6 ptn6 nms pth att isw rdd rmy)) (st' := []) rfl rfl ?_
          refine g_iload_n (pc := 54) C dX6_doneIn_54 0 rfl rfl ?_
          refine g_top (y := (dnW c)) (by rw [dnW_no (k := 201) (fun j h => (Nat.lt_or_ge j k).elim (hj j) (fun q => by rw [show j = k by omega]; exact Nat.ne_of_gt c40)) (by omega)]) ?_
          exact g_iret C hr hQ dX6_doneIn_55 rfl ⟨_, _, _, _, _, rfl, rfl, hS.back⟩
      · refine g_aload_n (pc := 18) C dX6_doneIn_18 0 rfl rfl ?_
        refine g_callV (pc := 19) (st := []) (As := []) (nn := 0) (ci := 6) (q0 := 0) C (m_X6_openMany l D cI cC q0 q1 q2 q3 q4 q5 q6 q7 q8 q9 q10 q11 (nI 0) ss1 (cpF ss asd 225) sts sm snp hx tx lgt can6 szs6 ptn6 nms pth att isw rdd rmy (rnds c k) (by first | assumption | omega)) gX6_doneIn_X6_openMany rfl rfl rfl yd_X6_openMany ⟨Nat.le_of_ble_eq_true rfl, Nat.le_of_ble_eq_true rfl⟩ rfl [0, 1, 2, 3, 4, 5, 6, 7, 8, 9, 10, 11] rfl rfl rfl rfl rfl (Nat.le_of_ble_eq_true rfl) ⟨Nat.le_of_ble_eq_true rfl, Nat.le_of_ble_eq_true rfl⟩ dX6_doneIn_19 ?_
        rintro _ _ ⟨rfl, rfl⟩
        refine g_eq (ws' := (rW cI cC q0 q1 q2 q3 q4 q5 q6 q7 q8 q9 q10 q11 (nI 0) ss1 (cpF ss asd 225) sts sm snp hx tx lgt can6 szs6 ptn6 nms pth att isw rdd rmy)) (st' := [.int (nI (nwC (rnds c k) 8))]) rfl rfl ?_
        refine g_if_leN (pc := 22) C 36 (Nat.lt_of_le_of_lt (nwC_le _ 8) (by decide)) dX6_doneIn_22 (by decide) (fun c22 => ?_) (fun c22 => ?_)
        · refine g_aload_n (pc := 36) C dX6_doneIn_36 0 rfl rfl ?_
          refine g_callV (pc := 37) (st := []) (As := []) (nn := 0) (ci := 6) (q0 := 0) C (m_X6_openMany l D cI cC q0 q1 q2 q3 q4 q5 q6 q7 q8 q9 q10 q11 (nI 0) ss1 (cpF ss asd 225) sts sm snp hx tx lgt can6 szs6 ptn6 nms pth att isw rdd rmy (rnds c k) (by first | assumption | omega)) gX6_doneIn_X6_openMany rfl rfl rfl yd_X6_openMany ⟨Nat.le_of_ble_eq_true rfl, Nat.le_of_ble_eq_true rfl⟩ rfl [0, 1, 2, 3, 4, 5, 6, 7, 8, 9, 10, 11] rfl rfl rfl rfl rfl (Nat.le_of_ble_eq_true rfl) ⟨Nat.le_of_ble_eq_true rfl, Nat.le_of_ble_eq_true rfl⟩ dX6_doneIn_37 ?_
          rintro _ _ ⟨rfl, rfl⟩
          refine g_eq (ws' := (rW cI cC q0 q1 q2 q3 q4 q5 q6 q7 q8 q9 q10 q11 (nI 0) ss1 (cpF ss asd 225) sts sm snp hx tx lgt can6 szs6 ptn6 nms pth att isw rdd rmy)) (st' := [.int (nI (nwC (rnds c k) 8))]) rfl rfl ?_
          refine g_if_leN (pc := 40) C 48 (Nat.lt_of_le_of_lt (nwC_le _ 8) (by decide)) dX6_doneIn_40 (by decide) (fun c40 => ?_) (fun c40 => ?_)
          · refine g_iload_n (pc := 48) C dX6_doneIn_48 1 rfl rfl ?_
            refine g_istore_n (pc := 49) (lv' := [(2, .int (nI k)), (0, .ref q0), (1, .int (nI k))]) C dX6_doneIn_49 rfl (by decide) rfl ?_
            refine g_aload_n (pc := 50) C dX6_doneIn_50 1 rfl rfl ?_
            refine g_callV (pc := 51) (st := []) (As := []) (nn := 0) (ci := 6) (q0 := 0) C (m_X6_takeBack l D cI cC q0 q1 q2 q3 q4 q5 q6 q7 q8 q9 q10 q11 (nI 0) ss1 (cpF ss asd 225) sts sm snp hx tx lgt can6 szs6 ptn6 nms pth att isw rdd rmy) gX6_doneIn_X6_takeBack rfl rfl rfl yd_X6_takeBack ⟨Nat.le_of_ble_eq_true rfl, Nat.le_of_ble_eq_true rfl⟩ rfl [0, 1, 2, 3, 4, 5, 6, 7, 8, 9, 10, 11] rfl rfl rfl rfl rfl (Nat.le_of_ble_eq_true rfl) ⟨Nat.le_of_ble_eq_true rfl, Nat.le_of_ble_eq_true rfl⟩ dX6_doneIn_51 ?_
            rintro _ _ ⟨rfl, rfl⟩
            refine g_eq (ws' := (rW cI cC q0 q1 q2 q3 q4 q5 q6 q7 q8 q9 q10 q11 (nI 0) (cpF (cpF ss asd 225) ss1 225) (cpF ss asd 225) sts sm snp hx tx lgt can6 szs6 ptn6 nms pth att isw rdd rmy)) (st' := []) rfl rfl ?_
            refine g_iload_n (pc := 54) C dX6_doneIn_54 0 rfl rfl ?_
            refine g_top (y := (dnW c)) (by rw [dnW_at hj c40 (by omega)]) ?_
            exact g_iret C hr hQ dX6_doneIn_55 rfl ⟨_, _, _, _, _, rfl, rfl, hS.back⟩
          · exact absurd c22 (Nat.ne_of_gt c40)
        · refine g_aload_n (pc := 25) C dX6_doneIn_25 0 rfl rfl ?_
          refine g_callV (pc := 26) (st := []) (As := []) (nn := 0) (ci := 6) (q0 := 0) C (m_X6_shakes l D cI cC q0 q1 q2 q3 q4 q5 q6 q7 q8 q9 q10 q11 (nI 0) ss1 (cpF ss asd 225) sts sm snp hx tx lgt can6 szs6 ptn6 nms pth att isw rdd rmy (rnds c k) (by first | assumption | omega)) gX6_doneIn_X6_shakes rfl rfl rfl yd_X6_shakes ⟨Nat.le_of_ble_eq_true rfl, Nat.le_of_ble_eq_true rfl⟩ rfl [0, 1, 2, 3, 4, 5, 6, 7, 8, 9, 10, 11] rfl rfl rfl rfl rfl (Nat.le_of_ble_eq_true rfl) ⟨Nat.le_of_ble_eq_true rfl, Nat.le_of_ble_eq_true rfl⟩ dX6_doneIn_26 ?_
          rintro _ _ ⟨can7, szs7, ptn7, ss7, rfl, rfl, v1⟩
          refine g_eq (ws' := (rW cI cC q0 q1 q2 q3 q4 q5 q6 q7 q8 q9 q10 q11 (nI 0) ss7 (cpF ss asd 225) sts sm snp hx tx lgt can7 szs7 ptn7 nms pth att isw rdd rmy)) (st' := [.int (nI (szC (rnds c k)))]) rfl rfl ?_
          refine g_pop (pc := 29) C dX6_doneIn_29 rfl ?_
          refine g_iinc (pc := 30) (lv' := [(1, .int (nI (k + 1))), (0, .ref q0)]) C dX6_doneIn_30 1 rfl (nI_add k 1) (by decide) rfl ?_
          refine g_goto (pc := 33) C 11 dX6_doneIn_33 (by decide) ?_
          refine g_lvp (lv' := [(0, .ref q0), (1, .int (nI (k + 1)))]) [1, 0] rfl ?_
          exact ih11 (k + 1) ss7 can7 szs7 ptn7 (by omega) (by first | assumption | omega) (v1) (fun j h => (Nat.lt_succ_iff_lt_or_eq.mp h).elim (hj j) (fun e => by subst e; exact Nat.ne_of_gt c22))
  refine g_lvp (lv' := [(0, .ref q0), (1, .int (nI 0))]) [1, 0] rfl ?_
  exact L11 _ 0 ss can szs ptn (Nat.lt_succ_self _) (by first | assumption | omega) (hS) (fun j h => absurd h (Nat.not_lt_zero _))

abbrev rm_X6_bestLink : Room := { frames := 5, cells := 0, slots := 0, locals := 112 }
theorem yd_X6_bestLink : yX6_bestLink.cls = RX6 ∧ yX6_bestLink.cls ≠ "java/lang/invoke/MethodHandle" ∧ yX6_bestLink.cls ≠ "java/lang/invoke/VarHandle" ∧ (parseMethodDescriptor yX6_bestLink.desc).map (fun d => d.parameters.length) = some 0 := by decide +kernel
theorem in_X6_bestLink_X6 : ∀ w ∈ u_ws RX6 TX6 18, w ∈ wsX6_bestLink := by decide +kernel
theorem fl_X6_bestLink_7 : Cond.fieldLink RX6 7 "FenceHandshakesModel" "s" "[I" ∈ wsX6_bestLink := by decide +kernel
theorem fl_X6_bestLink_43 : Cond.fieldLink RX6 43 "FenceHandshakesModel" "thrown" "I" ∈ wsX6_bestLink := by decide +kernel
set_option maxHeartbeats 4000000 in
set_option maxRecDepth 100000 in
theorem m_X6_bestLink (l : Launch) (D : va_G) (cI cC : ClassId) (q0 q1 q2 q3 q4 q5 q6 q7 q8 q9 q10 q11 : Nat) (th : Int32) (ss : Nat → Int32) (asd : Nat → Int32) (sts : Nat → Int32) (sm : Int32) (snp : Nat → Int32) (hx : Int32) (tx : Nat → Int32) (lgt : Int32) (can : Nat → Int32) (szs : Nat → Int32) (ptn : Nat → Int32) (nms : Nat → Int32) (pth : Nat → Int32) (att : Int32) (isw : Int32) (rdd : Nat → Int32) (rmy : Int32) (c : Nat → Int32) (hS : SR c ss) : g_M l yX6_bestLink wsX6_bestLink rm_X6_bestLink D cI cC [.ref q0] (rW cI cC q0 q1 q2 q3 q4 q5 q6 q7 q8 q9 q10 q11 th ss asd sts sm snp hx tx lgt can szs ptn nms pth att isw rdd rmy) (fun vv ww => ∃ (ss2 : Nat → Int32) (can2 : Nat → Int32) (szs2 : Nat → Int32) (ptn2 : Nat → Int32), vv = some (.int ((bLs c 16).2)) ∧ ww = (rW cI cC q0 q1 q2 q3 q4 q5 q6 q7 q8 q9 q10 q11 (nI 0) ss2 asd sts sm snp hx tx lgt can2 szs2 ptn2 nms pth att isw rdd rmy) ∧ SR c ss2) := by
  refine g_entry (lv := [(0, .ref q0)]) (own := RX6) (by decide) rfl rfl (Nat.le_of_ble_eq_true rfl) rfl ?_
  intro p e s m args below meth co A Q C hr hQ
  refine g_aload_n (pc := 0) C dX6_bestLink_0 0 rfl rfl ?_
  refine g_iconst (pc := 1) (v := nI 0) C dX6_bestLink_1 (by decide) ?_
  refine g_put (pc := 2) (ci := 6) (T := TX6) (N := 18) (ws' := (rW cI cC q0 q1 q2 q3 q4 q5 q6 q7 q8 q9 q10 q11 (nI 0) ss asd sts sm snp hx tx lgt can szs ptn nms pth att isw rdd rmy)) (ty := .int) (v := .int (nI 0)) C in_X6_bestLink_X6 tyX6 tyX6_ok nmX6 0 rfl rfl 0 (by decide) fl_X6_bestLink_43 rfl rfl (by decide +kernel) rfl rfl (Nat.le_of_ble_eq_true rfl) dX6_bestLink_2 rfl ?_
  refine g_aload_n (pc := 5) C dX6_bestLink_5 0 rfl rfl ?_
  refine g_callV (pc := 6) (st := []) (As := []) (nn := 0) (ci := 6) (q0 := 0) C (m_X6_matches l D cI cC q0 q1 q2 q3 q4 q5 q6 q7 q8 q9 q10 q11 (nI 0) ss asd sts sm snp hx tx lgt can szs ptn nms pth att isw rdd rmy c (by first | assumption | omega)) gX6_bestLink_X6_matches rfl rfl rfl yd_X6_matches ⟨Nat.le_of_ble_eq_true rfl, Nat.le_of_ble_eq_true rfl⟩ rfl [0, 1, 2, 3, 4, 5, 6, 7, 8, 9, 10, 11] rfl rfl rfl rfl rfl (Nat.le_of_ble_eq_true rfl) ⟨Nat.le_of_ble_eq_true rfl, Nat.le_of_ble_eq_true rfl⟩ dX6_bestLink_6 ?_
  rintro _ _ ⟨can9, szs9, ptn9, rfl, rfl, u1, u2⟩
  refine g_eq (ws' := (rW cI cC q0 q1 q2 q3 q4 q5 q6 q7 q8 q9 q10 q11 (nI 0) ss asd sts sm snp hx tx lgt can9 szs9 ptn9 nms pth att isw rdd rmy)) (st' := [.int (nI (szC c))]) rfl rfl ?_
  refine g_istore_n (pc := 9) (lv' := [(1, .int (nI (szC c))), (0, .ref q0)]) C dX6_bestLink_9 rfl (by decide) rfl ?_
  refine g_bipush (pc := 10) (v := (-5)) C dX6_bestLink_10 (by decide) ?_
  refine g_istore_n (pc := 12) (lv' := [(2, .int (-5)), (1, .int (nI (szC c))), (0, .ref q0)]) C dX6_bestLink_12 rfl (by decide) rfl ?_
  refine g_iconst (pc := 13) (v := nI 0) C dX6_bestLink_13 (by decide) ?_
  refine g_istore_n (pc := 14) (lv' := [(3, .int (nI 0)), (2, .int (-5)), (1, .int (nI (szC c))), (0, .ref q0)]) C dX6_bestLink_14 rfl (by decide) rfl ?_
  have L15 : ∀ (NZ : Nat) (k : Nat) (mm : Nat) (bb : Int32) (ss1 : Nat → Int32) (can6 : Nat → Int32) (szs6 : Nat → Int32) (ptn6 : Nat → Int32), 16 - k < NZ → (k ≤ 16) → (mm ≤ 8) → (bLs c k = (mm, bb)) → (SR c ss1) → g_J p l e rm_X6_bestLink s m args below meth co Q D A 5 0 0 (rW cI cC q0 q1 q2 q3 q4 q5 q6 q7 q8 q9 q10 q11 (nI 0) ss1 asd sts sm snp hx tx lgt can6 szs6 ptn6 nms pth att isw rdd rmy) 15 [(0, .ref q0), (1, .int (nI mm)), (2, .int bb), (3, .int (nI k))] [] := by
    intro NZ
    induction NZ with
    | zero => intro k mm bb ss1 can6 szs6 ptn6 hN; exact absurd hN (Nat.not_lt_zero _)
    | succ NZ ih15 =>
      intro k mm bb ss1 can6 szs6 ptn6 hN15 hk hmm hM hS1
      refine g_iload_n (pc := 15) C dX6_bestLink_15 3 rfl rfl ?_
      refine g_bipush (pc := 16) (v := nI 16) C dX6_bestLink_16 (by decide) ?_
      refine g_icmp_geN (pc := 18) C 90 (by omega) (by omega) dX6_bestLink_18 (by decide) (fun c18 => ?_) (fun c18 => ?_)
      · refine g_iload_n (pc := 90) C dX6_bestLink_90 2 rfl rfl ?_
        refine g_top (y := (bLs c 16).2) (by rw [← show k = 16 by omega, hM]) ?_
        exact g_iret C hr hQ dX6_bestLink_91 rfl ⟨_, _, _, _, rfl, rfl, hS1⟩
      · refine g_aload_n (pc := 21) C dX6_bestLink_21 0 rfl rfl ?_
        refine g_get (pc := 22) (ci := 6) (T := TX6) (N := 18) (v := .ref q1) C in_X6_bestLink_X6 0 rfl rfl 1 (by decide) fl_X6_bestLink_7 rfl rfl dX6_bestLink_22 ?_
        refine g_bipush (pc := 25) (v := nI 17) C dX6_bestLink_25 (by decide) ?_
        refine g_iload_n (pc := 27) C dX6_bestLink_27 3 rfl rfl ?_
        refine g_iaddN (pc := 28) C dX6_bestLink_28 ?_
        refine g_ialdN (pc := 29) (f := ss1) C 1 rfl (by omega) (by decide) dX6_bestLink_29 ?_
        refine g_top (y := bI (lkC c (k / 4) (k % 4))) (hS1.lk (by omega)) ?_
        refine g_if_neB (pc := 30) C 84 dX6_bestLink_30 (by decide) (fun c30 => ?_) (fun c30 => ?_)
        · refine g_iinc (pc := 84) (lv' := [(3, .int (nI (k + 1))), (0, .ref q0), (1, .int (nI mm)), (2, .int bb)]) C dX6_bestLink_84 3 rfl (nI_add k 1) (by decide) rfl ?_
          refine g_goto (pc := 87) C 15 dX6_bestLink_87 (by decide) ?_
          refine g_lvp (lv' := [(0, .ref q0), (1, .int (nI mm)), (2, .int bb), (3, .int (nI (k + 1)))]) [1, 2, 3, 0] rfl ?_
          exact ih15 (k + 1) mm bb ss1 can6 szs6 ptn6 (by omega) (by first | assumption | omega) (by first | assumption | omega) (by rw [bL_s, if_pos c30]; exact hM) (by first | assumption | omega)
        · refine g_aload_n (pc := 33) C dX6_bestLink_33 0 rfl rfl ?_
          refine g_get (pc := 34) (ci := 6) (T := TX6) (N := 18) (v := .ref q1) C in_X6_bestLink_X6 0 rfl rfl 1 (by decide) fl_X6_bestLink_7 rfl rfl dX6_bestLink_34 ?_
          refine g_bipush (pc := 37) (v := nI 17) C dX6_bestLink_37 (by decide) ?_
          refine g_iload_n (pc := 39) C dX6_bestLink_39 3 rfl rfl ?_
          refine g_iaddN (pc := 40) C dX6_bestLink_40 ?_
          refine g_iconst (pc := 41) (v := nI 1) C dX6_bestLink_41 (by decide) ?_
          refine g_iastN (pc := 42) (f := ss1) (ws' := (rW cI cC q0 q1 q2 q3 q4 q5 q6 q7 q8 q9 q10 q11 (nI 0) (upd ss1 (17 + k) (nI 1)) asd sts sm snp hx tx lgt can6 szs6 ptn6 nms pth att isw rdd rmy)) C 1 rfl (by omega) (by decide) dX6_bestLink_42 rfl ?_
          refine g_aload_n (pc := 43) C dX6_bestLink_43 0 rfl rfl ?_
          refine g_callV (pc := 44) (st := []) (As := []) (nn := 0) (ci := 6) (q0 := 0) C (m_X6_matches l D cI cC q0 q1 q2 q3 q4 q5 q6 q7 q8 q9 q10 q11 (nI 0) (upd ss1 (17 + k) (nI 1)) asd sts sm snp hx tx lgt can6 szs6 ptn6 nms pth att isw rdd rmy (cLink c (k / 4) (k % 4) true) (hS1.linkk (by omega) true)) gX6_bestLink_X6_matches rfl rfl rfl yd_X6_matches ⟨Nat.le_of_ble_eq_true rfl, Nat.le_of_ble_eq_true rfl⟩ rfl [0, 1, 2, 3, 4, 5, 6, 7, 8, 9, 10, 11] rfl rfl rfl rfl rfl (Nat.le_of_ble_eq_true rfl) ⟨Nat.le_of_ble_eq_true rfl, Nat.le_of_ble_eq_true rfl⟩ dX6_bestLink_44 ?_
          rintro _ _ ⟨can7, szs7, ptn7, rfl, rfl, v1, v2⟩
          refine g_eq (ws' := (rW cI cC q0 q1 q2 q3 q4 q5 q6 q7 q8 q9 q10 q11 (nI 0) (upd ss1 (17 + k) (nI 1)) asd sts sm snp hx tx lgt can7 szs7 ptn7 nms pth att isw rdd rmy)) (st' := [.int (nI (szC (cLink c (k / 4) (k % 4) true)))]) rfl rfl ?_
          have w8 := szC_le (cLink c (k / 4) (k % 4) true)
          refine g_istore (pc := 47) (lv' := [(4, .int (nI (szC (cLink c (k / 4) (k % 4) true)))), (0, .ref q0), (1, .int (nI mm)), (2, .int bb), (3, .int (nI k))]) C dX6_bestLink_47 (by decide) rfl ?_
          refine g_aload_n (pc := 49) C dX6_bestLink_49 1 rfl rfl ?_
          refine g_get (pc := 50) (ci := 6) (T := TX6) (N := 18) (v := .ref q1) C in_X6_bestLink_X6 0 rfl rfl 1 (by decide) fl_X6_bestLink_7 rfl rfl dX6_bestLink_50 ?_
          refine g_bipush (pc := 53) (v := nI 17) C dX6_bestLink_53 (by decide) ?_
          refine g_iload_n (pc := 55) C dX6_bestLink_55 4 rfl rfl ?_
          refine g_iaddN (pc := 56) C dX6_bestLink_56 ?_
          refine g_iconst (pc := 57) (v := nI 0) C dX6_bestLink_57 (by decide) ?_
          refine g_iastN (pc := 58) (f := (upd ss1 (17 + k) (nI 1))) (ws' := (rW cI cC q0 q1 q2 q3 q4 q5 q6 q7 q8 q9 q10 q11 (nI 0) (upd (upd ss1 (17 + k) (nI 1)) (17 + k) (nI 0)) asd sts sm snp hx tx lgt can7 szs7 ptn7 nms pth att isw rdd rmy)) C 1 rfl (by omega) (by decide) dX6_bestLink_58 rfl ?_
          refine g_iload (pc := 59) C dX6_bestLink_59 0 rfl ?_
          refine g_iload_n (pc := 61) C dX6_bestLink_61 2 rfl rfl ?_
          refine g_icmp_leN (pc := 62) C 69 (by omega) (by omega) dX6_bestLink_62 (by decide) (fun c62 => ?_) (fun c62 => ?_)
          · refine g_iload_n (pc := 69) C dX6_bestLink_69 3 rfl rfl ?_
            refine g_istore_n (pc := 70) (lv' := [(2, .int bb), (4, .int (nI (szC (cLink c (k / 4) (k % 4) true)))), (0, .ref q0), (1, .int (nI mm)), (3, .int (nI k))]) C dX6_bestLink_70 rfl (by decide) rfl ?_
            refine g_iload (pc := 71) C dX6_bestLink_71 1 rfl ?_
            refine g_iload_n (pc := 73) C dX6_bestLink_73 3 rfl rfl ?_
            refine g_icmp_leN (pc := 74) C 82 (by omega) (by omega) dX6_bestLink_74 (by decide) (fun c74 => ?_) (fun c74 => ?_)
            · refine g_iload_n (pc := 82) C dX6_bestLink_82 3 rfl rfl ?_
              refine g_istore_n (pc := 83) (lv' := [(1, .int (nI mm)), (2, .int bb), (4, .int (nI (szC (cLink c (k / 4) (k % 4) true)))), (0, .ref q0), (3, .int (nI k))]) C dX6_bestLink_83 rfl (by decide) rfl ?_
              refine g_iinc (pc := 84) (lv' := [(3, .int (nI (k + 1))), (1, .int (nI mm)), (2, .int bb), (4, .int (nI (szC (cLink c (k / 4) (k % 4) true)))), (0, .ref q0)]) C dX6_bestLink_84 4 rfl (nI_add k 1) (by decide) rfl ?_
              refine g_goto (pc := 87) C 15 dX6_bestLink_87 (by decide) ?_
              refine g_lvp (lv' := [(0, .ref q0), (1, .int (nI mm)), (2, .int bb), (3, .int (nI (k + 1)))]) [4, 1, 2, 0] rfl ?_
              exact ih15 (k + 1) mm bb (upd (upd ss1 (17 + k) (nI 1)) (17 + k) (nI 0)) can7 szs7 ptn7 (by omega) (by first | assumption | omega) (by first | assumption | omega) (by rw [bL_s, if_neg (by rw [c30]; decide), hM, if_neg (Nat.not_lt.mpr c62)]) (hS1.undo1 ((hS1.lk (by omega)).trans (by rw [c30]; rfl)))
            · exact absurd c62 (Nat.not_le.mpr c74)
          · refine g_iload_n (pc := 65) C dX6_bestLink_65 4 rfl rfl ?_
            refine g_goto (pc := 66) C 70 dX6_bestLink_66 (by decide) ?_
            refine g_istore_n (pc := 70) (lv' := [(2, .int (nI k)), (4, .int (nI (szC (cLink c (k / 4) (k % 4) true)))), (0, .ref q0), (1, .int (nI mm)), (3, .int (nI k))]) C dX6_bestLink_70 rfl (by decide) rfl ?_
            refine g_iload (pc := 71) C dX6_bestLink_71 1 rfl ?_
            refine g_iload_n (pc := 73) C dX6_bestLink_73 3 rfl rfl ?_
            refine g_icmp_leN (pc := 74) C 82 (by omega) (by omega) dX6_bestLink_74 (by decide) (fun c74 => ?_) (fun c74 => ?_)
            · exact absurd c62 (Nat.not_lt.mpr c74)
            · refine g_iload (pc := 77) C dX6_bestLink_77 1 rfl ?_
              refine g_goto (pc := 79) C 83 dX6_bestLink_79 (by decide) ?_
              refine g_istore_n (pc := 83) (lv' := [(1, .int (nI (szC (cLink c (k / 4) (k % 4) true)))), (2, .int (nI k)), (4, .int (nI (szC (cLink c (k / 4) (k % 4) true)))), (0, .ref q0), (3, .int (nI k))]) C dX6_bestLink_83 rfl (by decide) rfl ?_
              refine g_iinc (pc := 84) (lv' := [(3, .int (nI (k + 1))), (1, .int (nI (szC (cLink c (k / 4) (k % 4) true)))), (2, .int (nI k)), (4, .int (nI (szC (cLink c (k / 4) (k % 4) true)))), (0, .ref q0)]) C dX6_bestLink_84 4 rfl (nI_add k 1) (by decide) rfl ?_
              refine g_goto (pc := 87) C 15 dX6_bestLink_87 (by decide) ?_
              refine g_lvp (lv' := [(0, .ref q0), (1, .int (nI (szC (cLink c (k / 4) (k % 4) true)))), (2, .int (nI k)), (3, .int (nI (k + 1)))]) [4, 1, 2, 0] rfl ?_
              exact ih15 (k + 1) (szC (cLink c (k / 4) (k % 4) true)) (nI k) (upd (upd ss1 (17 + k) (nI 1)) (17 + k) (nI 0)) can7 szs7 ptn7 (by omega) (by first | assumption | omega) (szC_le _) (by rw [bL_s, if_neg (by rw [c30]; decide), hM, if_pos c62]) (hS1.undo1 ((hS1.lk (by omega)).trans (by rw [c30]; rfl)))
  refine g_lvp (lv' := [(0, .ref q0), (1, .int (nI (szC c))), (2, .int (-5)), (3, .int (nI 0))]) [3, 2, 1, 0] rfl ?_
  exact L15 _ 0 (szC c) (-5) ss can9 szs9 ptn9 (Nat.lt_succ_self _) (by first | assumption | omega) (szC_le c) (rfl) (hS)

abbrev rm_X6_mean : Room := { frames := 1, cells := 0, slots := 0, locals := 22 }
theorem yd_X6_mean : yX6_mean.cls = RX6 ∧ yX6_mean.cls ≠ "java/lang/invoke/MethodHandle" ∧ yX6_mean.cls ≠ "java/lang/invoke/VarHandle" ∧ (parseMethodDescriptor yX6_mean.desc).map (fun d => d.parameters.length) = some 0 := by decide +kernel
theorem in_X6_mean_X6 : ∀ w ∈ u_ws RX6 TX6 18, w ∈ wsX6_mean := by decide +kernel
theorem fl_X6_mean_7 : Cond.fieldLink RX6 7 "FenceHandshakesModel" "s" "[I" ∈ wsX6_mean := by decide +kernel
theorem fl_X6_mean_43 : Cond.fieldLink RX6 43 "FenceHandshakesModel" "thrown" "I" ∈ wsX6_mean := by decide +kernel
set_option maxHeartbeats 4000000 in
set_option maxRecDepth 100000 in
theorem m_X6_mean (l : Launch) (D : va_G) (cI cC : ClassId) (q0 q1 q2 q3 q4 q5 q6 q7 q8 q9 q10 q11 : Nat) (th : Int32) (ss : Nat → Int32) (asd : Nat → Int32) (sts : Nat → Int32) (sm : Int32) (snp : Nat → Int32) (hx : Int32) (tx : Nat → Int32) (lgt : Int32) (can : Nat → Int32) (szs : Nat → Int32) (ptn : Nat → Int32) (nms : Nat → Int32) (pth : Nat → Int32) (att : Int32) (isw : Int32) (rdd : Nat → Int32) (rmy : Int32) (c : Nat → Int32) (hS : SR c ss) : g_M l yX6_mean wsX6_mean rm_X6_mean D cI cC [.ref q0] (rW cI cC q0 q1 q2 q3 q4 q5 q6 q7 q8 q9 q10 q11 th ss asd sts sm snp hx tx lgt can szs ptn nms pth att isw rdd rmy) (fun vv ww => vv = some (.double ((meV c))) ∧ ww = (rW cI cC q0 q1 q2 q3 q4 q5 q6 q7 q8 q9 q10 q11 (nI 0) ss asd sts sm snp hx tx lgt can szs ptn nms pth att isw rdd rmy)) := by
  refine g_entry (lv := [(0, .ref q0)]) (own := RX6) (by decide) rfl rfl (Nat.le_of_ble_eq_true rfl) rfl ?_
  intro p e s m args below meth co A Q C hr hQ
  refine g_aload_n (pc := 0) C dX6_mean_0 0 rfl rfl ?_
  refine g_iconst (pc := 1) (v := nI 0) C dX6_mean_1 (by decide) ?_
  refine g_put (pc := 2) (ci := 6) (T := TX6) (N := 18) (ws' := (rW cI cC q0 q1 q2 q3 q4 q5 q6 q7 q8 q9 q10 q11 (nI 0) ss asd sts sm snp hx tx lgt can szs ptn nms pth att isw rdd rmy)) (ty := .int) (v := .int (nI 0)) C in_X6_mean_X6 tyX6 tyX6_ok nmX6 0 rfl rfl 0 (by decide) fl_X6_mean_43 rfl rfl (by decide +kernel) rfl rfl (Nat.le_of_ble_eq_true rfl) dX6_mean_2 rfl ?_
  refine g_aload_n (pc := 5) C dX6_mean_5 0 rfl rfl ?_
  refine g_get (pc := 6) (ci := 6) (T := TX6) (N := 18) (v := .ref q1) C in_X6_mean_X6 0 rfl rfl 1 (by decide) fl_X6_mean_7 rfl rfl dX6_mean_6 ?_
  refine g_iconst (pc := 9) (v := nI 0) C dX6_mean_9 (by decide) ?_
  refine g_ialdN (pc := 10) (f := ss) C 1 rfl (by omega) (by decide) dX6_mean_10 ?_
  refine g_top (y := (c 153)) (hS.r) ?_
  refine g_if_ne (pc := 11) C 18 dX6_mean_11 (by decide) (fun c11 => ?_) (fun c11 => ?_)
  · refine g_aload_n (pc := 18) C dX6_mean_18 0 rfl rfl ?_
    refine g_callV (pc := 19) (st := []) (As := []) (nn := 0) (ci := 6) (q0 := 0) C (m_X6_shaken l D cI cC q0 q1 q2 q3 q4 q5 q6 q7 q8 q9 q10 q11 (nI 0) ss asd sts sm snp hx tx lgt can szs ptn nms pth att isw rdd rmy c (by first | assumption | omega)) gX6_mean_X6_shaken rfl rfl rfl yd_X6_shaken ⟨Nat.le_of_ble_eq_true rfl, Nat.le_of_ble_eq_true rfl⟩ rfl [0, 1, 2, 3, 4, 5, 6, 7, 8, 9, 10, 11] rfl rfl rfl rfl rfl (Nat.le_of_ble_eq_true rfl) ⟨Nat.le_of_ble_eq_true rfl, Nat.le_of_ble_eq_true rfl⟩ dX6_mean_19 ?_
    rintro _ _ ⟨rfl, rfl⟩
    refine g_eq (ws' := (rW cI cC q0 q1 q2 q3 q4 q5 q6 q7 q8 q9 q10 q11 (nI 0) ss asd sts sm snp hx tx lgt can szs ptn nms pth att isw rdd rmy)) (st' := [.int (sI (amA c (nI 4)) 8)]) rfl rfl ?_
    refine g_i2d (pc := 22) C dX6_mean_22 ?_
    refine g_aload_n (pc := 23) C dX6_mean_23 0 rfl rfl ?_
    refine g_get (pc := 24) (ci := 6) (T := TX6) (N := 18) (v := .ref q1) C in_X6_mean_X6 0 rfl rfl 1 (by decide) fl_X6_mean_7 rfl rfl dX6_mean_24 ?_
    refine g_iconst (pc := 27) (v := nI 0) C dX6_mean_27 (by decide) ?_
    refine g_ialdN (pc := 28) (f := ss) C 1 rfl (by omega) (by decide) dX6_mean_28 ?_
    refine g_top (y := (c 153)) (hS.r) ?_
    refine g_i2d (pc := 29) C dX6_mean_29 ?_
    refine g_ddiv (pc := 30) C dX6_mean_30 (g_mean c11) ?_
    refine g_topd (y := (meV c)) (by rw [meV, if_neg c11]) ?_
    exact g_dret C hr hQ dX6_mean_31 rfl ⟨rfl, rfl⟩
  · refine g_dconst0 (pc := 14) C dX6_mean_14 ?_
    refine g_goto (pc := 15) C 31 dX6_mean_15 (by decide) ?_
    refine g_topd (y := (meV c)) (by rw [meV, if_pos c11]) ?_
    exact g_dret C hr hQ dX6_mean_31 rfl ⟨rfl, rfl⟩
