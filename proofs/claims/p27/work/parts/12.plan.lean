/-! pure: plans -/
def rwf (x : Nat) : Nat → Nat := fun o => 8 * x + o
def clf (y : Nat) : Nat → Nat := fun o => 8 * o + y
def fnd (N : Nat → Option Nat) (f : Nat → Nat) (c : Nat) : Option Nat := fstU (fun o => decide (N (f o) = some c)) 8
def lfr (N : Nat → Option Nat) (f : Nat → Nat) : Nat := match fstU (fun c => !(fnd N f c).isSome) 8 with
  | some c => c
  | none => 8
def PR (N : Nat → Option Nat) : Prop := (∀ w c, w < 64 → N w = some c → c < 8) ∧ ∀ w w' c, w < 64 → w' < 64 → N w = some c → N w' = some c → (w / 8 = w' / 8 ∨ w % 8 = w' % 8) → w = w'
theorem fnd_some {N : Nat → Option Nat} {f : Nat → Nat} {c o : Nat} (h : fnd N f c = some o) : o < 8 ∧ N (f o) = some c := by
  obtain ⟨h1, h2, -⟩ := (fstU_some _ 8 o).mp h
  exact ⟨h1, of_decide_eq_true h2⟩
theorem fnd_none {N : Nat → Option Nat} {f : Nat → Nat} {c o : Nat} (h : fnd N f c = none) (ho : o < 8) : N (f o) ≠ some c := by
  have := (fstU_none _ 8).mp h o ho
  exact of_decide_eq_false this
def pe (N : Nat → Option Nat) (a b r : Nat) : Nat → Option Nat
  | 0 => (fnd N (clf r) a).map (clf r)
  | n + 1 => match pe N a b r n with
    | none => none
    | some w => if n % 2 = 0 then (fnd N (rwf (w / 8)) b).map (rwf (w / 8)) else (fnd N (clf (w % 8)) a).map (clf (w % 8))
def pcol (a b n : Nat) : Nat := if n % 2 = 0 then a else b
theorem map_some {o : Option Nat} {g : Nat → Nat} {w : Nat} (h : o.map g = some w) : ∃ z, o = some z ∧ g z = w := by
  cases o with
  | none => cases h
  | some z => exact ⟨z, rfl, Option.some.inj h⟩
theorem pe_prop {N : Nat → Option Nat} {a b r : Nat} (hr : r < 8) : ∀ n w, pe N a b r n = some w → w < 64 ∧ N w = some (pcol a b n)
  | 0, w, h => by
    obtain ⟨z, h1, rfl⟩ := map_some h
    obtain ⟨h2, h3⟩ := fnd_some h1
    exact ⟨by simp only [clf]; omega, h3⟩
  | n + 1, w, h => by
    simp only [pe] at h
    cases hq : pe N a b r n with
    | none => rw [hq] at h; cases h
    | some w0 =>
      have hw0 := (pe_prop hr n w0 hq).1
      rw [hq] at h
      dsimp only at h
      by_cases hp : n % 2 = 0
      · rw [if_pos hp] at h
        obtain ⟨z, h1, rfl⟩ := map_some h
        obtain ⟨h2, h3⟩ := fnd_some h1
        refine ⟨by simp only [rwf]; omega, ?_⟩
        rw [h3, pcol, if_neg (by omega)]
      · rw [if_neg hp] at h
        obtain ⟨z, h1, rfl⟩ := map_some h
        obtain ⟨h2, h3⟩ := fnd_some h1
        refine ⟨by simp only [clf]; omega, ?_⟩
        rw [h3, pcol, if_pos (by omega)]
theorem pe_prev {N : Nat → Option Nat} {a b r n w : Nat} (hr : r < 8) (h : pe N a b r (n + 1) = some w) : ∃ w0, pe N a b r n = some w0 ∧ (n % 2 = 0 → w / 8 = w0 / 8) ∧ (n % 2 = 1 → w % 8 = w0 % 8) := by
  simp only [pe] at h
  cases hq : pe N a b r n with
  | none => rw [hq] at h; cases h
  | some w0 =>
    have hw0 := (pe_prop hr n w0 hq).1
    rw [hq] at h
    dsimp only at h
    refine ⟨w0, rfl, ?_⟩
    by_cases hp : n % 2 = 0
    · rw [if_pos hp] at h
      obtain ⟨z, h1, rfl⟩ := map_some h
      obtain ⟨h2, h3⟩ := fnd_some h1
      exact ⟨fun _ => by simp only [rwf]; omega, fun e => by omega⟩
    · rw [if_neg hp] at h
      obtain ⟨z, h1, rfl⟩ := map_some h
      obtain ⟨h2, h3⟩ := fnd_some h1
      exact ⟨fun e => absurd e hp, fun _ => by simp only [clf]; omega⟩
theorem pe_0 {N : Nat → Option Nat} {a b r w : Nat} (hr : r < 8) (h : pe N a b r 0 = some w) : w % 8 = r := by
  obtain ⟨z, h1, rfl⟩ := map_some h
  obtain ⟨h2, h3⟩ := fnd_some h1
  simp only [clf]; omega
theorem pcol_eq {a b i j : Nat} (hab : a ≠ b) (h : pcol a b i = pcol a b j) : i % 2 = j % 2 := by
  unfold pcol at h
  split at h <;> split at h
  · omega
  · exact absurd h hab
  · exact absurd h.symm hab
  · omega
theorem pe_inj {N : Nat → Option Nat} {a b r : Nat} (hN : PR N) (hr : r < 8) (hab : a ≠ b) (hb : ∀ w, w < 64 → w % 8 = r → N w ≠ some b) : ∀ i j w, i < j → pe N a b r i = some w → pe N a b r j = some w → False
  | 0, j, w, hij, h1, h2 => by
    have hp := pcol_eq hab (Option.some.inj ((pe_prop hr 0 w h1).2.symm.trans (pe_prop hr j w h2).2))
    obtain ⟨j', rfl⟩ : ∃ j', j = j' + 1 := ⟨j - 1, by omega⟩
    obtain ⟨w0, q1, q2, q3⟩ := pe_prev hr h2
    have e := q3 (by omega)
    have e0 := pe_0 hr h1
    obtain ⟨g1, g2⟩ := pe_prop hr j' w0 q1
    rw [pcol, if_neg (by omega)] at g2
    exact hb w0 g1 (by omega) g2
  | i + 1, j, w, hij, h1, h2 => by
    have hp := pcol_eq hab (Option.some.inj ((pe_prop hr _ w h1).2.symm.trans (pe_prop hr j w h2).2))
    obtain ⟨j', rfl⟩ : ∃ j', j = j' + 1 := ⟨j - 1, by omega⟩
    obtain ⟨w0, q1, q2, q3⟩ := pe_prev hr h1
    obtain ⟨w1, k1, k2, k3⟩ := pe_prev hr h2
    obtain ⟨g1, g2⟩ := pe_prop hr i w0 q1
    obtain ⟨g3, g4⟩ := pe_prop hr j' w1 k1
    have hc : pcol a b i = pcol a b j' := by
      unfold pcol
      rw [show i % 2 = j' % 2 by omega]
    rw [← hc] at g4
    have : w0 = w1 := by
      refine hN.2 w0 w1 _ g1 g3 g2 g4 ?_
      by_cases z : i % 2 = 0
      · have := q2 z; have := k2 (by omega); exact Or.inl (by omega)
      · have := q3 (by omega); have := k3 (by omega); exact Or.inr (by omega)
    subst this
    exact pe_inj hN hr hab hb i j' w0 (by omega) q1 k1
/-- numbers below m stay below: holes -/
theorem holes : ∀ (m n : Nat) (f : Nat → Nat), (∀ i, i < n → f i < m) → (∀ i j, i < j → j < n → f i ≠ f j) → n ≤ m
  | 0, n, f, h, _ => by
    by_cases hn : n = 0
    · omega
    · exact absurd (h 0 (by omega)) (by omega)
  | m + 1, n, f, h, hi => by
    by_cases hn : n = 0
    · omega
    · have hlast := h (n - 1) (by omega)
      -- swap the last value out
      have := holes m (n - 1) (fun i => if f i = m then f (n - 1) else f i) (fun i hl => by
        have h1 := h i (by omega)
        have h2 := hi i (n - 1) (by omega) (by omega)
        split
        · omega
        · omega) (fun i j hij hj => by
        have a1 := hi i j hij (by omega)
        have a2 := hi i (n - 1) (by omega) (by omega)
        have a3 := hi j (n - 1) (by omega) (by omega)
        split <;> split <;> omega)
      omega
theorem pe_64 {N : Nat → Option Nat} {a b r n w : Nat} (hN : PR N) (hr : r < 8) (hab : a ≠ b) (hb : ∀ w, w < 64 → w % 8 = r → N w ≠ some b) (h : pe N a b r n = some w) : n < 64 := by
  have hall : ∀ i, i ≤ n → ∃ w, pe N a b r i = some w := by
    intro i hi
    have : ∀ d i, i + d = n → ∃ w, pe N a b r i = some w := by
      intro d
      induction d with
      | zero => intro i e; exact ⟨w, by rw [show i = n by omega]; exact h⟩
      | succ d ih =>
        intro i e
        obtain ⟨w2, h2⟩ := ih (i + 1) (by omega)
        obtain ⟨w0, q1, -⟩ := pe_prev hr h2
        exact ⟨w0, q1⟩
    exact this (n - i) i (by omega)
  have := holes 64 (n + 1) (fun i => (pe N a b r i).getD 0) (fun i hi => by
    obtain ⟨z, hz⟩ := hall i (by omega)
    simp only [hz, Option.getD_some]
    exact (pe_prop hr i z hz).1) (fun i j hij hj => by
    obtain ⟨z, hz⟩ := hall i (by omega)
    obtain ⟨z2, hz2⟩ := hall j (by omega)
    simp only [hz, hz2, Option.getD_some]
    intro e
    subst e
    exact pe_inj hN hr hab hb i j z hij hz hz2)
  omega
theorem pe_all {N : Nat → Option Nat} {a b r n w : Nat} (hr : r < 8) (h : pe N a b r n = some w) : ∀ i, i ≤ n → ∃ w, pe N a b r i = some w := by
  intro i hi
  have : ∀ d i, i + d = n → ∃ w, pe N a b r i = some w := by
    intro d
    induction d with
    | zero => intro i e; exact ⟨w, by rw [show i = n by omega]; exact h⟩
    | succ d ih =>
      intro i e
      obtain ⟨w2, h2⟩ := ih (i + 1) (by omega)
      obtain ⟨w0, q1, -⟩ := pe_prev hr h2
      exact ⟨w0, q1⟩
  exact this (n - i) i (by omega)
theorem pe_16 {N : Nat → Option Nat} {a b r s w : Nat} (hN : PR N) (hr : r < 8) (hab : a ≠ b) (hb : ∀ w, w < 64 → w % 8 = r → N w ≠ some b) (h : pe N a b r (2 * s) = some w) : s < 8 := by
  have := holes 8 (s + 1) (fun i => (pe N a b r (2 * i)).getD 0 / 8) (fun i hi => by
    obtain ⟨z, hz⟩ := pe_all hr h (2 * i) (by omega)
    simp only [hz, Option.getD_some]
    have := (pe_prop hr _ z hz).1
    omega) (fun i j hij hj => by
    obtain ⟨z, hz⟩ := pe_all hr h (2 * i) (by omega)
    obtain ⟨z2, hz2⟩ := pe_all hr h (2 * j) (by omega)
    simp only [hz, hz2, Option.getD_some]
    intro e
    obtain ⟨g1, g2⟩ := pe_prop hr _ z hz
    obtain ⟨g3, g4⟩ := pe_prop hr _ z2 hz2
    rw [pcol, if_pos (by omega)] at g2 g4
    have := hN.2 z z2 a g1 g3 g2 g4 (Or.inl e)
    subst this
    exact pe_inj hN hr hab hb (2 * i) (2 * j) z (by omega) hz hz2)
  omega
/-- the first m wishes of the path changed -/
noncomputable def FLn (N : Nat → Option Nat) (a b r m : Nat) : Nat → Option Nat := fun w => @ite _ (∃ n, n < m ∧ pe N a b r n = some w) (Classical.propDecidable _) (if N w = some a then some b else some a) (N w)
theorem FLn_in {N : Nat → Option Nat} {a b r m n w : Nat} (hn : n < m) (h : pe N a b r n = some w) : FLn N a b r m w = if N w = some a then some b else some a := @if_pos _ (Classical.propDecidable _) ⟨n, hn, h⟩ _ _ _
theorem FLn_out {N : Nat → Option Nat} {a b r m w : Nat} (h : ∀ n, n < m → pe N a b r n ≠ some w) : FLn N a b r m w = N w := @if_neg _ (Classical.propDecidable _) (fun ⟨n, h1, h2⟩ => h n h1 h2) _ _ _
theorem FLn_0 {N : Nat → Option Nat} {a b r : Nat} : FLn N a b r 0 = N := by
  funext w
  exact FLn_out (fun n h => absurd h (Nat.not_lt_zero _))
theorem FLn_s {N : Nat → Option Nat} {a b r m w : Nat} (hw : pe N a b r m = some w) : FLn N a b r (m + 1) = oset (FLn N a b r m) w (if N w = some a then some b else some a) := by
  funext x
  by_cases q : x = w
  · subst q
    rw [oset_eq]
    exact FLn_in (Nat.lt_succ_self m) hw
  · rw [oset_ne q]
    by_cases h : ∃ n, n < m ∧ pe N a b r n = some x
    · obtain ⟨n, h1, h2⟩ := h
      rw [FLn_in h1 h2, FLn_in (Nat.lt_succ_of_lt h1) h2]
    · rw [FLn_out (fun n h1 h2 => h ⟨n, h1, h2⟩), FLn_out (fun n h1 h2 => by
        by_cases z : n = m
        · subst z
          rw [hw] at h2
          exact q (Option.some.inj h2).symm
        · exact h ⟨n, by omega, h2⟩)]
theorem FLn_end {N : Nat → Option Nat} {a b r m m2 : Nat} (hr : r < 8) (h : pe N a b r m = none) (hm : m ≤ m2) : FLn N a b r m2 = FLn N a b r m := by
  funext w
  by_cases q : ∃ n, n < m ∧ pe N a b r n = some w
  · obtain ⟨n, h1, h2⟩ := q
    rw [FLn_in h1 h2, FLn_in (by omega) h2]
  · rw [FLn_out (fun n h1 h2 => q ⟨n, h1, h2⟩), FLn_out (fun n h1 h2 => by
      by_cases z : n < m
      · exact q ⟨n, z, h2⟩
      · obtain ⟨w2, h3⟩ := pe_all hr h2 m (by omega)
        rw [h] at h3; cases h3)]
noncomputable def FL (N : Nat → Option Nat) (a b r : Nat) : Nat → Option Nat := FLn N a b r 64
theorem FL_of {N : Nat → Option Nat} {a b r m : Nat} (hr : r < 8) (h : pe N a b r m = none) (hm : m ≤ 64) : FLn N a b r m = FL N a b r := (FLn_end hr h hm).symm
theorem FL_in {N : Nat → Option Nat} {a b r n w : Nat} (hN : PR N) (hr : r < 8) (hab : a ≠ b) (hb : ∀ w, w < 64 → w % 8 = r → N w ≠ some b) (h : pe N a b r n = some w) : FL N a b r w = if N w = some a then some b else some a := FLn_in (pe_64 hN hr hab hb h) h
theorem FL_out {N : Nat → Option Nat} {a b r w : Nat} (h : ∀ n, pe N a b r n ≠ some w) : FL N a b r w = N w := FLn_out (fun n _ => h n)
/-- the path goes on along a row, and along a column -/
theorem pe_next {N : Nat → Option Nat} {a b r n w w' : Nat} (hN : PR N) (hr : r < 8) (hw' : w' < 64) (h : pe N a b r n = some w) (hc : N w' = some (pcol a b (n + 1))) (h0 : n % 2 = 0 → w' / 8 = w / 8) (h1 : n % 2 = 1 → w' % 8 = w % 8) : pe N a b r (n + 1) = some w' := by
  have hw := (pe_prop hr n w h).1
  simp only [pe, h]
  by_cases hp : n % 2 = 0
  · rw [if_pos hp]
    have e := h0 hp
    rw [pcol, if_neg (by omega)] at hc
    cases hq : fnd N (rwf (w / 8)) b with
    | none =>
      have := fnd_none hq (o := w' % 8) (by omega)
      simp only [rwf] at this
      rw [show 8 * (w / 8) + w' % 8 = w' by omega] at this
      exact absurd hc this
    | some z =>
      obtain ⟨h2, h3⟩ := fnd_some hq
      simp only [rwf] at h3
      have : 8 * (w / 8) + z = w' := hN.2 _ _ b (by omega) hw' h3 hc (Or.inl (by omega))
      simp only [Option.map_some, rwf, this]
  · rw [if_neg hp]
    have e := h1 (by omega)
    rw [pcol, if_pos (by omega)] at hc
    cases hq : fnd N (clf (w % 8)) a with
    | none =>
      have := fnd_none hq (o := w' / 8) (by omega)
      simp only [clf] at this
      rw [show 8 * (w' / 8) + w % 8 = w' by omega] at this
      exact absurd hc this
    | some z =>
      obtain ⟨h2, h3⟩ := fnd_some hq
      simp only [clf] at h3
      have : 8 * z + w % 8 = w' := hN.2 _ _ a (by omega) hw' h3 hc (Or.inr (by omega))
      simp only [Option.map_some, clf, this]
theorem pe_st {N : Nat → Option Nat} {a b r w : Nat} (hN : PR N) (hr : r < 8) (hw : w < 64) (hc : N w = some a) (h : w % 8 = r) : pe N a b r 0 = some w := by
  simp only [pe]
  cases hq : fnd N (clf r) a with
  | none =>
    have := fnd_none hq (o := w / 8) (by omega)
    simp only [clf] at this
    rw [show 8 * (w / 8) + r = w by omega] at this
    exact absurd hc this
  | some z =>
    obtain ⟨h2, h3⟩ := fnd_some hq
    simp only [clf] at h3
    have : 8 * z + r = w := hN.2 _ _ a (by omega) hw h3 hc (Or.inr (by omega))
    simp only [Option.map_some, clf, this]
/-- a wish beside the path, with the other number, is on the path -/
theorem pe_adj {N : Nat → Option Nat} {a b r n w w' : Nat} (hN : PR N) (hr : r < 8) (hab : a ≠ b) (hb : ∀ w, w < 64 → w % 8 = r → N w ≠ some b) (h : pe N a b r n = some w) (hw' : w' < 64) (hc : N w' = some (pcol a b (n + 1))) (hl : w / 8 = w' / 8 ∨ w % 8 = w' % 8) : ∃ n', pe N a b r n' = some w' := by
  have hcase : (n % 2 = 0 ∧ w' / 8 = w / 8) ∨ (n % 2 = 1 ∧ w' % 8 = w % 8) ∨ (n % 2 = 0 ∧ w' % 8 = w % 8) ∨ (n % 2 = 1 ∧ w' / 8 = w / 8) := by omega
  rcases hcase with ⟨p, e⟩ | ⟨p, e⟩ | ⟨p, e⟩ | ⟨p, e⟩
  · exact ⟨n + 1, pe_next hN hr hw' h hc (fun _ => e) (fun z => by omega)⟩
  · exact ⟨n + 1, pe_next hN hr hw' h hc (fun z => by omega) (fun _ => e)⟩
  · rw [pcol, if_neg (by omega)] at hc
    cases n with
    | zero =>
      have := pe_0 hr h
      exact absurd hc (hb w' hw' (by omega))
    | succ m =>
      obtain ⟨w0, q1, q2, q3⟩ := pe_prev hr h
      obtain ⟨g1, g2⟩ := pe_prop hr m w0 q1
      rw [pcol, if_neg (by omega)] at g2
      have := q3 (by omega)
      have e2 : w0 = w' := hN.2 w0 w' b g1 hw' g2 hc (Or.inr (by omega))
      exact ⟨m, e2 ▸ q1⟩
  · rw [pcol, if_pos (by omega)] at hc
    cases n with
    | zero => omega
    | succ m =>
      obtain ⟨w0, q1, q2, q3⟩ := pe_prev hr h
      obtain ⟨g1, g2⟩ := pe_prop hr m w0 q1
      rw [pcol, if_pos (by omega)] at g2
      have := q2 (by omega)
      have e2 : w0 = w' := hN.2 w0 w' a g1 hw' g2 hc (Or.inl (by omega))
      exact ⟨m, e2 ▸ q1⟩
theorem FL_val {N : Nat → Option Nat} {a b r w : Nat} (hN : PR N) (hr : r < 8) (hab : a ≠ b) (hb : ∀ w, w < 64 → w % 8 = r → N w ≠ some b) : (∃ n, pe N a b r n = some w ∧ N w = some (pcol a b n) ∧ FL N a b r w = some (pcol a b (n + 1))) ∨ ((∀ n, pe N a b r n ≠ some w) ∧ FL N a b r w = N w) := by
  by_cases h : ∃ n, pe N a b r n = some w
  · obtain ⟨n, hn⟩ := h
    have h1 := (pe_prop hr n w hn).2
    refine Or.inl ⟨n, hn, h1, ?_⟩
    rw [FL_in hN hr hab hb hn, h1]
    unfold pcol
    by_cases p : n % 2 = 0
    · rw [if_pos p, if_neg (show ¬ (n + 1) % 2 = 0 by omega), if_pos rfl]
    · rw [if_neg p, if_pos (show (n + 1) % 2 = 0 by omega), if_neg (fun e => hab (Option.some.inj e).symm)]
  · exact Or.inr ⟨fun n hn => h ⟨n, hn⟩, FL_out (fun n hn => h ⟨n, hn⟩)⟩
theorem FL_PR {N : Nat → Option Nat} {a b r : Nat} (hN : PR N) (hr : r < 8) (ha : a < 8) (hb8 : b < 8) (hab : a ≠ b) (hb : ∀ w, w < 64 → w % 8 = r → N w ≠ some b) : PR (FL N a b r) := by
  have pc : ∀ n, pcol a b n < 8 := fun n => by unfold pcol; split <;> assumption
  constructor
  · intro w c hw e
    rcases FL_val (w := w) hN hr hab hb with ⟨n, h1, h2, h3⟩ | ⟨h1, h2⟩
    · rw [h3] at e; cases e; exact pc _
    · rw [h2] at e; exact hN.1 w c hw e
  · intro w w' c hw hw' e e' hl
    rcases FL_val (w := w) hN hr hab hb with ⟨n, h1, h2, h3⟩ | ⟨h1, h2⟩ <;> rcases FL_val (w := w') hN hr hab hb with ⟨n', k1, k2, k3⟩ | ⟨k1, k2⟩
    · rw [h3] at e; rw [k3] at e'
      have hp := pcol_eq hab (Option.some.inj (e.trans e'.symm))
      refine hN.2 w w' (pcol a b n) hw hw' h2 ?_ hl
      rw [k2]; unfold pcol; rw [show n % 2 = n' % 2 by omega]
    · rw [h3] at e; rw [k2] at e'
      obtain ⟨n2, hn2⟩ := pe_adj hN hr hab hb h1 hw' (e'.trans e.symm) hl
      exact absurd hn2 (k1 n2)
    · rw [h2] at e; rw [k3] at e'
      obtain ⟨n2, hn2⟩ := pe_adj hN hr hab hb k1 hw (e.trans e'.symm) (by omega)
      exact absurd hn2 (h1 n2)
    · rw [h2] at e; rw [k2] at e'
      exact hN.2 w w' c hw hw' e e' hl
/-- behind the exchange nobody at r has a, and who had no a has what it had -/
theorem FL_r {N : Nat → Option Nat} {a b r w : Nat} (hN : PR N) (hr : r < 8) (hab : a ≠ b) (hb : ∀ w, w < 64 → w % 8 = r → N w ≠ some b) (hw : w < 64) (h : w % 8 = r) : FL N a b r w ≠ some a := by
  intro e
  rcases FL_val (w := w) hN hr hab hb with ⟨n, h1, h2, h3⟩ | ⟨h1, h2⟩
  · rw [h3] at e
    have hp : pcol a b (n + 1) = a := Option.some.inj e
    unfold pcol at hp h2
    by_cases p : n % 2 = 0
    · rw [if_neg (show ¬ (n + 1) % 2 = 0 by omega)] at hp
      exact hab hp.symm
    · rw [if_neg p] at h2
      exact hb w hw h h2
  · rw [h2] at e
    exact h1 0 (pe_st hN hr hw e h)
theorem FL_l {N : Nat → Option Nat} {a b r w : Nat} (hr : r < 8) (hna : ∀ w', w' < 64 → w' / 8 = w / 8 → N w' ≠ some a) : FL N a b r w = N w := by
  refine FL_out (fun n hn => ?_)
  obtain ⟨g1, g2⟩ := pe_prop hr n w hn
  by_cases p : n % 2 = 0
  · rw [pcol, if_pos p] at g2
    exact hna w g1 rfl g2
  · obtain ⟨m, rfl⟩ : ∃ m, n = m + 1 := ⟨n - 1, by omega⟩
    obtain ⟨w0, q1, q2, q3⟩ := pe_prev hr hn
    obtain ⟨k1, k2⟩ := pe_prop hr m w0 q1
    rw [pcol, if_pos (by omega)] at k2
    exact hna w0 k1 (q2 (by omega)).symm k2
/-- one wish more -/
noncomputable def stp (N : Nat → Option Nat) (x y : Nat) : Nat → Option Nat := oset (if (fnd N (clf y) (lfr N (rwf x))).isSome then FL N (lfr N (rwf x)) (lfr N (clf y)) y else N) (8 * x + y) (some (lfr N (rwf x)))
theorem lfr_used {N : Nat → Option Nat} {f : Nat → Nat} {c : Nat} (h : c < lfr N f) : (fnd N f c).isSome = true := by
  unfold lfr at h
  cases hq : fstU (fun c => !(fnd N f c).isSome) 8 with
  | some z =>
    rw [hq] at h
    have := ((fstU_some _ 8 z).mp hq).2.2 c h
    simpa using this
  | none =>
    rw [hq] at h
    have := (fstU_none _ 8).mp hq c h
    simpa using this
theorem lfr_free {N : Nat → Option Nat} {f : Nat → Nat} (hc : ∀ o c, o < 8 → N (f o) = some c → c < 8) : fnd N f (lfr N f) = none := by
  unfold lfr
  cases hq : fstU (fun c => !(fnd N f c).isSome) 8 with
  | some z =>
    have := ((fstU_some _ 8 z).mp hq).2.1
    simpa using this
  | none =>
    refine (fstU_none _ 8).mpr (fun o ho => decide_eq_false (fun e => ?_))
    have := hc o 8 ho e
    omega
theorem lfr_eq {N : Nat → Option Nat} {f : Nat → Nat} {c : Nat} (h1 : ∀ d, d < c → (fnd N f d).isSome = true) (h2 : c = 8 ∨ (c < 8 ∧ fnd N f c = none)) : lfr N f = c := by
  unfold lfr
  rcases h2 with rfl | ⟨h2, h3⟩
  · rw [(fstU_none _ 8).mpr (fun j hj => by rw [h1 j hj]; rfl)]
  · rw [(fstU_some _ 8 c).mpr ⟨h2, by rw [h3]; rfl, fun i hi => by rw [h1 i hi]; rfl⟩]
/-- a person with a wish that has no number yet has one of eight numbers free -/
theorem lfr_lt {N : Nat → Option Nat} {f : Nat → Nat} {z : Nat} (hz : z < 8) (hn : N (f z) = none) : lfr N f < 8 := by
  refine Classical.byContradiction (fun h => ?_)
  have hu : ∀ c, c < 8 → ∃ o, fnd N f c = some o := fun c hc => by
    have := lfr_used (N := N) (f := f) (c := c) (by omega)
    cases hq : fnd N f c with
    | none => rw [hq] at this; cases this
    | some o => exact ⟨o, rfl⟩
  have := holes 7 8 (fun c => if (fnd N f c).getD 0 < z then (fnd N f c).getD 0 else (fnd N f c).getD 0 - 1) (fun c hc => by
    obtain ⟨o, ho⟩ := hu c hc
    obtain ⟨h1, h2⟩ := fnd_some ho
    have : o ≠ z := fun e => by rw [e, hn] at h2; cases h2
    simp only [ho, Option.getD_some]
    split <;> omega) (fun c d hcd hd => by
    obtain ⟨o, ho⟩ := hu c (by omega)
    obtain ⟨o2, ho2⟩ := hu d hd
    obtain ⟨h1, h2⟩ := fnd_some ho
    obtain ⟨h3, h4⟩ := fnd_some ho2
    have n1 : o ≠ z := fun e => by rw [e, hn] at h2; cases h2
    have n2 : o2 ≠ z := fun e => by rw [e, hn] at h4; cases h4
    have n3 : o ≠ o2 := fun e => by rw [e, h4] at h2; cases h2; omega
    simp only [ho, ho2, Option.getD_some]
    split <;> split <;> omega)
  omega
theorem stp_PR {N : Nat → Option Nat} {x y : Nat} (hN : PR N) (hx : x < 8) (hy : y < 8) (hn : N (8 * x + y) = none) : PR (stp N x y) := by
  have ha : lfr N (rwf x) < 8 := lfr_lt (z := y) hy hn
  have hb : lfr N (clf y) < 8 := lfr_lt (z := x) hx hn
  have fa := lfr_free (N := N) (f := rwf x) (fun o c ho e => hN.1 _ c (by simp only [rwf]; omega) e)
  have fb := lfr_free (N := N) (f := clf y) (fun o c ho e => hN.1 _ c (by simp only [clf]; omega) e)
  have na : ∀ w, w < 64 → w / 8 = x → N w ≠ some (lfr N (rwf x)) := fun w hw e => by
    have := fnd_none fa (o := w % 8) (by omega)
    simp only [rwf] at this
    rwa [show 8 * x + w % 8 = w by omega] at this
  have nb : ∀ w, w < 64 → w % 8 = y → N w ≠ some (lfr N (clf y)) := fun w hw e => by
    have := fnd_none fb (o := w / 8) (by omega)
    simp only [clf] at this
    rwa [show 8 * (w / 8) + y = w by omega] at this
  have key : ∀ M : Nat → Option Nat, PR M → (∀ w, w < 64 → w / 8 = x → M w ≠ some (lfr N (rwf x))) → (∀ w, w < 64 → w % 8 = y → M w ≠ some (lfr N (rwf x))) → PR (oset M (8 * x + y) (some (lfr N (rwf x)))) := by
    intro M hM h1 h2
    constructor
    · intro w c hw e
      by_cases q : w = 8 * x + y
      · rw [q, oset_eq] at e; cases e; exact ha
      · rw [oset_ne q] at e; exact hM.1 w c hw e
    · intro w w' c hw hw' e e' hl
      by_cases q : w = 8 * x + y <;> by_cases q' : w' = 8 * x + y
      · omega
      · rw [q, oset_eq] at e; rw [oset_ne q'] at e'
        cases e
        rcases hl with hl | hl
        · exact absurd e' (h1 w' hw' (by omega))
        · exact absurd e' (h2 w' hw' (by omega))
      · rw [oset_ne q] at e; rw [q', oset_eq] at e'
        cases e'
        rcases hl with hl | hl
        · exact absurd e (h1 w hw (by omega))
        · exact absurd e (h2 w hw (by omega))
      · rw [oset_ne q] at e; rw [oset_ne q'] at e'
        exact hM.2 w w' c hw hw' e e' hl
  unfold stp
  cases hq : fnd N (clf y) (lfr N (rwf x)) with
  | none =>
    refine key N hN na (fun w hw e => ?_)
    have := fnd_none hq (o := w / 8) (by omega)
    simp only [clf] at this
    rwa [show 8 * (w / 8) + y = w by omega] at this
  | some z =>
    have hab : lfr N (rwf x) ≠ lfr N (clf y) := fun e => by rw [e, fb] at hq; cases hq
    rw [if_pos (show (some z).isSome = true from rfl)]
    refine key _ (FL_PR hN hy ha hb hab nb) (fun w hw e => ?_) (fun w hw e => FL_r hN hy hab nb hw e)
    rw [FL_l hy (fun w' h1 h2 => na w' h1 (by omega))]
    exact na w hw e
/-- the plan after the first k pairs -/
noncomputable def PLn (E : Nat → Nat → Bool) : Nat → Nat → Option Nat
  | 0 => fun _ => none
  | k + 1 => if E (k / 8) (k % 8) then stp (PLn E k) (k / 8) (k % 8) else PLn E k
theorem PLn_ok (E : Nat → Nat → Bool) : ∀ k, k ≤ 64 → PR (PLn E k) ∧ ∀ w, k ≤ w → w < 64 → PLn E k w = none
  | 0, _ => ⟨⟨fun w c _ e => (by cases e), fun w w' c _ _ e => (by cases e)⟩, fun _ _ _ => rfl⟩
  | k + 1, hk => by
    obtain ⟨h1, h2⟩ := PLn_ok E k (by omega)
    simp only [PLn]
    split
    · have hn : PLn E k (8 * (k / 8) + k % 8) = none := h2 _ (by omega) (by omega)
      refine ⟨stp_PR h1 (by omega) (by omega) hn, fun w hw hw2 => ?_⟩
      unfold stp
      rw [oset_ne (by omega)]
      split
      · next hq =>
        refine (FL_val (a := lfr (PLn E k) (rwf (k / 8))) (b := lfr (PLn E k) (clf (k % 8))) (r := k % 8) (w := w) h1 (show k % 8 < 8 by omega) ?_ ?_).elim (fun ⟨n, q1, q2, q3⟩ => ?_) (fun ⟨q1, q2⟩ => ?_)
        · intro e
          rw [e, lfr_free (fun o c ho e => h1.1 _ c (by simp only [clf]; omega) e)] at hq
          cases hq
        · intro w hw e
          have := fnd_none (lfr_free (N := PLn E k) (f := clf (k % 8)) (fun o c ho e => h1.1 _ c (by simp only [clf]; omega) e)) (o := w / 8) (by omega)
          simp only [clf] at this
          rwa [show 8 * (w / 8) + k % 8 = w by omega] at this
        · rw [h2 w (by omega) hw2] at q2; cases q2
        · rw [q2]; exact h2 w (by omega) hw2
      · exact h2 w (by omega) hw2
    · exact ⟨h1, fun w hw hw2 => h2 w (by omega) hw2⟩
def ap (nb : Nat → Int32) (N : Nat → Option Nat) : Prop := ∀ k, k < 64 → nb k = pI (N k)
theorem ap_upd {nb : Nat → Int32} {N : Nat → Option Nat} {k : Nat} {v : Option Nat} {x : Int32} (h : ap nb N) (hx : x = pI v) : ap (upd nb k x) (oset N k v) := by
  intro a ha
  by_cases q : a = k
  · subst q; rw [upd_eq, oset_eq]; exact hx
  · rw [upd_ne q, oset_ne q]; exact h a ha
def b8 (N : Nat → Option Nat) : Prop := ∀ w c, w < 64 → N w = some c → c < 8
theorem fnd_at {N : Nat → Option Nat} {f : Nat → Nat} {c i : Nat} (hi : i < 8) (h : N (f i) = some c) (hf : ∀ j, j < i → N (f j) ≠ some c) : fnd N f c = some i := (fstU_some _ 8 i).mpr ⟨hi, decide_eq_true h, fun j hj => decide_eq_false (hf j hj)⟩
theorem fnd_no {N : Nat → Option Nat} {f : Nat → Nat} {c : Nat} (hf : ∀ j, j < 8 → N (f j) ≠ some c) : fnd N f c = none := (fstU_none _ 8).mpr (fun j hj => decide_eq_false (hf j hj))
theorem fnd_cong {N M : Nat → Option Nat} {f : Nat → Nat} {c : Nat} (h : ∀ o, o < 8 → N (f o) = M (f o)) : fnd N f c = fnd M f c := fstU_cong 8 (fun k hk => by rw [h k hk])
theorem FLn_b8 {N : Nat → Option Nat} {a b r m : Nat} (hN : b8 N) (ha : a < 8) (hb : b < 8) : b8 (FLn N a b r m) := by
  intro w c hw e
  by_cases q : ∃ n, n < m ∧ pe N a b r n = some w
  · obtain ⟨n, h1, h2⟩ := q
    rw [FLn_in h1 h2] at e
    split at e <;> cases e <;> assumption
  · rw [FLn_out (fun n h1 h2 => q ⟨n, h1, h2⟩)] at e
    exact hN w c hw e
theorem FLn_row {N : Nat → Option Nat} {a b r s x y o : Nat} (hN : PR N) (hr : r < 8) (hab : a ≠ b) (hb : ∀ w, w < 64 → w % 8 = r → N w ≠ some b) (hx : x < 8) (hy : y < 8) (h : pe N a b r (2 * s) = some (8 * x + y)) (ho : o < 8) : FLn N a b r (2 * s) (8 * x + o) = N (8 * x + o) := by
  refine FLn_out (fun n hn e => ?_)
  obtain ⟨g1, g2⟩ := pe_prop hr _ _ h
  rw [pcol, if_pos (by omega)] at g2
  obtain ⟨g3, g4⟩ := pe_prop hr _ _ e
  by_cases p : n % 2 = 0
  · rw [pcol, if_pos p] at g4
    have := hN.2 _ _ a g1 g3 g2 g4 (Or.inl (by omega))
    rw [← this] at e
    exact pe_inj hN hr hab hb n (2 * s) _ hn e h
  · obtain ⟨m, rfl⟩ : ∃ m, n = m + 1 := ⟨n - 1, by omega⟩
    obtain ⟨w0, q1, q2, q3⟩ := pe_prev hr e
    obtain ⟨k1, k2⟩ := pe_prop hr m w0 q1
    rw [pcol, if_pos (by omega)] at k2
    have := q2 (by omega)
    have := hN.2 _ _ a g1 k1 g2 k2 (Or.inl (by omega))
    rw [← this] at q1
    exact pe_inj hN hr hab hb m (2 * s) _ (by omega) q1 h
theorem FLn_col {N : Nat → Option Nat} {a b r s x y o : Nat} (hN : PR N) (hr : r < 8) (hab : a ≠ b) (hb : ∀ w, w < 64 → w % 8 = r → N w ≠ some b) (hx : x < 8) (hy : y < 8) (h : pe N a b r (2 * s + 1) = some (8 * x + y)) (ho : o < 8) : FLn N a b r (2 * s + 1) (8 * o + y) = N (8 * o + y) := by
  refine FLn_out (fun n hn e => ?_)
  obtain ⟨g1, g2⟩ := pe_prop hr _ _ h
  rw [pcol, if_neg (by omega)] at g2
  obtain ⟨g3, g4⟩ := pe_prop hr _ _ e
  by_cases p : n % 2 = 0
  · cases n with
    | zero =>
      have := pe_0 hr e
      exact hb _ g1 (by omega) g2
    | succ m =>
      obtain ⟨w0, q1, q2, q3⟩ := pe_prev hr e
      obtain ⟨k1, k2⟩ := pe_prop hr m w0 q1
      rw [pcol, if_neg (by omega)] at k2
      have := q3 (by omega)
      have := hN.2 _ _ b g1 k1 g2 k2 (Or.inr (by omega))
      rw [← this] at q1
      exact pe_inj hN hr hab hb m (2 * s + 1) _ (by omega) q1 h
  · rw [pcol, if_neg p] at g4
    have := hN.2 _ _ b g1 g3 g2 g4 (Or.inr (by omega))
    rw [← this] at e
    exact pe_inj hN hr hab hb n (2 * s + 1) _ hn e h
theorem pe_odd {N : Nat → Option Nat} {a b r s x y : Nat} (hx : x < 8) (hy : y < 8) (h : pe N a b r (2 * s) = some (8 * x + y)) : pe N a b r (2 * s + 1) = (fnd N (rwf x) b).map (rwf x) := by
  simp only [pe, h]
  rw [if_pos (by omega), show (8 * x + y) / 8 = x by omega]
theorem pe_succ (N : Nat → Option Nat) (a b r n : Nat) : pe N a b r (n + 1) = match pe N a b r n with | none => none | some w => if n % 2 = 0 then (fnd N (rwf (w / 8)) b).map (rwf (w / 8)) else (fnd N (clf (w % 8)) a).map (clf (w % 8)) := rfl
theorem pe_even {N : Nat → Option Nat} {a b r s x y : Nat} (hx : x < 8) (hy : y < 8) (h : pe N a b r (2 * s + 1) = some (8 * x + y)) : pe N a b r (2 * (s + 1)) = (fnd N (clf y) a).map (clf y) := by
  rw [show 2 * (s + 1) = (2 * s + 1) + 1 by omega, pe_succ, h]
  show (if (2 * s + 1) % 2 = 0 then _ else _) = _
  rw [if_neg (by omega), show (8 * x + y) % 8 = y by omega]
theorem ap_flip1 {nb : Nat → Int32} {N : Nat → Option Nat} {a b r s w : Nat} (hr : r < 8) (hA : ap nb (FLn N a b r (2 * s))) (h : pe N a b r (2 * s) = some w) : ap (upd nb w (nI b)) (FLn N a b r (2 * s + 1)) := by
  rw [FLn_s h]
  have := (pe_prop hr _ _ h).2
  rw [pcol, if_pos (by omega)] at this
  exact ap_upd hA (by rw [if_pos this]; rfl)
theorem ap_flip2 {nb : Nat → Int32} {N : Nat → Option Nat} {a b r s w : Nat} (hr : r < 8) (hab : a ≠ b) (hA : ap nb (FLn N a b r (2 * s + 1))) (h : pe N a b r (2 * s + 1) = some w) : ap (upd nb w (nI a)) (FLn N a b r (2 * (s + 1))) := by
  rw [show 2 * (s + 1) = 2 * s + 1 + 1 by omega, FLn_s h]
  have := (pe_prop hr _ _ h).2
  rw [pcol, if_neg (by omega)] at this
  exact ap_upd hA (by rw [if_neg (fun e => by rw [this] at e; exact hab (Option.some.inj e).symm)]; rfl)
theorem PLn_s {E : Nat → Nat → Bool} {i j : Nat} (hi : i < 8) (hj : j < 8) : PLn E (8 * i + (j + 1)) = if E i j then stp (PLn E (8 * i + j)) i j else PLn E (8 * i + j) := by
  rw [show 8 * i + (j + 1) = (8 * i + j) + 1 by omega]
  simp only [PLn]
  rw [show (8 * i + j) / 8 = i by omega, show (8 * i + j) % 8 = j by omega]
theorem stp_s {N : Nat → Option Nat} {x y z : Nat} (h : fnd N (clf y) (lfr N (rwf x)) = some z) : stp N x y = oset (FL N (lfr N (rwf x)) (lfr N (clf y)) y) (8 * x + y) (some (lfr N (rwf x))) := by
  unfold stp; rw [h]; rfl
theorem stp_n {N : Nat → Option Nat} {x y : Nat} (h : fnd N (clf y) (lfr N (rwf x)) = none) : stp N x y = oset N (8 * x + y) (some (lfr N (rwf x))) := by
  unfold stp; rw [h]; rfl
theorem fnd_b {N : Nat → Option Nat} {f : Nat → Nat} {c : Nat} : ∀ r, fnd N f c = some r → r < 8 := fun _ h => (fnd_some h).1
