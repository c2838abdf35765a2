/-! pure: the search's state -/
def Snf (S u : Nat) : Nat → Bool := fun b => decide (b < 8) && (S.testBit b && !u.testBit b)
theorem Snf_t {S u b : Nat} (h : b < 8) (h1 : S.testBit b = true) (h2 : u.testBit b = false) : Snf S u b = true := by simp [Snf, h, h1, h2]
theorem Snf_e {S u b : Nat} (h : Snf S u b = true) : b < 8 ∧ S.testBit b = true ∧ u.testBit b = false := by
  simp only [Snf, Bool.and_eq_true, decide_eq_true_eq, Bool.not_eq_true'] at h
  exact h
def fi (W : Nat → Nat) (L R : Nat → Option Nat) (f S u wt rl : Nat) (sf : Nat → Int32) (sl t : Nat → Nat) (nn : Nat) : Prop :=
  ch W L f S (Snf S u) sl t ∧ (∀ b, Snf S u b = true → sf b = nI (sl b) ∧ t b < nn) ∧ (∀ b, Snf S u b = true → ∃ a, R b = some a ∧ rl.testBit a = true) ∧ (∀ a, a < 8 → rl.testBit a = true → f ≤ a) ∧ (∀ a, f ≤ a → a < 8 → L a = none → rl.testBit a = true) ∧ (∀ a b, a < 8 → rl.testBit a = true → L a = some b → Snf S u b = true) ∧ (∀ a, a < 8 → wt.testBit a = true → rl.testBit a = true) ∧ nn + cnt (fun b => u.testBit b) 8 ≤ 8 ∧ (u < 256 ∧ wt < 256 ∧ rl < 256) ∧ ∀ b, b < 8 → u.testBit b = true → S.testBit b = true
def clo (W : Nat → Nat) (S u rl wt cur j : Nat) : Prop := ∀ a b, a < 8 → rl.testBit a = true → wt.testBit a = false → b < 8 → S.testBit b = true → (W a).testBit b = true → (a ≠ cur ∨ b < j) → Snf S u b = true
def pcn (rl wt : Nat) : Nat := cnt (fun a => rl.testBit a && !wt.testBit a) 8
theorem bit0 {w : Nat} (hw : w < 256) (h : ∀ a, a < 8 → w.testBit a = false) : w = 0 := by
  apply Nat.eq_of_testBit_eq
  intro i
  rw [Nat.zero_testBit]
  by_cases hi : i < 8
  · exact h i hi
  · exact Nat.testBit_lt_two_pow (Nat.lt_of_lt_of_le hw (Nat.pow_le_pow_right (n := 2) (by decide) (show 8 ≤ i by omega)))
theorem bit_ex {w : Nat} (hw : w < 256) (h : w ≠ 0) : ∃ a, a < 8 ∧ w.testBit a = true := by
  refine Classical.byContradiction (fun hn => h (bit0 hw (fun a ha => ?_)))
  cases hq : w.testBit a with
  | false => rfl
  | true => exact absurd ⟨a, ha, hq⟩ hn
theorem or_bit {w a i : Nat} : (w ||| (1 <<< a)).testBit i = (w.testBit i || decide (a = i)) := by rw [Nat.testBit_or, bit_one]
theorem fi_init {W : Nat → Nat} {L R : Nat → Option Nat} {f S m : Nat} {sf : Nat → Int32} (hS : S < 256) (hm : m < 256) (hb : ∀ a, a < 8 → (m.testBit a = true ↔ (f ≤ a ∧ L a = none))) : fi W L R f S S m m sf (fun _ => 0) (fun _ => 0) 0 := by
  have no : ∀ b, ¬ Snf S S b = true := fun b h => by
    obtain ⟨h1, h2, h3⟩ := Snf_e h
    rw [h2] at h3; cases h3
  refine ⟨fun b h => absurd h (no b), fun b h => absurd h (no b), fun b h => absurd h (no b), fun a ha h => ((hb a ha).mp h).1, fun a h1 h2 h3 => (hb a h2).mpr ⟨h1, h3⟩, fun a b ha h e => ?_, fun a _ h => h, ?_, ⟨hS, hm, hm⟩, fun b _ h => h⟩
  · rw [((hb a ha).mp h).2] at e; cases e
  · have := cnt_le (fun b => S.testBit b) 8
    omega
theorem clo_init {W : Nat → Nat} {S u m c : Nat} {j : Nat} : clo W S u m m c j := fun a b _ h1 h2 => by rw [h1] at h2; cases h2
/-- a waiting left person is taken -/
theorem fi_pop {W : Nat → Nat} {L R : Nat → Option Nat} {f S u wt rl nn i : Nat} {sf : Nat → Int32} {sl t : Nat → Nat} (h : fi W L R f S u wt rl sf sl t nn) : fi W L R f S u (clr wt i) rl sf sl t nn := by
  obtain ⟨h1, h2, h3, h4, h5, h6, h7, h8, h9, h10⟩ := h
  refine ⟨h1, h2, h3, h4, h5, h6, fun a ha h => h7 a ha ?_, h8, ⟨h9.1, clr_lt h9.2.1, h9.2.2⟩, h10⟩
  rw [clr_bit (by omega)] at h
  simp only [Bool.and_eq_true] at h
  exact h.1
theorem clo_pop {W : Nat → Nat} {S u wt rl i : Nat} (h : clo W S u rl wt 8 0) : clo W S u rl (clr wt i) i 0 := by
  intro a b ha h1 h2 hb h3 h4 h5
  rcases h5 with q | q
  · refine h a b ha h1 ?_ hb h3 h4 (Or.inl (by omega))
    rw [clr_bit (by omega), decide_eq_false (fun z => q z.symm)] at h2
    simpa using h2
  · omega
theorem pcn_pop {rl wt i : Nat} (hi : i < 8) (h1 : rl.testBit i = true) (h2 : wt.testBit i = true) : pcn rl (clr wt i) = pcn rl wt + 1 := by
  have e := cnt_out (fun a => rl.testBit a && !(clr wt i).testBit a) (j := i) (by rw [clr_bit (by omega), h1, decide_eq_true rfl]; simp) 8 hi
  have e2 : cnt (fun a => (rl.testBit a && !(clr wt i).testBit a) && !decide (i = a)) 8 = pcn rl wt := cnt_cong 8 (fun a ha => by
    rw [clr_bit (by omega)]
    by_cases q : i = a
    · subst q; rw [h2]; simp
    · rw [decide_eq_false q]; simp)
  rw [e2] at e
  exact e.symm
/-- a right person is passed by -/
theorem clo_skip {W : Nat → Nat} {L R : Nat → Option Nat} {f S u wt rl i j nn : Nat} {sf : Nat → Int32} {sl t : Nat → Nat} (hF : fi W L R f S u wt rl sf sl t nn) (h : clo W S u rl wt i j) (hb : (W i &&& u).testBit j = false) : clo W S u rl wt i (j + 1) := by
  intro a b ha h1 h2 hb8 h3 h4 h5
  by_cases q : a = i ∧ b = j
  · obtain ⟨rfl, rfl⟩ := q
    rw [Nat.testBit_and, h4, Bool.true_and] at hb
    exact Snf_t hb8 h3 hb
  · refine h a b ha h1 h2 hb8 h3 h4 ?_
    by_cases z : a = i
    · exact Or.inr (by omega)
    · exact Or.inl z
def nupd (g : Nat → Nat) (k v : Nat) : Nat → Nat := fun j => if j = k then v else g j
theorem nupd_eq {g : Nat → Nat} {k v : Nat} : nupd g k v k = v := if_pos rfl
theorem nupd_ne {g : Nat → Nat} {k v j : Nat} (h : j ≠ k) : nupd g k v j = g j := if_neg h
theorem Snf_clr {S u j b : Nat} (hj : j < 8) (hS : S.testBit j = true) : Snf S (clr u j) b = true ↔ (Snf S u b = true ∨ b = j) := by
  constructor
  · intro h
    obtain ⟨h1, h2, h3⟩ := Snf_e h
    rw [clr_bit (by omega)] at h3
    by_cases q : b = j
    · exact Or.inr q
    · rw [decide_eq_false (fun z => q z.symm)] at h3
      exact Or.inl (Snf_t h1 h2 (by simpa using h3))
  · rintro (h | rfl)
    · obtain ⟨h1, h2, h3⟩ := Snf_e h
      refine Snf_t h1 h2 ?_
      rw [clr_bit (by omega), h3]; rfl
    · refine Snf_t hj hS ?_
      rw [clr_bit (by omega), decide_eq_true rfl]; simp
theorem ch_see {W : Nat → Nat} {L R : Nat → Option Nat} {f S u wt rl i j nn : Nat} {sf : Nat → Int32} {sl t : Nat → Nat} (hF : fi W L R f S u wt rl sf sl t nn) (hi : i < 8) (hr : rl.testBit i = true) (hj : j < 8) (hb : (W i &&& u).testBit j = true) :
    ch W L f S (Snf S (clr u j)) (nupd sl j i) (nupd t j nn) ∧ (∀ b, Snf S (clr u j) b = true → upd sf j (nI i) b = nI (nupd sl j i b) ∧ nupd t j nn b < nn + 1) ∧ nn + 1 + cnt (fun b => (clr u j).testBit b) 8 ≤ 8 ∧ Snf S u j = false := by
  obtain ⟨h1, h2, h3, h4, h5, h6, h7, h8, h9, h10⟩ := hF
  rw [Nat.testBit_and, Bool.and_eq_true] at hb
  have hS := h10 j hj hb.2
  have hn : Snf S u j = false := by simp [Snf, hb.2]
  have e := cnt_out (fun b => u.testBit b) (j := j) hb.2 8 hj
  have e2 : cnt (fun b => u.testBit b && !decide (j = b)) 8 = cnt (fun b => (clr u j).testBit b) 8 := cnt_cong 8 (fun b hb => by rw [clr_bit (by omega)])
  refine ⟨fun b hs => ?_, fun b hs => ?_, by omega, hn⟩
  · by_cases q : b = j
    · subst q
      rw [nupd_eq, nupd_eq]
      refine ⟨hj, hS, h4 i hi hr, hi, hb.1, by omega, ?_⟩
      cases hL : L i with
      | none => exact Or.inl rfl
      | some b' =>
        have hs' := h6 i b' hi hr hL
        have hne : b' ≠ b := fun z => by rw [z, hn] at hs'; cases hs'
        refine Or.inr ⟨b', rfl, (Snf_clr hj hS).mpr (Or.inl hs'), ?_⟩
        rw [nupd_ne hne]
        exact (h2 b' hs').2
    · rcases (Snf_clr hj hS).mp hs with hs' | hs'
      · obtain ⟨a1, a2, a3, a4, a5, a6, a7⟩ := h1 b hs'
        rw [nupd_ne q, nupd_ne q]
        refine ⟨a1, a2, a3, a4, a5, a6, ?_⟩
        rcases a7 with a7 | ⟨b', a7, a8, a9⟩
        · exact Or.inl a7
        · have hne : b' ≠ j := fun z => by rw [z, hn] at a8; cases a8
          exact Or.inr ⟨b', a7, (Snf_clr hj hS).mpr (Or.inl a8), by rw [nupd_ne hne]; exact a9⟩
      · exact absurd hs' q
  · by_cases q : b = j
    · subst q
      rw [nupd_eq, nupd_eq, upd_eq]
      exact ⟨rfl, by omega⟩
    · rcases (Snf_clr hj hS).mp hs with hs' | hs'
      · obtain ⟨a1, a2⟩ := h2 b hs'
        rw [nupd_ne q, nupd_ne q, upd_ne q]
        exact ⟨a1, by omega⟩
      · exact absurd hs' q
/-- a right person is seen, whose partner then waits -/
theorem fi_see {W : Nat → Nat} {L R : Nat → Option Nat} {f S u wt rl i j nn a2 : Nat} {sf : Nat → Int32} {sl t : Nat → Nat} (hm : mt W L R) (hsb : sub f S L R) (hF : fi W L R f S u wt rl sf sl t nn) (hi : i < 8) (hr : rl.testBit i = true) (hj : j < 8) (hb : (W i &&& u).testBit j = true) (ha2 : R j = some a2) :
    fi W L R f S (clr u j) (wt ||| (1 <<< a2)) (rl ||| (1 <<< a2)) (upd sf j (nI i)) (nupd sl j i) (nupd t j nn) (nn + 1) := by
  obtain ⟨c1, c2, c3, c4⟩ := ch_see hF hi hr hj hb
  obtain ⟨h1, h2, h3, h4, h5, h6, h7, h8, h9, h10⟩ := hF
  rw [Nat.testBit_and, Bool.and_eq_true] at hb
  have hS := h10 j hj hb.2
  obtain ⟨k1, k2⟩ := hm.2 j a2 hj ha2
  refine ⟨c1, c2, fun b hs => ?_, fun a ha h => ?_, fun a q1 q2 q3 => ?_, fun a b ha h e => ?_, fun a ha h => ?_, c3, ⟨clr_lt h9.1, or_lt h9.2.1 (sh_lt k1), or_lt h9.2.2 (sh_lt k1)⟩, fun b hb8 h => ?_⟩
  · rcases (Snf_clr hj hS).mp hs with hs' | rfl
    · obtain ⟨a, q1, q2⟩ := h3 b hs'
      exact ⟨a, q1, by rw [or_bit, q2]; rfl⟩
    · exact ⟨a2, ha2, by rw [or_bit, decide_eq_true rfl]; simp⟩
  · rw [or_bit, Bool.or_eq_true] at h
    rcases h with h | h
    · exact h4 a ha h
    · rw [← of_decide_eq_true h]
      exact hsb.2 j a2 hj hS ha2
  · rw [or_bit, h5 a q1 q2 q3]; rfl
  · rw [or_bit, Bool.or_eq_true] at h
    rcases h with h | h
    · exact (Snf_clr hj hS).mpr (Or.inl (h6 a b ha h e))
    · rw [← of_decide_eq_true h, k2] at e
      cases e
      exact (Snf_clr hj hS).mpr (Or.inr rfl)
  · rw [or_bit, Bool.or_eq_true] at h ⊢
    rcases h with h | h
    · exact Or.inl (h7 a ha h)
    · exact Or.inr h
  · rw [clr_bit (by omega), Bool.and_eq_true] at h
    exact h10 b hb8 h.1
theorem see_new {W : Nat → Nat} {L R : Nat → Option Nat} {f S u wt rl i j nn a2 : Nat} {sf : Nat → Int32} {sl t : Nat → Nat} (hm : mt W L R) (hF : fi W L R f S u wt rl sf sl t nn) (hj : j < 8) (hb : (W i &&& u).testBit j = true) (ha2 : R j = some a2) : a2 < 8 ∧ rl.testBit a2 = false := by
  obtain ⟨h1, h2, h3, h4, h5, h6, h7, h8, h9, h10⟩ := hF
  obtain ⟨k1, k2⟩ := hm.2 j a2 hj ha2
  refine ⟨k1, ?_⟩
  cases hq : rl.testBit a2 with
  | false => rfl
  | true =>
    have := (Snf_e (h6 a2 j k1 hq k2)).2.2
    rw [Nat.testBit_and, this] at hb
    simp at hb
theorem clo_see {W : Nat → Nat} {S u wt rl i j a2 : Nat} (hj : j < 8) (hS : S.testBit j = true) (hn : rl.testBit a2 = false) (h : clo W S u rl wt i j) : clo W S (clr u j) (rl ||| (1 <<< a2)) (wt ||| (1 <<< a2)) i (j + 1) := by
  intro a b ha h1 h2 hb8 h3 h4 h5
  rw [or_bit, Bool.or_eq_false_iff] at h2
  rw [or_bit, h2.2, Bool.or_false] at h1
  by_cases q : b = j
  · exact (Snf_clr hj hS).mpr (Or.inr q)
  · exact (Snf_clr hj hS).mpr (Or.inl (h a b ha h1 h2.1 hb8 h3 h4 (h5.elim Or.inl (fun z => Or.inr (by omega)))))
theorem pcn_see {rl wt a2 : Nat} (hn : rl.testBit a2 = false) : pcn (rl ||| (1 <<< a2)) (wt ||| (1 <<< a2)) = pcn rl wt := by
  refine cnt_cong 8 (fun a ha => ?_)
  rw [or_bit, or_bit]
  by_cases q : a2 = a
  · subst q; rw [hn, decide_eq_true rfl]; simp
  · rw [decide_eq_false q]; simp
theorem clo_done {W : Nat → Nat} {S u rl wt i : Nat} (h : clo W S u rl wt i 8) : clo W S u rl wt 8 0 := fun a b ha h1 h2 hb8 h3 h4 _ => h a b ha h1 h2 hb8 h3 h4 (Or.inr hb8)
theorem fi_closed {W : Nat → Nat} {L R : Nat → Option Nat} {f S u wt rl nn : Nat} {sf : Nat → Int32} {sl t : Nat → Nat} (hF : fi W L R f S u wt rl sf sl t nn) (hC : clo W S u rl wt 8 0) (h0 : wt = 0) : closed W L R f S rl (Snf S u) := by
  obtain ⟨h1, h2, h3, h4, h5, h6, h7, h8, h9, h10⟩ := hF
  subst h0
  exact ⟨h4, h5, fun a b ha hr hb hS hW => hC a b ha hr (Nat.zero_testBit a) hb hS hW (Or.inl (by omega)), h3, h6⟩
theorem fi_wt0 {W : Nat → Nat} {L R : Nat → Option Nat} {f S u wt rl nn : Nat} {sf : Nat → Int32} {sl t : Nat → Nat} (hF : fi W L R f S u wt rl sf sl t nn) (hp : 8 ≤ pcn rl wt) : wt = 0 := by
  obtain ⟨h1, h2, h3, h4, h5, h6, h7, h8, h9, h10⟩ := hF
  refine bit0 h9.2.1 (fun a ha => ?_)
  have hle := cnt_le (fun a => rl.testBit a && !wt.testBit a) 8
  have := cnt_full (fun a => rl.testBit a && !wt.testBit a) 8 (Nat.le_antisymm hle hp) a ha
  simp only [Bool.and_eq_true, Bool.not_eq_true'] at this
  exact this.2
theorem pmask_0 (f : Nat → Bool) : ∀ n, (∀ k, k < n → f k = false) → pmask f n = 0
  | 0, _ => rfl
  | n + 1, h => by
    simp only [pmask]
    rw [if_neg (by rw [h n (by omega)]; decide)]
    exact pmask_0 f n (fun k hk => h k (by omega))
theorem cntT_upd {p p' : Nat → Bool} {k : Nat} (he : ∀ a, a ≠ k → p a = p' a) (hk : k < 8) : ∀ n, n ≤ 8 → 8 - n ≤ k → cntT p' n + (if p k = true then 1 else 0) = cntT p n + (if p' k = true then 1 else 0)
  | 0, _, h => by omega
  | n + 1, hn, h => by
    simp only [cntT]
    by_cases q : 7 - n = k
    · rw [q, cntT_cong n (by omega) (fun a h1 h2 => he a (by omega))]
      omega
    · have := cntT_upd he hk n (by omega) (by omega)
      rw [he (7 - n) q]
      omega
theorem fstU_cong {p q : Nat → Bool} : ∀ n, (∀ k, k < n → p k = q k) → fstU p n = fstU q n
  | 0, _ => rfl
  | n + 1, h => by
    simp only [fstU]
    rw [fstU_cong n (fun k hk => h k (by omega))]
    simp only [h n (Nat.lt_succ_self n)]
theorem sp_cong {E E' : Nat → Nat → Bool} (h : ∀ a b, a < 8 → b < 8 → E a b = E' a b) : ∀ a, a ≤ 8 → stS E a = stS E' a ∧ (a < 8 → spE E a = spE E' a) := by
  have h0 : ∀ a S, a < 8 → spS E a S = spS E' a S := fun a S ha => by
    refine fstU_cong 8 (fun j hj => ?_)
    rw [h a j ha hj, szN_cong (E := E) (E' := E') (7 - a) _ (by omega) (fun x y _ hx hy => h x y hx hy), szN_cong (E := E) (E' := E') (8 - a) _ (by omega) (fun x y _ hx hy => h x y hx hy)]
  intro a
  induction a with
  | zero => intro _; exact ⟨rfl, fun _ => h0 0 255 (by omega)⟩
  | succ a ih =>
    intro ha
    obtain ⟨h1, h2⟩ := ih (by omega)
    have e : stS E (a + 1) = stS E' (a + 1) := by
      simp only [stS]
      rw [h1, h0 a _ (by omega)]
    exact ⟨e, fun hl => by unfold spE; rw [e]; exact h0 _ _ hl⟩
