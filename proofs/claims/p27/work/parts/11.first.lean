def HW (W : Nat → Nat) : Prop := ∃ (L R : Nat → Option Nat) (rl : Nat) (Sn : Nat → Bool) (sl t : Nat → Nat), mt W L R ∧ closed W L R 0 255 rl Sn ∧ ch W L 0 255 Sn sl t
theorem b255 : ∀ b, b < 8 → (255 : Nat).testBit b = true := by decide
theorem sub_all {W : Nat → Nat} {L R : Nat → Option Nat} (hm : mt W L R) : sub 0 255 L R := ⟨fun a b _ ha e => b255 b (hm.1 a b ha e).1, fun _ _ _ _ _ => Nat.zero_le _⟩
theorem mt_none (W : Nat → Nat) : mt W (fun _ => none) (fun _ => none) := ⟨fun a b _ e => (by cases e), fun a b _ e => (by cases e)⟩
theorem ao_fill (ol : Nat → Int32) : ao (fillF ol (-5) 8) (fun _ => none) := fun a ha => fillF_in ha
theorem cntT_none : ∀ n, cntT (fun _ => (none : Option Nat).isSome) n = 0
  | 0 => rfl
  | n + 1 => by
    simp only [cntT]
    rw [cntT_none n]; rfl
theorem dom_add {L L2 : Nat → Option Nat} {f a0 n : Nat} (h1 : f ≤ a0) (h2 : a0 < 8) (h3 : L a0 = none) (h4 : ∀ a, a < 8 → (L2 a).isSome = ((L a).isSome || decide (a = a0))) (hn : n = 8 - f) : cntT (fun x => (L2 x).isSome) n = cntT (fun x => (L x).isSome) n + 1 := by
  subst hn
  have e := cntT_upd (p := fun x => (L x).isSome) (p' := fun x => ((L x).isSome || decide (x = a0))) (k := a0) (fun x hx => by rw [decide_eq_false hx, Bool.or_false]) h2 (8 - f) (by omega) (by omega)
  rw [h3] at e
  simp only [Option.isSome_none, Bool.false_eq_true, if_false, decide_true, Bool.or_true, if_true] at e
  rw [cntT_cong (p := fun x => (L2 x).isSome) (q := fun x => ((L x).isSome || decide (x = a0))) (8 - f) (by omega) (fun x _ hx => h4 x hx)]
  omega
def PPf (E : Nat → Nat → Bool) (i u x : Nat) : Bool := (E i x && u.testBit x) && decide (1 + szN E (7 - i) (clr u x) = szN E (8 - i) u)
theorem sub_next {W : Nat → Nat} {L R : Nat → Option Nat} {i u y : Nat} (hm : mt W L R) (hs : sub i u L R) (hi : i < 8) (e : L i = some y) : sub (i + 1) (clr u y) L R := by
  have hy := hm.1 i y hi e
  constructor
  · intro a b h1 ha e2
    have hb := hm.1 a b ha e2
    have : ¬ y = b := fun z => by
      rw [z, hb.2.1] at hy
      have := Option.some.inj hy.2.1
      omega
    rw [clr_bit (by omega), hs.1 a b (by omega) ha e2, decide_eq_false this]; rfl
  · intro b a hb hS e2
    rw [clr_bit (by omega), Bool.and_eq_true] at hS
    have h1 := hs.2 b a hb hS.1 e2
    by_cases q : a = i
    · subst q
      have := (hm.2 b a hb e2).2
      rw [e] at this
      cases this
      rw [decide_eq_true rfl] at hS
      cases hS.2
    · omega
theorem sub_next0 {W : Nat → Nat} {L R : Nat → Option Nat} {i u : Nat} (hm : mt W L R) (hs : sub i u L R) (e : L i = none) : sub (i + 1) u L R := by
  constructor
  · intro a b h1 ha e2
    exact hs.1 a b (by omega) ha e2
  · intro b a hb hS e2
    have h1 := hs.2 b a hb hS e2
    by_cases q : a = i
    · subst q
      rw [(hm.2 b a hb e2).2] at e; cases e
    · omega
theorem sz_one {E : Nat → Nat → Bool} {i u y : Nat} (hi : i < 8) (hy : y < 8) (h1 : E i y = true) (h2 : u.testBit y = true) : 1 + szN E (7 - i) (clr u y) ≤ szN E (8 - i) u := by
  obtain ⟨m, hm⟩ : ∃ m, 8 - i = m + 1 := ⟨7 - i, by omega⟩
  rw [hm, show 7 - i = m by omega]
  simp only [szN]
  exact bstF_ge (fun j => E (7 - m) j && u.testBit j) (fun j => 1 + szN E m (clr u j)) (szN E m u) 8 y hy (by rw [show 7 - m = i by omega]; simp only [h1, h2, Bool.and_self])
theorem sz_zero {E : Nat → Nat → Bool} {i u : Nat} (hi : i < 8) : szN E (7 - i) u ≤ szN E (8 - i) u := by
  obtain ⟨m, hm⟩ : ∃ m, 8 - i = m + 1 := ⟨7 - i, by omega⟩
  rw [hm, show 7 - i = m by omega]
  simp only [szN]
  exact bstF_b0 _ _ _ 8
theorem PP_t {W : Nat → Nat} {L R : Nat → Option Nat} {i u y : Nat} (hm : mt W L R) (hs : sub i u L R) (hi : i < 8) (e : L i = some y) (hcn : szN (Ew W) (8 - i) u = cntT (fun x => (L x).isSome) (8 - i)) : PPf (Ew W) i u y = true ∧ szN (Ew W) (7 - i) (clr u y) = cntT (fun x => (L x).isSome) (7 - i) := by
  obtain ⟨h1, h2, h3⟩ := hm.1 i y hi e
  have hb := hs.1 i y (Nat.le_refl _) hi e
  have a1 := sz_one (E := Ew W) hi h1 h3 hb
  have a2 := mt_le hm (sub_next hm hs hi e) (show i + 1 ≤ 8 by omega)
  rw [show 8 - (i + 1) = 7 - i by omega] at a2
  have a3 := cntT_succ (p := fun x => (L x).isSome) hi
  rw [if_pos (show (L i).isSome = true by rw [e]; rfl)] at a3
  refine ⟨?_, by omega⟩
  simp only [PPf, Bool.and_eq_true, decide_eq_true_eq]
  exact ⟨⟨h3, hb⟩, by omega⟩
theorem sp_fin {W : Nat → Nat} {L R : Nat → Option Nat} {i u j : Nat} {sd : Bool} (hm : mt W L R) (hu : u = stS (Ew W) i) (hs : sub i u L R) (hi : i < 8) (hcn : szN (Ew W) (8 - i) u = cntT (fun x => (L x).isSome) (8 - i)) (h1 : sd = true → 0 < j ∧ L i = some (j - 1) ∧ ∀ x, x < j - 1 → PPf (Ew W) i u x = false) (h0 : sd = false → ∀ x, x < j → PPf (Ew W) i u x = false ∧ L i ≠ some x) (hx : j = 8 ∨ L i = some j ∨ sd = true) : L i = spE (Ew W) i := by
  have key : ∀ y, L i = some y → (∀ x, x < y → PPf (Ew W) i u x = false) → L i = spE (Ew W) i := fun y e hf => by
    rw [e]
    refine ((fstU_some _ 8 y).mpr ⟨(hm.1 i y hi e).1, ?_, ?_⟩).symm
    · have := (PP_t hm hs hi e hcn).1
      rw [hu] at this; exact this
    · intro x hx
      have := hf x hx
      rw [hu] at this; exact this
  cases sd with
  | true =>
    obtain ⟨q1, q2, q3⟩ := h1 rfl
    exact key (j - 1) q2 q3
  | false =>
    rcases hx with q | q | q
    · subst q
      cases e : L i with
      | some y => exact absurd e (h0 rfl y (hm.1 i y hi e).1).2
      | none =>
        refine ((fstU_none _ 8).mpr (fun x hx => ?_)).symm
        have := (h0 rfl x hx).1
        rw [hu] at this; exact this
    · exact key j q (fun x hx => (h0 rfl x hx).1)
    · cases q
theorem st_none {E : Nat → Nat → Bool} {i : Nat} (h : spE E i = none) : stS E (i + 1) = stS E i := by
  simp only [stS]
  rw [show spS E i (stS E i) = none from h]
theorem st_some {E : Nat → Nat → Bool} {i y : Nat} (h : spE E i = some y) : stS E (i + 1) = clr (stS E i) y := by
  simp only [stS]
  rw [show spS E i (stS E i) = some y from h]
theorem cn_none {W : Nat → Nat} {L R : Nat → Option Nat} {i u : Nat} (hm : mt W L R) (hs : sub i u L R) (hi : i < 8) (e : L i = none) (hcn : szN (Ew W) (8 - i) u = cntT (fun x => (L x).isSome) (8 - i)) : szN (Ew W) (8 - (i + 1)) u = cntT (fun x => (L x).isSome) (8 - (i + 1)) := by
  have a1 := sz_zero (E := Ew W) (u := u) hi
  have a2 := mt_le hm (sub_next0 hm hs e) (show i + 1 ≤ 8 by omega)
  have a3 := cntT_succ (p := fun x => (L x).isSome) hi
  rw [if_neg (show ¬ (L i).isSome = true by rw [e]; decide)] at a3
  rw [show 8 - (i + 1) = 7 - i by omega] at a2 ⊢
  omega
theorem no_free {W : Nat → Nat} {L R : Nat → Option Nat} {Sn : Nat → Bool} {sl t : Nat → Nat} {b : Nat} (hm : mt W L R) (hc : ch W L 0 255 Sn sl t) (hs : Sn b = true) (hr : R b = none) (hmax : szN (Ew W) 8 255 = cntT (fun x => (L x).isSome) 8) : False := by
  obtain ⟨L2, R2, a0, q1, q2, q3, q4⟩ := alm_all hc (t b + 1) b L R (by omega) (alm_start hm hs hr)
  have h1 := mt_le q1 (sub_all q1) (show 0 ≤ 8 by omega)
  have h2 := dom_add (n := 8) (Nat.zero_le a0) q2 q3 (fun a _ => q4 a) rfl
  have h3 : cntT (fun x => (L2 x).isSome) 8 ≤ szN (Ew W) 8 255 := h1
  omega
theorem pmask_cong {f g : Nat → Bool} : ∀ n, (∀ k, k < n → f k = g k) → pmask f n = pmask g n
  | 0, _ => rfl
  | n + 1, h => by
    simp only [pmask]
    rw [pmask_cong n (fun k hk => h k (by omega))]
    simp only [h n (Nat.lt_succ_self n)]
theorem PP_f1 {W : Nat → Nat} {i u j : Nat} (h : (W i &&& u).testBit j = false) : PPf (Ew W) i u j = false := by
  rw [Nat.testBit_and] at h
  simp only [PPf, h, Bool.false_and]
theorem PP_f2 {W : Nat → Nat} {i u j : Nat} (h : ¬ (1 + szN (Ew W) (7 - i) (clr u j) = szN (Ew W) (8 - i) u)) : PPf (Ew W) i u j = false := by
  simp only [PPf, decide_eq_false h, Bool.and_false]
theorem mt_ext {W : Nat → Nat} {L L2 R : Nat → Option Nat} (hm : mt W L R) (h : ∀ a, a < 8 → L a = L2 a) : mt W L2 R :=
  ⟨fun a b ha e => hm.1 a b ha ((h a ha).trans e), fun b a hb e => ⟨(hm.2 b a hb e).1, (h a (hm.2 b a hb e).1).symm.trans (hm.2 b a hb e).2⟩⟩
abbrev mtcW (cI cC : ClassId) (h0 h1 h2 h3 h4 k0 k1 : Nat) (wi : Nat → Int32) (ol : Nat → Int32) (orr : Nat → Int32) (sf : Nat → Int32) (rl : Int32) (c : Nat → Int32) : va_W := [(h0, .inr (2, [.ref h1, .ref h2, .ref h3, .ref h4, .int rl])), (h1, .inl (cI, 8, .inl wi)), (h2, .inl (cI, 8, .inl ol)), (h3, .inl (cI, 8, .inl orr)), (h4, .inl (cI, 8, .inl sf)), (k0, .inr (0, [.ref k1])), (k1, .inl (cI, 154, .inl c))]
abbrev rm_X2_takeGreatest : Room := { frames := 3, cells := 0, slots := 0, locals := 76 }
theorem yd_X2_takeGreatest : yX2_takeGreatest.cls = RX2 ∧ yX2_takeGreatest.cls ≠ "java/lang/invoke/MethodHandle" ∧ yX2_takeGreatest.cls ≠ "java/lang/invoke/VarHandle" ∧ (parseMethodDescriptor yX2_takeGreatest.desc).map (fun d => d.parameters.length) = some 1 := by decide +kernel
theorem in_X2_takeGreatest_X2 : ∀ w ∈ u_ws RX2 TX2 5, w ∈ wsX2_takeGreatest := by decide +kernel
theorem fl_X2_takeGreatest_9 : Cond.fieldLink RX2 9 "FenceHandshakes$Matching" "wished" "[I" ∈ wsX2_takeGreatest := by decide +kernel
theorem fl_X2_takeGreatest_15 : Cond.fieldLink RX2 15 "FenceHandshakes$Matching" "ofLeft" "[I" ∈ wsX2_takeGreatest := by decide +kernel
theorem fl_X2_takeGreatest_18 : Cond.fieldLink RX2 18 "FenceHandshakes$Matching" "ofRight" "[I" ∈ wsX2_takeGreatest := by decide +kernel
set_option maxHeartbeats 4000000 in
set_option maxRecDepth 100000 in
theorem m_X2_takeGreatest (l : Launch) (D : va_G) (cI cC : ClassId) (h0 h1 h2 h3 h4 k0 k1 : Nat) (wi : Nat → Int32) (ol : Nat → Int32) (orr : Nat → Int32) (sf : Nat → Int32) (c : Nat → Int32) (rl : Nat) (hc : cOK c) (hrl : rl < 256) : g_M l yX2_takeGreatest wsX2_takeGreatest rm_X2_takeGreatest D cI cC [.ref h0, .ref k0] (mtcW cI cC h0 h1 h2 h3 h4 k0 k1 wi ol orr sf (nI rl) c) (fun vv ww => ∃ (wi2 : Nat → Int32) (ol2 : Nat → Int32) (orr2 : Nat → Int32) (sf2 : Nat → Int32) (rl2 : Nat) (L2 : Nat → Option Nat) (R2 : Nat → Option Nat), vv = none ∧ ww = (mtcW cI cC h0 h1 h2 h3 h4 k0 k1 wi2 ol2 orr2 sf2 (nI rl2) c) ∧ (∀ a, a < 8 → wi2 a = nI (pmask (poC c a) 8)) ∧ (ao ol2 L2 ∧ ao orr2 R2 ∧ mt (cN wi2) L2 R2 ∧ rl2 < 256) ∧ szN (Ew (cN wi2)) 8 255 = cntT (fun x => (L2 x).isSome) 8) := by
  refine g_entry (lv := [(0, .ref h0), (1, .ref k0)]) (own := RX2) (by decide) rfl rfl (Nat.le_of_ble_eq_true rfl) rfl ?_
  intro p e s m args below meth co A Q C hr hQ
  refine g_aload_n (pc := 0) C dX2_takeGreatest_0 0 rfl rfl ?_
  refine g_get (pc := 1) (ci := 2) (T := TX2) (N := 5) (v := .ref h1) C in_X2_takeGreatest_X2 0 rfl rfl 0 (by decide) fl_X2_takeGreatest_9 rfl rfl dX2_takeGreatest_1 ?_
  refine g_iconst (pc := 4) (v := nI 0) C dX2_takeGreatest_4 (by decide) ?_
  refine g_callS (pc := 5) (st := []) (As := [.ref h1, .int (nI 0)]) (nn := 2) C (m_J7_fill_53178 l D cI cC h1 8 wi (nI 0) (by first | assumption | omega)) gX2_takeGreatest_J7_fill_53178 rfl rfl rfl yd_J7_fill_53178.2 ⟨Nat.le_of_ble_eq_true rfl, Nat.le_of_ble_eq_true rfl⟩ rfl [1] rfl rfl rfl (Nat.le_of_ble_eq_true rfl) ⟨Nat.le_of_ble_eq_true rfl, Nat.le_of_ble_eq_true rfl⟩ dX2_takeGreatest_5 ?_
  rintro _ _ ⟨rfl, rfl⟩
  refine g_eq (ws' := (mtcW cI cC h0 h1 h2 h3 h4 k0 k1 (fillF wi (nI 0) 8) ol orr sf (nI rl) c)) (st' := []) rfl rfl ?_
  refine g_aload_n (pc := 8) C dX2_takeGreatest_8 0 rfl rfl ?_
  refine g_get (pc := 9) (ci := 2) (T := TX2) (N := 5) (v := .ref h2) C in_X2_takeGreatest_X2 0 rfl rfl 1 (by decide) fl_X2_takeGreatest_15 rfl rfl dX2_takeGreatest_9 ?_
  refine g_bipush (pc := 12) (v := (-5)) C dX2_takeGreatest_12 (by decide) ?_
  refine g_callS (pc := 14) (st := []) (As := [.ref h2, .int (-5)]) (nn := 2) C (m_J7_fill_53178 l D cI cC h2 8 ol (-5) (by first | assumption | omega)) gX2_takeGreatest_J7_fill_53178 rfl rfl rfl yd_J7_fill_53178.2 ⟨Nat.le_of_ble_eq_true rfl, Nat.le_of_ble_eq_true rfl⟩ rfl [2] rfl rfl rfl (Nat.le_of_ble_eq_true rfl) ⟨Nat.le_of_ble_eq_true rfl, Nat.le_of_ble_eq_true rfl⟩ dX2_takeGreatest_14 ?_
  rintro _ _ ⟨rfl, rfl⟩
  refine g_eq (ws' := (mtcW cI cC h0 h1 h2 h3 h4 k0 k1 (fillF wi (nI 0) 8) (fillF ol (-5) 8) orr sf (nI rl) c)) (st' := []) rfl rfl ?_
  refine g_aload_n (pc := 17) C dX2_takeGreatest_17 0 rfl rfl ?_
  refine g_get (pc := 18) (ci := 2) (T := TX2) (N := 5) (v := .ref h3) C in_X2_takeGreatest_X2 0 rfl rfl 2 (by decide) fl_X2_takeGreatest_18 rfl rfl dX2_takeGreatest_18 ?_
  refine g_bipush (pc := 21) (v := (-5)) C dX2_takeGreatest_21 (by decide) ?_
  refine g_callS (pc := 23) (st := []) (As := [.ref h3, .int (-5)]) (nn := 2) C (m_J7_fill_53178 l D cI cC h3 8 orr (-5) (by first | assumption | omega)) gX2_takeGreatest_J7_fill_53178 rfl rfl rfl yd_J7_fill_53178.2 ⟨Nat.le_of_ble_eq_true rfl, Nat.le_of_ble_eq_true rfl⟩ rfl [3] rfl rfl rfl (Nat.le_of_ble_eq_true rfl) ⟨Nat.le_of_ble_eq_true rfl, Nat.le_of_ble_eq_true rfl⟩ dX2_takeGreatest_23 ?_
  rintro _ _ ⟨rfl, rfl⟩
  refine g_eq (ws' := (mtcW cI cC h0 h1 h2 h3 h4 k0 k1 (fillF wi (nI 0) 8) (fillF ol (-5) 8) (fillF orr (-5) 8) sf (nI rl) c)) (st' := []) rfl rfl ?_
  refine g_iconst (pc := 26) (v := nI 0) C dX2_takeGreatest_26 (by decide) ?_
  refine g_istore_n (pc := 27) (lv' := [(2, .int (nI 0)), (0, .ref h0), (1, .ref k0)]) C dX2_takeGreatest_27 rfl (by decide) rfl ?_
  have L28 : ∀ (NZ : Nat) (i : Nat) (wi1 : Nat → Int32), 8 - i < NZ → (i ≤ 8) → (∀ a, a < i → wi1 a = nI (pmask (poC c a) 8)) → (∀ a, i ≤ a → a < 8 → wi1 a = nI 0) → g_J p l e rm_X2_takeGreatest s m args below meth co Q D A 4 0 0 (mtcW cI cC h0 h1 h2 h3 h4 k0 k1 wi1 (fillF ol (-5) 8) (fillF orr (-5) 8) sf (nI rl) c) 28 [(0, .ref h0), (1, .ref k0), (2, .int (nI i))] [] := by
    intro NZ
    induction NZ with
    | zero => intro i wi1 hN; exact absurd hN (Nat.not_lt_zero _)
    | succ NZ ih28 =>
      intro i wi1 hN28 hi hV hZ
      refine g_iload_n (pc := 28) C dX2_takeGreatest_28 2 rfl rfl ?_
      refine g_bipush (pc := 29) (v := nI 8) C dX2_takeGreatest_29 (by decide) ?_
      refine g_icmp_geN (pc := 31) C 75 (by omega) (by omega) dX2_takeGreatest_31 (by decide) (fun c31 => ?_) (fun c31 => ?_)
      · have hV8 : ∀ a, a < 8 → wi1 a = nI (pmask (poC c a) 8) := fun a h => hV a (by omega)
        have haw : aw wi1 := fun a h => by have e1 : cN wi1 a = pmask (poC c a) 8 := (by rw [cN, hV8 a h]; exact nI_clamp (Nat.lt_trans (pmask_lt _ 8) (by decide))); rw [e1]; exact ⟨hV8 a h, pmask_lt _ 8⟩
        refine g_iconst (pc := 75) (v := nI 0) C dX2_takeGreatest_75 (by decide) ?_
        refine g_istore_n (pc := 76) (lv' := [(2, .int (nI 0)), (0, .ref h0), (1, .ref k0)]) C dX2_takeGreatest_76 rfl (by decide) rfl ?_
        have L77 : ∀ (NZ : Nat) (k : Nat) (ol1 : Nat → Int32) (orr1 : Nat → Int32) (sf1 : Nat → Int32) (rl1 : Nat) (L1 : Nat → Option Nat) (R1 : Nat → Option Nat), 8 - k < NZ → (k ≤ 8) → (ao ol1 L1) → (ao orr1 R1) → (mt (cN wi1) L1 R1) → (rl1 < 256) → (k = cntT (fun x => (L1 x).isSome) 8) → g_J p l e rm_X2_takeGreatest s m args below meth co Q D A 4 0 0 (mtcW cI cC h0 h1 h2 h3 h4 k0 k1 wi1 ol1 orr1 sf1 (nI rl1) c) 77 [(0, .ref h0), (1, .ref k0), (2, .int (nI k))] [] := by
          intro NZ
          induction NZ with
          | zero => intro k ol1 orr1 sf1 rl1 L1 R1 hN; exact absurd hN (Nat.not_lt_zero _)
          | succ NZ ih77 =>
            intro k ol1 orr1 sf1 rl1 L1 R1 hN77 hk hA hB hm1 hrl1 hcn
            refine g_iload_n (pc := 77) C dX2_takeGreatest_77 2 rfl rfl ?_
            refine g_bipush (pc := 78) (v := nI 8) C dX2_takeGreatest_78 (by decide) ?_
            refine g_icmp_geN (pc := 80) C 100 (by omega) (by omega) dX2_takeGreatest_80 (by decide) (fun c80 => ?_) (fun c80 => ?_)
            · exact g_vret C hr hQ dX2_takeGreatest_100 rfl ⟨_, _, _, _, _, L1, R1, rfl, rfl, hV8, ⟨hA, hB, hm1, hrl1⟩, Nat.le_antisymm (by rw [← hcn]; exact Nat.le_trans (szN_le _ 8 255 (Nat.le_refl _)) c80) (mt_le hm1 (sub_all hm1) (Nat.zero_le _))⟩
            · refine g_aload_n (pc := 83) C dX2_takeGreatest_83 0 rfl rfl ?_
              refine g_iconst (pc := 84) (v := nI 0) C dX2_takeGreatest_84 (by decide) ?_
              refine g_sipush (pc := 85) (v := nI 255) C dX2_takeGreatest_85 (by decide) ?_
              refine g_callV (pc := 88) (st := []) (As := [.int (nI 0), .int (nI 255)]) (nn := 2) (ci := 2) (q0 := 0) C (m_X2_growsByOne l D cI cC h0 h1 h2 h3 h4 wi1 ol1 orr1 sf1 rl1 L1 R1 0 255 (haw) (hA) (hB) (hm1) (sub_all hm1) (by first | assumption | omega) (by decide)) gX2_takeGreatest_X2_growsByOne rfl rfl rfl yd_X2_growsByOne ⟨Nat.le_of_ble_eq_true rfl, Nat.le_of_ble_eq_true rfl⟩ rfl [0, 1, 2, 3, 4] rfl rfl rfl rfl rfl (Nat.le_of_ble_eq_true rfl) ⟨Nat.le_of_ble_eq_true rfl, Nat.le_of_ble_eq_true rfl⟩ dX2_takeGreatest_88 ?_
              rintro _ _ ⟨q3, ol3, orr3, sf3, rl3, L3, R3, rfl, rfl, G1, G2, G3⟩
              refine g_eq (ws' := (mtcW cI cC h0 h1 h2 h3 h4 k0 k1 wi1 ol3 orr3 sf3 (nI rl3) c)) (st' := [.int (bI q3)]) rfl rfl ?_
              refine g_if_eqB (pc := 91) C 100 dX2_takeGreatest_91 (by decide) (fun c91 => ?_) (fun c91 => ?_)
              · exact g_vret C hr hQ dX2_takeGreatest_100 rfl ⟨_, _, _, _, _, L3, R3, rfl, rfl, hV8, G1, by obtain ⟨e1, e2, e3⟩ := G2 c91; rw [e1]; rw [e1, e2] at G1; exact Nat.le_antisymm e3 (mt_le G1.2.2.1 (sub_all G1.2.2.1) (Nat.zero_le _))⟩
              · refine g_iinc (pc := 94) (lv' := [(2, .int (nI (k + 1))), (0, .ref h0), (1, .ref k0)]) C dX2_takeGreatest_94 2 rfl (nI_add k 1) (by decide) rfl ?_
                refine g_goto (pc := 97) C 77 dX2_takeGreatest_97 (by decide) ?_
                refine g_lvp (lv' := [(0, .ref h0), (1, .ref k0), (2, .int (nI (k + 1)))]) [1, 2, 0] rfl ?_
                exact ih77 (k + 1) ol3 orr3 sf3 rl3 L3 R3 (by omega) (by first | assumption | omega) (G1.1) (G1.2.1) (G1.2.2.1) (G1.2.2.2) (by obtain ⟨_, _, a0, w3, w4, w5, w6⟩ := G3 c91; rw [dom_add (n := 8) w3 w4 w5 w6 rfl, hcn])
        refine g_lvp (lv' := [(0, .ref h0), (1, .ref k0), (2, .int (nI 0))]) [1, 2, 0] rfl ?_
        exact L77 _ 0 (fillF ol (-5) 8) (fillF orr (-5) 8) sf rl (fun _ => none) (fun _ => none) (Nat.lt_succ_self _) (by first | assumption | omega) (ao_fill ol) (ao_fill orr) (mt_none _) (by first | assumption | omega) ((cntT_none 8).symm)
      · refine g_iconst (pc := 34) (v := nI 0) C dX2_takeGreatest_34 (by decide) ?_
        refine g_istore_n (pc := 35) (lv' := [(3, .int (nI 0)), (0, .ref h0), (1, .ref k0), (2, .int (nI i))]) C dX2_takeGreatest_35 rfl (by decide) rfl ?_
        have L36 : ∀ (NZ : Nat) (j : Nat) (wi1 : Nat → Int32), 8 - j < NZ → (j ≤ 8) → (∀ a, a < i → wi1 a = nI (pmask (poC c a) 8)) → (wi1 i = nI (pmask (poC c i) j)) → (∀ a, i < a → a < 8 → wi1 a = nI 0) → g_J p l e rm_X2_takeGreatest s m args below meth co Q D A 4 0 0 (mtcW cI cC h0 h1 h2 h3 h4 k0 k1 wi1 (fillF ol (-5) 8) (fillF orr (-5) 8) sf (nI rl) c) 36 [(0, .ref h0), (1, .ref k0), (2, .int (nI i)), (3, .int (nI j))] [] := by
          intro NZ
          induction NZ with
          | zero => intro j wi1 hN; exact absurd hN (Nat.not_lt_zero _)
          | succ NZ ih36 =>
            intro j wi1 hN36 hj hV hJ hY
            refine g_iload_n (pc := 36) C dX2_takeGreatest_36 3 rfl rfl ?_
            refine g_bipush (pc := 37) (v := nI 8) C dX2_takeGreatest_37 (by decide) ?_
            refine g_icmp_geN (pc := 39) C 69 (by omega) (by omega) dX2_takeGreatest_39 (by decide) (fun c39 => ?_) (fun c39 => ?_)
            · refine g_iinc (pc := 69) (lv' := [(2, .int (nI (i + 1))), (0, .ref h0), (1, .ref k0), (3, .int (nI j))]) C dX2_takeGreatest_69 2 rfl (nI_add i 1) (by decide) rfl ?_
              refine g_goto (pc := 72) C 28 dX2_takeGreatest_72 (by decide) ?_
              refine g_lvp (lv' := [(0, .ref h0), (1, .ref k0), (2, .int (nI (i + 1)))]) [1, 2, 0] rfl ?_
              exact ih28 (i + 1) wi1 (by omega) (by first | assumption | omega) (fun a h => (Nat.lt_succ_iff_lt_or_eq.mp h).elim (hV a) (fun e => by subst e; rw [show j = 8 by omega] at hJ; exact hJ)) (fun a h1 h2 => hY a (by omega) h2)
            · refine g_aload_n (pc := 42) C dX2_takeGreatest_42 1 rfl rfl ?_
              refine g_iload_n (pc := 43) C dX2_takeGreatest_43 2 rfl rfl ?_
              refine g_iload_n (pc := 44) C dX2_takeGreatest_44 3 rfl rfl ?_
              refine g_callV (pc := 45) (st := []) (As := [.int (nI i), .int (nI j)]) (nn := 2) (ci := 0) (q0 := 0) C (m_X0_isPossible l D cI cC k0 k1 c i j (by first | assumption | omega) (by first | assumption | omega) (by first | assumption | omega)) gX2_takeGreatest_X0_isPossible rfl rfl rfl yd_X0_isPossible ⟨Nat.le_of_ble_eq_true rfl, Nat.le_of_ble_eq_true rfl⟩ rfl [5, 6] rfl rfl rfl rfl rfl (Nat.le_of_ble_eq_true rfl) ⟨Nat.le_of_ble_eq_true rfl, Nat.le_of_ble_eq_true rfl⟩ dX2_takeGreatest_45 ?_
              rintro _ _ ⟨rfl, rfl⟩
              refine g_eq (ws' := (mtcW cI cC h0 h1 h2 h3 h4 k0 k1 wi1 (fillF ol (-5) 8) (fillF orr (-5) 8) sf (nI rl) c)) (st' := [.int (bI (poC c i j))]) rfl rfl ?_
              refine g_if_eqB (pc := 48) C 63 dX2_takeGreatest_48 (by decide) (fun c48 => ?_) (fun c48 => ?_)
              · refine g_iinc (pc := 63) (lv' := [(3, .int (nI (j + 1))), (0, .ref h0), (1, .ref k0), (2, .int (nI i))]) C dX2_takeGreatest_63 3 rfl (nI_add j 1) (by decide) rfl ?_
                refine g_goto (pc := 66) C 36 dX2_takeGreatest_66 (by decide) ?_
                refine g_lvp (lv' := [(0, .ref h0), (1, .ref k0), (2, .int (nI i)), (3, .int (nI (j + 1)))]) [1, 2, 3, 0] rfl ?_
                exact ih36 (j + 1) wi1 (by omega) (by first | assumption | omega) (by first | assumption | omega) (by rw [hJ]; simp only [pmask]; rw [if_neg (by rw [c48]; decide)]) (by first | assumption | omega)
              · refine g_aload_n (pc := 51) C dX2_takeGreatest_51 0 rfl rfl ?_
                refine g_get (pc := 52) (ci := 2) (T := TX2) (N := 5) (v := .ref h1) C in_X2_takeGreatest_X2 0 rfl rfl 0 (by decide) fl_X2_takeGreatest_9 rfl rfl dX2_takeGreatest_52 ?_
                refine g_iload_n (pc := 55) C dX2_takeGreatest_55 2 rfl rfl ?_
                refine g_dup2 (pc := 56) C dX2_takeGreatest_56 rfl rfl ?_
                refine g_ialdN (pc := 57) (f := wi1) C 1 rfl (by omega) (by decide) dX2_takeGreatest_57 ?_
                refine g_top (y := nI (pmask (poC c i) j)) (hJ) ?_
                refine g_iconst (pc := 58) (v := nI 1) C dX2_takeGreatest_58 (by decide) ?_
                refine g_iload_n (pc := 59) C dX2_takeGreatest_59 3 rfl rfl ?_
                refine g_ishlN (pc := 60) C (by omega) dX2_takeGreatest_60 ?_
                refine g_iorN (pc := 61) C dX2_takeGreatest_61 ?_
                refine g_iastN (pc := 62) (f := wi1) (ws' := (mtcW cI cC h0 h1 h2 h3 h4 k0 k1 (upd wi1 i (nI ((pmask (poC c i) j) ||| (1 <<< j)))) (fillF ol (-5) 8) (fillF orr (-5) 8) sf (nI rl) c)) C 1 rfl (by omega) (by decide) dX2_takeGreatest_62 rfl ?_
                refine g_iinc (pc := 63) (lv' := [(3, .int (nI (j + 1))), (0, .ref h0), (1, .ref k0), (2, .int (nI i))]) C dX2_takeGreatest_63 3 rfl (nI_add j 1) (by decide) rfl ?_
                refine g_goto (pc := 66) C 36 dX2_takeGreatest_66 (by decide) ?_
                refine g_lvp (lv' := [(0, .ref h0), (1, .ref k0), (2, .int (nI i)), (3, .int (nI (j + 1)))]) [1, 2, 3, 0] rfl ?_
                exact ih36 (j + 1) (upd wi1 i (nI ((pmask (poC c i) j) ||| (1 <<< j)))) (by omega) (by first | assumption | omega) (fun a h => by rw [upd_ne (by omega)]; exact hV a h) (by rw [upd_eq]; simp only [pmask]; rw [if_pos c48]) (fun a h1 h2 => by rw [upd_ne (by omega)]; exact hY a h1 h2)
        refine g_lvp (lv' := [(0, .ref h0), (1, .ref k0), (2, .int (nI i)), (3, .int (nI 0))]) [1, 2, 3, 0] rfl ?_
        exact L36 _ 0 wi1 (Nat.lt_succ_self _) (by first | assumption | omega) (by first | assumption | omega) (hZ i (Nat.le_refl _) (by omega)) (fun a h1 h2 => hZ a (by omega) h2)
  refine g_lvp (lv' := [(0, .ref h0), (1, .ref k0), (2, .int (nI 0))]) [1, 2, 0] rfl ?_
  exact L28 _ 0 (fillF wi (nI 0) 8) (Nat.lt_succ_self _) (by first | assumption | omega) (fun a h => absurd h (Nat.not_lt_zero _)) (fun a _ h => fillF_in h)

abbrev rm_X2_takeFirst : Room := { frames := 4, cells := 0, slots := 0, locals := 101 }
theorem yd_X2_takeFirst : yX2_takeFirst.cls = RX2 ∧ yX2_takeFirst.cls ≠ "java/lang/invoke/MethodHandle" ∧ yX2_takeFirst.cls ≠ "java/lang/invoke/VarHandle" ∧ (parseMethodDescriptor yX2_takeFirst.desc).map (fun d => d.parameters.length) = some 1 := by decide +kernel
theorem in_X2_takeFirst_X2 : ∀ w ∈ u_ws RX2 TX2 5, w ∈ wsX2_takeFirst := by decide +kernel
theorem fl_X2_takeFirst_9 : Cond.fieldLink RX2 9 "FenceHandshakes$Matching" "wished" "[I" ∈ wsX2_takeFirst := by decide +kernel
theorem fl_X2_takeFirst_15 : Cond.fieldLink RX2 15 "FenceHandshakes$Matching" "ofLeft" "[I" ∈ wsX2_takeFirst := by decide +kernel
set_option maxHeartbeats 4000000 in
set_option maxRecDepth 100000 in
theorem m_X2_takeFirst (l : Launch) (D : va_G) (cI cC : ClassId) (h0 h1 h2 h3 h4 k0 k1 : Nat) (wi : Nat → Int32) (ol : Nat → Int32) (orr : Nat → Int32) (sf : Nat → Int32) (c : Nat → Int32) (rl : Nat) (hc : cOK c) (hrl : rl < 256) : g_M l yX2_takeFirst wsX2_takeFirst rm_X2_takeFirst D cI cC [.ref h0, .ref k0] (mtcW cI cC h0 h1 h2 h3 h4 k0 k1 wi ol orr sf (nI rl) c) (fun vv ww => ∃ (wi2 : Nat → Int32) (ol2 : Nat → Int32) (orr2 : Nat → Int32) (sf2 : Nat → Int32) (rl2 : Nat) (R2 : Nat → Option Nat), vv = none ∧ ww = (mtcW cI cC h0 h1 h2 h3 h4 k0 k1 wi2 ol2 orr2 sf2 (nI rl2) c) ∧ (∀ a, a < 8 → wi2 a = nI (pmask (poC c a) 8)) ∧ (ao ol2 (spE (Ew (cN wi2))) ∧ ao orr2 R2 ∧ mt (cN wi2) (spE (Ew (cN wi2))) R2 ∧ rl2 < 256)) := by
  refine g_entry (lv := [(0, .ref h0), (1, .ref k0)]) (own := RX2) (by decide) rfl rfl (Nat.le_of_ble_eq_true rfl) rfl ?_
  intro p e s m args below meth co A Q C hr hQ
  refine g_aload_n (pc := 0) C dX2_takeFirst_0 0 rfl rfl ?_
  refine g_aload_n (pc := 1) C dX2_takeFirst_1 1 rfl rfl ?_
  refine g_callV (pc := 2) (st := []) (As := [.ref k0]) (nn := 1) (ci := 2) (q0 := 0) C (m_X2_takeGreatest l D cI cC h0 h1 h2 h3 h4 k0 k1 wi ol orr sf c rl (by first | assumption | omega) (by first | assumption | omega)) gX2_takeFirst_X2_takeGreatest rfl rfl rfl yd_X2_takeGreatest ⟨Nat.le_of_ble_eq_true rfl, Nat.le_of_ble_eq_true rfl⟩ rfl [0, 1, 2, 3, 4, 5, 6] rfl rfl rfl rfl rfl (Nat.le_of_ble_eq_true rfl) ⟨Nat.le_of_ble_eq_true rfl, Nat.le_of_ble_eq_true rfl⟩ dX2_takeFirst_2 ?_
  rintro _ _ ⟨wi2, ol0, orr0, sf0, rl0, L0, R0, rfl, rfl, t1, t2, t3⟩
  refine g_eq (ws' := (mtcW cI cC h0 h1 h2 h3 h4 k0 k1 wi2 ol0 orr0 sf0 (nI rl0) c)) (st' := []) rfl rfl ?_
  have haw : aw wi2 := fun a h => by have e1 : cN wi2 a = pmask (poC c a) 8 := (by rw [cN, t1 a h]; exact nI_clamp (Nat.lt_trans (pmask_lt _ 8) (by decide))); rw [e1]; exact ⟨t1 a h, pmask_lt _ 8⟩
  refine g_sipush (pc := 5) (v := nI 255) C dX2_takeFirst_5 (by decide) ?_
  refine g_istore_n (pc := 8) (lv' := [(2, .int (nI 255)), (0, .ref h0), (1, .ref k0)]) C dX2_takeFirst_8 rfl (by decide) rfl ?_
  refine g_iconst (pc := 9) (v := nI 0) C dX2_takeFirst_9 (by decide) ?_
  refine g_istore_n (pc := 10) (lv' := [(3, .int (nI 0)), (2, .int (nI 255)), (0, .ref h0), (1, .ref k0)]) C dX2_takeFirst_10 rfl (by decide) rfl ?_
  have L11 : ∀ (NZ : Nat) (i : Nat) (u : Nat) (ol1 : Nat → Int32) (orr1 : Nat → Int32) (sf1 : Nat → Int32) (rl1 : Nat) (L1 : Nat → Option Nat) (R1 : Nat → Option Nat), 8 - i < NZ → (i ≤ 8) → (u = stS (Ew (cN wi2)) i) → (∀ a, a < i → L1 a = spE (Ew (cN wi2)) a) → (ao ol1 L1) → (ao orr1 R1) → (mt (cN wi2) L1 R1) → (rl1 < 256) → (sub i u L1 R1) → (szN (Ew (cN wi2)) (8 - i) u = cntT (fun x => (L1 x).isSome) (8 - i)) → g_J p l e rm_X2_takeFirst s m args below meth co Q D A 6 0 0 (mtcW cI cC h0 h1 h2 h3 h4 k0 k1 wi2 ol1 orr1 sf1 (nI rl1) c) 11 [(0, .ref h0), (1, .ref k0), (2, .int (nI u)), (3, .int (nI i))] [] := by
    intro NZ
    induction NZ with
    | zero => intro i u ol1 orr1 sf1 rl1 L1 R1 hN; exact absurd hN (Nat.not_lt_zero _)
    | succ NZ ih11 =>
      intro i u ol1 orr1 sf1 rl1 L1 R1 hN11 hi hu hsp hA hB hm1 hrl1 hsb hcn
      refine g_iload_n (pc := 11) C dX2_takeFirst_11 3 rfl rfl ?_
      refine g_bipush (pc := 12) (v := nI 8) C dX2_takeFirst_12 (by decide) ?_
      refine g_icmp_geN (pc := 14) C 117 (by omega) (by omega) dX2_takeFirst_14 (by decide) (fun c14 => ?_) (fun c14 => ?_)
      · exact g_vret C hr hQ dX2_takeFirst_117 rfl ⟨wi2, _, _, _, _, R1, rfl, rfl, t1, ⟨fun a h => (hA a h).trans (by rw [hsp a (by omega)]), hB, mt_ext hm1 (fun a h => hsp a (by omega)), hrl1⟩⟩
      · have hu8 : u < 256 := by rw [hu]; exact stS_lt _ _
        refine g_iconst (pc := 17) (v := nI 0) C dX2_takeFirst_17 (by decide) ?_
        refine g_istore (pc := 18) (lv' := [(4, .int (nI 0)), (0, .ref h0), (1, .ref k0), (2, .int (nI u)), (3, .int (nI i))]) C dX2_takeFirst_18 (by decide) rfl ?_
        refine g_iconst (pc := 20) (v := nI 0) C dX2_takeFirst_20 (by decide) ?_
        refine g_istore (pc := 21) (lv' := [(5, .int (nI 0)), (4, .int (nI 0)), (0, .ref h0), (1, .ref k0), (2, .int (nI u)), (3, .int (nI i))]) C dX2_takeFirst_21 (by decide) rfl ?_
        have L23 : ∀ (NZ : Nat) (j : Nat) (sd : Bool) (ol1 : Nat → Int32) (orr1 : Nat → Int32) (sf1 : Nat → Int32) (rl1 : Nat) (L1 : Nat → Option Nat) (R1 : Nat → Option Nat), 8 - j < NZ → (j ≤ 8) → (∀ a, a < i → L1 a = spE (Ew (cN wi2)) a) → (ao ol1 L1) → (ao orr1 R1) → (mt (cN wi2) L1 R1) → (rl1 < 256) → (sub i u L1 R1) → (szN (Ew (cN wi2)) (8 - i) u = cntT (fun x => (L1 x).isSome) (8 - i)) → (sd = true → 0 < j ∧ L1 i = some (j - 1) ∧ ∀ x, x < j - 1 → PPf (Ew (cN wi2)) i u x = false) → (sd = false → ∀ x, x < j → PPf (Ew (cN wi2)) i u x = false ∧ L1 i ≠ some x) → g_J p l e rm_X2_takeFirst s m args below meth co Q D A 6 0 0 (mtcW cI cC h0 h1 h2 h3 h4 k0 k1 wi2 ol1 orr1 sf1 (nI rl1) c) 23 [(0, .ref h0), (1, .ref k0), (2, .int (nI u)), (3, .int (nI i)), (4, .int (bI sd)), (5, .int (nI j))] [] := by
          intro NZ
          induction NZ with
          | zero => intro j sd ol1 orr1 sf1 rl1 L1 R1 hN; exact absurd hN (Nat.not_lt_zero _)
          | succ NZ ih23 =>
            intro j sd ol1 orr1 sf1 rl1 L1 R1 hN23 hj hsp hA hB hm1 hrl1 hsb hcn hsd1 hsd0
            refine g_iload (pc := 23) C dX2_takeFirst_23 5 rfl ?_
            refine g_bipush (pc := 25) (v := nI 8) C dX2_takeFirst_25 (by decide) ?_
            refine g_icmp_geN (pc := 27) C 86 (by omega) (by omega) dX2_takeFirst_27 (by decide) (fun c27 => ?_) (fun c27 => ?_)
            · have hfin : L1 i = spE (Ew (cN wi2)) i := sp_fin hm1 hu hsb (show i < 8 by omega) hcn hsd1 hsd0 (Or.inl (by omega))
              refine g_aload_n (pc := 86) C dX2_takeFirst_86 0 rfl rfl ?_
              refine g_get (pc := 87) (ci := 2) (T := TX2) (N := 5) (v := .ref h2) C in_X2_takeFirst_X2 0 rfl rfl 1 (by decide) fl_X2_takeFirst_15 rfl rfl dX2_takeFirst_87 ?_
              refine g_iload_n (pc := 90) C dX2_takeFirst_90 3 rfl rfl ?_
              refine g_ialdN (pc := 91) (f := ol1) C 2 rfl (by omega) (by decide) dX2_takeFirst_91 ?_
              refine g_top (y := (pI (L1 i))) (hA i (by omega)) ?_
              refine g_callSN (pc := 92) (st := []) (As := [.int (pI (L1 i))]) (nn := 1) (host := "FenceHandshakes") C (m_X5_isPerson l D cI cC (pI (L1 i))) gX2_takeFirst_X5_isPerson_n54 rfl rfl rfl (by decide +kernel) (by decide +kernel) (by decide +kernel) yd_X5_isPerson.2 ⟨Nat.le_of_ble_eq_true rfl, Nat.le_of_ble_eq_true rfl⟩ rfl [] rfl rfl rfl (Nat.le_of_ble_eq_true rfl) ⟨Nat.le_of_ble_eq_true rfl, Nat.le_of_ble_eq_true rfl⟩ dX2_takeFirst_92 ?_
              rintro _ _ ⟨rfl, rfl⟩
              refine g_eq (ws' := (mtcW cI cC h0 h1 h2 h3 h4 k0 k1 wi2 ol1 orr1 sf1 (nI rl1) c)) (st' := [.int (bI (isP (pI (L1 i))))]) rfl rfl ?_
              refine g_if_eqB (pc := 95) C 111 dX2_takeFirst_95 (by decide) (fun c95 => ?_) (fun c95 => ?_)
              · have ey : L1 i = none := by cases hq : L1 i with | none => rfl | some z => (rw [hq, show isP (pI (some z)) = true from isP_nI (hm1.1 i z (by omega) hq).1] at c95; cases c95)
                refine g_iinc (pc := 111) (lv' := [(3, .int (nI (i + 1))), (0, .ref h0), (1, .ref k0), (2, .int (nI u)), (4, .int (bI sd)), (5, .int (nI j))]) C dX2_takeFirst_111 3 rfl (nI_add i 1) (by decide) rfl ?_
                refine g_goto (pc := 114) C 11 dX2_takeFirst_114 (by decide) ?_
                refine g_lvp (lv' := [(0, .ref h0), (1, .ref k0), (2, .int (nI u)), (3, .int (nI (i + 1)))]) [1, 2, 3, 0] rfl ?_
                exact ih11 (i + 1) u ol1 orr1 sf1 rl1 L1 R1 (by omega) (by first | assumption | omega) (by rw [hu]; exact (st_none (hfin.symm.trans ey)).symm) (fun a h => (Nat.lt_succ_iff_lt_or_eq.mp h).elim (hsp a) (fun e => by subst e; exact hfin)) (by first | assumption | omega) (by first | assumption | omega) (by first | assumption | omega) (by first | assumption | omega) (sub_next0 hm1 hsb ey) (cn_none hm1 hsb (by omega) ey hcn)
              · obtain ⟨y, ey⟩ : ∃ y, L1 i = some y := by cases hq : L1 i with | none => (rw [hq] at c95; exact absurd c95 (by decide)) | some z => exact ⟨z, rfl⟩
                have hy8 : y < 8 := (hm1.1 i y (by omega) ey).1
                refine g_iload_n (pc := 98) C dX2_takeFirst_98 2 rfl rfl ?_
                refine g_iconst (pc := 99) (v := nI 1) C dX2_takeFirst_99 (by decide) ?_
                refine g_aload_n (pc := 100) C dX2_takeFirst_100 0 rfl rfl ?_
                refine g_get (pc := 101) (ci := 2) (T := TX2) (N := 5) (v := .ref h2) C in_X2_takeFirst_X2 0 rfl rfl 1 (by decide) fl_X2_takeFirst_15 rfl rfl dX2_takeFirst_101 ?_
                refine g_iload_n (pc := 104) C dX2_takeFirst_104 3 rfl rfl ?_
                refine g_ialdN (pc := 105) (f := ol1) C 2 rfl (by omega) (by decide) dX2_takeFirst_105 ?_
                refine g_top (y := nI y) (by rw [hA i (by omega), ey]; rfl) ?_
                refine g_ishlN (pc := 106) C (by omega) dX2_takeFirst_106 ?_
                refine g_iconst (pc := 107) (v := (-1)) C dX2_takeFirst_107 (by decide) ?_
                refine g_ixor (pc := 108) C dX2_takeFirst_108 ?_
                refine g_iandX (pc := 109) C dX2_takeFirst_109 ?_
                refine g_istore_n (pc := 110) (lv' := [(2, .int (nI (g_nand u (1 <<< y)))), (0, .ref h0), (1, .ref k0), (3, .int (nI i)), (4, .int (bI sd)), (5, .int (nI j))]) C dX2_takeFirst_110 rfl (by decide) rfl ?_
                refine g_iinc (pc := 111) (lv' := [(3, .int (nI (i + 1))), (2, .int (nI (g_nand u (1 <<< y)))), (0, .ref h0), (1, .ref k0), (4, .int (bI sd)), (5, .int (nI j))]) C dX2_takeFirst_111 3 rfl (nI_add i 1) (by decide) rfl ?_
                refine g_goto (pc := 114) C 11 dX2_takeFirst_114 (by decide) ?_
                refine g_lvp (lv' := [(0, .ref h0), (1, .ref k0), (2, .int (nI (g_nand u (1 <<< y)))), (3, .int (nI (i + 1)))]) [2, 3, 1, 0] rfl ?_
                exact ih11 (i + 1) (g_nand u (1 <<< y)) ol1 orr1 sf1 rl1 L1 R1 (by omega) (by first | assumption | omega) (by rw [hu]; exact (st_some (hfin.symm.trans ey)).symm) (fun a h => (Nat.lt_succ_iff_lt_or_eq.mp h).elim (hsp a) (fun e => by subst e; exact hfin)) (by first | assumption | omega) (by first | assumption | omega) (by first | assumption | omega) (by first | assumption | omega) (sub_next hm1 hsb (by omega) ey) (by rw [show 8 - (i + 1) = 7 - i by omega]; exact (PP_t hm1 hsb (by omega) ey hcn).2)
            · refine g_iload (pc := 30) C dX2_takeFirst_30 5 rfl ?_
              refine g_aload_n (pc := 32) C dX2_takeFirst_32 0 rfl rfl ?_
              refine g_get (pc := 33) (ci := 2) (T := TX2) (N := 5) (v := .ref h2) C in_X2_takeFirst_X2 0 rfl rfl 1 (by decide) fl_X2_takeFirst_15 rfl rfl dX2_takeFirst_33 ?_
              refine g_iload_n (pc := 36) C dX2_takeFirst_36 3 rfl rfl ?_
              refine g_ialdN (pc := 37) (f := ol1) C 2 rfl (by omega) (by decide) dX2_takeFirst_37 ?_
              refine g_top (y := (pI (L1 i))) (hA i (by omega)) ?_
              refine g_icmp_eq (pc := 38) C 86 dX2_takeFirst_38 (by decide) (fun c38 => ?_) (fun c38 => ?_)
              · have hfin : L1 i = spE (Ew (cN wi2)) i := sp_fin hm1 hu hsb (show i < 8 by omega) hcn hsd1 hsd0 (Or.inr (Or.inl (pI_inj (fun r hr => (hm1.1 i r (by omega) hr).1) (by omega) c38.symm)))
                refine g_aload_n (pc := 86) C dX2_takeFirst_86 0 rfl rfl ?_
                refine g_get (pc := 87) (ci := 2) (T := TX2) (N := 5) (v := .ref h2) C in_X2_takeFirst_X2 0 rfl rfl 1 (by decide) fl_X2_takeFirst_15 rfl rfl dX2_takeFirst_87 ?_
                refine g_iload_n (pc := 90) C dX2_takeFirst_90 3 rfl rfl ?_
                refine g_ialdN (pc := 91) (f := ol1) C 2 rfl (by omega) (by decide) dX2_takeFirst_91 ?_
                refine g_top (y := (pI (L1 i))) (hA i (by omega)) ?_
                refine g_callSN (pc := 92) (st := []) (As := [.int (pI (L1 i))]) (nn := 1) (host := "FenceHandshakes") C (m_X5_isPerson l D cI cC (pI (L1 i))) gX2_takeFirst_X5_isPerson_n54 rfl rfl rfl (by decide +kernel) (by decide +kernel) (by decide +kernel) yd_X5_isPerson.2 ⟨Nat.le_of_ble_eq_true rfl, Nat.le_of_ble_eq_true rfl⟩ rfl [] rfl rfl rfl (Nat.le_of_ble_eq_true rfl) ⟨Nat.le_of_ble_eq_true rfl, Nat.le_of_ble_eq_true rfl⟩ dX2_takeFirst_92 ?_
                rintro _ _ ⟨rfl, rfl⟩
                refine g_eq (ws' := (mtcW cI cC h0 h1 h2 h3 h4 k0 k1 wi2 ol1 orr1 sf1 (nI rl1) c)) (st' := [.int (bI (isP (pI (L1 i))))]) rfl rfl ?_
                refine g_if_eqB (pc := 95) C 111 dX2_takeFirst_95 (by decide) (fun c95 => ?_) (fun c95 => ?_)
                · have ey : L1 i = none := by cases hq : L1 i with | none => rfl | some z => (rw [hq, show isP (pI (some z)) = true from isP_nI (hm1.1 i z (by omega) hq).1] at c95; cases c95)
                  refine g_iinc (pc := 111) (lv' := [(3, .int (nI (i + 1))), (0, .ref h0), (1, .ref k0), (2, .int (nI u)), (4, .int (bI sd)), (5, .int (nI j))]) C dX2_takeFirst_111 3 rfl (nI_add i 1) (by decide) rfl ?_
                  refine g_goto (pc := 114) C 11 dX2_takeFirst_114 (by decide) ?_
                  refine g_lvp (lv' := [(0, .ref h0), (1, .ref k0), (2, .int (nI u)), (3, .int (nI (i + 1)))]) [1, 2, 3, 0] rfl ?_
                  exact ih11 (i + 1) u ol1 orr1 sf1 rl1 L1 R1 (by omega) (by first | assumption | omega) (by rw [hu]; exact (st_none (hfin.symm.trans ey)).symm) (fun a h => (Nat.lt_succ_iff_lt_or_eq.mp h).elim (hsp a) (fun e => by subst e; exact hfin)) (by first | assumption | omega) (by first | assumption | omega) (by first | assumption | omega) (by first | assumption | omega) (sub_next0 hm1 hsb ey) (cn_none hm1 hsb (by omega) ey hcn)
                · obtain ⟨y, ey⟩ : ∃ y, L1 i = some y := by cases hq : L1 i with | none => (rw [hq] at c95; exact absurd c95 (by decide)) | some z => exact ⟨z, rfl⟩
                  have hy8 : y < 8 := (hm1.1 i y (by omega) ey).1
                  refine g_iload_n (pc := 98) C dX2_takeFirst_98 2 rfl rfl ?_
                  refine g_iconst (pc := 99) (v := nI 1) C dX2_takeFirst_99 (by decide) ?_
                  refine g_aload_n (pc := 100) C dX2_takeFirst_100 0 rfl rfl ?_
                  refine g_get (pc := 101) (ci := 2) (T := TX2) (N := 5) (v := .ref h2) C in_X2_takeFirst_X2 0 rfl rfl 1 (by decide) fl_X2_takeFirst_15 rfl rfl dX2_takeFirst_101 ?_
                  refine g_iload_n (pc := 104) C dX2_takeFirst_104 3 rfl rfl ?_
                  refine g_ialdN (pc := 105) (f := ol1) C 2 rfl (by omega) (by decide) dX2_takeFirst_105 ?_
                  refine g_top (y := nI y) (by rw [hA i (by omega), ey]; rfl) ?_
                  refine g_ishlN (pc := 106) C (by omega) dX2_takeFirst_106 ?_
                  refine g_iconst (pc := 107) (v := (-1)) C dX2_takeFirst_107 (by decide) ?_
                  refine g_ixor (pc := 108) C dX2_takeFirst_108 ?_
                  refine g_iandX (pc := 109) C dX2_takeFirst_109 ?_
                  refine g_istore_n (pc := 110) (lv' := [(2, .int (nI (g_nand u (1 <<< y)))), (0, .ref h0), (1, .ref k0), (3, .int (nI i)), (4, .int (bI sd)), (5, .int (nI j))]) C dX2_takeFirst_110 rfl (by decide) rfl ?_
                  refine g_iinc (pc := 111) (lv' := [(3, .int (nI (i + 1))), (2, .int (nI (g_nand u (1 <<< y)))), (0, .ref h0), (1, .ref k0), (4, .int (bI sd)), (5, .int (nI j))]) C dX2_takeFirst_111 3 rfl (nI_add i 1) (by decide) rfl ?_
                  refine g_goto (pc := 114) C 11 dX2_takeFirst_114 (by decide) ?_
                  refine g_lvp (lv' := [(0, .ref h0), (1, .ref k0), (2, .int (nI (g_nand u (1 <<< y)))), (3, .int (nI (i + 1)))]) [2, 3, 1, 0] rfl ?_
                  exact ih11 (i + 1) (g_nand u (1 <<< y)) ol1 orr1 sf1 rl1 L1 R1 (by omega) (by first | assumption | omega) (by rw [hu]; exact (st_some (hfin.symm.trans ey)).symm) (fun a h => (Nat.lt_succ_iff_lt_or_eq.mp h).elim (hsp a) (fun e => by subst e; exact hfin)) (by first | assumption | omega) (by first | assumption | omega) (by first | assumption | omega) (by first | assumption | omega) (sub_next hm1 hsb (by omega) ey) (by rw [show 8 - (i + 1) = 7 - i by omega]; exact (PP_t hm1 hsb (by omega) ey hcn).2)
              · have hnj : L1 i ≠ some j := fun e => c38 (by rw [e]; rfl)
                refine g_iload (pc := 41) C dX2_takeFirst_41 4 rfl ?_
                refine g_if_neB (pc := 43) C 86 dX2_takeFirst_43 (by decide) (fun c43 => ?_) (fun c43 => ?_)
                · have hfin : L1 i = spE (Ew (cN wi2)) i := sp_fin hm1 hu hsb (show i < 8 by omega) hcn hsd1 hsd0 (Or.inr (Or.inr c43))
                  refine g_aload_n (pc := 86) C dX2_takeFirst_86 0 rfl rfl ?_
                  refine g_get (pc := 87) (ci := 2) (T := TX2) (N := 5) (v := .ref h2) C in_X2_takeFirst_X2 0 rfl rfl 1 (by decide) fl_X2_takeFirst_15 rfl rfl dX2_takeFirst_87 ?_
                  refine g_iload_n (pc := 90) C dX2_takeFirst_90 3 rfl rfl ?_
                  refine g_ialdN (pc := 91) (f := ol1) C 2 rfl (by omega) (by decide) dX2_takeFirst_91 ?_
                  refine g_top (y := (pI (L1 i))) (hA i (by omega)) ?_
                  refine g_callSN (pc := 92) (st := []) (As := [.int (pI (L1 i))]) (nn := 1) (host := "FenceHandshakes") C (m_X5_isPerson l D cI cC (pI (L1 i))) gX2_takeFirst_X5_isPerson_n54 rfl rfl rfl (by decide +kernel) (by decide +kernel) (by decide +kernel) yd_X5_isPerson.2 ⟨Nat.le_of_ble_eq_true rfl, Nat.le_of_ble_eq_true rfl⟩ rfl [] rfl rfl rfl (Nat.le_of_ble_eq_true rfl) ⟨Nat.le_of_ble_eq_true rfl, Nat.le_of_ble_eq_true rfl⟩ dX2_takeFirst_92 ?_
                  rintro _ _ ⟨rfl, rfl⟩
                  refine g_eq (ws' := (mtcW cI cC h0 h1 h2 h3 h4 k0 k1 wi2 ol1 orr1 sf1 (nI rl1) c)) (st' := [.int (bI (isP (pI (L1 i))))]) rfl rfl ?_
                  refine g_if_eqB (pc := 95) C 111 dX2_takeFirst_95 (by decide) (fun c95 => ?_) (fun c95 => ?_)
                  · have ey : L1 i = none := by cases hq : L1 i with | none => rfl | some z => (rw [hq, show isP (pI (some z)) = true from isP_nI (hm1.1 i z (by omega) hq).1] at c95; cases c95)
                    refine g_iinc (pc := 111) (lv' := [(3, .int (nI (i + 1))), (0, .ref h0), (1, .ref k0), (2, .int (nI u)), (4, .int (bI sd)), (5, .int (nI j))]) C dX2_takeFirst_111 3 rfl (nI_add i 1) (by decide) rfl ?_
                    refine g_goto (pc := 114) C 11 dX2_takeFirst_114 (by decide) ?_
                    refine g_lvp (lv' := [(0, .ref h0), (1, .ref k0), (2, .int (nI u)), (3, .int (nI (i + 1)))]) [1, 2, 3, 0] rfl ?_
                    exact ih11 (i + 1) u ol1 orr1 sf1 rl1 L1 R1 (by omega) (by first | assumption | omega) (by rw [hu]; exact (st_none (hfin.symm.trans ey)).symm) (fun a h => (Nat.lt_succ_iff_lt_or_eq.mp h).elim (hsp a) (fun e => by subst e; exact hfin)) (by first | assumption | omega) (by first | assumption | omega) (by first | assumption | omega) (by first | assumption | omega) (sub_next0 hm1 hsb ey) (cn_none hm1 hsb (by omega) ey hcn)
                  · obtain ⟨y, ey⟩ : ∃ y, L1 i = some y := by cases hq : L1 i with | none => (rw [hq] at c95; exact absurd c95 (by decide)) | some z => exact ⟨z, rfl⟩
                    have hy8 : y < 8 := (hm1.1 i y (by omega) ey).1
                    refine g_iload_n (pc := 98) C dX2_takeFirst_98 2 rfl rfl ?_
                    refine g_iconst (pc := 99) (v := nI 1) C dX2_takeFirst_99 (by decide) ?_
                    refine g_aload_n (pc := 100) C dX2_takeFirst_100 0 rfl rfl ?_
                    refine g_get (pc := 101) (ci := 2) (T := TX2) (N := 5) (v := .ref h2) C in_X2_takeFirst_X2 0 rfl rfl 1 (by decide) fl_X2_takeFirst_15 rfl rfl dX2_takeFirst_101 ?_
                    refine g_iload_n (pc := 104) C dX2_takeFirst_104 3 rfl rfl ?_
                    refine g_ialdN (pc := 105) (f := ol1) C 2 rfl (by omega) (by decide) dX2_takeFirst_105 ?_
                    refine g_top (y := nI y) (by rw [hA i (by omega), ey]; rfl) ?_
                    refine g_ishlN (pc := 106) C (by omega) dX2_takeFirst_106 ?_
                    refine g_iconst (pc := 107) (v := (-1)) C dX2_takeFirst_107 (by decide) ?_
                    refine g_ixor (pc := 108) C dX2_takeFirst_108 ?_
                    refine g_iandX (pc := 109) C dX2_takeFirst_109 ?_
                    refine g_istore_n (pc := 110) (lv' := [(2, .int (nI (g_nand u (1 <<< y)))), (0, .ref h0), (1, .ref k0), (3, .int (nI i)), (4, .int (bI sd)), (5, .int (nI j))]) C dX2_takeFirst_110 rfl (by decide) rfl ?_
                    refine g_iinc (pc := 111) (lv' := [(3, .int (nI (i + 1))), (2, .int (nI (g_nand u (1 <<< y)))), (0, .ref h0), (1, .ref k0), (4, .int (bI sd)), (5, .int (nI j))]) C dX2_takeFirst_111 3 rfl (nI_add i 1) (by decide) rfl ?_
                    refine g_goto (pc := 114) C 11 dX2_takeFirst_114 (by decide) ?_
                    refine g_lvp (lv' := [(0, .ref h0), (1, .ref k0), (2, .int (nI (g_nand u (1 <<< y)))), (3, .int (nI (i + 1)))]) [2, 3, 1, 0] rfl ?_
                    exact ih11 (i + 1) (g_nand u (1 <<< y)) ol1 orr1 sf1 rl1 L1 R1 (by omega) (by first | assumption | omega) (by rw [hu]; exact (st_some (hfin.symm.trans ey)).symm) (fun a h => (Nat.lt_succ_iff_lt_or_eq.mp h).elim (hsp a) (fun e => by subst e; exact hfin)) (by first | assumption | omega) (by first | assumption | omega) (by first | assumption | omega) (by first | assumption | omega) (sub_next hm1 hsb (by omega) ey) (by rw [show 8 - (i + 1) = 7 - i by omega]; exact (PP_t hm1 hsb (by omega) ey hcn).2)
                · refine g_aload_n (pc := 46) C dX2_takeFirst_46 0 rfl rfl ?_
                  refine g_get (pc := 47) (ci := 2) (T := TX2) (N := 5) (v := .ref h1) C in_X2_takeFirst_X2 0 rfl rfl 0 (by decide) fl_X2_takeFirst_9 rfl rfl dX2_takeFirst_47 ?_
                  refine g_iload_n (pc := 50) C dX2_takeFirst_50 3 rfl rfl ?_
                  refine g_ialdN (pc := 51) (f := wi2) C 1 rfl (by omega) (by decide) dX2_takeFirst_51 ?_
                  refine g_top (y := nI (cN wi2 i)) ((haw i (by omega)).1) ?_
                  refine g_iload_n (pc := 52) C dX2_takeFirst_52 2 rfl rfl ?_
                  refine g_iandN (pc := 53) C dX2_takeFirst_53 ?_
                  refine g_iload (pc := 54) C dX2_takeFirst_54 5 rfl ?_
                  refine g_callSN (pc := 56) (st := []) (As := [.int (nI ((cN wi2 i) &&& u)), .int (nI j)]) (nn := 2) (host := "FenceHandshakes") C (m_X5_hasBit l D cI cC ((cN wi2 i) &&& u) j (Nat.lt_of_le_of_lt Nat.and_le_right (Nat.lt_trans hu8 (by decide))) (by first | assumption | omega)) gX2_takeFirst_X5_hasBit_n47 rfl rfl rfl (by decide +kernel) (by decide +kernel) (by decide +kernel) yd_X5_hasBit.2 ⟨Nat.le_of_ble_eq_true rfl, Nat.le_of_ble_eq_true rfl⟩ rfl [] rfl rfl rfl (Nat.le_of_ble_eq_true rfl) ⟨Nat.le_of_ble_eq_true rfl, Nat.le_of_ble_eq_true rfl⟩ dX2_takeFirst_56 ?_
                  rintro _ _ ⟨rfl, rfl⟩
                  refine g_eq (ws' := (mtcW cI cC h0 h1 h2 h3 h4 k0 k1 wi2 ol1 orr1 sf1 (nI rl1) c)) (st' := [.int (bI (((cN wi2 i) &&& u).testBit j))]) rfl rfl ?_
                  refine g_if_eqB (pc := 59) C 77 dX2_takeFirst_59 (by decide) (fun c59 => ?_) (fun c59 => ?_)
                  · refine g_iconst (pc := 77) (v := nI 0) C dX2_takeFirst_77 (by decide) ?_
                    refine g_top (y := bI false) (rfl) ?_
                    refine g_istore (pc := 78) (lv' := [(4, .int (bI false)), (0, .ref h0), (1, .ref k0), (2, .int (nI u)), (3, .int (nI i)), (5, .int (nI j))]) C dX2_takeFirst_78 (by decide) rfl ?_
                    refine g_iinc (pc := 80) (lv' := [(5, .int (nI (j + 1))), (4, .int (bI false)), (0, .ref h0), (1, .ref k0), (2, .int (nI u)), (3, .int (nI i))]) C dX2_takeFirst_80 5 rfl (nI_add j 1) (by decide) rfl ?_
                    refine g_goto (pc := 83) C 23 dX2_takeFirst_83 (by decide) ?_
                    refine g_lvp (lv' := [(0, .ref h0), (1, .ref k0), (2, .int (nI u)), (3, .int (nI i)), (4, .int (bI false)), (5, .int (nI (j + 1)))]) [2, 3, 4, 5, 1, 0] rfl ?_
                    exact ih23 (j + 1) false ol1 orr1 sf1 rl1 L1 R1 (by omega) (by first | assumption | omega) (by first | assumption | omega) (by first | assumption | omega) (by first | assumption | omega) (by first | assumption | omega) (by first | assumption | omega) (by first | assumption | omega) (by first | assumption | omega) (fun h => (by cases h)) (fun _ x h => (Nat.lt_succ_iff_lt_or_eq.mp h).elim (hsd0 c43 x) (fun e => by subst e; exact ⟨PP_f1 c59, hnj⟩))
                  · refine g_aload_n (pc := 62) C dX2_takeFirst_62 0 rfl rfl ?_
                    refine g_iload_n (pc := 63) C dX2_takeFirst_63 3 rfl rfl ?_
                    refine g_iload (pc := 64) C dX2_takeFirst_64 5 rfl ?_
                    refine g_iload_n (pc := 66) C dX2_takeFirst_66 2 rfl rfl ?_
                    refine g_callV (pc := 67) (st := []) (As := [.int (nI i), .int (nI j), .int (nI u)]) (nn := 3) (ci := 2) (q0 := 0) C (m_X2_canTake l D cI cC h0 h1 h2 h3 h4 wi2 ol1 orr1 sf1 rl1 L1 R1 i j u (haw) (hA) (hB) (hm1) (hrl1) (hsb) (by first | assumption | omega) (by first | assumption | omega) (hu8) (by rw [Nat.testBit_and, Bool.and_eq_true] at c59; exact c59.2) (by rw [Nat.testBit_and, Bool.and_eq_true] at c59; exact c59.1) (hnj) (hcn)) gX2_takeFirst_X2_canTake rfl rfl rfl yd_X2_canTake ⟨Nat.le_of_ble_eq_true rfl, Nat.le_of_ble_eq_true rfl⟩ rfl [0, 1, 2, 3, 4] rfl rfl rfl rfl rfl (Nat.le_of_ble_eq_true rfl) ⟨Nat.le_of_ble_eq_true rfl, Nat.le_of_ble_eq_true rfl⟩ dX2_takeFirst_67 ?_
                    rintro _ _ ⟨q3, ol3, orr3, sf3, rl3, L3, R3, rfl, rfl, K1, K2, K3⟩
                    refine g_eq (ws' := (mtcW cI cC h0 h1 h2 h3 h4 k0 k1 wi2 ol3 orr3 sf3 (nI rl3) c)) (st' := [.int (bI q3)]) rfl rfl ?_
                    refine g_if_eqB (pc := 70) C 77 dX2_takeFirst_70 (by decide) (fun c70 => ?_) (fun c70 => ?_)
                    · obtain ⟨rfl, rfl, w1⟩ := K2 c70
                      refine g_iconst (pc := 77) (v := nI 0) C dX2_takeFirst_77 (by decide) ?_
                      refine g_top (y := bI false) (rfl) ?_
                      refine g_istore (pc := 78) (lv' := [(4, .int (bI false)), (0, .ref h0), (1, .ref k0), (2, .int (nI u)), (3, .int (nI i)), (5, .int (nI j))]) C dX2_takeFirst_78 (by decide) rfl ?_
                      refine g_iinc (pc := 80) (lv' := [(5, .int (nI (j + 1))), (4, .int (bI false)), (0, .ref h0), (1, .ref k0), (2, .int (nI u)), (3, .int (nI i))]) C dX2_takeFirst_80 5 rfl (nI_add j 1) (by decide) rfl ?_
                      refine g_goto (pc := 83) C 23 dX2_takeFirst_83 (by decide) ?_
                      refine g_lvp (lv' := [(0, .ref h0), (1, .ref k0), (2, .int (nI u)), (3, .int (nI i)), (4, .int (bI false)), (5, .int (nI (j + 1)))]) [2, 3, 4, 5, 1, 0] rfl ?_
                      exact ih23 (j + 1) false ol3 orr3 sf3 rl3 _ _ (by omega) (by first | assumption | omega) (hsp) (K1.1) (K1.2.1) (K1.2.2.1) (K1.2.2.2) (hsb) (hcn) (fun h => (by cases h)) (fun _ x h => (Nat.lt_succ_iff_lt_or_eq.mp h).elim (hsd0 c43 x) (fun e => by subst e; exact ⟨PP_f2 w1, hnj⟩))
                    · obtain ⟨w1, w2, w3, w4⟩ := K3 c70
                      refine g_iconst (pc := 73) (v := nI 1) C dX2_takeFirst_73 (by decide) ?_
                      refine g_top (y := bI true) (rfl) ?_
                      refine g_goto (pc := 74) C 78 dX2_takeFirst_74 (by decide) ?_
                      refine g_istore (pc := 78) (lv' := [(4, .int (bI true)), (0, .ref h0), (1, .ref k0), (2, .int (nI u)), (3, .int (nI i)), (5, .int (nI j))]) C dX2_takeFirst_78 (by decide) rfl ?_
                      refine g_iinc (pc := 80) (lv' := [(5, .int (nI (j + 1))), (4, .int (bI true)), (0, .ref h0), (1, .ref k0), (2, .int (nI u)), (3, .int (nI i))]) C dX2_takeFirst_80 5 rfl (nI_add j 1) (by decide) rfl ?_
                      refine g_goto (pc := 83) C 23 dX2_takeFirst_83 (by decide) ?_
                      refine g_lvp (lv' := [(0, .ref h0), (1, .ref k0), (2, .int (nI u)), (3, .int (nI i)), (4, .int (bI true)), (5, .int (nI (j + 1)))]) [2, 3, 4, 5, 1, 0] rfl ?_
                      exact ih23 (j + 1) true ol3 orr3 sf3 rl3 L3 R3 (by omega) (by first | assumption | omega) (fun a h => (w2 a h).trans (hsp a h)) (K1.1) (K1.2.1) (K1.2.2.1) (K1.2.2.2) (w3) (Nat.le_antisymm w4 (mt_le K1.2.2.1 w3 (by omega))) (fun _ => ⟨Nat.succ_pos _, w1, fun x h => (hsd0 c43 x h).1⟩) (fun h => (by cases h))
        refine g_lvp (lv' := [(0, .ref h0), (1, .ref k0), (2, .int (nI u)), (3, .int (nI i)), (4, .int (nI 0)), (5, .int (nI 0))]) [2, 3, 4, 5, 1, 0] rfl ?_
        exact L23 _ 0 false ol1 orr1 sf1 rl1 L1 R1 (Nat.lt_succ_self _) (by first | assumption | omega) (by first | assumption | omega) (by first | assumption | omega) (by first | assumption | omega) (by first | assumption | omega) (by first | assumption | omega) (by first | assumption | omega) (by first | assumption | omega) (fun h => (by cases h)) (fun _ x h => absurd h (Nat.not_lt_zero _))
  refine g_lvp (lv' := [(0, .ref h0), (1, .ref k0), (2, .int (nI 255)), (3, .int (nI 0))]) [2, 3, 1, 0] rfl ?_
  exact L11 _ 0 255 ol0 orr0 sf0 rl0 L0 R0 (Nat.lt_succ_self _) (by first | assumption | omega) (rfl) (fun a h => absurd h (Nat.not_lt_zero _)) (t2.1) (t2.2.1) (t2.2.2.1) (t2.2.2.2) (sub_all t2.2.2.1) (t3)

abbrev rm_X2_leftsWhoMayBeLeftOut : Room := { frames := 2, cells := 0, slots := 0, locals := 50 }
theorem yd_X2_leftsWhoMayBeLeftOut : yX2_leftsWhoMayBeLeftOut.cls = RX2 ∧ yX2_leftsWhoMayBeLeftOut.cls ≠ "java/lang/invoke/MethodHandle" ∧ yX2_leftsWhoMayBeLeftOut.cls ≠ "java/lang/invoke/VarHandle" ∧ (parseMethodDescriptor yX2_leftsWhoMayBeLeftOut.desc).map (fun d => d.parameters.length) = some 0 := by decide +kernel
theorem in_X2_leftsWhoMayBeLeftOut_X2 : ∀ w ∈ u_ws RX2 TX2 5, w ∈ wsX2_leftsWhoMayBeLeftOut := by decide +kernel
theorem fl_X2_leftsWhoMayBeLeftOut_9 : Cond.fieldLink RX2 9 "FenceHandshakes$Matching" "wished" "[I" ∈ wsX2_leftsWhoMayBeLeftOut := by decide +kernel
theorem fl_X2_leftsWhoMayBeLeftOut_62 : Cond.fieldLink RX2 62 "FenceHandshakes$Matching" "reachedLefts" "I" ∈ wsX2_leftsWhoMayBeLeftOut := by decide +kernel
set_option maxHeartbeats 4000000 in
set_option maxRecDepth 100000 in
theorem m_X2_leftsWhoMayBeLeftOut (l : Launch) (D : va_G) (cI cC : ClassId) (h0 h1 h2 h3 h4 : Nat) (wi : Nat → Int32) (ol : Nat → Int32) (orr : Nat → Int32) (sf : Nat → Int32) (rl : Nat) (L : Nat → Option Nat) (R : Nat → Option Nat) (hw : aw wi) (hL : ao ol L) (hR : ao orr R) (hm : mt (cN wi) L R) (hmax : szN (Ew (cN wi)) 8 255 = cntT (fun x => (L x).isSome) 8) : g_M l yX2_leftsWhoMayBeLeftOut wsX2_leftsWhoMayBeLeftOut rm_X2_leftsWhoMayBeLeftOut D cI cC [.ref h0] (mtW cI cC h0 h1 h2 h3 h4 wi ol orr sf (nI rl)) (fun vv ww => ∃ (sf2 : Nat → Int32) (rl2 : Nat), vv = some (.int (nI (pmask (fun a => decide (szN (eOut (Ew (cN wi)) a) 8 255 = szN (Ew (cN wi)) 8 255) && decide (cN wi a ≠ 0)) 8))) ∧ ww = (mtW cI cC h0 h1 h2 h3 h4 wi ol orr sf2 (nI rl2)) ∧ rl2 < 256 ∧ HW (cN wi)) := by
  refine g_entry (lv := [(0, .ref h0)]) (own := RX2) (by decide) rfl rfl (Nat.le_of_ble_eq_true rfl) rfl ?_
  intro p e s m args below meth co A Q C hr hQ
  refine g_aload_n (pc := 0) C dX2_leftsWhoMayBeLeftOut_0 0 rfl rfl ?_
  refine g_iconst (pc := 1) (v := nI 0) C dX2_leftsWhoMayBeLeftOut_1 (by decide) ?_
  refine g_sipush (pc := 2) (v := nI 255) C dX2_leftsWhoMayBeLeftOut_2 (by decide) ?_
  refine g_callV (pc := 5) (st := []) (As := [.int (nI 0), .int (nI 255)]) (nn := 2) (ci := 2) (q0 := 0) C (m_X2_findFreeRight l D cI cC h0 h1 h2 h3 h4 wi ol orr sf rl L R 0 255 (by first | assumption | omega) (by first | assumption | omega) (by first | assumption | omega) (by first | assumption | omega) (sub_all hm) (by first | assumption | omega) (by decide)) gX2_leftsWhoMayBeLeftOut_X2_findFreeRight rfl rfl rfl yd_X2_findFreeRight ⟨Nat.le_of_ble_eq_true rfl, Nat.le_of_ble_eq_true rfl⟩ rfl [0, 1, 2, 3, 4] rfl rfl rfl rfl rfl (Nat.le_of_ble_eq_true rfl) ⟨Nat.le_of_ble_eq_true rfl, Nat.le_of_ble_eq_true rfl⟩ dX2_leftsWhoMayBeLeftOut_5 ?_
  rintro _ _ ⟨o, sf1, rl1, sl, t, Sn, rfl, rfl, g1, g2, g3, g4, g5⟩
  refine g_eq (ws' := (mtW cI cC h0 h1 h2 h3 h4 wi ol orr sf1 (nI rl1))) (st' := [.int (pI o)]) rfl rfl ?_
  have on : o = none := by cases hq : o with | none => rfl | some b => exact (no_free hm g1 (g3 b hq).1 (g3 b hq).2 hmax).elim
  refine g_pop (pc := 8) C dX2_leftsWhoMayBeLeftOut_8 rfl ?_
  refine g_iconst (pc := 9) (v := nI 0) C dX2_leftsWhoMayBeLeftOut_9 (by decide) ?_
  refine g_istore_n (pc := 10) (lv' := [(1, .int (nI 0)), (0, .ref h0)]) C dX2_leftsWhoMayBeLeftOut_10 rfl (by decide) rfl ?_
  refine g_iconst (pc := 11) (v := nI 0) C dX2_leftsWhoMayBeLeftOut_11 (by decide) ?_
  refine g_istore_n (pc := 12) (lv' := [(2, .int (nI 0)), (1, .int (nI 0)), (0, .ref h0)]) C dX2_leftsWhoMayBeLeftOut_12 rfl (by decide) rfl ?_
  have L13 : ∀ (NZ : Nat) (i : Nat) (u : Nat), 8 - i < NZ → (i ≤ 8) → (u = pmask (fun a => rl1.testBit a && decide (cN wi a ≠ 0)) i) → g_J p l e rm_X2_leftsWhoMayBeLeftOut s m args below meth co Q D A 3 0 0 (mtW cI cC h0 h1 h2 h3 h4 wi ol orr sf1 (nI rl1)) 13 [(0, .ref h0), (1, .int (nI u)), (2, .int (nI i))] [] := by
    intro NZ
    induction NZ with
    | zero => intro i u hN; exact absurd hN (Nat.not_lt_zero _)
    | succ NZ ih13 =>
      intro i u hN13 hi hu
      refine g_iload_n (pc := 13) C dX2_leftsWhoMayBeLeftOut_13 2 rfl rfl ?_
      refine g_bipush (pc := 14) (v := nI 8) C dX2_leftsWhoMayBeLeftOut_14 (by decide) ?_
      refine g_icmp_geN (pc := 16) C 51 (by omega) (by omega) dX2_leftsWhoMayBeLeftOut_16 (by decide) (fun c16 => ?_) (fun c16 => ?_)
      · refine g_iload_n (pc := 51) C dX2_leftsWhoMayBeLeftOut_51 1 rfl rfl ?_
        refine g_top (y := nI (pmask (fun a => decide (szN (eOut (Ew (cN wi)) a) 8 255 = szN (Ew (cN wi)) 8 255) && decide (cN wi a ≠ 0)) 8)) (by rw [hu, show i = 8 by omega]; exact congrArg nI (pmask_cong 8 (fun k hk => by rw [all_out hm (g4 on) g1 hk]))) ?_
        exact g_iret C hr hQ dX2_leftsWhoMayBeLeftOut_52 rfl ⟨_, _, rfl, rfl, g5, L, R, _, _, _, _, hm, g4 on, g1⟩
      · refine g_aload_n (pc := 19) C dX2_leftsWhoMayBeLeftOut_19 0 rfl rfl ?_
        refine g_get (pc := 20) (ci := 2) (T := TX2) (N := 5) (v := .int (nI rl1)) C in_X2_leftsWhoMayBeLeftOut_X2 0 rfl rfl 4 (by decide) fl_X2_leftsWhoMayBeLeftOut_62 rfl rfl dX2_leftsWhoMayBeLeftOut_20 ?_
        refine g_iload_n (pc := 23) C dX2_leftsWhoMayBeLeftOut_23 2 rfl rfl ?_
        refine g_callSN (pc := 24) (st := []) (As := [.int (nI rl1), .int (nI i)]) (nn := 2) (host := "FenceHandshakes") C (m_X5_hasBit l D cI cC rl1 i (Nat.lt_trans g5 (by decide)) (by first | assumption | omega)) gX2_leftsWhoMayBeLeftOut_X5_hasBit_n47 rfl rfl rfl (by decide +kernel) (by decide +kernel) (by decide +kernel) yd_X5_hasBit.2 ⟨Nat.le_of_ble_eq_true rfl, Nat.le_of_ble_eq_true rfl⟩ rfl [] rfl rfl rfl (Nat.le_of_ble_eq_true rfl) ⟨Nat.le_of_ble_eq_true rfl, Nat.le_of_ble_eq_true rfl⟩ dX2_leftsWhoMayBeLeftOut_24 ?_
        rintro _ _ ⟨rfl, rfl⟩
        refine g_eq (ws' := (mtW cI cC h0 h1 h2 h3 h4 wi ol orr sf1 (nI rl1))) (st' := [.int (bI (rl1.testBit i))]) rfl rfl ?_
        refine g_if_eqB (pc := 27) C 45 dX2_leftsWhoMayBeLeftOut_27 (by decide) (fun c27 => ?_) (fun c27 => ?_)
        · refine g_iinc (pc := 45) (lv' := [(2, .int (nI (i + 1))), (0, .ref h0), (1, .int (nI u))]) C dX2_leftsWhoMayBeLeftOut_45 2 rfl (nI_add i 1) (by decide) rfl ?_
          refine g_goto (pc := 48) C 13 dX2_leftsWhoMayBeLeftOut_48 (by decide) ?_
          refine g_lvp (lv' := [(0, .ref h0), (1, .int (nI u)), (2, .int (nI (i + 1)))]) [1, 2, 0] rfl ?_
          exact ih13 (i + 1) u (by omega) (by first | assumption | omega) (by rw [hu]; simp only [pmask]; rw [if_neg (by rw [c27]; simp)])
        · refine g_aload_n (pc := 30) C dX2_leftsWhoMayBeLeftOut_30 0 rfl rfl ?_
          refine g_get (pc := 31) (ci := 2) (T := TX2) (N := 5) (v := .ref h1) C in_X2_leftsWhoMayBeLeftOut_X2 0 rfl rfl 0 (by decide) fl_X2_leftsWhoMayBeLeftOut_9 rfl rfl dX2_leftsWhoMayBeLeftOut_31 ?_
          refine g_iload_n (pc := 34) C dX2_leftsWhoMayBeLeftOut_34 2 rfl rfl ?_
          refine g_ialdN (pc := 35) (f := wi) C 1 rfl (by omega) (by decide) dX2_leftsWhoMayBeLeftOut_35 ?_
          refine g_top (y := nI (cN wi i)) ((hw i (by omega)).1) ?_
          refine g_if_eqN (pc := 36) C 45 (Nat.lt_trans (hw i (by omega)).2 (by decide)) dX2_leftsWhoMayBeLeftOut_36 (by decide) (fun c36 => ?_) (fun c36 => ?_)
          · refine g_iinc (pc := 45) (lv' := [(2, .int (nI (i + 1))), (0, .ref h0), (1, .int (nI u))]) C dX2_leftsWhoMayBeLeftOut_45 2 rfl (nI_add i 1) (by decide) rfl ?_
            refine g_goto (pc := 48) C 13 dX2_leftsWhoMayBeLeftOut_48 (by decide) ?_
            refine g_lvp (lv' := [(0, .ref h0), (1, .int (nI u)), (2, .int (nI (i + 1)))]) [1, 2, 0] rfl ?_
            exact ih13 (i + 1) u (by omega) (by first | assumption | omega) (by rw [hu]; simp only [pmask]; rw [if_neg (by rw [decide_eq_false (fun h => h c36)]; simp)])
          · refine g_iload_n (pc := 39) C dX2_leftsWhoMayBeLeftOut_39 1 rfl rfl ?_
            refine g_iconst (pc := 40) (v := nI 1) C dX2_leftsWhoMayBeLeftOut_40 (by decide) ?_
            refine g_iload_n (pc := 41) C dX2_leftsWhoMayBeLeftOut_41 2 rfl rfl ?_
            refine g_ishlN (pc := 42) C (by omega) dX2_leftsWhoMayBeLeftOut_42 ?_
            refine g_iorN (pc := 43) C dX2_leftsWhoMayBeLeftOut_43 ?_
            refine g_istore_n (pc := 44) (lv' := [(1, .int (nI (u ||| (1 <<< i)))), (0, .ref h0), (2, .int (nI i))]) C dX2_leftsWhoMayBeLeftOut_44 rfl (by decide) rfl ?_
            refine g_iinc (pc := 45) (lv' := [(2, .int (nI (i + 1))), (1, .int (nI (u ||| (1 <<< i)))), (0, .ref h0)]) C dX2_leftsWhoMayBeLeftOut_45 2 rfl (nI_add i 1) (by decide) rfl ?_
            refine g_goto (pc := 48) C 13 dX2_leftsWhoMayBeLeftOut_48 (by decide) ?_
            refine g_lvp (lv' := [(0, .ref h0), (1, .int (nI (u ||| (1 <<< i)))), (2, .int (nI (i + 1)))]) [2, 1, 0] rfl ?_
            exact ih13 (i + 1) (u ||| (1 <<< i)) (by omega) (by first | assumption | omega) (by rw [hu]; simp only [pmask]; rw [if_pos (by rw [c27, decide_eq_true c36]; rfl)])
  refine g_lvp (lv' := [(0, .ref h0), (1, .int (nI 0)), (2, .int (nI 0))]) [2, 1, 0] rfl ?_
  exact L13 _ 0 0 (Nat.lt_succ_self _) (by first | assumption | omega) (rfl)
