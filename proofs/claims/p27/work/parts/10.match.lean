def aw (wi : Nat → Int32) : Prop := ∀ a, a < 8 → wi a = nI (cN wi a) ∧ cN wi a < 256
def ao (ol : Nat → Int32) (L : Nat → Option Nat) : Prop := ∀ a, a < 8 → ol a = pI (L a)
theorem pI_none {o : Option Nat} (hb : ∀ r, o = some r → r < 8) (h : pI o = -5) : o = none := (pI_m5 hb).mp h
theorem pI_some {o : Option Nat} (h : ¬ pI o = -5) : o.isSome = true := by
  cases o with
  | none => exact absurd rfl h
  | some r => rfl
theorem pI_nn {o : Option Nat} (h : ¬ pI o = -5) : o.isNone = false := by
  cases o with
  | none => exact absurd rfl h
  | some r => rfl
theorem ao_upd {ol : Nat → Int32} {L : Nat → Option Nat} {k : Nat} {v : Option Nat} {x : Int32} (h : ao ol L) (hx : x = pI v) : ao (upd ol k x) (oset L k v) := by
  intro a ha
  by_cases q : a = k
  · subst q; rw [upd_eq, oset_eq]; exact hx
  · rw [upd_ne q, oset_ne q]; exact h a ha
theorem alm_start {W : Nat → Nat} {L R : Nat → Option Nat} {Sn : Nat → Bool} {sl t : Nat → Nat} {b : Nat} (hm : mt W L R) (hs : Sn b = true) (hr : R b = none) : alm W L Sn sl t L R b := by
  refine ⟨hs, fun a b' ha e => ?_, fun b' a hb' _ e => hm.2 b' a hb' e, fun _ _ _ => rfl⟩
  obtain ⟨h1, h2, h3⟩ := hm.1 a b' ha e
  exact ⟨h1, fun z => (by rw [z, hr] at h2; cases h2), h2, h3⟩
theorem oset_dom {L : Nat → Option Nat} {k b : Nat} (h : (L k).isSome = true) (a : Nat) : (oset L k (some b) a).isSome = (L a).isSome := by
  by_cases q : a = k
  · subst q; rw [oset_eq, h]; rfl
  · rw [oset_ne q]
theorem oset_dom1 {L : Nat → Option Nat} {k b : Nat} (a : Nat) : (oset L k (some b) a).isSome = ((L a).isSome || decide (a = k)) := by
  by_cases q : a = k
  · subst q; rw [oset_eq]; simp
  · rw [oset_ne q, decide_eq_false q, Bool.or_false]
theorem sub_oset {f S k b : Nat} {L R : Nat → Option Nat} (h : sub f S L R) (hk : f ≤ k) (hb : S.testBit b = true) : sub f S (oset L k (some b)) (oset R b (some k)) := by
  constructor
  · intro a b' h1 h2 e
    by_cases q : a = k
    · subst q; rw [oset_eq] at e; cases e; exact hb
    · rw [oset_ne q] at e; exact h.1 a b' h1 h2 e
  · intro b' a hb' hS e
    by_cases q : b' = b
    · subst q; rw [oset_eq] at e; cases e; exact hk
    · rw [oset_ne q] at e; exact h.2 b' a hb' hS e
/-- a left person takes a right one, whoever had them before is alone -/
def ctL (L R : Nat → Option Nat) (a b : Nat) : Nat → Option Nat := oset (match R b with | some x => oset L x none | none => L) a (some b)
def ctR (L R : Nat → Option Nat) (a b : Nat) : Nat → Option Nat := oset (match L a with | some x => oset R x none | none => R) b (some a)
theorem ctL_s {L R : Nat → Option Nat} {a b x : Nat} (h : R b = some x) : ctL L R a b = oset (oset L x none) a (some b) := by rw [ctL, h]
theorem ctL_n {L R : Nat → Option Nat} {a b : Nat} (h : R b = none) : ctL L R a b = oset L a (some b) := by rw [ctL, h]
theorem ctR_s {L R : Nat → Option Nat} {a b x : Nat} (h : L a = some x) : ctR L R a b = oset (oset R x none) b (some a) := by rw [ctR, h]
theorem ctR_n {L R : Nat → Option Nat} {a b : Nat} (h : L a = none) : ctR L R a b = oset R b (some a) := by rw [ctR, h]
theorem ctL_o {W : Nat → Nat} {L R : Nat → Option Nat} {a b x y : Nat} (hm : mt W L R) (hb : b < 8) (hx : x < 8) (hxa : x ≠ a) : ctL L R a b x = some y ↔ (L x = some y ∧ y ≠ b) := by
  cases hR : R b with
  | none =>
    rw [ctL_n hR, oset_ne hxa]
    refine ⟨fun e => ⟨e, fun z => ?_⟩, fun e => e.1⟩
    rw [z] at e
    rw [(hm.1 x b hx e).2.1] at hR; cases hR
  | some z =>
    rw [ctL_s hR, oset_ne hxa]
    by_cases q : x = z
    · subst q
      rw [oset_eq]
      refine ⟨fun e => (by cases e), fun ⟨e1, e2⟩ => ?_⟩
      rw [(hm.2 b x hb hR).2] at e1
      exact absurd (Option.some.inj e1).symm e2
    · rw [oset_ne q]
      refine ⟨fun e => ⟨e, fun w => ?_⟩, fun e => e.1⟩
      rw [w] at e
      have := (hm.1 x b hx e).2.1
      rw [hR] at this
      exact q (Option.some.inj this).symm
theorem ctL_a {L R : Nat → Option Nat} {a b : Nat} : ctL L R a b a = some b := oset_eq
theorem ctR_o {W : Nat → Nat} {L R : Nat → Option Nat} {a b x y : Nat} (hm : mt W L R) (ha : a < 8) (hx : x < 8) (hxb : x ≠ b) : ctR L R a b x = some y ↔ (R x = some y ∧ y ≠ a) := by
  cases hL : L a with
  | none =>
    rw [ctR_n hL, oset_ne hxb]
    refine ⟨fun e => ⟨e, fun z => ?_⟩, fun e => e.1⟩
    rw [z] at e
    rw [(hm.2 x a hx e).2] at hL; cases hL
  | some z =>
    rw [ctR_s hL, oset_ne hxb]
    by_cases q : x = z
    · subst q
      rw [oset_eq]
      refine ⟨fun e => (by cases e), fun ⟨e1, e2⟩ => ?_⟩
      rw [(hm.1 a x ha hL).2.1] at e1
      exact absurd (Option.some.inj e1).symm e2
    · rw [oset_ne q]
      refine ⟨fun e => ⟨e, fun w => ?_⟩, fun e => e.1⟩
      rw [w] at e
      have := (hm.2 x a hx e).2
      rw [hL] at this
      exact q (Option.some.inj this).symm
theorem ctR_b {L R : Nat → Option Nat} {a b : Nat} : ctR L R a b b = some a := oset_eq
theorem ct_mt {W : Nat → Nat} {L R : Nat → Option Nat} {a b : Nat} (hm : mt W L R) (ha : a < 8) (hb : b < 8) (hE : (W a).testBit b = true) : mt W (ctL L R a b) (ctR L R a b) := by
  constructor
  · intro x y hx e
    by_cases q : x = a
    · subst q; rw [ctL_a] at e; cases e; exact ⟨hb, ctR_b, hE⟩
    · obtain ⟨e1, e2⟩ := (ctL_o hm hb hx q).mp e
      obtain ⟨h1, h2, h3⟩ := hm.1 x y hx e1
      exact ⟨h1, (ctR_o hm ha h1 e2).mpr ⟨h2, q⟩, h3⟩
  · intro y x hy e
    by_cases q : y = b
    · subst q; rw [ctR_b] at e; cases e; exact ⟨ha, ctL_a⟩
    · obtain ⟨e1, e2⟩ := (ctR_o hm ha hy q).mp e
      obtain ⟨h1, h2⟩ := hm.2 y x hy e1
      exact ⟨h1, (ctL_o hm hb h1 e2).mpr ⟨h2, q⟩⟩
theorem ct_sub {W : Nat → Nat} {L R : Nat → Option Nat} {a b u : Nat} (hm : mt W L R) (hs : sub a u L R) (ha : a < 8) (hb : b < 8) (hub : u.testBit b = true) : sub a u (ctL L R a b) (ctR L R a b) := by
  constructor
  · intro x y h1 hx e
    by_cases q : x = a
    · subst q; rw [ctL_a] at e; cases e; exact hub
    · exact hs.1 x y h1 hx ((ctL_o hm hb hx q).mp e).1
  · intro y x hy hS e
    by_cases q : y = b
    · subst q; rw [ctR_b] at e; cases e; exact Nat.le_refl _
    · exact hs.2 y x hy hS ((ctR_o hm ha hy q).mp e).1
theorem ct_sub2 {W : Nat → Nat} {L R : Nat → Option Nat} {a b u : Nat} (hm : mt W L R) (hs : sub a u L R) (ha : a < 8) (hb : b < 8) : sub (a + 1) (clr u b) (ctL L R a b) (ctR L R a b) := by
  constructor
  · intro x y h1 hx e
    obtain ⟨e1, e2⟩ := (ctL_o hm hb hx (by omega)).mp e
    rw [clr_bit (by have := (hm.1 x y hx e1).1; omega), hs.1 x y (by omega) hx e1, decide_eq_false (fun z => e2 z.symm)]
    rfl
  · intro y x hy hS e
    rw [clr_bit (by omega), Bool.and_eq_true] at hS
    by_cases q : y = b
    · subst q; rw [decide_eq_true rfl] at hS; cases hS.2
    · obtain ⟨e1, e2⟩ := (ctR_o hm ha hy q).mp e
      have := hs.2 y x hy hS.1 e1
      omega
theorem ct_pre {L R : Nat → Option Nat} {a b u : Nat} (hs : sub a u L R) (hb : b < 8) (hub : u.testBit b = true) (x : Nat) (hx : x < a) : ctL L R a b x = L x := by
  cases hR : R b with
  | none => rw [ctL_n hR, oset_ne (by omega)]
  | some z =>
    have := hs.2 b z hb hub hR
    rw [ctL_s hR, oset_ne (by omega), oset_ne (by omega)]
theorem ct_cnt {W : Nat → Nat} {L R : Nat → Option Nat} {a b u : Nat} (hm : mt W L R) (hs : sub a u L R) (ha : a < 8) (hb : b < 8) (hub : u.testBit b = true) (hne : L a ≠ some b) :
    cntT (fun x => (L x).isSome) (8 - a) + (if (R b).isSome = true then 0 else 1) = cntT (fun x => (ctL L R a b x).isSome) (8 - a) + (if (L a).isSome = true then 1 else 0) := by
  cases hR : R b with
  | none =>
    rw [ctL_n hR]
    have e := cntT_upd (p := fun x => (L x).isSome) (p' := fun x => (oset L a (some b) x).isSome) (k := a) (fun x hx => by rw [oset_ne hx]) ha (8 - a) (by omega) (by omega)
    simp only [oset_eq, Option.isSome_some, if_true] at e
    simp only [Option.isSome_none, Bool.false_eq_true, if_false]
    omega
  | some z =>
    rw [ctL_s hR]
    obtain ⟨k1, k2⟩ := hm.2 b z hb hR
    have hz := hs.2 b z hb hub hR
    have hza : z ≠ a := fun w => hne (w ▸ k2)
    have e := cntT_upd (p := fun x => (L x).isSome) (p' := fun x => (oset L z none x).isSome) (k := z) (fun x hx => by rw [oset_ne hx]) k1 (8 - a) (by omega) (by omega)
    have e2 := cntT_upd (p := fun x => (oset L z none x).isSome) (p' := fun x => (oset (oset L z none) a (some b) x).isSome) (k := a) (fun x hx => by rw [oset_ne hx]) ha (8 - a) (by omega) (by omega)
    simp only [oset_eq, k2, Option.isSome_some, Option.isSome_none, if_true, Bool.false_eq_true, if_false, oset_ne hza.symm] at e e2
    simp only [Option.isSome_some, if_true]
    omega
theorem cntT_succ {p : Nat → Bool} {a : Nat} (ha : a < 8) : cntT p (8 - a) = cntT p (7 - a) + (if p a = true then 1 else 0) := by
  obtain ⟨m, hm⟩ : ∃ m, 8 - a = m + 1 := ⟨7 - a, by omega⟩
  rw [hm, show 7 - a = m by omega]
  simp only [cntT]
  rw [show 7 - m = a by omega]
/-- the exchange failed: all is as it was -/
theorem ct_undoL {W : Nat → Nat} {L R : Nat → Option Nat} {a b x y : Nat} {ol : Nat → Int32} (hm : mt W L R) (hb : b < 8) (h : ao ol (ctL L R a b)) (hL : L a = some x) (hR : R b = some y) (hne : L a ≠ some b) : ao (upd (upd ol a (nI x)) y (nI b)) L := by
  have hy := hm.2 b y hb hR
  intro k hk
  by_cases q : k = y
  · subst q; rw [upd_eq, hy.2]; rfl
  · rw [upd_ne q]
    by_cases q2 : k = a
    · subst q2; rw [upd_eq, hL]; rfl
    · rw [upd_ne q2, h k hk, ctL_s hR, oset_ne q2, oset_ne q]
theorem ct_undoR {W : Nat → Nat} {L R : Nat → Option Nat} {a b x y : Nat} {orr : Nat → Int32} (hm : mt W L R) (ha : a < 8) (h : ao orr (ctR L R a b)) (hL : L a = some x) (hR : R b = some y) (hne : L a ≠ some b) : ao (upd (upd orr x (nI a)) b (nI y)) R := by
  have hx := hm.1 a x ha hL
  intro k hk
  by_cases q : k = b
  · subst q; rw [upd_eq, hR]; rfl
  · rw [upd_ne q]
    by_cases q2 : k = x
    · subst q2; rw [upd_eq, hx.2.1]; rfl
    · rw [upd_ne q2, h k hk, ctR_s hL, oset_ne q, oset_ne q2]
theorem can_sub {W : Nat → Nat} {L R L3 R3 : Nat → Option Nat} {a b u : Nat} (hm : mt W L R) (hs : sub a u L R) (ha : a < 8) (hb : b < 8) (hub : u.testBit b = true) (h3 : mt W L3 R3) (hs3 : sub (a + 1) (clr u b) L3 R3) (hp : ∀ x, x < a + 1 → L3 x = ctL L R a b x) : sub a u L3 R3 := by
  constructor
  · intro x y h1 hx e
    by_cases q : x = a
    · subst q
      rw [hp x (by omega), ctL_a] at e
      cases e; exact hub
    · have := hs3.1 x y (by omega) hx e
      rw [clr_bit (by have := (h3.1 x y hx e).1; omega), Bool.and_eq_true] at this
      exact this.1
  · intro y x hy hS e
    by_cases q : y = b
    · subst q
      have e1 := (h3.1 a y ha ((hp a (by omega)).trans ctL_a)).2.1
      rw [e] at e1
      cases e1; exact Nat.le_refl _
    · have := hs3.2 y x hy (by rw [clr_bit (by omega), hS, decide_eq_false (fun z => q z.symm)]; rfl) e
      omega
theorem can_cnt {L3 L4 : Nat → Option Nat} {a b a0 K : Nat} (ha : a < 8) (h0 : L3 a = L4 a) (w3 : a + 1 ≤ a0) (w4 : a0 < 8) (w5 : L4 a0 = none) (w6 : ∀ x, x < 8 → (L3 x).isSome = ((L4 x).isSome || decide (x = a0))) (h9 : K = cntT (fun x => (L4 x).isSome) (8 - a) + 1) (h10 : cntT (fun x => (L4 x).isSome) (8 - a) = b) : K ≤ cntT (fun x => (L3 x).isSome) (8 - a) := by
  have e := cntT_upd (p := fun x => (L4 x).isSome) (p' := fun x => ((L4 x).isSome || decide (x = a0))) (k := a0) (fun x hx => by rw [decide_eq_false hx, Bool.or_false]) w4 (8 - a) (by omega) (by omega)
  rw [w5] at e
  simp only [Option.isSome_none, Bool.false_eq_true, if_false, decide_true, Bool.or_true, if_true] at e
  rw [cntT_cong (p := fun x => (L3 x).isSome) (q := fun x => ((L4 x).isSome || decide (x = a0))) (8 - a) (by omega) (fun x _ hx => w6 x hx)]
  omega
abbrev mtW (cI cC : ClassId) (h0 h1 h2 h3 h4 : Nat) (wi : Nat → Int32) (ol : Nat → Int32) (orr : Nat → Int32) (sf : Nat → Int32) (rl : Int32) : va_W := [(h0, .inr (2, [.ref h1, .ref h2, .ref h3, .ref h4, .int rl])), (h1, .inl (cI, 8, .inl wi)), (h2, .inl (cI, 8, .inl ol)), (h3, .inl (cI, 8, .inl orr)), (h4, .inl (cI, 8, .inl sf))]
abbrev rm_X2_partnerOf : Room := { frames := 0, cells := 0, slots := 0, locals := 0 }
theorem yd_X2_partnerOf : yX2_partnerOf.cls = RX2 ∧ yX2_partnerOf.cls ≠ "java/lang/invoke/MethodHandle" ∧ yX2_partnerOf.cls ≠ "java/lang/invoke/VarHandle" ∧ (parseMethodDescriptor yX2_partnerOf.desc).map (fun d => d.parameters.length) = some 2 := by decide +kernel
theorem in_X2_partnerOf_X2 : ∀ w ∈ u_ws RX2 TX2 5, w ∈ wsX2_partnerOf := by decide +kernel
theorem fl_X2_partnerOf_15 : Cond.fieldLink RX2 15 "FenceHandshakes$Matching" "ofLeft" "[I" ∈ wsX2_partnerOf := by decide +kernel
theorem fl_X2_partnerOf_18 : Cond.fieldLink RX2 18 "FenceHandshakes$Matching" "ofRight" "[I" ∈ wsX2_partnerOf := by decide +kernel
set_option maxHeartbeats 4000000 in
set_option maxRecDepth 100000 in
theorem m_X2_partnerOf (l : Launch) (D : va_G) (cI cC : ClassId) (h0 h1 h2 h3 h4 : Nat) (wi : Nat → Int32) (ol : Nat → Int32) (orr : Nat → Int32) (sf : Nat → Int32) (rl : Nat) (q : Bool) (a : Nat) (ha : a < 8) : g_M l yX2_partnerOf wsX2_partnerOf rm_X2_partnerOf D cI cC [.ref h0, .int (bI q), .int (nI a)] (mtW cI cC h0 h1 h2 h3 h4 wi ol orr sf (nI rl)) (fun vv ww => vv = some (.int ((if q then ol else orr) a)) ∧ ww = (mtW cI cC h0 h1 h2 h3 h4 wi ol orr sf (nI rl))) := by
  refine g_entry (lv := [(0, .ref h0), (1, .int (bI q)), (2, .int (nI a))]) (own := RX2) (by decide) rfl rfl (Nat.le_of_ble_eq_true rfl) rfl ?_
  intro p e s m args below meth co A Q C hr hQ
  refine g_iload_n (pc := 0) C dX2_partnerOf_0 1 rfl rfl ?_
  refine g_if_eqB (pc := 1) C 13 dX2_partnerOf_1 (by decide) (fun c1 => ?_) (fun c1 => ?_)
  · refine g_aload_n (pc := 13) C dX2_partnerOf_13 0 rfl rfl ?_
    refine g_get (pc := 14) (ci := 2) (T := TX2) (N := 5) (v := .ref h3) C in_X2_partnerOf_X2 0 rfl rfl 2 (by decide) fl_X2_partnerOf_18 rfl rfl dX2_partnerOf_14 ?_
    refine g_iload_n (pc := 17) C dX2_partnerOf_17 2 rfl rfl ?_
    refine g_ialdN (pc := 18) (f := orr) C 3 rfl (by omega) (by decide) dX2_partnerOf_18 ?_
    refine g_top (y := ((if q then ol else orr) a)) (by rw [c1]; rfl) ?_
    exact g_iret C hr hQ dX2_partnerOf_19 rfl ⟨rfl, rfl⟩
  · refine g_aload_n (pc := 4) C dX2_partnerOf_4 0 rfl rfl ?_
    refine g_get (pc := 5) (ci := 2) (T := TX2) (N := 5) (v := .ref h2) C in_X2_partnerOf_X2 0 rfl rfl 1 (by decide) fl_X2_partnerOf_15 rfl rfl dX2_partnerOf_5 ?_
    refine g_iload_n (pc := 8) C dX2_partnerOf_8 2 rfl rfl ?_
    refine g_ialdN (pc := 9) (f := ol) C 2 rfl (by omega) (by decide) dX2_partnerOf_9 ?_
    refine g_goto (pc := 10) C 19 dX2_partnerOf_10 (by decide) ?_
    refine g_top (y := ((if q then ol else orr) a)) (by rw [c1]; rfl) ?_
    exact g_iret C hr hQ dX2_partnerOf_19 rfl ⟨rfl, rfl⟩

abbrev rm_X2_size : Room := { frames := 1, cells := 0, slots := 0, locals := 20 }
theorem yd_X2_size : yX2_size.cls = RX2 ∧ yX2_size.cls ≠ "java/lang/invoke/MethodHandle" ∧ yX2_size.cls ≠ "java/lang/invoke/VarHandle" ∧ (parseMethodDescriptor yX2_size.desc).map (fun d => d.parameters.length) = some 0 := by decide +kernel
theorem in_X2_size_X2 : ∀ w ∈ u_ws RX2 TX2 5, w ∈ wsX2_size := by decide +kernel
theorem fl_X2_size_15 : Cond.fieldLink RX2 15 "FenceHandshakes$Matching" "ofLeft" "[I" ∈ wsX2_size := by decide +kernel
set_option maxHeartbeats 4000000 in
set_option maxRecDepth 100000 in
theorem m_X2_size (l : Launch) (D : va_G) (cI cC : ClassId) (h0 h1 h2 h3 h4 : Nat) (wi : Nat → Int32) (ol : Nat → Int32) (orr : Nat → Int32) (sf : Nat → Int32) (rl : Nat) (L : Nat → Option Nat) (hL : ao ol L) (hb : ∀ a b, a < 8 → L a = some b → b < 8) : g_M l yX2_size wsX2_size rm_X2_size D cI cC [.ref h0] (mtW cI cC h0 h1 h2 h3 h4 wi ol orr sf (nI rl)) (fun vv ww => vv = some (.int (nI (cnt (fun a => (L a).isSome) 8))) ∧ ww = (mtW cI cC h0 h1 h2 h3 h4 wi ol orr sf (nI rl))) := by
  refine g_entry (lv := [(0, .ref h0)]) (own := RX2) (by decide) rfl rfl (Nat.le_of_ble_eq_true rfl) rfl ?_
  intro p e s m args below meth co A Q C hr hQ
  refine g_iconst (pc := 0) (v := nI 0) C dX2_size_0 (by decide) ?_
  refine g_istore_n (pc := 1) (lv' := [(1, .int (nI 0)), (0, .ref h0)]) C dX2_size_1 rfl (by decide) rfl ?_
  refine g_iconst (pc := 2) (v := nI 0) C dX2_size_2 (by decide) ?_
  refine g_istore_n (pc := 3) (lv' := [(2, .int (nI 0)), (1, .int (nI 0)), (0, .ref h0)]) C dX2_size_3 rfl (by decide) rfl ?_
  have L4 : ∀ (NZ : Nat) (i : Nat) (u : Nat), 8 - i < NZ → (i ≤ 8) → (u = cnt (fun a => (L a).isSome) i) → g_J p l e rm_X2_size s m args below meth co Q D A 3 0 0 (mtW cI cC h0 h1 h2 h3 h4 wi ol orr sf (nI rl)) 4 [(0, .ref h0), (1, .int (nI u)), (2, .int (nI i))] [] := by
    intro NZ
    induction NZ with
    | zero => intro i u hN; exact absurd hN (Nat.not_lt_zero _)
    | succ NZ ih4 =>
      intro i u hN4 hi hu
      refine g_iload_n (pc := 4) C dX2_size_4 2 rfl rfl ?_
      refine g_bipush (pc := 5) (v := nI 8) C dX2_size_5 (by decide) ?_
      refine g_icmp_geN (pc := 7) C 38 (by omega) (by omega) dX2_size_7 (by decide) (fun c7 => ?_) (fun c7 => ?_)
      · refine g_iload_n (pc := 38) C dX2_size_38 1 rfl rfl ?_
        refine g_top (y := nI (cnt (fun a => (L a).isSome) 8)) (by rw [hu, show i = 8 by omega]) ?_
        exact g_iret C hr hQ dX2_size_39 rfl ⟨rfl, rfl⟩
      · refine g_iload_n (pc := 10) C dX2_size_10 1 rfl rfl ?_
        refine g_aload_n (pc := 11) C dX2_size_11 0 rfl rfl ?_
        refine g_get (pc := 12) (ci := 2) (T := TX2) (N := 5) (v := .ref h2) C in_X2_size_X2 0 rfl rfl 1 (by decide) fl_X2_size_15 rfl rfl dX2_size_12 ?_
        refine g_iload_n (pc := 15) C dX2_size_15 2 rfl rfl ?_
        refine g_ialdN (pc := 16) (f := ol) C 2 rfl (by omega) (by decide) dX2_size_16 ?_
        refine g_top (y := (pI (L i))) (hL i (by omega)) ?_
        refine g_bipush (pc := 17) (v := (-5)) C dX2_size_17 (by decide) ?_
        refine g_icmp_eq (pc := 19) C 26 dX2_size_19 (by decide) (fun c19 => ?_) (fun c19 => ?_)
        · refine g_iconst (pc := 26) (v := nI 0) C dX2_size_26 (by decide) ?_
          refine g_callSN (pc := 27) (st := [.int (nI u)]) (As := [.int (bI false)]) (nn := 1) (host := "FenceHandshakes") C (m_X5_asNumber l D cI cC false) gX2_size_X5_asNumber_n24 rfl rfl rfl (by decide +kernel) (by decide +kernel) (by decide +kernel) yd_X5_asNumber.2 ⟨Nat.le_of_ble_eq_true rfl, Nat.le_of_ble_eq_true rfl⟩ rfl [] rfl rfl rfl (Nat.le_of_ble_eq_true rfl) ⟨Nat.le_of_ble_eq_true rfl, Nat.le_of_ble_eq_true rfl⟩ dX2_size_27 ?_
          rintro _ _ ⟨rfl, rfl⟩
          refine g_eq (ws' := (mtW cI cC h0 h1 h2 h3 h4 wi ol orr sf (nI rl))) (st' := [.int (bI false), .int (nI u)]) rfl rfl ?_
          refine g_top (y := nI (if false then 1 else 0)) (bI_nI _) ?_
          refine g_iaddN (pc := 30) C dX2_size_30 ?_
          refine g_istore_n (pc := 31) (lv' := [(1, .int (nI (u + (if false then 1 else 0)))), (0, .ref h0), (2, .int (nI i))]) C dX2_size_31 rfl (by decide) rfl ?_
          refine g_iinc (pc := 32) (lv' := [(2, .int (nI (i + 1))), (1, .int (nI (u + (if false then 1 else 0)))), (0, .ref h0)]) C dX2_size_32 2 rfl (nI_add i 1) (by decide) rfl ?_
          refine g_goto (pc := 35) C 4 dX2_size_35 (by decide) ?_
          refine g_lvp (lv' := [(0, .ref h0), (1, .int (nI (u + (if false then 1 else 0)))), (2, .int (nI (i + 1)))]) [2, 1, 0] rfl ?_
          exact ih4 (i + 1) (u + (if false then 1 else 0)) (by omega) (by first | assumption | omega) (by rw [hu, cnt, pI_none (hb i · (by omega)) c19]; rfl)
        · refine g_iconst (pc := 22) (v := nI 1) C dX2_size_22 (by decide) ?_
          refine g_goto (pc := 23) C 27 dX2_size_23 (by decide) ?_
          refine g_callSN (pc := 27) (st := [.int (nI u)]) (As := [.int (bI true)]) (nn := 1) (host := "FenceHandshakes") C (m_X5_asNumber l D cI cC true) gX2_size_X5_asNumber_n24 rfl rfl rfl (by decide +kernel) (by decide +kernel) (by decide +kernel) yd_X5_asNumber.2 ⟨Nat.le_of_ble_eq_true rfl, Nat.le_of_ble_eq_true rfl⟩ rfl [] rfl rfl rfl (Nat.le_of_ble_eq_true rfl) ⟨Nat.le_of_ble_eq_true rfl, Nat.le_of_ble_eq_true rfl⟩ dX2_size_27 ?_
          rintro _ _ ⟨rfl, rfl⟩
          refine g_eq (ws' := (mtW cI cC h0 h1 h2 h3 h4 wi ol orr sf (nI rl))) (st' := [.int (bI true), .int (nI u)]) rfl rfl ?_
          refine g_top (y := nI (if true then 1 else 0)) (bI_nI _) ?_
          refine g_iaddN (pc := 30) C dX2_size_30 ?_
          refine g_istore_n (pc := 31) (lv' := [(1, .int (nI (u + (if true then 1 else 0)))), (0, .ref h0), (2, .int (nI i))]) C dX2_size_31 rfl (by decide) rfl ?_
          refine g_iinc (pc := 32) (lv' := [(2, .int (nI (i + 1))), (1, .int (nI (u + (if true then 1 else 0)))), (0, .ref h0)]) C dX2_size_32 2 rfl (nI_add i 1) (by decide) rfl ?_
          refine g_goto (pc := 35) C 4 dX2_size_35 (by decide) ?_
          refine g_lvp (lv' := [(0, .ref h0), (1, .int (nI (u + (if true then 1 else 0)))), (2, .int (nI (i + 1)))]) [2, 1, 0] rfl ?_
          exact ih4 (i + 1) (u + (if true then 1 else 0)) (by omega) (by first | assumption | omega) (by rw [hu, cnt, pI_some c19])
  refine g_lvp (lv' := [(0, .ref h0), (1, .int (nI 0)), (2, .int (nI 0))]) [2, 1, 0] rfl ?_
  exact L4 _ 0 0 (Nat.lt_succ_self _) (by first | assumption | omega) (rfl)

abbrev rm_X2_leftsWithoutPartner : Room := { frames := 0, cells := 0, slots := 0, locals := 0 }
theorem yd_X2_leftsWithoutPartner : yX2_leftsWithoutPartner.cls = RX2 ∧ yX2_leftsWithoutPartner.cls ≠ "java/lang/invoke/MethodHandle" ∧ yX2_leftsWithoutPartner.cls ≠ "java/lang/invoke/VarHandle" ∧ (parseMethodDescriptor yX2_leftsWithoutPartner.desc).map (fun d => d.parameters.length) = some 1 := by decide +kernel
theorem in_X2_leftsWithoutPartner_X2 : ∀ w ∈ u_ws RX2 TX2 5, w ∈ wsX2_leftsWithoutPartner := by decide +kernel
theorem fl_X2_leftsWithoutPartner_15 : Cond.fieldLink RX2 15 "FenceHandshakes$Matching" "ofLeft" "[I" ∈ wsX2_leftsWithoutPartner := by decide +kernel
set_option maxHeartbeats 4000000 in
set_option maxRecDepth 100000 in
theorem m_X2_leftsWithoutPartner (l : Launch) (D : va_G) (cI cC : ClassId) (h0 h1 h2 h3 h4 : Nat) (wi : Nat → Int32) (ol : Nat → Int32) (orr : Nat → Int32) (sf : Nat → Int32) (rl : Nat) (L : Nat → Option Nat) (f : Nat) (hL : ao ol L) (hb : ∀ a b, a < 8 → L a = some b → b < 8) (hf : f ≤ 8) : g_M l yX2_leftsWithoutPartner wsX2_leftsWithoutPartner rm_X2_leftsWithoutPartner D cI cC [.ref h0, .int (nI f)] (mtW cI cC h0 h1 h2 h3 h4 wi ol orr sf (nI rl)) (fun vv ww => vv = some (.int (nI (pmask (fun a => decide (f ≤ a) && (L a).isNone) 8))) ∧ ww = (mtW cI cC h0 h1 h2 h3 h4 wi ol orr sf (nI rl))) := by
  refine g_entry (lv := [(0, .ref h0), (1, .int (nI f))]) (own := RX2) (by decide) rfl rfl (Nat.le_of_ble_eq_true rfl) rfl ?_
  intro p e s m args below meth co A Q C hr hQ
  refine g_iconst (pc := 0) (v := nI 0) C dX2_leftsWithoutPartner_0 (by decide) ?_
  refine g_istore_n (pc := 1) (lv' := [(2, .int (nI 0)), (0, .ref h0), (1, .int (nI f))]) C dX2_leftsWithoutPartner_1 rfl (by decide) rfl ?_
  refine g_iload_n (pc := 2) C dX2_leftsWithoutPartner_2 2 rfl rfl ?_
  refine g_istore_n (pc := 3) (lv' := [(3, .int (nI f)), (2, .int (nI 0)), (0, .ref h0), (1, .int (nI f))]) C dX2_leftsWithoutPartner_3 rfl (by decide) rfl ?_
  have L4 : ∀ (NZ : Nat) (i : Nat) (u : Nat), 8 - i < NZ → (f ≤ i ∧ i ≤ 8) → (u = (pmask (fun a => decide (f ≤ a) && (L a).isNone) i)) → g_J p l e rm_X2_leftsWithoutPartner s m args below meth co Q D A 4 0 0 (mtW cI cC h0 h1 h2 h3 h4 wi ol orr sf (nI rl)) 4 [(0, .ref h0), (1, .int (nI f)), (2, .int (nI u)), (3, .int (nI i))] [] := by
    intro NZ
    induction NZ with
    | zero => intro i u hN; exact absurd hN (Nat.not_lt_zero _)
    | succ NZ ih4 =>
      intro i u hN4 hi hu
      refine g_iload_n (pc := 4) C dX2_leftsWithoutPartner_4 3 rfl rfl ?_
      refine g_bipush (pc := 5) (v := nI 8) C dX2_leftsWithoutPartner_5 (by decide) ?_
      refine g_icmp_geN (pc := 7) C 33 (by omega) (by omega) dX2_leftsWithoutPartner_7 (by decide) (fun c7 => ?_) (fun c7 => ?_)
      · refine g_iload_n (pc := 33) C dX2_leftsWithoutPartner_33 2 rfl rfl ?_
        refine g_top (y := nI (pmask (fun a => decide (f ≤ a) && (L a).isNone) 8)) (by rw [hu, show i = 8 by omega]) ?_
        exact g_iret C hr hQ dX2_leftsWithoutPartner_34 rfl ⟨rfl, rfl⟩
      · refine g_aload_n (pc := 10) C dX2_leftsWithoutPartner_10 0 rfl rfl ?_
        refine g_get (pc := 11) (ci := 2) (T := TX2) (N := 5) (v := .ref h2) C in_X2_leftsWithoutPartner_X2 0 rfl rfl 1 (by decide) fl_X2_leftsWithoutPartner_15 rfl rfl dX2_leftsWithoutPartner_11 ?_
        refine g_iload_n (pc := 14) C dX2_leftsWithoutPartner_14 3 rfl rfl ?_
        refine g_ialdN (pc := 15) (f := ol) C 2 rfl (by omega) (by decide) dX2_leftsWithoutPartner_15 ?_
        refine g_top (y := (pI (L i))) (hL i (by omega)) ?_
        refine g_bipush (pc := 16) (v := (-5)) C dX2_leftsWithoutPartner_16 (by decide) ?_
        refine g_icmp_ne (pc := 18) C 27 dX2_leftsWithoutPartner_18 (by decide) (fun c18 => ?_) (fun c18 => ?_)
        · refine g_iinc (pc := 27) (lv' := [(3, .int (nI (i + 1))), (0, .ref h0), (1, .int (nI f)), (2, .int (nI u))]) C dX2_leftsWithoutPartner_27 3 rfl (nI_add i 1) (by decide) rfl ?_
          refine g_goto (pc := 30) C 4 dX2_leftsWithoutPartner_30 (by decide) ?_
          refine g_lvp (lv' := [(0, .ref h0), (1, .int (nI f)), (2, .int (nI u)), (3, .int (nI (i + 1)))]) [1, 2, 3, 0] rfl ?_
          exact ih4 (i + 1) u (by omega) (by first | assumption | omega) (by rw [hu]; simp only [pmask]; rw [if_neg (by rw [pI_nn c18]; simp)])
        · refine g_iload_n (pc := 21) C dX2_leftsWithoutPartner_21 2 rfl rfl ?_
          refine g_iconst (pc := 22) (v := nI 1) C dX2_leftsWithoutPartner_22 (by decide) ?_
          refine g_iload_n (pc := 23) C dX2_leftsWithoutPartner_23 3 rfl rfl ?_
          refine g_ishlN (pc := 24) C (by omega) dX2_leftsWithoutPartner_24 ?_
          refine g_iorN (pc := 25) C dX2_leftsWithoutPartner_25 ?_
          refine g_istore_n (pc := 26) (lv' := [(2, .int (nI (u ||| (1 <<< i)))), (0, .ref h0), (1, .int (nI f)), (3, .int (nI i))]) C dX2_leftsWithoutPartner_26 rfl (by decide) rfl ?_
          refine g_iinc (pc := 27) (lv' := [(3, .int (nI (i + 1))), (2, .int (nI (u ||| (1 <<< i)))), (0, .ref h0), (1, .int (nI f))]) C dX2_leftsWithoutPartner_27 3 rfl (nI_add i 1) (by decide) rfl ?_
          refine g_goto (pc := 30) C 4 dX2_leftsWithoutPartner_30 (by decide) ?_
          refine g_lvp (lv' := [(0, .ref h0), (1, .int (nI f)), (2, .int (nI (u ||| (1 <<< i)))), (3, .int (nI (i + 1)))]) [2, 3, 1, 0] rfl ?_
          exact ih4 (i + 1) (u ||| (1 <<< i)) (by omega) (by first | assumption | omega) (by rw [hu]; simp only [pmask]; rw [if_pos (by rw [decide_eq_true hi.1, pI_none (hb i · (by omega)) c18]; rfl)])
  refine g_lvp (lv' := [(0, .ref h0), (1, .int (nI f)), (2, .int (nI 0)), (3, .int (nI f))]) [2, 3, 1, 0] rfl ?_
  exact L4 _ f 0 (Nat.lt_succ_self _) (by first | assumption | omega) ((pmask_0 _ f (fun k hk => by rw [decide_eq_false (by omega)]; rfl)).symm)

abbrev rm_X2_join : Room := { frames := 0, cells := 0, slots := 0, locals := 0 }
theorem yd_X2_join : yX2_join.cls = RX2 ∧ yX2_join.cls ≠ "java/lang/invoke/MethodHandle" ∧ yX2_join.cls ≠ "java/lang/invoke/VarHandle" ∧ (parseMethodDescriptor yX2_join.desc).map (fun d => d.parameters.length) = some 2 := by decide +kernel
theorem in_X2_join_X2 : ∀ w ∈ u_ws RX2 TX2 5, w ∈ wsX2_join := by decide +kernel
theorem fl_X2_join_15 : Cond.fieldLink RX2 15 "FenceHandshakes$Matching" "ofLeft" "[I" ∈ wsX2_join := by decide +kernel
theorem fl_X2_join_18 : Cond.fieldLink RX2 18 "FenceHandshakes$Matching" "ofRight" "[I" ∈ wsX2_join := by decide +kernel
set_option maxHeartbeats 4000000 in
set_option maxRecDepth 100000 in
theorem m_X2_join (l : Launch) (D : va_G) (cI cC : ClassId) (h0 h1 h2 h3 h4 : Nat) (wi : Nat → Int32) (ol : Nat → Int32) (orr : Nat → Int32) (sf : Nat → Int32) (rl : Nat) (a : Nat) (b : Nat) (ha : a < 8) (hb : b < 8) : g_M l yX2_join wsX2_join rm_X2_join D cI cC [.ref h0, .int (nI a), .int (nI b)] (mtW cI cC h0 h1 h2 h3 h4 wi ol orr sf (nI rl)) (fun vv ww => vv = none ∧ ww = (mtW cI cC h0 h1 h2 h3 h4 wi (upd ol a (nI b)) (upd orr b (nI a)) sf (nI rl))) := by
  refine g_entry (lv := [(0, .ref h0), (1, .int (nI a)), (2, .int (nI b))]) (own := RX2) (by decide) rfl rfl (Nat.le_of_ble_eq_true rfl) rfl ?_
  intro p e s m args below meth co A Q C hr hQ
  refine g_aload_n (pc := 0) C dX2_join_0 0 rfl rfl ?_
  refine g_get (pc := 1) (ci := 2) (T := TX2) (N := 5) (v := .ref h2) C in_X2_join_X2 0 rfl rfl 1 (by decide) fl_X2_join_15 rfl rfl dX2_join_1 ?_
  refine g_iload_n (pc := 4) C dX2_join_4 1 rfl rfl ?_
  refine g_iload_n (pc := 5) C dX2_join_5 2 rfl rfl ?_
  refine g_iastN (pc := 6) (f := ol) (ws' := (mtW cI cC h0 h1 h2 h3 h4 wi (upd ol a (nI b)) orr sf (nI rl))) C 2 rfl (by omega) (by decide) dX2_join_6 rfl ?_
  refine g_aload_n (pc := 7) C dX2_join_7 0 rfl rfl ?_
  refine g_get (pc := 8) (ci := 2) (T := TX2) (N := 5) (v := .ref h3) C in_X2_join_X2 0 rfl rfl 2 (by decide) fl_X2_join_18 rfl rfl dX2_join_8 ?_
  refine g_iload_n (pc := 11) C dX2_join_11 2 rfl rfl ?_
  refine g_iload_n (pc := 12) C dX2_join_12 1 rfl rfl ?_
  refine g_iastN (pc := 13) (f := orr) (ws' := (mtW cI cC h0 h1 h2 h3 h4 wi (upd ol a (nI b)) (upd orr b (nI a)) sf (nI rl))) C 3 rfl (by omega) (by decide) dX2_join_13 rfl ?_
  exact g_vret C hr hQ dX2_join_14 rfl ⟨rfl, rfl⟩

abbrev rm_X2_findFreeRight : Room := { frames := 1, cells := 0, slots := 0, locals := 23 }
theorem yd_X2_findFreeRight : yX2_findFreeRight.cls = RX2 ∧ yX2_findFreeRight.cls ≠ "java/lang/invoke/MethodHandle" ∧ yX2_findFreeRight.cls ≠ "java/lang/invoke/VarHandle" ∧ (parseMethodDescriptor yX2_findFreeRight.desc).map (fun d => d.parameters.length) = some 2 := by decide +kernel
theorem in_X2_findFreeRight_X2 : ∀ w ∈ u_ws RX2 TX2 5, w ∈ wsX2_findFreeRight := by decide +kernel
theorem fl_X2_findFreeRight_9 : Cond.fieldLink RX2 9 "FenceHandshakes$Matching" "wished" "[I" ∈ wsX2_findFreeRight := by decide +kernel
theorem fl_X2_findFreeRight_18 : Cond.fieldLink RX2 18 "FenceHandshakes$Matching" "ofRight" "[I" ∈ wsX2_findFreeRight := by decide +kernel
theorem fl_X2_findFreeRight_21 : Cond.fieldLink RX2 21 "FenceHandshakes$Matching" "seenFrom" "[I" ∈ wsX2_findFreeRight := by decide +kernel
theorem fl_X2_findFreeRight_62 : Cond.fieldLink RX2 62 "FenceHandshakes$Matching" "reachedLefts" "I" ∈ wsX2_findFreeRight := by decide +kernel
set_option maxHeartbeats 4000000 in
set_option maxRecDepth 100000 in
theorem m_X2_findFreeRight (l : Launch) (D : va_G) (cI cC : ClassId) (h0 h1 h2 h3 h4 : Nat) (wi : Nat → Int32) (ol : Nat → Int32) (orr : Nat → Int32) (sf : Nat → Int32) (rl : Nat) (L : Nat → Option Nat) (R : Nat → Option Nat) (f : Nat) (S : Nat) (hw : aw wi) (hL : ao ol L) (hR : ao orr R) (hm : mt (cN wi) L R) (hs : sub f S L R) (hf : f ≤ 8) (hS : S < 256) : g_M l yX2_findFreeRight wsX2_findFreeRight rm_X2_findFreeRight D cI cC [.ref h0, .int (nI f), .int (nI S)] (mtW cI cC h0 h1 h2 h3 h4 wi ol orr sf (nI rl)) (fun vv ww => ∃ (o : Option Nat) (sf2 : Nat → Int32) (rl2 : Nat) (sl : Nat → Nat) (t : Nat → Nat) (Sn : Nat → Bool), vv = some (.int (pI o)) ∧ ww = (mtW cI cC h0 h1 h2 h3 h4 wi ol orr sf2 (nI rl2)) ∧ ch (cN wi) L f S Sn sl t ∧ (∀ b, Sn b = true → sf2 b = nI (sl b)) ∧ (∀ b, o = some b → Sn b = true ∧ R b = none) ∧ (o = none → closed (cN wi) L R f S rl2 Sn) ∧ rl2 < 256) := by
  refine g_entry (lv := [(0, .ref h0), (1, .int (nI f)), (2, .int (nI S))]) (own := RX2) (by decide) rfl rfl (Nat.le_of_ble_eq_true rfl) rfl ?_
  intro p e s m args below meth co A Q C hr hQ
  refine g_aload_n (pc := 0) C dX2_findFreeRight_0 0 rfl rfl ?_
  refine g_iload_n (pc := 1) C dX2_findFreeRight_1 1 rfl rfl ?_
  refine g_callV (pc := 2) (st := []) (As := [.int (nI f)]) (nn := 1) (ci := 2) (q0 := 0) C (m_X2_leftsWithoutPartner l D cI cC h0 h1 h2 h3 h4 wi ol orr sf rl L f (by first | assumption | omega) (fun a b ha e => (hm.1 a b ha e).1) (by first | assumption | omega)) gX2_findFreeRight_X2_leftsWithoutPartner rfl rfl rfl yd_X2_leftsWithoutPartner ⟨Nat.le_of_ble_eq_true rfl, Nat.le_of_ble_eq_true rfl⟩ rfl [0, 1, 2, 3, 4] rfl rfl rfl rfl rfl (Nat.le_of_ble_eq_true rfl) ⟨Nat.le_of_ble_eq_true rfl, Nat.le_of_ble_eq_true rfl⟩ dX2_findFreeRight_2 ?_
  rintro _ _ ⟨rfl, rfl⟩
  refine g_eq (ws' := (mtW cI cC h0 h1 h2 h3 h4 wi ol orr sf (nI rl))) (st' := [.int (nI (pmask (fun a => decide (f ≤ a) && (L a).isNone) 8))]) rfl rfl ?_
  have hmb : ∀ a, a < 8 → ((pmask (fun a => decide (f ≤ a) && (L a).isNone) 8).testBit a = true ↔ (f ≤ a ∧ L a = none)) := fun a ha => by rw [pmask_bit, decide_eq_true ha]; simp only [Bool.true_and, Bool.and_eq_true, decide_eq_true_eq, Option.isNone_iff_eq_none]
  have hm8 : (pmask (fun a => decide (f ≤ a) && (L a).isNone) 8) < 256 := pmask_lt _ 8
  refine g_istore_n (pc := 5) (lv' := [(3, .int (nI (pmask (fun a => decide (f ≤ a) && (L a).isNone) 8))), (0, .ref h0), (1, .int (nI f)), (2, .int (nI S))]) C dX2_findFreeRight_5 rfl (by decide) rfl ?_
  refine g_iload_n (pc := 6) C dX2_findFreeRight_6 3 rfl rfl ?_
  refine g_istore (pc := 7) (lv' := [(4, .int (nI S)), (3, .int (nI (pmask (fun a => decide (f ≤ a) && (L a).isNone) 8))), (0, .ref h0), (1, .int (nI f)), (2, .int (nI S))]) C dX2_findFreeRight_7 (by decide) rfl ?_
  refine g_aload_n (pc := 9) C dX2_findFreeRight_9 2 rfl rfl ?_
  refine g_iload_n (pc := 10) C dX2_findFreeRight_10 1 rfl rfl ?_
  refine g_put (pc := 11) (ci := 2) (T := TX2) (N := 5) (ws' := (mtW cI cC h0 h1 h2 h3 h4 wi ol orr sf (nI (pmask (fun a => decide (f ≤ a) && (L a).isNone) 8)))) (ty := .int) (v := .int (nI (pmask (fun a => decide (f ≤ a) && (L a).isNone) 8))) C in_X2_findFreeRight_X2 tyX2 tyX2_ok nmX2 0 rfl rfl 4 (by decide) fl_X2_findFreeRight_62 rfl rfl (by decide +kernel) rfl rfl (Nat.le_of_ble_eq_true rfl) dX2_findFreeRight_11 rfl ?_
  refine g_iconst (pc := 14) (v := nI 0) C dX2_findFreeRight_14 (by decide) ?_
  refine g_istore (pc := 15) (lv' := [(5, .int (nI 0)), (4, .int (nI S)), (3, .int (nI (pmask (fun a => decide (f ≤ a) && (L a).isNone) 8))), (0, .ref h0), (1, .int (nI f)), (2, .int (nI S))]) C dX2_findFreeRight_15 (by decide) rfl ?_
  have L17 : ∀ (NZ : Nat) (k : Nat) (wt : Nat) (u : Nat) (rl : Nat) (sf : Nat → Int32) (sl : Nat → Nat) (t : Nat → Nat) (nn : Nat), 8 - k < NZ → (k ≤ 8) → (fi (cN wi) L R f S u wt rl sf sl t nn) → (clo (cN wi) S u rl wt 8 0) → (k ≤ pcn rl wt) → g_J p l e rm_X2_findFreeRight s m args below meth co Q D A 8 0 0 (mtW cI cC h0 h1 h2 h3 h4 wi ol orr sf (nI rl)) 17 [(0, .ref h0), (1, .int (nI f)), (2, .int (nI S)), (3, .int (nI wt)), (4, .int (nI u)), (5, .int (nI k))] [] := by
    intro NZ
    induction NZ with
    | zero => intro k wt u rl sf sl t nn hN; exact absurd hN (Nat.not_lt_zero _)
    | succ NZ ih17 =>
      intro k wt u rl sf sl t nn hN17 hk FI CL PC
      refine g_iload (pc := 17) C dX2_findFreeRight_17 5 rfl ?_
      refine g_bipush (pc := 19) (v := nI 8) C dX2_findFreeRight_19 (by decide) ?_
      refine g_icmp_geN (pc := 21) C 173 (by omega) (by omega) dX2_findFreeRight_21 (by decide) (fun c21 => ?_) (fun c21 => ?_)
      · have hw0 : wt = 0 := fi_wt0 FI (by omega)
        refine g_bipush (pc := 173) (v := (-5)) C dX2_findFreeRight_173 (by decide) ?_
        refine g_top (y := (pI none)) (rfl) ?_
        exact g_iret C hr hQ dX2_findFreeRight_175 rfl ⟨none, _, _, sl, t, Snf S u, rfl, rfl, FI.1, fun b hb => (FI.2.1 b hb).1, fun b hb => (by cases hb), fun _ => fi_closed FI CL hw0, FI.2.2.2.2.2.2.2.2.1.2.2⟩
      · refine g_iload_n (pc := 24) C dX2_findFreeRight_24 3 rfl rfl ?_
        refine g_if_eqN (pc := 25) C 173 (Nat.lt_trans FI.2.2.2.2.2.2.2.2.1.2.1 (by decide)) dX2_findFreeRight_25 (by decide) (fun c25 => ?_) (fun c25 => ?_)
        · have hw0 : wt = 0 := c25
          refine g_bipush (pc := 173) (v := (-5)) C dX2_findFreeRight_173 (by decide) ?_
          refine g_top (y := (pI none)) (rfl) ?_
          exact g_iret C hr hQ dX2_findFreeRight_175 rfl ⟨none, _, _, sl, t, Snf S u, rfl, rfl, FI.1, fun b hb => (FI.2.1 b hb).1, fun b hb => (by cases hb), fun _ => fi_closed FI CL hw0, FI.2.2.2.2.2.2.2.2.1.2.2⟩
        · refine g_iload_n (pc := 28) C dX2_findFreeRight_28 1 rfl rfl ?_
          refine g_istore (pc := 29) (lv' := [(6, .int (nI f)), (0, .ref h0), (1, .int (nI f)), (2, .int (nI S)), (3, .int (nI wt)), (4, .int (nI u)), (5, .int (nI k))]) C dX2_findFreeRight_29 (by decide) rfl ?_
          have L31 : ∀ (NZ : Nat) (i : Nat) (wt : Nat) (u : Nat) (rl : Nat) (sf : Nat → Int32) (sl : Nat → Nat) (t : Nat → Nat) (nn : Nat), 8 - i < NZ → (f ≤ i ∧ i ≤ 8) → (fi (cN wi) L R f S u wt rl sf sl t nn) → (clo (cN wi) S u rl wt 8 0) → ((k + 1 ≤ pcn rl wt) ∨ (k ≤ pcn rl wt ∧ ∃ a, i ≤ a ∧ a < 8 ∧ wt.testBit a = true)) → g_J p l e rm_X2_findFreeRight s m args below meth co Q D A 8 0 0 (mtW cI cC h0 h1 h2 h3 h4 wi ol orr sf (nI rl)) 31 [(0, .ref h0), (1, .int (nI f)), (2, .int (nI S)), (3, .int (nI wt)), (4, .int (nI u)), (5, .int (nI k)), (6, .int (nI i))] [] := by
            intro NZ
            induction NZ with
            | zero => intro i wt u rl sf sl t nn hN; exact absurd hN (Nat.not_lt_zero _)
            | succ NZ ih31 =>
              intro i wt u rl sf sl t nn hN31 hi FI CL PL
              refine g_iload (pc := 31) C dX2_findFreeRight_31 6 rfl ?_
              refine g_bipush (pc := 33) (v := nI 8) C dX2_findFreeRight_33 (by decide) ?_
              refine g_icmp_geN (pc := 35) C 167 (by omega) (by omega) dX2_findFreeRight_35 (by decide) (fun c35 => ?_) (fun c35 => ?_)
              · refine g_iinc (pc := 167) (lv' := [(5, .int (nI (k + 1))), (0, .ref h0), (1, .int (nI f)), (2, .int (nI S)), (3, .int (nI wt)), (4, .int (nI u)), (6, .int (nI i))]) C dX2_findFreeRight_167 5 rfl (nI_add k 1) (by decide) rfl ?_
                refine g_goto (pc := 170) C 17 dX2_findFreeRight_170 (by decide) ?_
                refine g_lvp (lv' := [(0, .ref h0), (1, .int (nI f)), (2, .int (nI S)), (3, .int (nI wt)), (4, .int (nI u)), (5, .int (nI (k + 1)))]) [1, 2, 3, 4, 5, 0] rfl ?_
                exact ih17 (k + 1) wt u rl sf sl t nn (by omega) (by first | assumption | omega) (by first | assumption | omega) (by first | assumption | omega) (PL.elim id (fun ⟨_, a, q1, q2, _⟩ => absurd q2 (by omega)))
              · refine g_iload_n (pc := 38) C dX2_findFreeRight_38 3 rfl rfl ?_
                refine g_iload (pc := 39) C dX2_findFreeRight_39 6 rfl ?_
                refine g_callSN (pc := 41) (st := []) (As := [.int (nI wt), .int (nI i)]) (nn := 2) (host := "FenceHandshakes") C (m_X5_hasBit l D cI cC wt i (Nat.lt_trans FI.2.2.2.2.2.2.2.2.1.2.1 (by decide)) (by first | assumption | omega)) gX2_findFreeRight_X5_hasBit_n47 rfl rfl rfl (by decide +kernel) (by decide +kernel) (by decide +kernel) yd_X5_hasBit.2 ⟨Nat.le_of_ble_eq_true rfl, Nat.le_of_ble_eq_true rfl⟩ rfl [] rfl rfl rfl (Nat.le_of_ble_eq_true rfl) ⟨Nat.le_of_ble_eq_true rfl, Nat.le_of_ble_eq_true rfl⟩ dX2_findFreeRight_41 ?_
                rintro _ _ ⟨rfl, rfl⟩
                refine g_eq (ws' := (mtW cI cC h0 h1 h2 h3 h4 wi ol orr sf (nI rl))) (st' := [.int (bI (wt.testBit i))]) rfl rfl ?_
                refine g_if_neB (pc := 44) C 50 dX2_findFreeRight_44 (by decide) (fun c44 => ?_) (fun c44 => ?_)
                · refine g_iload_n (pc := 50) C dX2_findFreeRight_50 3 rfl rfl ?_
                  refine g_iconst (pc := 51) (v := nI 1) C dX2_findFreeRight_51 (by decide) ?_
                  refine g_iload (pc := 52) C dX2_findFreeRight_52 6 rfl ?_
                  refine g_ishlN (pc := 54) C (by omega) dX2_findFreeRight_54 ?_
                  refine g_iconst (pc := 55) (v := (-1)) C dX2_findFreeRight_55 (by decide) ?_
                  refine g_ixor (pc := 56) C dX2_findFreeRight_56 ?_
                  refine g_iandX (pc := 57) C dX2_findFreeRight_57 ?_
                  refine g_istore_n (pc := 58) (lv' := [(3, .int (nI (g_nand wt (1 <<< i)))), (0, .ref h0), (1, .int (nI f)), (2, .int (nI S)), (4, .int (nI u)), (5, .int (nI k)), (6, .int (nI i))]) C dX2_findFreeRight_58 rfl (by decide) rfl ?_
                  refine g_iconst (pc := 59) (v := nI 0) C dX2_findFreeRight_59 (by decide) ?_
                  refine g_istore (pc := 60) (lv' := [(7, .int (nI 0)), (3, .int (nI (g_nand wt (1 <<< i)))), (0, .ref h0), (1, .int (nI f)), (2, .int (nI S)), (4, .int (nI u)), (5, .int (nI k)), (6, .int (nI i))]) C dX2_findFreeRight_60 (by decide) rfl ?_
                  have L62 : ∀ (NZ : Nat) (j : Nat) (wt : Nat) (u : Nat) (rl : Nat) (sf : Nat → Int32) (sl : Nat → Nat) (t : Nat → Nat) (nn : Nat), 8 - j < NZ → (j ≤ 8) → (fi (cN wi) L R f S u wt rl sf sl t nn) → (clo (cN wi) S u rl wt i j) → (k + 1 ≤ pcn rl wt) → (rl.testBit i = true) → g_J p l e rm_X2_findFreeRight s m args below meth co Q D A 8 0 0 (mtW cI cC h0 h1 h2 h3 h4 wi ol orr sf (nI rl)) 62 [(0, .ref h0), (1, .int (nI f)), (2, .int (nI S)), (3, .int (nI wt)), (4, .int (nI u)), (5, .int (nI k)), (6, .int (nI i)), (7, .int (nI j))] [] := by
                    intro NZ
                    induction NZ with
                    | zero => intro j wt u rl sf sl t nn hN; exact absurd hN (Nat.not_lt_zero _)
                    | succ NZ ih62 =>
                      intro j wt u rl sf sl t nn hN62 hj FI CJ PR hcr
                      refine g_iload (pc := 62) C dX2_findFreeRight_62 7 rfl ?_
                      refine g_bipush (pc := 64) (v := nI 8) C dX2_findFreeRight_64 (by decide) ?_
                      refine g_icmp_geN (pc := 66) C 161 (by omega) (by omega) dX2_findFreeRight_66 (by decide) (fun c66 => ?_) (fun c66 => ?_)
                      · refine g_iinc (pc := 161) (lv' := [(6, .int (nI (i + 1))), (0, .ref h0), (1, .int (nI f)), (2, .int (nI S)), (3, .int (nI wt)), (4, .int (nI u)), (5, .int (nI k)), (7, .int (nI j))]) C dX2_findFreeRight_161 6 rfl (nI_add i 1) (by decide) rfl ?_
                        refine g_goto (pc := 164) C 31 dX2_findFreeRight_164 (by decide) ?_
                        refine g_lvp (lv' := [(0, .ref h0), (1, .int (nI f)), (2, .int (nI S)), (3, .int (nI wt)), (4, .int (nI u)), (5, .int (nI k)), (6, .int (nI (i + 1)))]) [1, 2, 3, 4, 5, 6, 0] rfl ?_
                        exact ih31 (i + 1) wt u rl sf sl t nn (by omega) (by first | assumption | omega) (by first | assumption | omega) (clo_done (by rw [show j = 8 by omega] at CJ; exact CJ)) (Or.inl PR)
                      · refine g_aload_n (pc := 69) C dX2_findFreeRight_69 0 rfl rfl ?_
                        refine g_get (pc := 70) (ci := 2) (T := TX2) (N := 5) (v := .ref h1) C in_X2_findFreeRight_X2 0 rfl rfl 0 (by decide) fl_X2_findFreeRight_9 rfl rfl dX2_findFreeRight_70 ?_
                        refine g_iload (pc := 73) C dX2_findFreeRight_73 6 rfl ?_
                        refine g_ialdN (pc := 75) (f := wi) C 1 rfl (by omega) (by decide) dX2_findFreeRight_75 ?_
                        refine g_top (y := nI (cN wi i)) ((hw i (by omega)).1) ?_
                        refine g_iload (pc := 76) C dX2_findFreeRight_76 4 rfl ?_
                        refine g_iandN (pc := 78) C dX2_findFreeRight_78 ?_
                        refine g_iload (pc := 79) C dX2_findFreeRight_79 7 rfl ?_
                        refine g_callSN (pc := 81) (st := []) (As := [.int (nI ((cN wi i) &&& u)), .int (nI j)]) (nn := 2) (host := "FenceHandshakes") C (m_X5_hasBit l D cI cC ((cN wi i) &&& u) j (Nat.lt_of_le_of_lt Nat.and_le_right (Nat.lt_trans FI.2.2.2.2.2.2.2.2.1.1 (by decide))) (by first | assumption | omega)) gX2_findFreeRight_X5_hasBit_n47 rfl rfl rfl (by decide +kernel) (by decide +kernel) (by decide +kernel) yd_X5_hasBit.2 ⟨Nat.le_of_ble_eq_true rfl, Nat.le_of_ble_eq_true rfl⟩ rfl [] rfl rfl rfl (Nat.le_of_ble_eq_true rfl) ⟨Nat.le_of_ble_eq_true rfl, Nat.le_of_ble_eq_true rfl⟩ dX2_findFreeRight_81 ?_
                        rintro _ _ ⟨rfl, rfl⟩
                        refine g_eq (ws' := (mtW cI cC h0 h1 h2 h3 h4 wi ol orr sf (nI rl))) (st' := [.int (bI (((cN wi i) &&& u).testBit j))]) rfl rfl ?_
                        refine g_if_neB (pc := 84) C 90 dX2_findFreeRight_84 (by decide) (fun c84 => ?_) (fun c84 => ?_)
                        · have hSj : S.testBit j = true := FI.2.2.2.2.2.2.2.2.2 j (by omega) (by rw [Nat.testBit_and, Bool.and_eq_true] at c84; exact c84.2)
                          refine g_iload (pc := 90) C dX2_findFreeRight_90 4 rfl ?_
                          refine g_iconst (pc := 92) (v := nI 1) C dX2_findFreeRight_92 (by decide) ?_
                          refine g_iload (pc := 93) C dX2_findFreeRight_93 7 rfl ?_
                          refine g_ishlN (pc := 95) C (by omega) dX2_findFreeRight_95 ?_
                          refine g_iconst (pc := 96) (v := (-1)) C dX2_findFreeRight_96 (by decide) ?_
                          refine g_ixor (pc := 97) C dX2_findFreeRight_97 ?_
                          refine g_iandX (pc := 98) C dX2_findFreeRight_98 ?_
                          refine g_istore (pc := 99) (lv' := [(4, .int (nI (g_nand u (1 <<< j)))), (0, .ref h0), (1, .int (nI f)), (2, .int (nI S)), (3, .int (nI wt)), (5, .int (nI k)), (6, .int (nI i)), (7, .int (nI j))]) C dX2_findFreeRight_99 (by decide) rfl ?_
                          refine g_aload_n (pc := 101) C dX2_findFreeRight_101 1 rfl rfl ?_
                          refine g_get (pc := 102) (ci := 2) (T := TX2) (N := 5) (v := .ref h4) C in_X2_findFreeRight_X2 0 rfl rfl 3 (by decide) fl_X2_findFreeRight_21 rfl rfl dX2_findFreeRight_102 ?_
                          refine g_iload (pc := 105) C dX2_findFreeRight_105 7 rfl ?_
                          refine g_iload (pc := 107) C dX2_findFreeRight_107 6 rfl ?_
                          refine g_iastN (pc := 109) (f := sf) (ws' := (mtW cI cC h0 h1 h2 h3 h4 wi ol orr (upd sf j (nI i)) (nI rl))) C 4 rfl (by omega) (by decide) dX2_findFreeRight_109 rfl ?_
                          refine g_aload_n (pc := 110) C dX2_findFreeRight_110 1 rfl rfl ?_
                          refine g_get (pc := 111) (ci := 2) (T := TX2) (N := 5) (v := .ref h3) C in_X2_findFreeRight_X2 0 rfl rfl 2 (by decide) fl_X2_findFreeRight_18 rfl rfl dX2_findFreeRight_111 ?_
                          refine g_iload (pc := 114) C dX2_findFreeRight_114 7 rfl ?_
                          refine g_ialdN (pc := 116) (f := orr) C 3 rfl (by omega) (by decide) dX2_findFreeRight_116 ?_
                          refine g_top (y := (pI (R j))) (hR j (by omega)) ?_
                          refine g_bipush (pc := 117) (v := (-5)) C dX2_findFreeRight_117 (by decide) ?_
                          refine g_icmp_ne (pc := 119) C 125 dX2_findFreeRight_119 (by decide) (fun c119 => ?_) (fun c119 => ?_)
                          · obtain ⟨a2, ea2⟩ : ∃ a2, R j = some a2 := by cases hq : R j with | none => (rw [hq] at c119; exact absurd rfl c119) | some z => exact ⟨z, rfl⟩
                            have hn2 := see_new hm FI (show j < 8 by omega) c84 ea2
                            have ha2 : a2 < 8 := hn2.1
                            refine g_iload_n (pc := 125) C dX2_findFreeRight_125 4 rfl rfl ?_
                            refine g_iconst (pc := 126) (v := nI 1) C dX2_findFreeRight_126 (by decide) ?_
                            refine g_aload_n (pc := 127) C dX2_findFreeRight_127 1 rfl rfl ?_
                            refine g_get (pc := 128) (ci := 2) (T := TX2) (N := 5) (v := .ref h3) C in_X2_findFreeRight_X2 0 rfl rfl 2 (by decide) fl_X2_findFreeRight_18 rfl rfl dX2_findFreeRight_128 ?_
                            refine g_iload (pc := 131) C dX2_findFreeRight_131 7 rfl ?_
                            refine g_ialdN (pc := 133) (f := orr) C 3 rfl (by omega) (by decide) dX2_findFreeRight_133 ?_
                            refine g_top (y := nI a2) (by rw [hR j (by omega), ea2]; rfl) ?_
                            refine g_ishlN (pc := 134) C (by omega) dX2_findFreeRight_134 ?_
                            refine g_iorN (pc := 135) C dX2_findFreeRight_135 ?_
                            refine g_istore_n (pc := 136) (lv' := [(3, .int (nI (wt ||| (1 <<< a2)))), (4, .int (nI (g_nand u (1 <<< j)))), (0, .ref h0), (1, .int (nI f)), (2, .int (nI S)), (5, .int (nI k)), (6, .int (nI i)), (7, .int (nI j))]) C dX2_findFreeRight_136 rfl (by decide) rfl ?_
                            refine g_aload_n (pc := 137) C dX2_findFreeRight_137 2 rfl rfl ?_
                            refine g_dup (pc := 138) C dX2_findFreeRight_138 rfl ?_
                            refine g_get (pc := 139) (ci := 2) (T := TX2) (N := 5) (v := .int (nI rl)) C in_X2_findFreeRight_X2 0 rfl rfl 4 (by decide) fl_X2_findFreeRight_62 rfl rfl dX2_findFreeRight_139 ?_
                            refine g_iconst (pc := 142) (v := nI 1) C dX2_findFreeRight_142 (by decide) ?_
                            refine g_aload_n (pc := 143) C dX2_findFreeRight_143 2 rfl rfl ?_
                            refine g_get (pc := 144) (ci := 2) (T := TX2) (N := 5) (v := .ref h3) C in_X2_findFreeRight_X2 0 rfl rfl 2 (by decide) fl_X2_findFreeRight_18 rfl rfl dX2_findFreeRight_144 ?_
                            refine g_iload (pc := 147) C dX2_findFreeRight_147 7 rfl ?_
                            refine g_ialdN (pc := 149) (f := orr) C 3 rfl (by omega) (by decide) dX2_findFreeRight_149 ?_
                            refine g_top (y := nI a2) (by rw [hR j (by omega), ea2]; rfl) ?_
                            refine g_ishlN (pc := 150) C (by omega) dX2_findFreeRight_150 ?_
                            refine g_iorN (pc := 151) C dX2_findFreeRight_151 ?_
                            refine g_put (pc := 152) (ci := 2) (T := TX2) (N := 5) (ws' := (mtW cI cC h0 h1 h2 h3 h4 wi ol orr (upd sf j (nI i)) (nI (rl ||| (1 <<< a2))))) (ty := .int) (v := .int (nI (rl ||| (1 <<< a2)))) C in_X2_findFreeRight_X2 tyX2 tyX2_ok nmX2 0 rfl rfl 4 (by decide) fl_X2_findFreeRight_62 rfl rfl (by decide +kernel) rfl rfl (Nat.le_of_ble_eq_true rfl) dX2_findFreeRight_152 rfl ?_
                            refine g_iinc (pc := 155) (lv' := [(7, .int (nI (j + 1))), (3, .int (nI (wt ||| (1 <<< a2)))), (4, .int (nI (g_nand u (1 <<< j)))), (0, .ref h0), (1, .int (nI f)), (2, .int (nI S)), (5, .int (nI k)), (6, .int (nI i))]) C dX2_findFreeRight_155 7 rfl (nI_add j 1) (by decide) rfl ?_
                            refine g_goto (pc := 158) C 62 dX2_findFreeRight_158 (by decide) ?_
                            refine g_lvp (lv' := [(0, .ref h0), (1, .int (nI f)), (2, .int (nI S)), (3, .int (nI (wt ||| (1 <<< a2)))), (4, .int (nI (g_nand u (1 <<< j)))), (5, .int (nI k)), (6, .int (nI i)), (7, .int (nI (j + 1)))]) [3, 4, 5, 1, 2, 6, 7, 0] rfl ?_
                            exact ih62 (j + 1) (wt ||| (1 <<< a2)) (g_nand u (1 <<< j)) (rl ||| (1 <<< a2)) (upd sf j (nI i)) (nupd sl j i) (nupd t j nn) (nn + 1) (by omega) (by first | assumption | omega) (fi_see hm hs FI (by omega) hcr (by omega) c84 ea2) (clo_see (by omega) hSj hn2.2 CJ) (by rw [pcn_see hn2.2]; exact PR) (by rw [or_bit, hcr]; rfl)
                          · obtain ⟨hc1, hc2, hc3, hc4⟩ := ch_see FI (show i < 8 by omega) hcr (show j < 8 by omega) c84
                            refine g_iload (pc := 122) C dX2_findFreeRight_122 7 rfl ?_
                            refine g_top (y := (pI (some j))) (rfl) ?_
                            exact g_iret C hr hQ dX2_findFreeRight_124 rfl ⟨some j, _, _, nupd sl j i, nupd t j nn, Snf S (clr u j), rfl, rfl, hc1, fun b hb => (hc2 b hb).1, fun b hb => by cases hb; exact ⟨(Snf_clr (by omega) hSj).mpr (Or.inr rfl), pI_none (fun r hr => Nat.lt_of_lt_of_le (hm.2 j r (by omega) hr).1 (Nat.le_refl _)) c119⟩, fun h => (by cases h), FI.2.2.2.2.2.2.2.2.1.2.2⟩
                        · refine g_goto (pc := 87) C 155 dX2_findFreeRight_87 (by decide) ?_
                          refine g_iinc (pc := 155) (lv' := [(7, .int (nI (j + 1))), (0, .ref h0), (1, .int (nI f)), (2, .int (nI S)), (3, .int (nI wt)), (4, .int (nI u)), (5, .int (nI k)), (6, .int (nI i))]) C dX2_findFreeRight_155 7 rfl (nI_add j 1) (by decide) rfl ?_
                          refine g_goto (pc := 158) C 62 dX2_findFreeRight_158 (by decide) ?_
                          refine g_lvp (lv' := [(0, .ref h0), (1, .int (nI f)), (2, .int (nI S)), (3, .int (nI wt)), (4, .int (nI u)), (5, .int (nI k)), (6, .int (nI i)), (7, .int (nI (j + 1)))]) [1, 2, 3, 4, 5, 6, 7, 0] rfl ?_
                          exact ih62 (j + 1) wt u rl sf sl t nn (by omega) (by first | assumption | omega) (by first | assumption | omega) (clo_skip FI CJ c84) (by first | assumption | omega) (by first | assumption | omega)
                  refine g_lvp (lv' := [(0, .ref h0), (1, .int (nI f)), (2, .int (nI S)), (3, .int (nI (g_nand wt (1 <<< i)))), (4, .int (nI u)), (5, .int (nI k)), (6, .int (nI i)), (7, .int (nI 0))]) [2, 3, 4, 1, 5, 6, 7, 0] rfl ?_
                  exact L62 _ 0 (g_nand wt (1 <<< i)) u rl sf sl t nn (Nat.lt_succ_self _) (by first | assumption | omega) (fi_pop FI) (clo_pop CL) (by have h9 := pcn_pop (wt := wt) (show i < 8 by omega) (FI.2.2.2.2.2.2.1 i (by omega) c44) c44; exact h9 ▸ (PL.elim (fun z => Nat.le_succ_of_le z) (fun z => Nat.succ_le_succ z.1))) (FI.2.2.2.2.2.2.1 i (by omega) c44)
                · refine g_goto (pc := 47) C 161 dX2_findFreeRight_47 (by decide) ?_
                  refine g_iinc (pc := 161) (lv' := [(6, .int (nI (i + 1))), (0, .ref h0), (1, .int (nI f)), (2, .int (nI S)), (3, .int (nI wt)), (4, .int (nI u)), (5, .int (nI k))]) C dX2_findFreeRight_161 6 rfl (nI_add i 1) (by decide) rfl ?_
                  refine g_goto (pc := 164) C 31 dX2_findFreeRight_164 (by decide) ?_
                  refine g_lvp (lv' := [(0, .ref h0), (1, .int (nI f)), (2, .int (nI S)), (3, .int (nI wt)), (4, .int (nI u)), (5, .int (nI k)), (6, .int (nI (i + 1)))]) [1, 2, 3, 4, 5, 6, 0] rfl ?_
                  exact ih31 (i + 1) wt u rl sf sl t nn (by omega) (by first | assumption | omega) (by first | assumption | omega) (CL) (PL.elim Or.inl (fun ⟨q0, a, q1, q2, q3⟩ => Or.inr ⟨q0, a, Nat.lt_of_le_of_ne q1 (fun z => by rw [← z, c44] at q3; cases q3), q2, q3⟩))
          refine g_lvp (lv' := [(0, .ref h0), (1, .int (nI f)), (2, .int (nI S)), (3, .int (nI wt)), (4, .int (nI u)), (5, .int (nI k)), (6, .int (nI f))]) [1, 2, 3, 4, 5, 6, 0] rfl ?_
          exact L31 _ f wt u rl sf sl t nn (Nat.lt_succ_self _) (by first | assumption | omega) (by first | assumption | omega) (by first | assumption | omega) (Or.inr ⟨PC, by obtain ⟨a, q1, q2⟩ := bit_ex FI.2.2.2.2.2.2.2.2.1.2.1 c25; exact ⟨a, FI.2.2.2.1 a q1 (FI.2.2.2.2.2.2.1 a q1 q2), q1, q2⟩⟩)
  refine g_lvp (lv' := [(0, .ref h0), (1, .int (nI f)), (2, .int (nI S)), (3, .int (nI (pmask (fun a => decide (f ≤ a) && (L a).isNone) 8))), (4, .int (nI S)), (5, .int (nI 0))]) [3, 4, 5, 2, 1, 0] rfl ?_
  exact L17 _ 0 (pmask (fun a => decide (f ≤ a) && (L a).isNone) 8) S (pmask (fun a => decide (f ≤ a) && (L a).isNone) 8) sf (fun _ => 0) (fun _ => 0) 0 (Nat.lt_succ_self _) (by first | assumption | omega) (fi_init hS hm8 hmb) (clo_init) (Nat.zero_le _)

abbrev rm_X2_growsByOne : Room := { frames := 2, cells := 0, slots := 0, locals := 50 }
theorem yd_X2_growsByOne : yX2_growsByOne.cls = RX2 ∧ yX2_growsByOne.cls ≠ "java/lang/invoke/MethodHandle" ∧ yX2_growsByOne.cls ≠ "java/lang/invoke/VarHandle" ∧ (parseMethodDescriptor yX2_growsByOne.desc).map (fun d => d.parameters.length) = some 2 := by decide +kernel
theorem in_X2_growsByOne_X2 : ∀ w ∈ u_ws RX2 TX2 5, w ∈ wsX2_growsByOne := by decide +kernel
theorem fl_X2_growsByOne_15 : Cond.fieldLink RX2 15 "FenceHandshakes$Matching" "ofLeft" "[I" ∈ wsX2_growsByOne := by decide +kernel
theorem fl_X2_growsByOne_21 : Cond.fieldLink RX2 21 "FenceHandshakes$Matching" "seenFrom" "[I" ∈ wsX2_growsByOne := by decide +kernel
set_option maxHeartbeats 4000000 in
set_option maxRecDepth 100000 in
theorem m_X2_growsByOne (l : Launch) (D : va_G) (cI cC : ClassId) (h0 h1 h2 h3 h4 : Nat) (wi : Nat → Int32) (ol : Nat → Int32) (orr : Nat → Int32) (sf : Nat → Int32) (rl : Nat) (L : Nat → Option Nat) (R : Nat → Option Nat) (f : Nat) (S : Nat) (hw : aw wi) (hL : ao ol L) (hR : ao orr R) (hm : mt (cN wi) L R) (hs : sub f S L R) (hf : f ≤ 8) (hS : S < 256) : g_M l yX2_growsByOne wsX2_growsByOne rm_X2_growsByOne D cI cC [.ref h0, .int (nI f), .int (nI S)] (mtW cI cC h0 h1 h2 h3 h4 wi ol orr sf (nI rl)) (fun vv ww => ∃ (q : Bool) (ol2 : Nat → Int32) (orr2 : Nat → Int32) (sf2 : Nat → Int32) (rl2 : Nat) (L2 : Nat → Option Nat) (R2 : Nat → Option Nat), vv = some (.int (bI q)) ∧ ww = (mtW cI cC h0 h1 h2 h3 h4 wi ol2 orr2 sf2 (nI rl2)) ∧ (ao ol2 L2 ∧ ao orr2 R2 ∧ mt (cN wi) L2 R2 ∧ rl2 < 256) ∧ (q = false → L2 = L ∧ R2 = R ∧ szN (Ew (cN wi)) (8 - f) S ≤ cntT (fun a => (L a).isSome) (8 - f)) ∧ (q = true → sub f S L2 R2 ∧ (∀ a, a < f → L2 a = L a) ∧ ∃ a0, f ≤ a0 ∧ a0 < 8 ∧ L a0 = none ∧ ∀ a, a < 8 → (L2 a).isSome = ((L a).isSome || decide (a = a0)))) := by
  refine g_entry (lv := [(0, .ref h0), (1, .int (nI f)), (2, .int (nI S))]) (own := RX2) (by decide) rfl rfl (Nat.le_of_ble_eq_true rfl) rfl ?_
  intro p e s m args below meth co A Q C hr hQ
  refine g_aload_n (pc := 0) C dX2_growsByOne_0 0 rfl rfl ?_
  refine g_iload_n (pc := 1) C dX2_growsByOne_1 1 rfl rfl ?_
  refine g_iload_n (pc := 2) C dX2_growsByOne_2 2 rfl rfl ?_
  refine g_callV (pc := 3) (st := []) (As := [.int (nI f), .int (nI S)]) (nn := 2) (ci := 2) (q0 := 0) C (m_X2_findFreeRight l D cI cC h0 h1 h2 h3 h4 wi ol orr sf rl L R f S (by first | assumption | omega) (by first | assumption | omega) (by first | assumption | omega) (by first | assumption | omega) (by first | assumption | omega) (by first | assumption | omega) (by first | assumption | omega)) gX2_growsByOne_X2_findFreeRight rfl rfl rfl yd_X2_findFreeRight ⟨Nat.le_of_ble_eq_true rfl, Nat.le_of_ble_eq_true rfl⟩ rfl [0, 1, 2, 3, 4] rfl rfl rfl rfl rfl (Nat.le_of_ble_eq_true rfl) ⟨Nat.le_of_ble_eq_true rfl, Nat.le_of_ble_eq_true rfl⟩ dX2_growsByOne_3 ?_
  rintro _ _ ⟨o, sf1, rl1, sl, t, Sn, rfl, rfl, g1, g2, g3, g4, g5⟩
  refine g_eq (ws' := (mtW cI cC h0 h1 h2 h3 h4 wi ol orr sf1 (nI rl1))) (st' := [.int (pI o)]) rfl rfl ?_
  refine g_istore_n (pc := 6) (lv' := [(3, .int (pI o)), (0, .ref h0), (1, .int (nI f)), (2, .int (nI S))]) C dX2_growsByOne_6 rfl (by decide) rfl ?_
  refine g_iload_n (pc := 7) C dX2_growsByOne_7 0 rfl rfl ?_
  refine g_bipush (pc := 8) (v := (-5)) C dX2_growsByOne_8 (by decide) ?_
  refine g_icmp_ne (pc := 10) C 15 dX2_growsByOne_10 (by decide) (fun c10 => ?_) (fun c10 => ?_)
  · refine g_iconst (pc := 15) (v := nI 0) C dX2_growsByOne_15 (by decide) ?_
    refine g_istore (pc := 16) (lv' := [(4, .int (nI 0)), (3, .int (pI o)), (0, .ref h0), (1, .int (nI f)), (2, .int (nI S))]) C dX2_growsByOne_16 (by decide) rfl ?_
    have L18 : ∀ (NZ : Nat) (k : Nat) (x : Int32) (o1 : Option Nat) (ol1 : Nat → Int32) (orr1 : Nat → Int32) (L1 : Nat → Option Nat) (R1 : Nat → Option Nat), 8 - k < NZ → (k ≤ 8) → (x = pI o1) → (ao ol1 L1) → (ao orr1 R1) → (∀ b, o1 = some b → alm (cN wi) L Sn sl t L1 R1 b ∧ t b + k < 8 ∧ ∀ a, a < 8 → (L1 a).isSome = (L a).isSome) → (o1 = none → mt (cN wi) L1 R1 ∧ ∃ a0, f ≤ a0 ∧ a0 < 8 ∧ L a0 = none ∧ ∀ a, a < 8 → (L1 a).isSome = ((L a).isSome || decide (a = a0))) → (sub f S L1 R1) → (∀ a, a < f → L1 a = L a) → g_J p l e rm_X2_growsByOne s m args below meth co Q D A 7 0 0 (mtW cI cC h0 h1 h2 h3 h4 wi ol1 orr1 sf1 (nI rl1)) 18 [(0, .ref h0), (1, .int (nI f)), (2, .int (nI S)), (3, .int x), (4, .int (nI k))] [] := by
      intro NZ
      induction NZ with
      | zero => intro k x o1 ol1 orr1 L1 R1 hN; exact absurd hN (Nat.not_lt_zero _)
      | succ NZ ih18 =>
        intro k x o1 ol1 orr1 L1 R1 hN18 hk hx hA hB hAl hE hSb hP
        refine g_iload (pc := 18) C dX2_growsByOne_18 4 rfl ?_
        refine g_bipush (pc := 20) (v := nI 8) C dX2_growsByOne_20 (by decide) ?_
        refine g_icmp_geN (pc := 22) C 75 (by omega) (by omega) dX2_growsByOne_22 (by decide) (fun c22 => ?_) (fun c22 => ?_)
        · have on1 : o1 = none := by cases hq : o1 with | none => rfl | some b => exact absurd (hAl b hq).2.1 (by omega)
          refine g_iconst (pc := 75) (v := nI 1) C dX2_growsByOne_75 (by decide) ?_
          refine g_top (y := bI true) (rfl) ?_
          exact g_zret C hr hQ dX2_growsByOne_76 rfl ⟨true, _, _, _, _, L1, R1, rfl, rfl, ⟨hA, hB, (hE on1).1, g5⟩, fun h => (by cases h), fun _ => ⟨hSb, hP, (hE on1).2⟩⟩
        · refine g_iload_n (pc := 25) C dX2_growsByOne_25 3 rfl rfl ?_
          refine g_callSN (pc := 26) (st := []) (As := [.int x]) (nn := 1) (host := "FenceHandshakes") C (m_X5_isPerson l D cI cC x) gX2_growsByOne_X5_isPerson_n54 rfl rfl rfl (by decide +kernel) (by decide +kernel) (by decide +kernel) yd_X5_isPerson.2 ⟨Nat.le_of_ble_eq_true rfl, Nat.le_of_ble_eq_true rfl⟩ rfl [] rfl rfl rfl (Nat.le_of_ble_eq_true rfl) ⟨Nat.le_of_ble_eq_true rfl, Nat.le_of_ble_eq_true rfl⟩ dX2_growsByOne_26 ?_
          rintro _ _ ⟨rfl, rfl⟩
          refine g_eq (ws' := (mtW cI cC h0 h1 h2 h3 h4 wi ol1 orr1 sf1 (nI rl1))) (st' := [.int (bI (isP x))]) rfl rfl ?_
          refine g_if_eqB (pc := 29) C 75 dX2_growsByOne_29 (by decide) (fun c29 => ?_) (fun c29 => ?_)
          · have on1 : o1 = none := by cases hq : o1 with | none => rfl | some b => (rw [hx, hq, show isP (pI (some b)) = true from isP_nI (g1 b (hAl b hq).1.1).1] at c29; cases c29)
            refine g_iconst (pc := 75) (v := nI 1) C dX2_growsByOne_75 (by decide) ?_
            refine g_top (y := bI true) (rfl) ?_
            exact g_zret C hr hQ dX2_growsByOne_76 rfl ⟨true, _, _, _, _, L1, R1, rfl, rfl, ⟨hA, hB, (hE on1).1, g5⟩, fun h => (by cases h), fun _ => ⟨hSb, hP, (hE on1).2⟩⟩
          · obtain ⟨b, eb⟩ : ∃ b, o1 = some b := by cases hq : o1 with | none => (rw [hx, hq] at c29; exact absurd c29 (by decide)) | some z => exact ⟨z, rfl⟩
            obtain ⟨al1, al2, al3⟩ := hAl b eb
            obtain ⟨q1, q2, q3, q4, q5, q6, q7⟩ := g1 b al1.1
            have e2 := al1.2.2.2 b al1.1 (Nat.le_refl _)
            refine g_lveq (lv' := [(0, .ref h0), (1, .int (nI f)), (2, .int (nI S)), (3, .int (nI b)), (4, .int (nI k))]) (by rw [hx, eb]; rfl) ?_
            refine g_aload_n (pc := 32) C dX2_growsByOne_32 0 rfl rfl ?_
            refine g_get (pc := 33) (ci := 2) (T := TX2) (N := 5) (v := .ref h4) C in_X2_growsByOne_X2 0 rfl rfl 3 (by decide) fl_X2_growsByOne_21 rfl rfl dX2_growsByOne_33 ?_
            refine g_iload_n (pc := 36) C dX2_growsByOne_36 3 rfl rfl ?_
            refine g_ialdN (pc := 37) (f := sf1) C 4 rfl (by omega) (by decide) dX2_growsByOne_37 ?_
            refine g_top (y := nI (sl b)) (g2 b al1.1) ?_
            refine g_istore (pc := 38) (lv' := [(5, .int (nI (sl b))), (0, .ref h0), (1, .int (nI f)), (2, .int (nI S)), (3, .int (nI b)), (4, .int (nI k))]) C dX2_growsByOne_38 (by decide) rfl ?_
            refine g_iload (pc := 40) C dX2_growsByOne_40 0 rfl ?_
            refine g_callSN (pc := 42) (st := []) (As := [.int (nI (sl b))]) (nn := 1) (host := "FenceHandshakes") C (m_X5_isPerson l D cI cC (nI (sl b))) gX2_growsByOne_X5_isPerson_n54 rfl rfl rfl (by decide +kernel) (by decide +kernel) (by decide +kernel) yd_X5_isPerson.2 ⟨Nat.le_of_ble_eq_true rfl, Nat.le_of_ble_eq_true rfl⟩ rfl [] rfl rfl rfl (Nat.le_of_ble_eq_true rfl) ⟨Nat.le_of_ble_eq_true rfl, Nat.le_of_ble_eq_true rfl⟩ dX2_growsByOne_42 ?_
            rintro _ _ ⟨rfl, rfl⟩
            refine g_eq (ws' := (mtW cI cC h0 h1 h2 h3 h4 wi ol1 orr1 sf1 (nI rl1))) (st' := [.int (bI (isP (nI (sl b))))]) rfl rfl ?_
            refine g_if_neB (pc := 45) C 50 dX2_growsByOne_45 (by decide) (fun c45 => ?_) (fun c45 => ?_)
            · refine g_aload_n (pc := 50) C dX2_growsByOne_50 1 rfl rfl ?_
              refine g_get (pc := 51) (ci := 2) (T := TX2) (N := 5) (v := .ref h2) C in_X2_growsByOne_X2 0 rfl rfl 1 (by decide) fl_X2_growsByOne_15 rfl rfl dX2_growsByOne_51 ?_
              refine g_iload (pc := 54) C dX2_growsByOne_54 0 rfl ?_
              refine g_ialdN (pc := 56) (f := ol1) C 2 rfl (by omega) (by decide) dX2_growsByOne_56 ?_
              refine g_top (y := (pI (L1 (sl b)))) (hA (sl b) q4) ?_
              refine g_istore (pc := 57) (lv' := [(6, .int (pI (L1 (sl b)))), (5, .int (nI (sl b))), (0, .ref h0), (1, .int (nI f)), (2, .int (nI S)), (3, .int (nI b)), (4, .int (nI k))]) C dX2_growsByOne_57 (by decide) rfl ?_
              refine g_aload_n (pc := 59) C dX2_growsByOne_59 2 rfl rfl ?_
              refine g_iload (pc := 60) C dX2_growsByOne_60 1 rfl ?_
              refine g_iload_n (pc := 62) C dX2_growsByOne_62 5 rfl rfl ?_
              refine g_callV (pc := 63) (st := []) (As := [.int (nI (sl b)), .int (nI b)]) (nn := 2) (ci := 2) (q0 := 0) C (m_X2_join l D cI cC h0 h1 h2 h3 h4 wi ol1 orr1 sf1 rl1 (sl b) b (by first | assumption | omega) (by first | assumption | omega)) gX2_growsByOne_X2_join rfl rfl rfl yd_X2_join ⟨Nat.le_of_ble_eq_true rfl, Nat.le_of_ble_eq_true rfl⟩ rfl [0, 1, 2, 3, 4] rfl rfl rfl rfl rfl (Nat.le_of_ble_eq_true rfl) ⟨Nat.le_of_ble_eq_true rfl, Nat.le_of_ble_eq_true rfl⟩ dX2_growsByOne_63 ?_
              rintro _ _ ⟨rfl, rfl⟩
              refine g_eq (ws' := (mtW cI cC h0 h1 h2 h3 h4 wi (upd ol1 (sl b) (nI b)) (upd orr1 b (nI (sl b))) sf1 (nI rl1))) (st' := []) rfl rfl ?_
              refine g_iload (pc := 66) C dX2_growsByOne_66 0 rfl ?_
              refine g_istore_n (pc := 68) (lv' := [(3, .int (pI (L1 (sl b)))), (6, .int (pI (L1 (sl b)))), (5, .int (nI (sl b))), (0, .ref h0), (1, .int (nI f)), (2, .int (nI S)), (4, .int (nI k))]) C dX2_growsByOne_68 rfl (by decide) rfl ?_
              refine g_iinc (pc := 69) (lv' := [(4, .int (nI (k + 1))), (3, .int (pI (L1 (sl b)))), (6, .int (pI (L1 (sl b)))), (5, .int (nI (sl b))), (0, .ref h0), (1, .int (nI f)), (2, .int (nI S))]) C dX2_growsByOne_69 6 rfl (nI_add k 1) (by decide) rfl ?_
              refine g_goto (pc := 72) C 18 dX2_growsByOne_72 (by decide) ?_
              refine g_lvp (lv' := [(0, .ref h0), (1, .int (nI f)), (2, .int (nI S)), (3, .int (pI (L1 (sl b)))), (4, .int (nI (k + 1)))]) [4, 5, 6, 1, 0] rfl ?_
              exact ih18 (k + 1) (pI (L1 (sl b))) (L1 (sl b)) (upd ol1 (sl b) (nI b)) (upd orr1 b (nI (sl b))) (oset L1 (sl b) (some b)) (oset R1 b (some (sl b))) (by omega) (by first | assumption | omega) (rfl) (ao_upd hA rfl) (ao_upd hB rfl) (fun b1 e1 => ⟨(alm_step g1 al1 (e2.symm.trans e1)).1, (by have := (alm_step g1 al1 (e2.symm.trans e1)).2; omega), fun a ha => (oset_dom (by rw [e1]; rfl) a).trans (al3 a ha)⟩) (fun e1 => ⟨alm_end g1 al1 (e2.symm.trans e1), sl b, q3, q4, e2.symm.trans e1, fun a ha => by rw [oset_dom1, al3 a ha]⟩) (sub_oset hSb q3 q2) (fun a ha => by rw [oset_ne (by omega)]; exact hP a ha)
            · exact absurd c45 (by rw [isP_nI q4]; decide)
    refine g_lvp (lv' := [(0, .ref h0), (1, .int (nI f)), (2, .int (nI S)), (3, .int (pI o)), (4, .int (nI 0))]) [2, 3, 4, 1, 0] rfl ?_
    exact L18 _ 0 (pI o) o ol orr L R (Nat.lt_succ_self _) (by first | assumption | omega) (rfl) (hL) (hR) (fun b e => ⟨alm_start hm (g3 b e).1 (g3 b e).2, (g1 b (g3 b e).1).2.2.2.2.2.1, fun _ _ => rfl⟩) (fun e => absurd (by rw [e]; rfl) c10) (hs) (fun _ _ => rfl)
  · have on : o = none := pI_none (fun r hr => (g1 r (g3 r hr).1).1) c10
    refine g_iconst (pc := 13) (v := nI 0) C dX2_growsByOne_13 (by decide) ?_
    refine g_top (y := bI false) (rfl) ?_
    exact g_zret C hr hQ dX2_growsByOne_14 rfl ⟨false, ol, orr, sf1, rl1, L, R, rfl, rfl, ⟨hL, hR, hm, g5⟩, fun _ => ⟨rfl, rfl, closed_max hm (g4 on) hf⟩, fun h => (by cases h)⟩

abbrev rm_X2_canTake : Room := { frames := 3, cells := 0, slots := 0, locals := 76 }
theorem yd_X2_canTake : yX2_canTake.cls = RX2 ∧ yX2_canTake.cls ≠ "java/lang/invoke/MethodHandle" ∧ yX2_canTake.cls ≠ "java/lang/invoke/VarHandle" ∧ (parseMethodDescriptor yX2_canTake.desc).map (fun d => d.parameters.length) = some 3 := by decide +kernel
theorem in_X2_canTake_X2 : ∀ w ∈ u_ws RX2 TX2 5, w ∈ wsX2_canTake := by decide +kernel
theorem fl_X2_canTake_15 : Cond.fieldLink RX2 15 "FenceHandshakes$Matching" "ofLeft" "[I" ∈ wsX2_canTake := by decide +kernel
theorem fl_X2_canTake_18 : Cond.fieldLink RX2 18 "FenceHandshakes$Matching" "ofRight" "[I" ∈ wsX2_canTake := by decide +kernel
set_option maxHeartbeats 4000000 in
set_option maxRecDepth 100000 in
theorem m_X2_canTake (l : Launch) (D : va_G) (cI cC : ClassId) (h0 h1 h2 h3 h4 : Nat) (wi : Nat → Int32) (ol : Nat → Int32) (orr : Nat → Int32) (sf : Nat → Int32) (rl : Nat) (L : Nat → Option Nat) (R : Nat → Option Nat) (a : Nat) (b : Nat) (u : Nat) (hw : aw wi) (hL : ao ol L) (hR : ao orr R) (hm : mt (cN wi) L R) (hrl : rl < 256) (hs : sub a u L R) (ha : a < 8) (hb : b < 8) (hu : u < 256) (hub : u.testBit b = true) (hE : (cN wi a).testBit b = true) (hne : L a ≠ some b) (hmax : szN (Ew (cN wi)) (8 - a) u = cntT (fun x => (L x).isSome) (8 - a)) : g_M l yX2_canTake wsX2_canTake rm_X2_canTake D cI cC [.ref h0, .int (nI a), .int (nI b), .int (nI u)] (mtW cI cC h0 h1 h2 h3 h4 wi ol orr sf (nI rl)) (fun vv ww => ∃ (q : Bool) (ol2 : Nat → Int32) (orr2 : Nat → Int32) (sf2 : Nat → Int32) (rl2 : Nat) (L2 : Nat → Option Nat) (R2 : Nat → Option Nat), vv = some (.int (bI q)) ∧ ww = (mtW cI cC h0 h1 h2 h3 h4 wi ol2 orr2 sf2 (nI rl2)) ∧ (ao ol2 L2 ∧ ao orr2 R2 ∧ mt (cN wi) L2 R2 ∧ rl2 < 256) ∧ (q = false → L2 = L ∧ R2 = R ∧ ¬ (1 + szN (Ew (cN wi)) (7 - a) (clr u b) = szN (Ew (cN wi)) (8 - a) u)) ∧ (q = true → L2 a = some b ∧ (∀ x, x < a → L2 x = L x) ∧ sub a u L2 R2 ∧ szN (Ew (cN wi)) (8 - a) u ≤ cntT (fun x => (L2 x).isSome) (8 - a))) := by
  refine g_entry (lv := [(0, .ref h0), (1, .int (nI a)), (2, .int (nI b)), (3, .int (nI u))]) (own := RX2) (by decide) rfl rfl (Nat.le_of_ble_eq_true rfl) rfl ?_
  intro p e s m args below meth co A Q C hr hQ
  refine g_aload_n (pc := 0) C dX2_canTake_0 0 rfl rfl ?_
  refine g_get (pc := 1) (ci := 2) (T := TX2) (N := 5) (v := .ref h2) C in_X2_canTake_X2 0 rfl rfl 1 (by decide) fl_X2_canTake_15 rfl rfl dX2_canTake_1 ?_
  refine g_iload_n (pc := 4) C dX2_canTake_4 1 rfl rfl ?_
  refine g_ialdN (pc := 5) (f := ol) C 2 rfl (by omega) (by decide) dX2_canTake_5 ?_
  refine g_top (y := (pI (L a))) (hL a ha) ?_
  refine g_istore (pc := 6) (lv' := [(4, .int (pI (L a))), (0, .ref h0), (1, .int (nI a)), (2, .int (nI b)), (3, .int (nI u))]) C dX2_canTake_6 (by decide) rfl ?_
  refine g_aload_n (pc := 8) C dX2_canTake_8 1 rfl rfl ?_
  refine g_get (pc := 9) (ci := 2) (T := TX2) (N := 5) (v := .ref h3) C in_X2_canTake_X2 0 rfl rfl 2 (by decide) fl_X2_canTake_18 rfl rfl dX2_canTake_9 ?_
  refine g_iload_n (pc := 12) C dX2_canTake_12 3 rfl rfl ?_
  refine g_ialdN (pc := 13) (f := orr) C 3 rfl (by omega) (by decide) dX2_canTake_13 ?_
  refine g_top (y := (pI (R b))) (hR b hb) ?_
  refine g_istore (pc := 14) (lv' := [(5, .int (pI (R b))), (4, .int (pI (L a))), (0, .ref h0), (1, .int (nI a)), (2, .int (nI b)), (3, .int (nI u))]) C dX2_canTake_14 (by decide) rfl ?_
  refine g_iload (pc := 16) C dX2_canTake_16 1 rfl ?_
  refine g_callSN (pc := 18) (st := []) (As := [.int (pI (L a))]) (nn := 1) (host := "FenceHandshakes") C (m_X5_isPerson l D cI cC (pI (L a))) gX2_canTake_X5_isPerson_n54 rfl rfl rfl (by decide +kernel) (by decide +kernel) (by decide +kernel) yd_X5_isPerson.2 ⟨Nat.le_of_ble_eq_true rfl, Nat.le_of_ble_eq_true rfl⟩ rfl [] rfl rfl rfl (Nat.le_of_ble_eq_true rfl) ⟨Nat.le_of_ble_eq_true rfl, Nat.le_of_ble_eq_true rfl⟩ dX2_canTake_18 ?_
  rintro _ _ ⟨rfl, rfl⟩
  refine g_eq (ws' := (mtW cI cC h0 h1 h2 h3 h4 wi ol orr sf (nI rl))) (st' := [.int (bI (isP (pI (L a))))]) rfl rfl ?_
  refine g_if_eqB (pc := 21) C 33 dX2_canTake_21 (by decide) (fun c21 => ?_) (fun c21 => ?_)
  · have eL : L a = none := by cases hq : L a with | none => rfl | some z => (rw [hq, show isP (pI (some z)) = true from isP_nI (hm.1 a z ha hq).1] at c21; cases c21)
    refine g_iload (pc := 33) C dX2_canTake_33 0 rfl ?_
    refine g_callSN (pc := 35) (st := []) (As := [.int (pI (R b))]) (nn := 1) (host := "FenceHandshakes") C (m_X5_isPerson l D cI cC (pI (R b))) gX2_canTake_X5_isPerson_n54 rfl rfl rfl (by decide +kernel) (by decide +kernel) (by decide +kernel) yd_X5_isPerson.2 ⟨Nat.le_of_ble_eq_true rfl, Nat.le_of_ble_eq_true rfl⟩ rfl [] rfl rfl rfl (Nat.le_of_ble_eq_true rfl) ⟨Nat.le_of_ble_eq_true rfl, Nat.le_of_ble_eq_true rfl⟩ dX2_canTake_35 ?_
    rintro _ _ ⟨rfl, rfl⟩
    refine g_eq (ws' := (mtW cI cC h0 h1 h2 h3 h4 wi ol orr sf (nI rl))) (st' := [.int (bI (isP (pI (R b))))]) rfl rfl ?_
    refine g_if_eqB (pc := 38) C 50 dX2_canTake_38 (by decide) (fun c38 => ?_) (fun c38 => ?_)
    · have eR : R b = none := by cases hq : R b with | none => rfl | some z => (rw [hq, show isP (pI (some z)) = true from isP_nI (hm.2 b z hb hq).1] at c38; cases c38)
      refine g_aload_n (pc := 50) C dX2_canTake_50 2 rfl rfl ?_
      refine g_iload_n (pc := 51) C dX2_canTake_51 3 rfl rfl ?_
      refine g_iload_n (pc := 52) C dX2_canTake_52 4 rfl rfl ?_
      refine g_callV (pc := 53) (st := []) (As := [.int (nI a), .int (nI b)]) (nn := 2) (ci := 2) (q0 := 0) C (m_X2_join l D cI cC h0 h1 h2 h3 h4 wi ol orr sf rl a b (by first | assumption | omega) (by first | assumption | omega)) gX2_canTake_X2_join rfl rfl rfl yd_X2_join ⟨Nat.le_of_ble_eq_true rfl, Nat.le_of_ble_eq_true rfl⟩ rfl [0, 1, 2, 3, 4] rfl rfl rfl rfl rfl (Nat.le_of_ble_eq_true rfl) ⟨Nat.le_of_ble_eq_true rfl, Nat.le_of_ble_eq_true rfl⟩ dX2_canTake_53 ?_
      rintro _ _ ⟨rfl, rfl⟩
      refine g_eq (ws' := (mtW cI cC h0 h1 h2 h3 h4 wi (upd ol a (nI b)) (upd orr b (nI a)) sf (nI rl))) (st' := []) rfl rfl ?_
      refine g_iload (pc := 56) C dX2_canTake_56 1 rfl ?_
      refine g_callSN (pc := 58) (st := []) (As := [.int (pI (L a))]) (nn := 1) (host := "FenceHandshakes") C (m_X5_isPerson l D cI cC (pI (L a))) gX2_canTake_X5_isPerson_n54 rfl rfl rfl (by decide +kernel) (by decide +kernel) (by decide +kernel) yd_X5_isPerson.2 ⟨Nat.le_of_ble_eq_true rfl, Nat.le_of_ble_eq_true rfl⟩ rfl [] rfl rfl rfl (Nat.le_of_ble_eq_true rfl) ⟨Nat.le_of_ble_eq_true rfl, Nat.le_of_ble_eq_true rfl⟩ dX2_canTake_58 ?_
      rintro _ _ ⟨rfl, rfl⟩
      refine g_eq (ws' := (mtW cI cC h0 h1 h2 h3 h4 wi (upd ol a (nI b)) (upd orr b (nI a)) sf (nI rl))) (st' := [.int (bI (isP (pI (L a))))]) rfl rfl ?_
      refine g_if_eqB (pc := 61) C 72 dX2_canTake_61 (by decide) (fun c61 => ?_) (fun c61 => ?_)
      · refine g_iconst (pc := 72) (v := nI 1) C dX2_canTake_72 (by decide) ?_
        refine g_top (y := bI true) (rfl) ?_
        exact g_zret C hr hQ dX2_canTake_73 rfl ⟨true, _, _, sf, rl, ctL L R a b, ctR L R a b, rfl, rfl, ⟨(by rw [ctL_n eR]; exact ao_upd hL rfl), (by rw [ctR_n eL]; exact ao_upd hR rfl), ct_mt hm ha hb hE, hrl⟩, fun h => (by cases h), fun _ => ⟨ctL_a, ct_pre hs hb hub, ct_sub hm hs ha hb hub, (by have h9 := ct_cnt hm hs ha hb hub hne; rw [eL, eR] at h9; simp only [Option.isSome_some, Option.isSome_none, if_true, Bool.false_eq_true, if_false] at h9; omega)⟩⟩
      · exact absurd c61 (by rw [c21]; decide)
    · obtain ⟨rb2, erb2⟩ : ∃ z, R b = some z := by cases hq : R b with | none => (rw [hq] at c38; exact absurd c38 (by decide)) | some z => exact ⟨z, rfl⟩
      have hb2 : rb2 < 8 := (hm.2 b rb2 hb erb2).1
      refine g_lveq (lv' := [(5, .int (nI rb2)), (4, .int (pI (L a))), (0, .ref h0), (1, .int (nI a)), (2, .int (nI b)), (3, .int (nI u))]) (by rw [erb2]; rfl) ?_
      refine g_aload_n (pc := 41) C dX2_canTake_41 2 rfl rfl ?_
      refine g_get (pc := 42) (ci := 2) (T := TX2) (N := 5) (v := .ref h2) C in_X2_canTake_X2 0 rfl rfl 1 (by decide) fl_X2_canTake_15 rfl rfl dX2_canTake_42 ?_
      refine g_iload (pc := 45) C dX2_canTake_45 0 rfl ?_
      refine g_bipush (pc := 47) (v := (-5)) C dX2_canTake_47 (by decide) ?_
      refine g_iastN (pc := 49) (f := ol) (ws' := (mtW cI cC h0 h1 h2 h3 h4 wi (upd ol rb2 ((-5))) orr sf (nI rl))) C 2 rfl (by omega) (by decide) dX2_canTake_49 rfl ?_
      refine g_aload_n (pc := 50) C dX2_canTake_50 2 rfl rfl ?_
      refine g_iload_n (pc := 51) C dX2_canTake_51 3 rfl rfl ?_
      refine g_iload_n (pc := 52) C dX2_canTake_52 4 rfl rfl ?_
      refine g_callV (pc := 53) (st := []) (As := [.int (nI a), .int (nI b)]) (nn := 2) (ci := 2) (q0 := 0) C (m_X2_join l D cI cC h0 h1 h2 h3 h4 wi (upd ol rb2 ((-5))) orr sf rl a b (by first | assumption | omega) (by first | assumption | omega)) gX2_canTake_X2_join rfl rfl rfl yd_X2_join ⟨Nat.le_of_ble_eq_true rfl, Nat.le_of_ble_eq_true rfl⟩ rfl [0, 1, 2, 3, 4] rfl rfl rfl rfl rfl (Nat.le_of_ble_eq_true rfl) ⟨Nat.le_of_ble_eq_true rfl, Nat.le_of_ble_eq_true rfl⟩ dX2_canTake_53 ?_
      rintro _ _ ⟨rfl, rfl⟩
      refine g_eq (ws' := (mtW cI cC h0 h1 h2 h3 h4 wi (upd (upd ol rb2 ((-5))) a (nI b)) (upd orr b (nI a)) sf (nI rl))) (st' := []) rfl rfl ?_
      refine g_iload (pc := 56) C dX2_canTake_56 1 rfl ?_
      refine g_callSN (pc := 58) (st := []) (As := [.int (pI (L a))]) (nn := 1) (host := "FenceHandshakes") C (m_X5_isPerson l D cI cC (pI (L a))) gX2_canTake_X5_isPerson_n54 rfl rfl rfl (by decide +kernel) (by decide +kernel) (by decide +kernel) yd_X5_isPerson.2 ⟨Nat.le_of_ble_eq_true rfl, Nat.le_of_ble_eq_true rfl⟩ rfl [] rfl rfl rfl (Nat.le_of_ble_eq_true rfl) ⟨Nat.le_of_ble_eq_true rfl, Nat.le_of_ble_eq_true rfl⟩ dX2_canTake_58 ?_
      rintro _ _ ⟨rfl, rfl⟩
      refine g_eq (ws' := (mtW cI cC h0 h1 h2 h3 h4 wi (upd (upd ol rb2 ((-5))) a (nI b)) (upd orr b (nI a)) sf (nI rl))) (st' := [.int (bI (isP (pI (L a))))]) rfl rfl ?_
      refine g_if_eqB (pc := 61) C 72 dX2_canTake_61 (by decide) (fun c61 => ?_) (fun c61 => ?_)
      · refine g_iconst (pc := 72) (v := nI 1) C dX2_canTake_72 (by decide) ?_
        refine g_top (y := bI true) (rfl) ?_
        exact g_zret C hr hQ dX2_canTake_73 rfl ⟨true, _, _, sf, rl, ctL L R a b, ctR L R a b, rfl, rfl, ⟨(by rw [ctL_s erb2]; exact ao_upd (ao_upd hL rfl) rfl), (by rw [ctR_n eL]; exact ao_upd hR rfl), ct_mt hm ha hb hE, hrl⟩, fun h => (by cases h), fun _ => ⟨ctL_a, ct_pre hs hb hub, ct_sub hm hs ha hb hub, (by have h9 := ct_cnt hm hs ha hb hub hne; rw [eL, erb2] at h9; simp only [Option.isSome_some, Option.isSome_none, if_true, Bool.false_eq_true, if_false] at h9; omega)⟩⟩
      · exact absurd c61 (by rw [c21]; decide)
  · obtain ⟨rb1, erb1⟩ : ∃ z, L a = some z := by cases hq : L a with | none => (rw [hq] at c21; exact absurd c21 (by decide)) | some z => exact ⟨z, rfl⟩
    have hb1 : rb1 < 8 := (hm.1 a rb1 ha erb1).1
    refine g_lveq (lv' := [(5, .int (pI (R b))), (4, .int (nI rb1)), (0, .ref h0), (1, .int (nI a)), (2, .int (nI b)), (3, .int (nI u))]) (by rw [erb1]; rfl) ?_
    refine g_aload_n (pc := 24) C dX2_canTake_24 2 rfl rfl ?_
    refine g_get (pc := 25) (ci := 2) (T := TX2) (N := 5) (v := .ref h3) C in_X2_canTake_X2 0 rfl rfl 2 (by decide) fl_X2_canTake_18 rfl rfl dX2_canTake_25 ?_
    refine g_iload (pc := 28) C dX2_canTake_28 1 rfl ?_
    refine g_bipush (pc := 30) (v := (-5)) C dX2_canTake_30 (by decide) ?_
    refine g_iastN (pc := 32) (f := orr) (ws' := (mtW cI cC h0 h1 h2 h3 h4 wi ol (upd orr rb1 ((-5))) sf (nI rl))) C 3 rfl (by omega) (by decide) dX2_canTake_32 rfl ?_
    refine g_iload (pc := 33) C dX2_canTake_33 0 rfl ?_
    refine g_callSN (pc := 35) (st := []) (As := [.int (pI (R b))]) (nn := 1) (host := "FenceHandshakes") C (m_X5_isPerson l D cI cC (pI (R b))) gX2_canTake_X5_isPerson_n54 rfl rfl rfl (by decide +kernel) (by decide +kernel) (by decide +kernel) yd_X5_isPerson.2 ⟨Nat.le_of_ble_eq_true rfl, Nat.le_of_ble_eq_true rfl⟩ rfl [] rfl rfl rfl (Nat.le_of_ble_eq_true rfl) ⟨Nat.le_of_ble_eq_true rfl, Nat.le_of_ble_eq_true rfl⟩ dX2_canTake_35 ?_
    rintro _ _ ⟨rfl, rfl⟩
    refine g_eq (ws' := (mtW cI cC h0 h1 h2 h3 h4 wi ol (upd orr rb1 ((-5))) sf (nI rl))) (st' := [.int (bI (isP (pI (R b))))]) rfl rfl ?_
    refine g_if_eqB (pc := 38) C 50 dX2_canTake_38 (by decide) (fun c38 => ?_) (fun c38 => ?_)
    · have eR : R b = none := by cases hq : R b with | none => rfl | some z => (rw [hq, show isP (pI (some z)) = true from isP_nI (hm.2 b z hb hq).1] at c38; cases c38)
      refine g_aload_n (pc := 50) C dX2_canTake_50 2 rfl rfl ?_
      refine g_iload_n (pc := 51) C dX2_canTake_51 3 rfl rfl ?_
      refine g_iload_n (pc := 52) C dX2_canTake_52 4 rfl rfl ?_
      refine g_callV (pc := 53) (st := []) (As := [.int (nI a), .int (nI b)]) (nn := 2) (ci := 2) (q0 := 0) C (m_X2_join l D cI cC h0 h1 h2 h3 h4 wi ol (upd orr rb1 ((-5))) sf rl a b (by first | assumption | omega) (by first | assumption | omega)) gX2_canTake_X2_join rfl rfl rfl yd_X2_join ⟨Nat.le_of_ble_eq_true rfl, Nat.le_of_ble_eq_true rfl⟩ rfl [0, 1, 2, 3, 4] rfl rfl rfl rfl rfl (Nat.le_of_ble_eq_true rfl) ⟨Nat.le_of_ble_eq_true rfl, Nat.le_of_ble_eq_true rfl⟩ dX2_canTake_53 ?_
      rintro _ _ ⟨rfl, rfl⟩
      refine g_eq (ws' := (mtW cI cC h0 h1 h2 h3 h4 wi (upd ol a (nI b)) (upd (upd orr rb1 ((-5))) b (nI a)) sf (nI rl))) (st' := []) rfl rfl ?_
      refine g_iload (pc := 56) C dX2_canTake_56 1 rfl ?_
      refine g_callSN (pc := 58) (st := []) (As := [.int (nI rb1)]) (nn := 1) (host := "FenceHandshakes") C (m_X5_isPerson l D cI cC (nI rb1)) gX2_canTake_X5_isPerson_n54 rfl rfl rfl (by decide +kernel) (by decide +kernel) (by decide +kernel) yd_X5_isPerson.2 ⟨Nat.le_of_ble_eq_true rfl, Nat.le_of_ble_eq_true rfl⟩ rfl [] rfl rfl rfl (Nat.le_of_ble_eq_true rfl) ⟨Nat.le_of_ble_eq_true rfl, Nat.le_of_ble_eq_true rfl⟩ dX2_canTake_58 ?_
      rintro _ _ ⟨rfl, rfl⟩
      refine g_eq (ws' := (mtW cI cC h0 h1 h2 h3 h4 wi (upd ol a (nI b)) (upd (upd orr rb1 ((-5))) b (nI a)) sf (nI rl))) (st' := [.int (bI (isP (nI rb1)))]) rfl rfl ?_
      refine g_if_eqB (pc := 61) C 72 dX2_canTake_61 (by decide) (fun c61 => ?_) (fun c61 => ?_)
      · exact absurd c61 (by rw [isP_nI hb1]; decide)
      · refine g_iload (pc := 64) C dX2_canTake_64 0 rfl ?_
        refine g_callSN (pc := 66) (st := []) (As := [.int (pI (R b))]) (nn := 1) (host := "FenceHandshakes") C (m_X5_isPerson l D cI cC (pI (R b))) gX2_canTake_X5_isPerson_n54 rfl rfl rfl (by decide +kernel) (by decide +kernel) (by decide +kernel) yd_X5_isPerson.2 ⟨Nat.le_of_ble_eq_true rfl, Nat.le_of_ble_eq_true rfl⟩ rfl [] rfl rfl rfl (Nat.le_of_ble_eq_true rfl) ⟨Nat.le_of_ble_eq_true rfl, Nat.le_of_ble_eq_true rfl⟩ dX2_canTake_66 ?_
        rintro _ _ ⟨rfl, rfl⟩
        refine g_eq (ws' := (mtW cI cC h0 h1 h2 h3 h4 wi (upd ol a (nI b)) (upd (upd orr rb1 ((-5))) b (nI a)) sf (nI rl))) (st' := [.int (bI (isP (pI (R b))))]) rfl rfl ?_
        refine g_if_neB (pc := 69) C 74 dX2_canTake_69 (by decide) (fun c69 => ?_) (fun c69 => ?_)
        · exact absurd c69 (by rw [c38]; decide)
        · refine g_iconst (pc := 72) (v := nI 1) C dX2_canTake_72 (by decide) ?_
          refine g_top (y := bI true) (rfl) ?_
          exact g_zret C hr hQ dX2_canTake_73 rfl ⟨true, _, _, sf, rl, ctL L R a b, ctR L R a b, rfl, rfl, ⟨(by rw [ctL_n eR]; exact ao_upd hL rfl), (by rw [ctR_s erb1]; exact ao_upd (ao_upd hR rfl) rfl), ct_mt hm ha hb hE, hrl⟩, fun h => (by cases h), fun _ => ⟨ctL_a, ct_pre hs hb hub, ct_sub hm hs ha hb hub, (by have h9 := ct_cnt hm hs ha hb hub hne; rw [erb1, eR] at h9; simp only [Option.isSome_some, Option.isSome_none, if_true, Bool.false_eq_true, if_false] at h9; omega)⟩⟩
    · obtain ⟨rb2, erb2⟩ : ∃ z, R b = some z := by cases hq : R b with | none => (rw [hq] at c38; exact absurd c38 (by decide)) | some z => exact ⟨z, rfl⟩
      have hb2 : rb2 < 8 := (hm.2 b rb2 hb erb2).1
      refine g_lveq (lv' := [(5, .int (nI rb2)), (4, .int (nI rb1)), (0, .ref h0), (1, .int (nI a)), (2, .int (nI b)), (3, .int (nI u))]) (by rw [erb2]; rfl) ?_
      refine g_aload_n (pc := 41) C dX2_canTake_41 2 rfl rfl ?_
      refine g_get (pc := 42) (ci := 2) (T := TX2) (N := 5) (v := .ref h2) C in_X2_canTake_X2 0 rfl rfl 1 (by decide) fl_X2_canTake_15 rfl rfl dX2_canTake_42 ?_
      refine g_iload (pc := 45) C dX2_canTake_45 0 rfl ?_
      refine g_bipush (pc := 47) (v := (-5)) C dX2_canTake_47 (by decide) ?_
      refine g_iastN (pc := 49) (f := ol) (ws' := (mtW cI cC h0 h1 h2 h3 h4 wi (upd ol rb2 ((-5))) (upd orr rb1 ((-5))) sf (nI rl))) C 2 rfl (by omega) (by decide) dX2_canTake_49 rfl ?_
      refine g_aload_n (pc := 50) C dX2_canTake_50 2 rfl rfl ?_
      refine g_iload_n (pc := 51) C dX2_canTake_51 3 rfl rfl ?_
      refine g_iload_n (pc := 52) C dX2_canTake_52 4 rfl rfl ?_
      refine g_callV (pc := 53) (st := []) (As := [.int (nI a), .int (nI b)]) (nn := 2) (ci := 2) (q0 := 0) C (m_X2_join l D cI cC h0 h1 h2 h3 h4 wi (upd ol rb2 ((-5))) (upd orr rb1 ((-5))) sf rl a b (by first | assumption | omega) (by first | assumption | omega)) gX2_canTake_X2_join rfl rfl rfl yd_X2_join ⟨Nat.le_of_ble_eq_true rfl, Nat.le_of_ble_eq_true rfl⟩ rfl [0, 1, 2, 3, 4] rfl rfl rfl rfl rfl (Nat.le_of_ble_eq_true rfl) ⟨Nat.le_of_ble_eq_true rfl, Nat.le_of_ble_eq_true rfl⟩ dX2_canTake_53 ?_
      rintro _ _ ⟨rfl, rfl⟩
      refine g_eq (ws' := (mtW cI cC h0 h1 h2 h3 h4 wi (upd (upd ol rb2 ((-5))) a (nI b)) (upd (upd orr rb1 ((-5))) b (nI a)) sf (nI rl))) (st' := []) rfl rfl ?_
      refine g_iload (pc := 56) C dX2_canTake_56 1 rfl ?_
      refine g_callSN (pc := 58) (st := []) (As := [.int (nI rb1)]) (nn := 1) (host := "FenceHandshakes") C (m_X5_isPerson l D cI cC (nI rb1)) gX2_canTake_X5_isPerson_n54 rfl rfl rfl (by decide +kernel) (by decide +kernel) (by decide +kernel) yd_X5_isPerson.2 ⟨Nat.le_of_ble_eq_true rfl, Nat.le_of_ble_eq_true rfl⟩ rfl [] rfl rfl rfl (Nat.le_of_ble_eq_true rfl) ⟨Nat.le_of_ble_eq_true rfl, Nat.le_of_ble_eq_true rfl⟩ dX2_canTake_58 ?_
      rintro _ _ ⟨rfl, rfl⟩
      refine g_eq (ws' := (mtW cI cC h0 h1 h2 h3 h4 wi (upd (upd ol rb2 ((-5))) a (nI b)) (upd (upd orr rb1 ((-5))) b (nI a)) sf (nI rl))) (st' := [.int (bI (isP (nI rb1)))]) rfl rfl ?_
      refine g_if_eqB (pc := 61) C 72 dX2_canTake_61 (by decide) (fun c61 => ?_) (fun c61 => ?_)
      · exact absurd c61 (by rw [isP_nI hb1]; decide)
      · refine g_iload (pc := 64) C dX2_canTake_64 0 rfl ?_
        refine g_callSN (pc := 66) (st := []) (As := [.int (nI rb2)]) (nn := 1) (host := "FenceHandshakes") C (m_X5_isPerson l D cI cC (nI rb2)) gX2_canTake_X5_isPerson_n54 rfl rfl rfl (by decide +kernel) (by decide +kernel) (by decide +kernel) yd_X5_isPerson.2 ⟨Nat.le_of_ble_eq_true rfl, Nat.le_of_ble_eq_true rfl⟩ rfl [] rfl rfl rfl (Nat.le_of_ble_eq_true rfl) ⟨Nat.le_of_ble_eq_true rfl, Nat.le_of_ble_eq_true rfl⟩ dX2_canTake_66 ?_
        rintro _ _ ⟨rfl, rfl⟩
        refine g_eq (ws' := (mtW cI cC h0 h1 h2 h3 h4 wi (upd (upd ol rb2 ((-5))) a (nI b)) (upd (upd orr rb1 ((-5))) b (nI a)) sf (nI rl))) (st' := [.int (bI (isP (nI rb2)))]) rfl rfl ?_
        refine g_if_neB (pc := 69) C 74 dX2_canTake_69 (by decide) (fun c69 => ?_) (fun c69 => ?_)
        · refine g_aload_n (pc := 74) C dX2_canTake_74 2 rfl rfl ?_
          refine g_iload_n (pc := 75) C dX2_canTake_75 3 rfl rfl ?_
          refine g_iconst (pc := 76) (v := nI 1) C dX2_canTake_76 (by decide) ?_
          refine g_iaddN (pc := 77) C dX2_canTake_77 ?_
          refine g_iload_n (pc := 78) C dX2_canTake_78 5 rfl rfl ?_
          refine g_iconst (pc := 79) (v := nI 1) C dX2_canTake_79 (by decide) ?_
          refine g_iload_n (pc := 80) C dX2_canTake_80 4 rfl rfl ?_
          refine g_ishlN (pc := 81) C (by omega) dX2_canTake_81 ?_
          refine g_iconst (pc := 82) (v := (-1)) C dX2_canTake_82 (by decide) ?_
          refine g_ixor (pc := 83) C dX2_canTake_83 ?_
          refine g_iandX (pc := 84) C dX2_canTake_84 ?_
          have h9 := ct_cnt hm hs ha hb hub hne
          rw [erb1, erb2] at h9
          simp only [Option.isSome_some, if_true] at h9
          have h10 := cntT_succ (p := fun x => (ctL L R a b x).isSome) ha
          rw [if_pos (show (ctL L R a b a).isSome = true by rw [ctL_a]; rfl)] at h10
          refine g_callV (pc := 85) (st := []) (As := [.int (nI (a + 1)), .int (nI (g_nand u (1 <<< b)))]) (nn := 2) (ci := 2) (q0 := 0) C (m_X2_growsByOne l D cI cC h0 h1 h2 h3 h4 wi (upd (upd ol rb2 ((-5))) a (nI b)) (upd (upd orr rb1 ((-5))) b (nI a)) sf rl (ctL L R a b) (ctR L R a b) (a + 1) (g_nand u (1 <<< b)) (by first | assumption | omega) (by rw [ctL_s erb2]; exact ao_upd (ao_upd hL rfl) rfl) (by rw [ctR_s erb1]; exact ao_upd (ao_upd hR rfl) rfl) (ct_mt hm ha hb hE) (ct_sub2 hm hs ha hb) (by first | assumption | omega) (clr_lt hu)) gX2_canTake_X2_growsByOne rfl rfl rfl yd_X2_growsByOne ⟨Nat.le_of_ble_eq_true rfl, Nat.le_of_ble_eq_true rfl⟩ rfl [0, 1, 2, 3, 4] rfl rfl rfl rfl rfl (Nat.le_of_ble_eq_true rfl) ⟨Nat.le_of_ble_eq_true rfl, Nat.le_of_ble_eq_true rfl⟩ dX2_canTake_85 ?_
          rintro _ _ ⟨q3, ol3, orr3, sf3, rl3, L3, R3, rfl, rfl, G1, G2, G3⟩
          refine g_eq (ws' := (mtW cI cC h0 h1 h2 h3 h4 wi ol3 orr3 sf3 (nI rl3))) (st' := [.int (bI q3)]) rfl rfl ?_
          refine g_if_eqB (pc := 88) C 93 dX2_canTake_88 (by decide) (fun c88 => ?_) (fun c88 => ?_)
          · obtain ⟨rfl, rfl, w1⟩ := G2 c88
            refine g_aload_n (pc := 93) C dX2_canTake_93 2 rfl rfl ?_
            refine g_iload_n (pc := 94) C dX2_canTake_94 3 rfl rfl ?_
            refine g_iload (pc := 95) C dX2_canTake_95 1 rfl ?_
            refine g_callV (pc := 97) (st := []) (As := [.int (nI a), .int (nI rb1)]) (nn := 2) (ci := 2) (q0 := 0) C (m_X2_join l D cI cC h0 h1 h2 h3 h4 wi ol3 orr3 sf3 rl3 a rb1 (by first | assumption | omega) (by first | assumption | omega)) gX2_canTake_X2_join rfl rfl rfl yd_X2_join ⟨Nat.le_of_ble_eq_true rfl, Nat.le_of_ble_eq_true rfl⟩ rfl [0, 1, 2, 3, 4] rfl rfl rfl rfl rfl (Nat.le_of_ble_eq_true rfl) ⟨Nat.le_of_ble_eq_true rfl, Nat.le_of_ble_eq_true rfl⟩ dX2_canTake_97 ?_
            rintro _ _ ⟨rfl, rfl⟩
            refine g_eq (ws' := (mtW cI cC h0 h1 h2 h3 h4 wi (upd ol3 a (nI rb1)) (upd orr3 rb1 (nI a)) sf3 (nI rl3))) (st' := []) rfl rfl ?_
            refine g_aload_n (pc := 100) C dX2_canTake_100 2 rfl rfl ?_
            refine g_iload (pc := 101) C dX2_canTake_101 0 rfl ?_
            refine g_iload_n (pc := 103) C dX2_canTake_103 4 rfl rfl ?_
            refine g_callV (pc := 104) (st := []) (As := [.int (nI rb2), .int (nI b)]) (nn := 2) (ci := 2) (q0 := 0) C (m_X2_join l D cI cC h0 h1 h2 h3 h4 wi (upd ol3 a (nI rb1)) (upd orr3 rb1 (nI a)) sf3 rl3 rb2 b (by first | assumption | omega) (by first | assumption | omega)) gX2_canTake_X2_join rfl rfl rfl yd_X2_join ⟨Nat.le_of_ble_eq_true rfl, Nat.le_of_ble_eq_true rfl⟩ rfl [0, 1, 2, 3, 4] rfl rfl rfl rfl rfl (Nat.le_of_ble_eq_true rfl) ⟨Nat.le_of_ble_eq_true rfl, Nat.le_of_ble_eq_true rfl⟩ dX2_canTake_104 ?_
            rintro _ _ ⟨rfl, rfl⟩
            refine g_eq (ws' := (mtW cI cC h0 h1 h2 h3 h4 wi (upd (upd ol3 a (nI rb1)) rb2 (nI b)) (upd (upd orr3 rb1 (nI a)) b (nI rb2)) sf3 (nI rl3))) (st' := []) rfl rfl ?_
            refine g_iconst (pc := 107) (v := nI 0) C dX2_canTake_107 (by decide) ?_
            refine g_top (y := bI false) (rfl) ?_
            exact g_zret C hr hQ dX2_canTake_108 rfl ⟨false, _, _, _, _, L, R, rfl, rfl, ⟨ct_undoL hm hb G1.1 erb1 erb2 hne, ct_undoR hm ha G1.2.1 erb1 erb2 hne, hm, G1.2.2.2⟩, fun _ => ⟨rfl, rfl, by rw [hmax]; rw [show 8 - (a + 1) = 7 - a by omega] at w1; change _ ≤ cntT (fun x => (ctL L R a b x).isSome) (7 - a) at w1; intro h; change szN (Ew (cN wi)) (7 - a) (clr u b) ≤ _ at w1; omega⟩, fun h => (by cases h)⟩
          · obtain ⟨w1, w2, a0, w3, w4, w5, w6⟩ := G3 c88
            refine g_iconst (pc := 91) (v := nI 1) C dX2_canTake_91 (by decide) ?_
            refine g_top (y := bI true) (rfl) ?_
            exact g_zret C hr hQ dX2_canTake_92 rfl ⟨true, _, _, _, _, L3, R3, rfl, rfl, G1, fun h => (by cases h), fun _ => ⟨(w2 a (by omega)).trans ctL_a, fun x hx => (w2 x (by omega)).trans (ct_pre hs hb hub x hx), can_sub hm hs ha hb hub G1.2.2.1 w1 w2, by rw [hmax]; exact can_cnt ha (w2 a (by omega)) w3 w4 w5 w6 h9 h10⟩⟩
        · exact absurd c69 (by rw [isP_nI hb2]; decide)
