def aw (wi : Nat → Int32) : Prop := ∀ a, a < 8 → wi a = nI (cN wi a) ∧ cN wi a < 256
def ao (ol : Nat → Int32) (L : Nat → Option Nat) : Prop := ∀ a, a < 8 → ol a = pI (L a)
theorem pI_none {o : Option Nat} (hb : ∀ r, o = some r → r < 8) (h : pI o = -5) : o = none := (pI_m5 hb).mp h
theorem pI_some {o : Option Nat} (h : ¬ pI o = -5) : o.isSome = true := by
  cases o with
  | none => exact absurd rfl h
  | some r => rfl
theorem pI_nn {o : Option Nat} (h : ¬ pI o = -5) : o.isNone = false := by
  cases o with
  | none => exact absurd rfl h
  | some r => rfl
abbrev mtW (cI cC : ClassId) (h0 h1 h2 h3 h4 : Nat) (wi : Nat → Int32) (ol : Nat → Int32) (orr : Nat → Int32) (sf : Nat → Int32) (rl : Int32) : va_W := [(h0, .inr (2, [.ref h1, .ref h2, .ref h3, .ref h4, .int rl])), (h1, .inl (cI, 8, .inl wi)), (h2, .inl (cI, 8, .inl ol)), (h3, .inl (cI, 8, .inl orr)), (h4, .inl (cI, 8, .inl sf))]
abbrev rm_X2_partnerOf : Room := { frames := 0, cells := 0, slots := 0, locals := 0 }
theorem yd_X2_partnerOf : yX2_partnerOf.cls = RX2 ∧ yX2_partnerOf.cls ≠ "java/lang/invoke/MethodHandle" ∧ yX2_partnerOf.cls ≠ "java/lang/invoke/VarHandle" ∧ (parseMethodDescriptor yX2_partnerOf.desc).map (fun d => d.parameters.length) = some 2 := by decide +kernel
theorem in_X2_partnerOf_X2 : ∀ w ∈ u_ws RX2 TX2 5, w ∈ wsX2_partnerOf := by decide +kernel
theorem fl_X2_partnerOf_15 : Cond.fieldLink RX2 15 "FenceHandshakes$Matching" "ofLeft" "[I" ∈ wsX2_partnerOf := by decide +kernel
theorem fl_X2_partnerOf_18 : Cond.fieldLink RX2 18 "FenceHandshakes$Matching" "ofRight" "[I" ∈ wsX2_partnerOf := by decide +kernel
set_option maxHeartbeats 4000000 in
set_option maxRecDepth 100000 in
theorem m_X2_partnerOf (l : Launch) (D : va_G) (cI cC : ClassId) (h0 h1 h2 h3 h4 : Nat) (wi : Nat → Int32) (ol : Nat → Int32) (orr : Nat → Int32) (sf : Nat → Int32) (rl : Nat) (q : Bool) (a : Nat) (ha : a < 8) : g_M l yX2_partnerOf wsX2_partnerOf rm_X2_partnerOf D cI cC [.ref h0, .int (bI q), .int (nI a)] (mtW cI cC h0 h1 h2 h3 h4 wi ol orr sf (nI rl)) (fun vv ww => vv = some (.int ((if q then ol else orr) a)) ∧ ww = (mtW cI cC h0 h1 h2 h3 h4 wi ol orr sf (nI rl))) := by
  refine g_entry (lv := [(0, .ref h0), (1, .int (bI q)), (2, .int (nI a))]) (own := RX2) (by decide) rfl rfl (Nat.le_of_ble_eq_true rfl) rfl ?_
  intro p e s m args below meth co A Q C hr hQ
  refine g_iload_n (pc := 0) C dX2_partnerOf_0 1 rfl rfl ?_
  refine g_if_eqB (pc := 1) C 13 dX2_partnerOf_1 (by decide) (fun c1 => ?_) (fun c1 => ?_)
  · refine g_aload_n (pc := 13) C dX2_partnerOf_13 0 rfl rfl ?_
    refine g_get (pc := 14) (ci := 2) (T := TX2) (N := 5) (v := .ref h3) C in_X2_partnerOf_X2 0 rfl rfl 2 (by decide) fl_X2_partnerOf_18 rfl rfl dX2_partnerOf_14 ?_
    refine g_iload_n (pc := 17) C dX2_partnerOf_17 2 rfl rfl ?_
    refine g_ialdN (pc := 18) (f := orr) C 3 rfl (by omega) (by decide) dX2_partnerOf_18 ?_
    refine g_top (y := ((if q then ol else orr) a)) (by rw [c1]; rfl) ?_
    exact g_iret C hr hQ dX2_partnerOf_19 rfl ⟨rfl, rfl⟩
  · refine g_aload_n (pc := 4) C dX2_partnerOf_4 0 rfl rfl ?_
    refine g_get (pc := 5) (ci := 2) (T := TX2) (N := 5) (v := .ref h2) C in_X2_partnerOf_X2 0 rfl rfl 1 (by decide) fl_X2_partnerOf_15 rfl rfl dX2_partnerOf_5 ?_
    refine g_iload_n (pc := 8) C dX2_partnerOf_8 2 rfl rfl ?_
    refine g_ialdN (pc := 9) (f := ol) C 2 rfl (by omega) (by decide) dX2_partnerOf_9 ?_
    refine g_goto (pc := 10) C 19 dX2_partnerOf_10 (by decide) ?_
    refine g_top (y := ((if q then ol else orr) a)) (by rw [c1]; rfl) ?_
    exact g_iret C hr hQ dX2_partnerOf_19 rfl ⟨rfl, rfl⟩

abbrev rm_X2_size : Room := { frames := 1, cells := 0, slots := 0, locals := 20 }
theorem yd_X2_size : yX2_size.cls = RX2 ∧ yX2_size.cls ≠ "java/lang/invoke/MethodHandle" ∧ yX2_size.cls ≠ "java/lang/invoke/VarHandle" ∧ (parseMethodDescriptor yX2_size.desc).map (fun d => d.parameters.length) = some 0 := by decide +kernel
theorem in_X2_size_X2 : ∀ w ∈ u_ws RX2 TX2 5, w ∈ wsX2_size := by decide +kernel
theorem fl_X2_size_15 : Cond.fieldLink RX2 15 "FenceHandshakes$Matching" "ofLeft" "[I" ∈ wsX2_size := by decide +kernel
set_option maxHeartbeats 4000000 in
set_option maxRecDepth 100000 in
theorem m_X2_size (l : Launch) (D : va_G) (cI cC : ClassId) (h0 h1 h2 h3 h4 : Nat) (wi : Nat → Int32) (ol : Nat → Int32) (orr : Nat → Int32) (sf : Nat → Int32) (rl : Nat) (L : Nat → Option Nat) (hL : ao ol L) (hb : ∀ a b, a < 8 → L a = some b → b < 8) : g_M l yX2_size wsX2_size rm_X2_size D cI cC [.ref h0] (mtW cI cC h0 h1 h2 h3 h4 wi ol orr sf (nI rl)) (fun vv ww => vv = some (.int (nI (cnt (fun a => (L a).isSome) 8))) ∧ ww = (mtW cI cC h0 h1 h2 h3 h4 wi ol orr sf (nI rl))) := by
  refine g_entry (lv := [(0, .ref h0)]) (own := RX2) (by decide) rfl rfl (Nat.le_of_ble_eq_true rfl) rfl ?_
  intro p e s m args below meth co A Q C hr hQ
  refine g_iconst (pc := 0) (v := nI 0) C dX2_size_0 (by decide) ?_
  refine g_istore_n (pc := 1) (lv' := [(1, .int (nI 0)), (0, .ref h0)]) C dX2_size_1 rfl (by decide) rfl ?_
  refine g_iconst (pc := 2) (v := nI 0) C dX2_size_2 (by decide) ?_
  refine g_istore_n (pc := 3) (lv' := [(2, .int (nI 0)), (1, .int (nI 0)), (0, .ref h0)]) C dX2_size_3 rfl (by decide) rfl ?_
  have L4 : ∀ (N : Nat) (i : Nat) (u : Nat), 8 - i < N → (i ≤ 8) → (u = cnt (fun a => (L a).isSome) i) → g_J p l e rm_X2_size s m args below meth co Q D A 3 0 0 (mtW cI cC h0 h1 h2 h3 h4 wi ol orr sf (nI rl)) 4 [(0, .ref h0), (1, .int (nI u)), (2, .int (nI i))] [] := by
    intro N
    induction N with
    | zero => intro i u hN; exact absurd hN (Nat.not_lt_zero _)
    | succ N ih4 =>
      intro i u hN4 hi hu
      refine g_iload_n (pc := 4) C dX2_size_4 2 rfl rfl ?_
      refine g_bipush (pc := 5) (v := nI 8) C dX2_size_5 (by decide) ?_
      refine g_icmp_geN (pc := 7) C 38 (by omega) (by omega) dX2_size_7 (by decide) (fun c7 => ?_) (fun c7 => ?_)
      · refine g_iload_n (pc := 38) C dX2_size_38 1 rfl rfl ?_
        refine g_top (y := nI (cnt (fun a => (L a).isSome) 8)) (by rw [hu, show i = 8 by omega]) ?_
        exact g_iret C hr hQ dX2_size_39 rfl ⟨rfl, rfl⟩
      · refine g_iload_n (pc := 10) C dX2_size_10 1 rfl rfl ?_
        refine g_aload_n (pc := 11) C dX2_size_11 0 rfl rfl ?_
        refine g_get (pc := 12) (ci := 2) (T := TX2) (N := 5) (v := .ref h2) C in_X2_size_X2 0 rfl rfl 1 (by decide) fl_X2_size_15 rfl rfl dX2_size_12 ?_
        refine g_iload_n (pc := 15) C dX2_size_15 2 rfl rfl ?_
        refine g_ialdN (pc := 16) (f := ol) C 2 rfl (by omega) (by decide) dX2_size_16 ?_
        refine g_top (y := (pI (L i))) (hL i (by omega)) ?_
        refine g_bipush (pc := 17) (v := (-5)) C dX2_size_17 (by decide) ?_
        refine g_icmp_eq (pc := 19) C 26 dX2_size_19 (by decide) (fun c19 => ?_) (fun c19 => ?_)
        · refine g_iconst (pc := 26) (v := nI 0) C dX2_size_26 (by decide) ?_
          refine g_callSN (pc := 27) (st := [.int (nI u)]) (As := [.int (bI false)]) (nn := 1) (host := "FenceHandshakes") C (m_X5_asNumber l D cI cC false) gX2_size_X5_asNumber_n24 rfl rfl rfl (by decide +kernel) (by decide +kernel) (by decide +kernel) yd_X5_asNumber.2 ⟨Nat.le_of_ble_eq_true rfl, Nat.le_of_ble_eq_true rfl⟩ rfl [] rfl rfl rfl (Nat.le_of_ble_eq_true rfl) ⟨Nat.le_of_ble_eq_true rfl, Nat.le_of_ble_eq_true rfl⟩ dX2_size_27 ?_
          rintro _ _ ⟨rfl, rfl⟩
          refine g_eq (ws' := (mtW cI cC h0 h1 h2 h3 h4 wi ol orr sf (nI rl))) (st' := [.int (bI false), .int (nI u)]) rfl rfl ?_
          refine g_top (y := nI (if false then 1 else 0)) (bI_nI _) ?_
          refine g_iaddN (pc := 30) C dX2_size_30 ?_
          refine g_istore_n (pc := 31) (lv' := [(1, .int (nI (u + (if false then 1 else 0)))), (0, .ref h0), (2, .int (nI i))]) C dX2_size_31 rfl (by decide) rfl ?_
          refine g_iinc (pc := 32) (lv' := [(2, .int (nI (i + 1))), (1, .int (nI (u + (if false then 1 else 0)))), (0, .ref h0)]) C dX2_size_32 2 rfl (nI_add i 1) (by decide) rfl ?_
          refine g_goto (pc := 35) C 4 dX2_size_35 (by decide) ?_
          refine g_lvp (lv' := [(0, .ref h0), (1, .int (nI (u + (if false then 1 else 0)))), (2, .int (nI (i + 1)))]) [2, 1, 0] rfl ?_
          exact ih4 (i + 1) (u + (if false then 1 else 0)) (by omega) (by first | assumption | omega) (by rw [hu, cnt, pI_none (hb i · (by omega)) c19]; rfl)
        · refine g_iconst (pc := 22) (v := nI 1) C dX2_size_22 (by decide) ?_
          refine g_goto (pc := 23) C 27 dX2_size_23 (by decide) ?_
          refine g_callSN (pc := 27) (st := [.int (nI u)]) (As := [.int (bI true)]) (nn := 1) (host := "FenceHandshakes") C (m_X5_asNumber l D cI cC true) gX2_size_X5_asNumber_n24 rfl rfl rfl (by decide +kernel) (by decide +kernel) (by decide +kernel) yd_X5_asNumber.2 ⟨Nat.le_of_ble_eq_true rfl, Nat.le_of_ble_eq_true rfl⟩ rfl [] rfl rfl rfl (Nat.le_of_ble_eq_true rfl) ⟨Nat.le_of_ble_eq_true rfl, Nat.le_of_ble_eq_true rfl⟩ dX2_size_27 ?_
          rintro _ _ ⟨rfl, rfl⟩
          refine g_eq (ws' := (mtW cI cC h0 h1 h2 h3 h4 wi ol orr sf (nI rl))) (st' := [.int (bI true), .int (nI u)]) rfl rfl ?_
          refine g_top (y := nI (if true then 1 else 0)) (bI_nI _) ?_
          refine g_iaddN (pc := 30) C dX2_size_30 ?_
          refine g_istore_n (pc := 31) (lv' := [(1, .int (nI (u + (if true then 1 else 0)))), (0, .ref h0), (2, .int (nI i))]) C dX2_size_31 rfl (by decide) rfl ?_
          refine g_iinc (pc := 32) (lv' := [(2, .int (nI (i + 1))), (1, .int (nI (u + (if true then 1 else 0)))), (0, .ref h0)]) C dX2_size_32 2 rfl (nI_add i 1) (by decide) rfl ?_
          refine g_goto (pc := 35) C 4 dX2_size_35 (by decide) ?_
          refine g_lvp (lv' := [(0, .ref h0), (1, .int (nI (u + (if true then 1 else 0)))), (2, .int (nI (i + 1)))]) [2, 1, 0] rfl ?_
          exact ih4 (i + 1) (u + (if true then 1 else 0)) (by omega) (by first | assumption | omega) (by rw [hu, cnt, pI_some c19])
  refine g_lvp (lv' := [(0, .ref h0), (1, .int (nI 0)), (2, .int (nI 0))]) [2, 1, 0] rfl ?_
  exact L4 _ 0 0 (Nat.lt_succ_self _) (by first | assumption | omega) (rfl)

abbrev rm_X2_leftsWithoutPartner : Room := { frames := 0, cells := 0, slots := 0, locals := 0 }
theorem yd_X2_leftsWithoutPartner : yX2_leftsWithoutPartner.cls = RX2 ∧ yX2_leftsWithoutPartner.cls ≠ "java/lang/invoke/MethodHandle" ∧ yX2_leftsWithoutPartner.cls ≠ "java/lang/invoke/VarHandle" ∧ (parseMethodDescriptor yX2_leftsWithoutPartner.desc).map (fun d => d.parameters.length) = some 1 := by decide +kernel
theorem in_X2_leftsWithoutPartner_X2 : ∀ w ∈ u_ws RX2 TX2 5, w ∈ wsX2_leftsWithoutPartner := by decide +kernel
theorem fl_X2_leftsWithoutPartner_15 : Cond.fieldLink RX2 15 "FenceHandshakes$Matching" "ofLeft" "[I" ∈ wsX2_leftsWithoutPartner := by decide +kernel
set_option maxHeartbeats 4000000 in
set_option maxRecDepth 100000 in
theorem m_X2_leftsWithoutPartner (l : Launch) (D : va_G) (cI cC : ClassId) (h0 h1 h2 h3 h4 : Nat) (wi : Nat → Int32) (ol : Nat → Int32) (orr : Nat → Int32) (sf : Nat → Int32) (rl : Nat) (L : Nat → Option Nat) (f : Nat) (hL : ao ol L) (hb : ∀ a b, a < 8 → L a = some b → b < 8) (hf : f ≤ 8) : g_M l yX2_leftsWithoutPartner wsX2_leftsWithoutPartner rm_X2_leftsWithoutPartner D cI cC [.ref h0, .int (nI f)] (mtW cI cC h0 h1 h2 h3 h4 wi ol orr sf (nI rl)) (fun vv ww => vv = some (.int (nI (pmask (fun a => decide (f ≤ a) && (L a).isNone) 8))) ∧ ww = (mtW cI cC h0 h1 h2 h3 h4 wi ol orr sf (nI rl))) := by
  refine g_entry (lv := [(0, .ref h0), (1, .int (nI f))]) (own := RX2) (by decide) rfl rfl (Nat.le_of_ble_eq_true rfl) rfl ?_
  intro p e s m args below meth co A Q C hr hQ
  refine g_iconst (pc := 0) (v := nI 0) C dX2_leftsWithoutPartner_0 (by decide) ?_
  refine g_istore_n (pc := 1) (lv' := [(2, .int (nI 0)), (0, .ref h0), (1, .int (nI f))]) C dX2_leftsWithoutPartner_1 rfl (by decide) rfl ?_
  refine g_iload_n (pc := 2) C dX2_leftsWithoutPartner_2 2 rfl rfl ?_
  refine g_istore_n (pc := 3) (lv' := [(3, .int (nI f)), (2, .int (nI 0)), (0, .ref h0), (1, .int (nI f))]) C dX2_leftsWithoutPartner_3 rfl (by decide) rfl ?_
  have L4 : ∀ (N : Nat) (i : Nat) (u : Nat), 8 - i < N → (f ≤ i ∧ i ≤ 8) → (u = (pmask (fun a => decide (f ≤ a) && (L a).isNone) i)) → g_J p l e rm_X2_leftsWithoutPartner s m args below meth co Q D A 4 0 0 (mtW cI cC h0 h1 h2 h3 h4 wi ol orr sf (nI rl)) 4 [(0, .ref h0), (1, .int (nI f)), (2, .int (nI u)), (3, .int (nI i))] [] := by
    intro N
    induction N with
    | zero => intro i u hN; exact absurd hN (Nat.not_lt_zero _)
    | succ N ih4 =>
      intro i u hN4 hi hu
      refine g_iload_n (pc := 4) C dX2_leftsWithoutPartner_4 3 rfl rfl ?_
      refine g_bipush (pc := 5) (v := nI 8) C dX2_leftsWithoutPartner_5 (by decide) ?_
      refine g_icmp_geN (pc := 7) C 33 (by omega) (by omega) dX2_leftsWithoutPartner_7 (by decide) (fun c7 => ?_) (fun c7 => ?_)
      · refine g_iload_n (pc := 33) C dX2_leftsWithoutPartner_33 2 rfl rfl ?_
        refine g_top (y := nI (pmask (fun a => decide (f ≤ a) && (L a).isNone) 8)) (by rw [hu, show i = 8 by omega]) ?_
        exact g_iret C hr hQ dX2_leftsWithoutPartner_34 rfl ⟨rfl, rfl⟩
      · refine g_aload_n (pc := 10) C dX2_leftsWithoutPartner_10 0 rfl rfl ?_
        refine g_get (pc := 11) (ci := 2) (T := TX2) (N := 5) (v := .ref h2) C in_X2_leftsWithoutPartner_X2 0 rfl rfl 1 (by decide) fl_X2_leftsWithoutPartner_15 rfl rfl dX2_leftsWithoutPartner_11 ?_
        refine g_iload_n (pc := 14) C dX2_leftsWithoutPartner_14 3 rfl rfl ?_
        refine g_ialdN (pc := 15) (f := ol) C 2 rfl (by omega) (by decide) dX2_leftsWithoutPartner_15 ?_
        refine g_top (y := (pI (L i))) (hL i (by omega)) ?_
        refine g_bipush (pc := 16) (v := (-5)) C dX2_leftsWithoutPartner_16 (by decide) ?_
        refine g_icmp_ne (pc := 18) C 27 dX2_leftsWithoutPartner_18 (by decide) (fun c18 => ?_) (fun c18 => ?_)
        · refine g_iinc (pc := 27) (lv' := [(3, .int (nI (i + 1))), (0, .ref h0), (1, .int (nI f)), (2, .int (nI u))]) C dX2_leftsWithoutPartner_27 3 rfl (nI_add i 1) (by decide) rfl ?_
          refine g_goto (pc := 30) C 4 dX2_leftsWithoutPartner_30 (by decide) ?_
          refine g_lvp (lv' := [(0, .ref h0), (1, .int (nI f)), (2, .int (nI u)), (3, .int (nI (i + 1)))]) [1, 2, 3, 0] rfl ?_
          exact ih4 (i + 1) u (by omega) (by first | assumption | omega) (by rw [hu]; simp only [pmask]; rw [if_neg (by rw [pI_nn c18]; simp)])
        · refine g_iload_n (pc := 21) C dX2_leftsWithoutPartner_21 2 rfl rfl ?_
          refine g_iconst (pc := 22) (v := nI 1) C dX2_leftsWithoutPartner_22 (by decide) ?_
          refine g_iload_n (pc := 23) C dX2_leftsWithoutPartner_23 3 rfl rfl ?_
          refine g_ishlN (pc := 24) C (by omega) dX2_leftsWithoutPartner_24 ?_
          refine g_iorN (pc := 25) C dX2_leftsWithoutPartner_25 ?_
          refine g_istore_n (pc := 26) (lv' := [(2, .int (nI (u ||| (1 <<< i)))), (0, .ref h0), (1, .int (nI f)), (3, .int (nI i))]) C dX2_leftsWithoutPartner_26 rfl (by decide) rfl ?_
          refine g_iinc (pc := 27) (lv' := [(3, .int (nI (i + 1))), (2, .int (nI (u ||| (1 <<< i)))), (0, .ref h0), (1, .int (nI f))]) C dX2_leftsWithoutPartner_27 3 rfl (nI_add i 1) (by decide) rfl ?_
          refine g_goto (pc := 30) C 4 dX2_leftsWithoutPartner_30 (by decide) ?_
          refine g_lvp (lv' := [(0, .ref h0), (1, .int (nI f)), (2, .int (nI (u ||| (1 <<< i)))), (3, .int (nI (i + 1)))]) [2, 3, 1, 0] rfl ?_
          exact ih4 (i + 1) (u ||| (1 <<< i)) (by omega) (by first | assumption | omega) (by rw [hu]; simp only [pmask]; rw [if_pos (by rw [decide_eq_true hi.1, pI_none (hb i · (by omega)) c18]; rfl)])
  refine g_lvp (lv' := [(0, .ref h0), (1, .int (nI f)), (2, .int (nI 0)), (3, .int (nI f))]) [2, 3, 1, 0] rfl ?_
  exact L4 _ f 0 (Nat.lt_succ_self _) (by first | assumption | omega) ((pmask_0 _ f (fun k hk => by rw [decide_eq_false (by omega)]; rfl)).symm)

abbrev rm_X2_join : Room := { frames := 0, cells := 0, slots := 0, locals := 0 }
theorem yd_X2_join : yX2_join.cls = RX2 ∧ yX2_join.cls ≠ "java/lang/invoke/MethodHandle" ∧ yX2_join.cls ≠ "java/lang/invoke/VarHandle" ∧ (parseMethodDescriptor yX2_join.desc).map (fun d => d.parameters.length) = some 2 := by decide +kernel
theorem in_X2_join_X2 : ∀ w ∈ u_ws RX2 TX2 5, w ∈ wsX2_join := by decide +kernel
theorem fl_X2_join_15 : Cond.fieldLink RX2 15 "FenceHandshakes$Matching" "ofLeft" "[I" ∈ wsX2_join := by decide +kernel
theorem fl_X2_join_18 : Cond.fieldLink RX2 18 "FenceHandshakes$Matching" "ofRight" "[I" ∈ wsX2_join := by decide +kernel
set_option maxHeartbeats 4000000 in
set_option maxRecDepth 100000 in
theorem m_X2_join (l : Launch) (D : va_G) (cI cC : ClassId) (h0 h1 h2 h3 h4 : Nat) (wi : Nat → Int32) (ol : Nat → Int32) (orr : Nat → Int32) (sf : Nat → Int32) (rl : Nat) (a : Nat) (b : Nat) (ha : a < 8) (hb : b < 8) : g_M l yX2_join wsX2_join rm_X2_join D cI cC [.ref h0, .int (nI a), .int (nI b)] (mtW cI cC h0 h1 h2 h3 h4 wi ol orr sf (nI rl)) (fun vv ww => vv = none ∧ ww = (mtW cI cC h0 h1 h2 h3 h4 wi (upd ol a (nI b)) (upd orr b (nI a)) sf (nI rl))) := by
  refine g_entry (lv := [(0, .ref h0), (1, .int (nI a)), (2, .int (nI b))]) (own := RX2) (by decide) rfl rfl (Nat.le_of_ble_eq_true rfl) rfl ?_
  intro p e s m args below meth co A Q C hr hQ
  refine g_aload_n (pc := 0) C dX2_join_0 0 rfl rfl ?_
  refine g_get (pc := 1) (ci := 2) (T := TX2) (N := 5) (v := .ref h2) C in_X2_join_X2 0 rfl rfl 1 (by decide) fl_X2_join_15 rfl rfl dX2_join_1 ?_
  refine g_iload_n (pc := 4) C dX2_join_4 1 rfl rfl ?_
  refine g_iload_n (pc := 5) C dX2_join_5 2 rfl rfl ?_
  refine g_iastN (pc := 6) (f := ol) (ws' := (mtW cI cC h0 h1 h2 h3 h4 wi (upd ol a (nI b)) orr sf (nI rl))) C 2 rfl (by omega) (by decide) dX2_join_6 rfl ?_
  refine g_aload_n (pc := 7) C dX2_join_7 0 rfl rfl ?_
  refine g_get (pc := 8) (ci := 2) (T := TX2) (N := 5) (v := .ref h3) C in_X2_join_X2 0 rfl rfl 2 (by decide) fl_X2_join_18 rfl rfl dX2_join_8 ?_
  refine g_iload_n (pc := 11) C dX2_join_11 2 rfl rfl ?_
  refine g_iload_n (pc := 12) C dX2_join_12 1 rfl rfl ?_
  refine g_iastN (pc := 13) (f := orr) (ws' := (mtW cI cC h0 h1 h2 h3 h4 wi (upd ol a (nI b)) (upd orr b (nI a)) sf (nI rl))) C 3 rfl (by omega) (by decide) dX2_join_13 rfl ?_
  exact g_vret C hr hQ dX2_join_14 rfl ⟨rfl, rfl⟩

abbrev rm_X2_findFreeRight : Room := { frames := 1, cells := 0, slots := 0, locals := 23 }
theorem yd_X2_findFreeRight : yX2_findFreeRight.cls = RX2 ∧ yX2_findFreeRight.cls ≠ "java/lang/invoke/MethodHandle" ∧ yX2_findFreeRight.cls ≠ "java/lang/invoke/VarHandle" ∧ (parseMethodDescriptor yX2_findFreeRight.desc).map (fun d => d.parameters.length) = some 2 := by decide +kernel
theorem in_X2_findFreeRight_X2 : ∀ w ∈ u_ws RX2 TX2 5, w ∈ wsX2_findFreeRight := by decide +kernel
theorem fl_X2_findFreeRight_9 : Cond.fieldLink RX2 9 "FenceHandshakes$Matching" "wished" "[I" ∈ wsX2_findFreeRight := by decide +kernel
theorem fl_X2_findFreeRight_18 : Cond.fieldLink RX2 18 "FenceHandshakes$Matching" "ofRight" "[I" ∈ wsX2_findFreeRight := by decide +kernel
theorem fl_X2_findFreeRight_21 : Cond.fieldLink RX2 21 "FenceHandshakes$Matching" "seenFrom" "[I" ∈ wsX2_findFreeRight := by decide +kernel
theorem fl_X2_findFreeRight_62 : Cond.fieldLink RX2 62 "FenceHandshakes$Matching" "reachedLefts" "I" ∈ wsX2_findFreeRight := by decide +kernel
set_option maxHeartbeats 4000000 in
set_option maxRecDepth 100000 in
theorem m_X2_findFreeRight (l : Launch) (D : va_G) (cI cC : ClassId) (h0 h1 h2 h3 h4 : Nat) (wi : Nat → Int32) (ol : Nat → Int32) (orr : Nat → Int32) (sf : Nat → Int32) (rl : Nat) (L : Nat → Option Nat) (R : Nat → Option Nat) (f : Nat) (S : Nat) (hw : aw wi) (hL : ao ol L) (hR : ao orr R) (hm : mt (cN wi) L R) (hs : sub f S L R) (hf : f ≤ 8) (hS : S < 256) : g_M l yX2_findFreeRight wsX2_findFreeRight rm_X2_findFreeRight D cI cC [.ref h0, .int (nI f), .int (nI S)] (mtW cI cC h0 h1 h2 h3 h4 wi ol orr sf (nI rl)) (fun vv ww => ∃ (o : Option Nat) (sf2 : Nat → Int32) (rl2 : Nat) (sl : Nat → Nat) (t : Nat → Nat) (Sn : Nat → Bool), vv = some (.int (pI o)) ∧ ww = (mtW cI cC h0 h1 h2 h3 h4 wi ol orr sf2 (nI rl2)) ∧ ch (cN wi) L f S Sn sl t ∧ (∀ b, Sn b = true → sf2 b = nI (sl b)) ∧ (∀ b, o = some b → Sn b = true ∧ R b = none) ∧ (o = none → closed (cN wi) L R f S rl2 Sn) ∧ rl2 < 256) := by
  refine g_entry (lv := [(0, .ref h0), (1, .int (nI f)), (2, .int (nI S))]) (own := RX2) (by decide) rfl rfl (Nat.le_of_ble_eq_true rfl) rfl ?_
  intro p e s m args below meth co A Q C hr hQ
  refine g_aload_n (pc := 0) C dX2_findFreeRight_0 0 rfl rfl ?_
  refine g_iload_n (pc := 1) C dX2_findFreeRight_1 1 rfl rfl ?_
  refine g_callV (pc := 2) (st := []) (As := [.int (nI f)]) (nn := 1) (ci := 2) (q0 := 0) C (m_X2_leftsWithoutPartner l D cI cC h0 h1 h2 h3 h4 wi ol orr sf rl L f (by first | assumption | omega) (fun a b ha e => (hm.1 a b ha e).1) (by first | assumption | omega)) gX2_findFreeRight_X2_leftsWithoutPartner rfl rfl rfl yd_X2_leftsWithoutPartner ⟨Nat.le_of_ble_eq_true rfl, Nat.le_of_ble_eq_true rfl⟩ rfl [0, 1, 2, 3, 4] rfl rfl rfl rfl rfl (Nat.le_of_ble_eq_true rfl) ⟨Nat.le_of_ble_eq_true rfl, Nat.le_of_ble_eq_true rfl⟩ dX2_findFreeRight_2 ?_
  rintro _ _ ⟨rfl, rfl⟩
  refine g_eq (ws' := (mtW cI cC h0 h1 h2 h3 h4 wi ol orr sf (nI rl))) (st' := [.int (nI (pmask (fun a => decide (f ≤ a) && (L a).isNone) 8))]) rfl rfl ?_
  have hmb : ∀ a, a < 8 → ((pmask (fun a => decide (f ≤ a) && (L a).isNone) 8).testBit a = true ↔ (f ≤ a ∧ L a = none)) := fun a ha => by rw [pmask_bit, decide_eq_true ha]; simp only [Bool.true_and, Bool.and_eq_true, decide_eq_true_eq, Option.isNone_iff_eq_none]
  have hm8 : (pmask (fun a => decide (f ≤ a) && (L a).isNone) 8) < 256 := pmask_lt _ 8
  refine g_istore_n (pc := 5) (lv' := [(3, .int (nI (pmask (fun a => decide (f ≤ a) && (L a).isNone) 8))), (0, .ref h0), (1, .int (nI f)), (2, .int (nI S))]) C dX2_findFreeRight_5 rfl (by decide) rfl ?_
  refine g_iload_n (pc := 6) C dX2_findFreeRight_6 3 rfl rfl ?_
  refine g_istore (pc := 7) (lv' := [(4, .int (nI S)), (3, .int (nI (pmask (fun a => decide (f ≤ a) && (L a).isNone) 8))), (0, .ref h0), (1, .int (nI f)), (2, .int (nI S))]) C dX2_findFreeRight_7 (by decide) rfl ?_
  refine g_aload_n (pc := 9) C dX2_findFreeRight_9 2 rfl rfl ?_
  refine g_iload_n (pc := 10) C dX2_findFreeRight_10 1 rfl rfl ?_
  refine g_put (pc := 11) (ci := 2) (T := TX2) (N := 5) (ws' := (mtW cI cC h0 h1 h2 h3 h4 wi ol orr sf (nI (pmask (fun a => decide (f ≤ a) && (L a).isNone) 8)))) (ty := .int) (v := .int (nI (pmask (fun a => decide (f ≤ a) && (L a).isNone) 8))) C in_X2_findFreeRight_X2 tyX2 tyX2_ok nmX2 0 rfl rfl 4 (by decide) fl_X2_findFreeRight_62 rfl rfl (by decide +kernel) rfl rfl (Nat.le_of_ble_eq_true rfl) dX2_findFreeRight_11 rfl ?_
  refine g_iconst (pc := 14) (v := nI 0) C dX2_findFreeRight_14 (by decide) ?_
  refine g_istore (pc := 15) (lv' := [(5, .int (nI 0)), (4, .int (nI S)), (3, .int (nI (pmask (fun a => decide (f ≤ a) && (L a).isNone) 8))), (0, .ref h0), (1, .int (nI f)), (2, .int (nI S))]) C dX2_findFreeRight_15 (by decide) rfl ?_
  have L17 : ∀ (N : Nat) (k : Nat) (wt : Nat) (u : Nat) (rl : Nat) (sf : Nat → Int32) (sl : Nat → Nat) (t : Nat → Nat) (nn : Nat), 8 - k < N → (k ≤ 8) → (fi (cN wi) L R f S u wt rl sf sl t nn) → (clo (cN wi) S u rl wt 8 0) → (k ≤ pcn rl wt) → g_J p l e rm_X2_findFreeRight s m args below meth co Q D A 8 0 0 (mtW cI cC h0 h1 h2 h3 h4 wi ol orr sf (nI rl)) 17 [(0, .ref h0), (1, .int (nI f)), (2, .int (nI S)), (3, .int (nI wt)), (4, .int (nI u)), (5, .int (nI k))] [] := by
    intro N
    induction N with
    | zero => intro k wt u rl sf sl t nn hN; exact absurd hN (Nat.not_lt_zero _)
    | succ N ih17 =>
      intro k wt u rl sf sl t nn hN17 hk FI CL PC
      refine g_iload (pc := 17) C dX2_findFreeRight_17 5 rfl ?_
      refine g_bipush (pc := 19) (v := nI 8) C dX2_findFreeRight_19 (by decide) ?_
      refine g_icmp_geN (pc := 21) C 173 (by omega) (by omega) dX2_findFreeRight_21 (by decide) (fun c21 => ?_) (fun c21 => ?_)
      · have hw0 : wt = 0 := fi_wt0 FI (by omega)
        refine g_bipush (pc := 173) (v := (-5)) C dX2_findFreeRight_173 (by decide) ?_
        refine g_top (y := (pI none)) (rfl) ?_
        exact g_iret C hr hQ dX2_findFreeRight_175 rfl ⟨none, _, _, sl, t, Snf S u, rfl, rfl, FI.1, fun b hb => (FI.2.1 b hb).1, fun b hb => (by cases hb), fun _ => fi_closed FI CL hw0, FI.2.2.2.2.2.2.2.2.1.2.2⟩
      · refine g_iload_n (pc := 24) C dX2_findFreeRight_24 3 rfl rfl ?_
        refine g_if_eqN (pc := 25) C 173 (Nat.lt_trans FI.2.2.2.2.2.2.2.2.1.2.1 (by decide)) dX2_findFreeRight_25 (by decide) (fun c25 => ?_) (fun c25 => ?_)
        · have hw0 : wt = 0 := c25
          refine g_bipush (pc := 173) (v := (-5)) C dX2_findFreeRight_173 (by decide) ?_
          refine g_top (y := (pI none)) (rfl) ?_
          exact g_iret C hr hQ dX2_findFreeRight_175 rfl ⟨none, _, _, sl, t, Snf S u, rfl, rfl, FI.1, fun b hb => (FI.2.1 b hb).1, fun b hb => (by cases hb), fun _ => fi_closed FI CL hw0, FI.2.2.2.2.2.2.2.2.1.2.2⟩
        · refine g_iload_n (pc := 28) C dX2_findFreeRight_28 1 rfl rfl ?_
          refine g_istore (pc := 29) (lv' := [(6, .int (nI f)), (0, .ref h0), (1, .int (nI f)), (2, .int (nI S)), (3, .int (nI wt)), (4, .int (nI u)), (5, .int (nI k))]) C dX2_findFreeRight_29 (by decide) rfl ?_
          have L31 : ∀ (N : Nat) (i : Nat) (wt : Nat) (u : Nat) (rl : Nat) (sf : Nat → Int32) (sl : Nat → Nat) (t : Nat → Nat) (nn : Nat), 8 - i < N → (f ≤ i ∧ i ≤ 8) → (fi (cN wi) L R f S u wt rl sf sl t nn) → (clo (cN wi) S u rl wt 8 0) → ((k + 1 ≤ pcn rl wt) ∨ (k ≤ pcn rl wt ∧ ∃ a, i ≤ a ∧ a < 8 ∧ wt.testBit a = true)) → g_J p l e rm_X2_findFreeRight s m args below meth co Q D A 8 0 0 (mtW cI cC h0 h1 h2 h3 h4 wi ol orr sf (nI rl)) 31 [(0, .ref h0), (1, .int (nI f)), (2, .int (nI S)), (3, .int (nI wt)), (4, .int (nI u)), (5, .int (nI k)), (6, .int (nI i))] [] := by
            intro N
            induction N with
            | zero => intro i wt u rl sf sl t nn hN; exact absurd hN (Nat.not_lt_zero _)
            | succ N ih31 =>
              intro i wt u rl sf sl t nn hN31 hi FI CL PL
              refine g_iload (pc := 31) C dX2_findFreeRight_31 6 rfl ?_
              refine g_bipush (pc := 33) (v := nI 8) C dX2_findFreeRight_33 (by decide) ?_
              refine g_icmp_geN (pc := 35) C 167 (by omega) (by omega) dX2_findFreeRight_35 (by decide) (fun c35 => ?_) (fun c35 => ?_)
              · refine g_iinc (pc := 167) (lv' := [(5, .int (nI (k + 1))), (0, .ref h0), (1, .int (nI f)), (2, .int (nI S)), (3, .int (nI wt)), (4, .int (nI u)), (6, .int (nI i))]) C dX2_findFreeRight_167 5 rfl (nI_add k 1) (by decide) rfl ?_
                refine g_goto (pc := 170) C 17 dX2_findFreeRight_170 (by decide) ?_
                refine g_lvp (lv' := [(0, .ref h0), (1, .int (nI f)), (2, .int (nI S)), (3, .int (nI wt)), (4, .int (nI u)), (5, .int (nI (k + 1)))]) [1, 2, 3, 4, 5, 0] rfl ?_
                exact ih17 (k + 1) wt u rl sf sl t nn (by omega) (by first | assumption | omega) (by first | assumption | omega) (by first | assumption | omega) (PL.elim id (fun ⟨_, a, q1, q2, _⟩ => absurd q2 (by omega)))
              · refine g_iload_n (pc := 38) C dX2_findFreeRight_38 3 rfl rfl ?_
                refine g_iload (pc := 39) C dX2_findFreeRight_39 6 rfl ?_
                refine g_callSN (pc := 41) (st := []) (As := [.int (nI wt), .int (nI i)]) (nn := 2) (host := "FenceHandshakes") C (m_X5_hasBit l D cI cC wt i (Nat.lt_trans FI.2.2.2.2.2.2.2.2.1.2.1 (by decide)) (by first | assumption | omega)) gX2_findFreeRight_X5_hasBit_n47 rfl rfl rfl (by decide +kernel) (by decide +kernel) (by decide +kernel) yd_X5_hasBit.2 ⟨Nat.le_of_ble_eq_true rfl, Nat.le_of_ble_eq_true rfl⟩ rfl [] rfl rfl rfl (Nat.le_of_ble_eq_true rfl) ⟨Nat.le_of_ble_eq_true rfl, Nat.le_of_ble_eq_true rfl⟩ dX2_findFreeRight_41 ?_
                rintro _ _ ⟨rfl, rfl⟩
                refine g_eq (ws' := (mtW cI cC h0 h1 h2 h3 h4 wi ol orr sf (nI rl))) (st' := [.int (bI (wt.testBit i))]) rfl rfl ?_
                refine g_if_neB (pc := 44) C 50 dX2_findFreeRight_44 (by decide) (fun c44 => ?_) (fun c44 => ?_)
                · refine g_iload_n (pc := 50) C dX2_findFreeRight_50 3 rfl rfl ?_
                  refine g_iconst (pc := 51) (v := nI 1) C dX2_findFreeRight_51 (by decide) ?_
                  refine g_iload (pc := 52) C dX2_findFreeRight_52 6 rfl ?_
                  refine g_ishlN (pc := 54) C (by omega) dX2_findFreeRight_54 ?_
                  refine g_iconst (pc := 55) (v := (-1)) C dX2_findFreeRight_55 (by decide) ?_
                  refine g_ixor (pc := 56) C dX2_findFreeRight_56 ?_
                  refine g_iandX (pc := 57) C dX2_findFreeRight_57 ?_
                  refine g_istore_n (pc := 58) (lv' := [(3, .int (nI (g_nand wt (1 <<< i)))), (0, .ref h0), (1, .int (nI f)), (2, .int (nI S)), (4, .int (nI u)), (5, .int (nI k)), (6, .int (nI i))]) C dX2_findFreeRight_58 rfl (by decide) rfl ?_
                  refine g_iconst (pc := 59) (v := nI 0) C dX2_findFreeRight_59 (by decide) ?_
                  refine g_istore (pc := 60) (lv' := [(7, .int (nI 0)), (3, .int (nI (g_nand wt (1 <<< i)))), (0, .ref h0), (1, .int (nI f)), (2, .int (nI S)), (4, .int (nI u)), (5, .int (nI k)), (6, .int (nI i))]) C dX2_findFreeRight_60 (by decide) rfl ?_
                  have L62 : ∀ (N : Nat) (j : Nat) (wt : Nat) (u : Nat) (rl : Nat) (sf : Nat → Int32) (sl : Nat → Nat) (t : Nat → Nat) (nn : Nat), 8 - j < N → (j ≤ 8) → (fi (cN wi) L R f S u wt rl sf sl t nn) → (clo (cN wi) S u rl wt i j) → (k + 1 ≤ pcn rl wt) → (rl.testBit i = true) → g_J p l e rm_X2_findFreeRight s m args below meth co Q D A 8 0 0 (mtW cI cC h0 h1 h2 h3 h4 wi ol orr sf (nI rl)) 62 [(0, .ref h0), (1, .int (nI f)), (2, .int (nI S)), (3, .int (nI wt)), (4, .int (nI u)), (5, .int (nI k)), (6, .int (nI i)), (7, .int (nI j))] [] := by
                    intro N
                    induction N with
                    | zero => intro j wt u rl sf sl t nn hN; exact absurd hN (Nat.not_lt_zero _)
                    | succ N ih62 =>
                      intro j wt u rl sf sl t nn hN62 hj FI CJ PR hcr
                      refine g_iload (pc := 62) C dX2_findFreeRight_62 7 rfl ?_
                      refine g_bipush (pc := 64) (v := nI 8) C dX2_findFreeRight_64 (by decide) ?_
                      refine g_icmp_geN (pc := 66) C 161 (by omega) (by omega) dX2_findFreeRight_66 (by decide) (fun c66 => ?_) (fun c66 => ?_)
                      · refine g_iinc (pc := 161) (lv' := [(6, .int (nI (i + 1))), (0, .ref h0), (1, .int (nI f)), (2, .int (nI S)), (3, .int (nI wt)), (4, .int (nI u)), (5, .int (nI k)), (7, .int (nI j))]) C dX2_findFreeRight_161 6 rfl (nI_add i 1) (by decide) rfl ?_
                        refine g_goto (pc := 164) C 31 dX2_findFreeRight_164 (by decide) ?_
                        refine g_lvp (lv' := [(0, .ref h0), (1, .int (nI f)), (2, .int (nI S)), (3, .int (nI wt)), (4, .int (nI u)), (5, .int (nI k)), (6, .int (nI (i + 1)))]) [1, 2, 3, 4, 5, 6, 0] rfl ?_
                        exact ih31 (i + 1) wt u rl sf sl t nn (by omega) (by first | assumption | omega) (by first | assumption | omega) (clo_done (by rw [show j = 8 by omega] at CJ; exact CJ)) (Or.inl PR)
                      · refine g_aload_n (pc := 69) C dX2_findFreeRight_69 0 rfl rfl ?_
                        refine g_get (pc := 70) (ci := 2) (T := TX2) (N := 5) (v := .ref h1) C in_X2_findFreeRight_X2 0 rfl rfl 0 (by decide) fl_X2_findFreeRight_9 rfl rfl dX2_findFreeRight_70 ?_
                        refine g_iload (pc := 73) C dX2_findFreeRight_73 6 rfl ?_
                        refine g_ialdN (pc := 75) (f := wi) C 1 rfl (by omega) (by decide) dX2_findFreeRight_75 ?_
                        refine g_top (y := nI (cN wi i)) ((hw i (by omega)).1) ?_
                        refine g_iload (pc := 76) C dX2_findFreeRight_76 4 rfl ?_
                        refine g_iandN (pc := 78) C dX2_findFreeRight_78 ?_
                        refine g_iload (pc := 79) C dX2_findFreeRight_79 7 rfl ?_
                        refine g_callSN (pc := 81) (st := []) (As := [.int (nI ((cN wi i) &&& u)), .int (nI j)]) (nn := 2) (host := "FenceHandshakes") C (m_X5_hasBit l D cI cC ((cN wi i) &&& u) j (Nat.lt_of_le_of_lt Nat.and_le_right (Nat.lt_trans FI.2.2.2.2.2.2.2.2.1.1 (by decide))) (by first | assumption | omega)) gX2_findFreeRight_X5_hasBit_n47 rfl rfl rfl (by decide +kernel) (by decide +kernel) (by decide +kernel) yd_X5_hasBit.2 ⟨Nat.le_of_ble_eq_true rfl, Nat.le_of_ble_eq_true rfl⟩ rfl [] rfl rfl rfl (Nat.le_of_ble_eq_true rfl) ⟨Nat.le_of_ble_eq_true rfl, Nat.le_of_ble_eq_true rfl⟩ dX2_findFreeRight_81 ?_
                        rintro _ _ ⟨rfl, rfl⟩
                        refine g_eq (ws' := (mtW cI cC h0 h1 h2 h3 h4 wi ol orr sf (nI rl))) (st' := [.int (bI (((cN wi i) &&& u).testBit j))]) rfl rfl ?_
                        refine g_if_neB (pc := 84) C 90 dX2_findFreeRight_84 (by decide) (fun c84 => ?_) (fun c84 => ?_)
                        · have hSj : S.testBit j = true := FI.2.2.2.2.2.2.2.2.2 j (by omega) (by rw [Nat.testBit_and, Bool.and_eq_true] at c84; exact c84.2)
                          refine g_iload (pc := 90) C dX2_findFreeRight_90 4 rfl ?_
                          refine g_iconst (pc := 92) (v := nI 1) C dX2_findFreeRight_92 (by decide) ?_
                          refine g_iload (pc := 93) C dX2_findFreeRight_93 7 rfl ?_
                          refine g_ishlN (pc := 95) C (by omega) dX2_findFreeRight_95 ?_
                          refine g_iconst (pc := 96) (v := (-1)) C dX2_findFreeRight_96 (by decide) ?_
                          refine g_ixor (pc := 97) C dX2_findFreeRight_97 ?_
                          refine g_iandX (pc := 98) C dX2_findFreeRight_98 ?_
                          refine g_istore (pc := 99) (lv' := [(4, .int (nI (g_nand u (1 <<< j)))), (0, .ref h0), (1, .int (nI f)), (2, .int (nI S)), (3, .int (nI wt)), (5, .int (nI k)), (6, .int (nI i)), (7, .int (nI j))]) C dX2_findFreeRight_99 (by decide) rfl ?_
                          refine g_aload_n (pc := 101) C dX2_findFreeRight_101 1 rfl rfl ?_
                          refine g_get (pc := 102) (ci := 2) (T := TX2) (N := 5) (v := .ref h4) C in_X2_findFreeRight_X2 0 rfl rfl 3 (by decide) fl_X2_findFreeRight_21 rfl rfl dX2_findFreeRight_102 ?_
                          refine g_iload (pc := 105) C dX2_findFreeRight_105 7 rfl ?_
                          refine g_iload (pc := 107) C dX2_findFreeRight_107 6 rfl ?_
                          refine g_iastN (pc := 109) (f := sf) (ws' := (mtW cI cC h0 h1 h2 h3 h4 wi ol orr (upd sf j (nI i)) (nI rl))) C 4 rfl (by omega) (by decide) dX2_findFreeRight_109 rfl ?_
                          refine g_aload_n (pc := 110) C dX2_findFreeRight_110 1 rfl rfl ?_
                          refine g_get (pc := 111) (ci := 2) (T := TX2) (N := 5) (v := .ref h3) C in_X2_findFreeRight_X2 0 rfl rfl 2 (by decide) fl_X2_findFreeRight_18 rfl rfl dX2_findFreeRight_111 ?_
                          refine g_iload (pc := 114) C dX2_findFreeRight_114 7 rfl ?_
                          refine g_ialdN (pc := 116) (f := orr) C 3 rfl (by omega) (by decide) dX2_findFreeRight_116 ?_
                          refine g_top (y := (pI (R j))) (hR j (by omega)) ?_
                          refine g_bipush (pc := 117) (v := (-5)) C dX2_findFreeRight_117 (by decide) ?_
                          refine g_icmp_ne (pc := 119) C 125 dX2_findFreeRight_119 (by decide) (fun c119 => ?_) (fun c119 => ?_)
                          · obtain ⟨a2, ea2⟩ : ∃ a2, R j = some a2 := by cases hq : R j with | none => (rw [hq] at c119; exact absurd rfl c119) | some z => exact ⟨z, rfl⟩
                            have hn2 := see_new hm FI (show j < 8 by omega) c84 ea2
                            have ha2 : a2 < 8 := hn2.1
                            refine g_iload_n (pc := 125) C dX2_findFreeRight_125 4 rfl rfl ?_
                            refine g_iconst (pc := 126) (v := nI 1) C dX2_findFreeRight_126 (by decide) ?_
                            refine g_aload_n (pc := 127) C dX2_findFreeRight_127 1 rfl rfl ?_
                            refine g_get (pc := 128) (ci := 2) (T := TX2) (N := 5) (v := .ref h3) C in_X2_findFreeRight_X2 0 rfl rfl 2 (by decide) fl_X2_findFreeRight_18 rfl rfl dX2_findFreeRight_128 ?_
                            refine g_iload (pc := 131) C dX2_findFreeRight_131 7 rfl ?_
                            refine g_ialdN (pc := 133) (f := orr) C 3 rfl (by omega) (by decide) dX2_findFreeRight_133 ?_
                            refine g_top (y := nI a2) (by rw [hR j (by omega), ea2]; rfl) ?_
                            refine g_ishlN (pc := 134) C (by omega) dX2_findFreeRight_134 ?_
                            refine g_iorN (pc := 135) C dX2_findFreeRight_135 ?_
                            refine g_istore_n (pc := 136) (lv' := [(3, .int (nI (wt ||| (1 <<< a2)))), (4, .int (nI (g_nand u (1 <<< j)))), (0, .ref h0), (1, .int (nI f)), (2, .int (nI S)), (5, .int (nI k)), (6, .int (nI i)), (7, .int (nI j))]) C dX2_findFreeRight_136 rfl (by decide) rfl ?_
                            refine g_aload_n (pc := 137) C dX2_findFreeRight_137 2 rfl rfl ?_
                            refine g_dup (pc := 138) C dX2_findFreeRight_138 rfl ?_
                            refine g_get (pc := 139) (ci := 2) (T := TX2) (N := 5) (v := .int (nI rl)) C in_X2_findFreeRight_X2 0 rfl rfl 4 (by decide) fl_X2_findFreeRight_62 rfl rfl dX2_findFreeRight_139 ?_
                            refine g_iconst (pc := 142) (v := nI 1) C dX2_findFreeRight_142 (by decide) ?_
                            refine g_aload_n (pc := 143) C dX2_findFreeRight_143 2 rfl rfl ?_
                            refine g_get (pc := 144) (ci := 2) (T := TX2) (N := 5) (v := .ref h3) C in_X2_findFreeRight_X2 0 rfl rfl 2 (by decide) fl_X2_findFreeRight_18 rfl rfl dX2_findFreeRight_144 ?_
                            refine g_iload (pc := 147) C dX2_findFreeRight_147 7 rfl ?_
                            refine g_ialdN (pc := 149) (f := orr) C 3 rfl (by omega) (by decide) dX2_findFreeRight_149 ?_
                            refine g_top (y := nI a2) (by rw [hR j (by omega), ea2]; rfl) ?_
                            refine g_ishlN (pc := 150) C (by omega) dX2_findFreeRight_150 ?_
                            refine g_iorN (pc := 151) C dX2_findFreeRight_151 ?_
                            refine g_put (pc := 152) (ci := 2) (T := TX2) (N := 5) (ws' := (mtW cI cC h0 h1 h2 h3 h4 wi ol orr (upd sf j (nI i)) (nI (rl ||| (1 <<< a2))))) (ty := .int) (v := .int (nI (rl ||| (1 <<< a2)))) C in_X2_findFreeRight_X2 tyX2 tyX2_ok nmX2 0 rfl rfl 4 (by decide) fl_X2_findFreeRight_62 rfl rfl (by decide +kernel) rfl rfl (Nat.le_of_ble_eq_true rfl) dX2_findFreeRight_152 rfl ?_
                            refine g_iinc (pc := 155) (lv' := [(7, .int (nI (j + 1))), (3, .int (nI (wt ||| (1 <<< a2)))), (4, .int (nI (g_nand u (1 <<< j)))), (0, .ref h0), (1, .int (nI f)), (2, .int (nI S)), (5, .int (nI k)), (6, .int (nI i))]) C dX2_findFreeRight_155 7 rfl (nI_add j 1) (by decide) rfl ?_
                            refine g_goto (pc := 158) C 62 dX2_findFreeRight_158 (by decide) ?_
                            refine g_lvp (lv' := [(0, .ref h0), (1, .int (nI f)), (2, .int (nI S)), (3, .int (nI (wt ||| (1 <<< a2)))), (4, .int (nI (g_nand u (1 <<< j)))), (5, .int (nI k)), (6, .int (nI i)), (7, .int (nI (j + 1)))]) [3, 4, 5, 1, 2, 6, 7, 0] rfl ?_
                            exact ih62 (j + 1) (wt ||| (1 <<< a2)) (g_nand u (1 <<< j)) (rl ||| (1 <<< a2)) (upd sf j (nI i)) (nupd sl j i) (nupd t j nn) (nn + 1) (by omega) (by first | assumption | omega) (fi_see hm hs FI (by omega) hcr (by omega) c84 ea2) (clo_see (by omega) hSj hn2.2 CJ) (by rw [pcn_see hn2.2]; exact PR) (by rw [or_bit, hcr]; rfl)
                          · obtain ⟨hc1, hc2, hc3, hc4⟩ := ch_see FI (show i < 8 by omega) hcr (show j < 8 by omega) c84
                            refine g_iload (pc := 122) C dX2_findFreeRight_122 7 rfl ?_
                            refine g_top (y := (pI (some j))) (rfl) ?_
                            exact g_iret C hr hQ dX2_findFreeRight_124 rfl ⟨some j, _, _, nupd sl j i, nupd t j nn, Snf S (clr u j), rfl, rfl, hc1, fun b hb => (hc2 b hb).1, fun b hb => by cases hb; exact ⟨(Snf_clr (by omega) hSj).mpr (Or.inr rfl), pI_none (fun r hr => Nat.lt_of_lt_of_le (hm.2 j r (by omega) hr).1 (Nat.le_refl _)) c119⟩, fun h => (by cases h), FI.2.2.2.2.2.2.2.2.1.2.2⟩
                        · refine g_goto (pc := 87) C 155 dX2_findFreeRight_87 (by decide) ?_
                          refine g_iinc (pc := 155) (lv' := [(7, .int (nI (j + 1))), (0, .ref h0), (1, .int (nI f)), (2, .int (nI S)), (3, .int (nI wt)), (4, .int (nI u)), (5, .int (nI k)), (6, .int (nI i))]) C dX2_findFreeRight_155 7 rfl (nI_add j 1) (by decide) rfl ?_
                          refine g_goto (pc := 158) C 62 dX2_findFreeRight_158 (by decide) ?_
                          refine g_lvp (lv' := [(0, .ref h0), (1, .int (nI f)), (2, .int (nI S)), (3, .int (nI wt)), (4, .int (nI u)), (5, .int (nI k)), (6, .int (nI i)), (7, .int (nI (j + 1)))]) [1, 2, 3, 4, 5, 6, 7, 0] rfl ?_
                          exact ih62 (j + 1) wt u rl sf sl t nn (by omega) (by first | assumption | omega) (by first | assumption | omega) (clo_skip FI CJ c84) (by first | assumption | omega) (by first | assumption | omega)
                  refine g_lvp (lv' := [(0, .ref h0), (1, .int (nI f)), (2, .int (nI S)), (3, .int (nI (g_nand wt (1 <<< i)))), (4, .int (nI u)), (5, .int (nI k)), (6, .int (nI i)), (7, .int (nI 0))]) [2, 3, 4, 1, 5, 6, 7, 0] rfl ?_
                  exact L62 _ 0 (g_nand wt (1 <<< i)) u rl sf sl t nn (Nat.lt_succ_self _) (by first | assumption | omega) (fi_pop FI) (clo_pop CL) (by have h9 := pcn_pop (wt := wt) (show i < 8 by omega) (FI.2.2.2.2.2.2.1 i (by omega) c44) c44; exact h9 ▸ (PL.elim (fun z => Nat.le_succ_of_le z) (fun z => Nat.succ_le_succ z.1))) (FI.2.2.2.2.2.2.1 i (by omega) c44)
                · refine g_goto (pc := 47) C 161 dX2_findFreeRight_47 (by decide) ?_
                  refine g_iinc (pc := 161) (lv' := [(6, .int (nI (i + 1))), (0, .ref h0), (1, .int (nI f)), (2, .int (nI S)), (3, .int (nI wt)), (4, .int (nI u)), (5, .int (nI k))]) C dX2_findFreeRight_161 6 rfl (nI_add i 1) (by decide) rfl ?_
                  refine g_goto (pc := 164) C 31 dX2_findFreeRight_164 (by decide) ?_
                  refine g_lvp (lv' := [(0, .ref h0), (1, .int (nI f)), (2, .int (nI S)), (3, .int (nI wt)), (4, .int (nI u)), (5, .int (nI k)), (6, .int (nI (i + 1)))]) [1, 2, 3, 4, 5, 6, 0] rfl ?_
                  exact ih31 (i + 1) wt u rl sf sl t nn (by omega) (by first | assumption | omega) (by first | assumption | omega) (CL) (PL.elim Or.inl (fun ⟨q0, a, q1, q2, q3⟩ => Or.inr ⟨q0, a, Nat.lt_of_le_of_ne q1 (fun z => by rw [← z, c44] at q3; cases q3), q2, q3⟩))
          refine g_lvp (lv' := [(0, .ref h0), (1, .int (nI f)), (2, .int (nI S)), (3, .int (nI wt)), (4, .int (nI u)), (5, .int (nI k)), (6, .int (nI f))]) [1, 2, 3, 4, 5, 6, 0] rfl ?_
          exact L31 _ f wt u rl sf sl t nn (Nat.lt_succ_self _) (by first | assumption | omega) (by first | assumption | omega) (by first | assumption | omega) (Or.inr ⟨PC, by obtain ⟨a, q1, q2⟩ := bit_ex FI.2.2.2.2.2.2.2.2.1.2.1 c25; exact ⟨a, FI.2.2.2.1 a q1 (FI.2.2.2.2.2.2.1 a q1 q2), q1, q2⟩⟩)
  refine g_lvp (lv' := [(0, .ref h0), (1, .int (nI f)), (2, .int (nI S)), (3, .int (nI (pmask (fun a => decide (f ≤ a) && (L a).isNone) 8))), (4, .int (nI S)), (5, .int (nI 0))]) [3, 4, 5, 2, 1, 0] rfl ?_
  exact L17 _ 0 (pmask (fun a => decide (f ≤ a) && (L a).isNone) 8) S (pmask (fun a => decide (f ≤ a) && (L a).isNone) 8) sf (fun _ => 0) (fun _ => 0) 0 (Nat.lt_succ_self _) (by first | assumption | omega) (fi_init hS hm8 hmb) (clo_init) (Nat.zero_le _)
