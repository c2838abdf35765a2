abbrev clW (cI cC : ClassId) (h0 h1 : Nat) (c : Nat → Int32) : va_W := [(h0, .inr (0, [.ref h1])), (h1, .inl (cI, 154, .inl c))]
abbrev arW (cI cC : ClassId) (h0 : Nat) (z : Nat) (c : Nat → Int32) : va_W := [(h0, .inl (cI, z, .inl c))]
abbrev cpW (cI cC : ClassId) (h0 h1 k0 k1 : Nat) (c : Nat → Int32) (d : Nat → Int32) : va_W := [(h0, .inr (0, [.ref h1])), (h1, .inl (cI, 154, .inl c)), (k0, .inr (0, [.ref k1])), (k1, .inl (cI, 154, .inl d))]
abbrev rm_X5_hasBit : Room := { frames := 0, cells := 0, slots := 0, locals := 0 }
theorem yd_X5_hasBit : yX5_hasBit.cls = RX5 ∧ yX5_hasBit.cls ≠ "java/lang/invoke/MethodHandle" ∧ yX5_hasBit.cls ≠ "java/lang/invoke/VarHandle" ∧ (parseMethodDescriptor yX5_hasBit.desc).map (fun d => d.parameters.length) = some 2 := by decide +kernel
set_option maxHeartbeats 4000000 in
set_option maxRecDepth 100000 in
theorem m_X5_hasBit (l : Launch) (D : va_G) (cI cC : ClassId) (m0 : Nat) (b0 : Nat) (hm : m0 < 2 ^ 31) (hb : b0 < 32) : g_M l yX5_hasBit wsX5_hasBit rm_X5_hasBit D cI cC [.int (nI m0), .int (nI b0)] [] (fun vv ww => vv = some (.int (bI (m0.testBit b0))) ∧ ww = []) := by
  refine g_entry (lv := [(0, .int (nI m0)), (1, .int (nI b0))]) (own := RX5) (by decide) rfl rfl (Nat.le_of_ble_eq_true rfl) rfl ?_
  intro p e s m args below meth co A Q C hr hQ
  refine g_iload_n (pc := 0) C dX5_hasBit_0 0 rfl rfl ?_
  refine g_iload_n (pc := 1) C dX5_hasBit_1 1 rfl rfl ?_
  refine g_ishrN (pc := 2) C (by omega) (by omega) dX5_hasBit_2 ?_
  refine g_iconst (pc := 3) (v := nI 1) C dX5_hasBit_3 (by decide) ?_
  refine g_iandN (pc := 4) C dX5_hasBit_4 ?_
  refine g_iconst (pc := 5) (v := nI 1) C dX5_hasBit_5 (by decide) ?_
  refine g_icmp_neN (pc := 6) C 13 (g_and1 _) (by decide) dX5_hasBit_6 (by decide) (fun c6 => ?_) (fun c6 => ?_)
  · refine g_iconst (pc := 13) (v := nI 0) C dX5_hasBit_13 (by decide) ?_
    refine g_top (y := bI (m0.testBit b0)) (hb_f c6) ?_
    exact g_zret C hr hQ dX5_hasBit_14 rfl ⟨rfl, rfl⟩
  · refine g_iconst (pc := 9) (v := nI 1) C dX5_hasBit_9 (by decide) ?_
    refine g_goto (pc := 10) C 14 dX5_hasBit_10 (by decide) ?_
    refine g_top (y := bI (m0.testBit b0)) (hb_t c6) ?_
    exact g_zret C hr hQ dX5_hasBit_14 rfl ⟨rfl, rfl⟩

abbrev rm_X5_isPerson : Room := { frames := 0, cells := 0, slots := 0, locals := 0 }
theorem yd_X5_isPerson : yX5_isPerson.cls = RX5 ∧ yX5_isPerson.cls ≠ "java/lang/invoke/MethodHandle" ∧ yX5_isPerson.cls ≠ "java/lang/invoke/VarHandle" ∧ (parseMethodDescriptor yX5_isPerson.desc).map (fun d => d.parameters.length) = some 1 := by decide +kernel
set_option maxHeartbeats 4000000 in
set_option maxRecDepth 100000 in
theorem m_X5_isPerson (l : Launch) (D : va_G) (cI cC : ClassId) (x : Int32) : g_M l yX5_isPerson wsX5_isPerson rm_X5_isPerson D cI cC [.int x] [] (fun vv ww => vv = some (.int (bI (isP x))) ∧ ww = []) := by
  refine g_entry (lv := [(0, .int x)]) (own := RX5) (by decide) rfl rfl (Nat.le_of_ble_eq_true rfl) rfl ?_
  intro p e s m args below meth co A Q C hr hQ
  refine g_iload_n (pc := 0) C dX5_isPerson_0 0 rfl rfl ?_
  refine g_if_lt (pc := 1) C 14 dX5_isPerson_1 (by decide) (fun c1 => ?_) (fun c1 => ?_)
  · refine g_iconst (pc := 14) (v := nI 0) C dX5_isPerson_14 (by decide) ?_
    refine g_top (y := bI (isP x)) (by first | (rw [isP_f1 c1]; rfl) | (rw [isP_f2 c7]; rfl)) ?_
    exact g_zret C hr hQ dX5_isPerson_15 rfl ⟨rfl, rfl⟩
  · refine g_iload_n (pc := 4) C dX5_isPerson_4 0 rfl rfl ?_
    refine g_bipush (pc := 5) (v := nI 8) C dX5_isPerson_5 (by decide) ?_
    refine g_icmp_ge (pc := 7) C 14 dX5_isPerson_7 (by decide) (fun c7 => ?_) (fun c7 => ?_)
    · refine g_iconst (pc := 14) (v := nI 0) C dX5_isPerson_14 (by decide) ?_
      refine g_top (y := bI (isP x)) (by first | (rw [isP_f1 c1]; rfl) | (rw [isP_f2 c7]; rfl)) ?_
      exact g_zret C hr hQ dX5_isPerson_15 rfl ⟨rfl, rfl⟩
    · refine g_iconst (pc := 10) (v := nI 1) C dX5_isPerson_10 (by decide) ?_
      refine g_goto (pc := 11) C 15 dX5_isPerson_11 (by decide) ?_
      refine g_top (y := bI (isP x)) (by rw [isP_t c1 c7]; rfl) ?_
      exact g_zret C hr hQ dX5_isPerson_15 rfl ⟨rfl, rfl⟩

abbrev rm_X5_asNumber : Room := { frames := 0, cells := 0, slots := 0, locals := 0 }
theorem yd_X5_asNumber : yX5_asNumber.cls = RX5 ∧ yX5_asNumber.cls ≠ "java/lang/invoke/MethodHandle" ∧ yX5_asNumber.cls ≠ "java/lang/invoke/VarHandle" ∧ (parseMethodDescriptor yX5_asNumber.desc).map (fun d => d.parameters.length) = some 1 := by decide +kernel
set_option maxHeartbeats 4000000 in
set_option maxRecDepth 100000 in
theorem m_X5_asNumber (l : Launch) (D : va_G) (cI cC : ClassId) (q : Bool) : g_M l yX5_asNumber wsX5_asNumber rm_X5_asNumber D cI cC [.int (bI q)] [] (fun vv ww => vv = some (.int (bI q)) ∧ ww = []) := by
  refine g_entry (lv := [(0, .int (bI q))]) (own := RX5) (by decide) rfl rfl (Nat.le_of_ble_eq_true rfl) rfl ?_
  intro p e s m args below meth co A Q C hr hQ
  refine g_iload_n (pc := 0) C dX5_asNumber_0 0 rfl rfl ?_
  refine g_if_eqB (pc := 1) C 8 dX5_asNumber_1 (by decide) (fun c1 => ?_) (fun c1 => ?_)
  · refine g_iconst (pc := 8) (v := nI 0) C dX5_asNumber_8 (by decide) ?_
    refine g_top (y := bI q) (by rw [c1]; rfl) ?_
    exact g_iret C hr hQ dX5_asNumber_9 rfl ⟨rfl, rfl⟩
  · refine g_iconst (pc := 4) (v := nI 1) C dX5_asNumber_4 (by decide) ?_
    refine g_goto (pc := 5) C 9 dX5_asNumber_5 (by decide) ?_
    refine g_top (y := bI q) (by rw [c1]; rfl) ?_
    exact g_iret C hr hQ dX5_asNumber_9 rfl ⟨rfl, rfl⟩

abbrev rm_J6_bitCount_0f7a4 : Room := { frames := 0, cells := 0, slots := 0, locals := 0 }
theorem yd_J6_bitCount_0f7a4 : yJ6_bitCount_0f7a4.cls = RJ6 ∧ yJ6_bitCount_0f7a4.cls ≠ "java/lang/invoke/MethodHandle" ∧ yJ6_bitCount_0f7a4.cls ≠ "java/lang/invoke/VarHandle" ∧ (parseMethodDescriptor yJ6_bitCount_0f7a4.desc).map (fun d => d.parameters.length) = some 1 := by decide +kernel
set_option maxHeartbeats 4000000 in
set_option maxRecDepth 100000 in
theorem m_J6_bitCount_0f7a4 (l : Launch) (D : va_G) (cI cC : ClassId) (w0 : Nat) (hw : w0 < 2 ^ 31) : g_M l yJ6_bitCount_0f7a4 wsJ6_bitCount_0f7a4 rm_J6_bitCount_0f7a4 D cI cC [.int (nI w0)] [] (fun vv ww => vv = some (.int (nI (bcN w0))) ∧ ww = []) := by
  refine g_entry (lv := [(0, .int (nI w0))]) (own := RJ6) (by decide) rfl rfl (Nat.le_of_ble_eq_true rfl) rfl ?_
  intro p e s m args below meth co A Q C hr hQ
  refine g_iload_n (pc := 0) C dJ6_bitCount_0f7a4_0 0 rfl rfl ?_
  refine g_iload_n (pc := 1) C dJ6_bitCount_0f7a4_1 0 rfl rfl ?_
  refine g_iconst (pc := 2) (v := nI 1) C dJ6_bitCount_0f7a4_2 (by decide) ?_
  refine g_iushrN (pc := 3) C (by omega) (by decide) dJ6_bitCount_0f7a4_3 ?_
  refine g_ldcw (pc := 4) (v := 1431655765) C dJ6_bitCount_0f7a4_4 (by decide +kernel) ?_
  refine g_top (y := nI 1431655765) rfl ?_
  refine g_iandN (pc := 7) C dJ6_bitCount_0f7a4_7 ?_
  refine g_isubN (pc := 8) C dJ6_bitCount_0f7a4_8 (Nat.le_trans Nat.and_le_left (Nat.shiftRight_le _ _)) ?_
  refine g_nameN (fun x1 e_x1 => ?_)
  have hx1 : x1 ≤ w0 := by rw [e_x1]; exact Nat.sub_le _ _
  refine g_istore_n (pc := 9) (lv' := [(0, .int (nI x1))]) C dJ6_bitCount_0f7a4_9 rfl (by decide) rfl ?_
  refine g_iload_n (pc := 10) C dJ6_bitCount_0f7a4_10 0 rfl rfl ?_
  refine g_ldcw (pc := 11) (v := 858993459) C dJ6_bitCount_0f7a4_11 (by decide +kernel) ?_
  refine g_top (y := nI 858993459) rfl ?_
  refine g_iandN (pc := 14) C dJ6_bitCount_0f7a4_14 ?_
  refine g_iload_n (pc := 15) C dJ6_bitCount_0f7a4_15 0 rfl rfl ?_
  refine g_iconst (pc := 16) (v := nI 2) C dJ6_bitCount_0f7a4_16 (by decide) ?_
  refine g_iushrN (pc := 17) C (by omega) (by decide) dJ6_bitCount_0f7a4_17 ?_
  refine g_ldcw (pc := 18) (v := 858993459) C dJ6_bitCount_0f7a4_18 (by decide +kernel) ?_
  refine g_top (y := nI 858993459) rfl ?_
  refine g_iandN (pc := 21) C dJ6_bitCount_0f7a4_21 ?_
  refine g_iaddN (pc := 22) C dJ6_bitCount_0f7a4_22 ?_
  refine g_nameN (fun x2 e_x2 => ?_)
  have hx2 : x2 ≤ 858993459 + 858993459 := by rw [e_x2]; exact Nat.add_le_add Nat.and_le_right Nat.and_le_right
  refine g_istore_n (pc := 23) (lv' := [(0, .int (nI x2))]) C dJ6_bitCount_0f7a4_23 rfl (by decide) rfl ?_
  refine g_iload_n (pc := 24) C dJ6_bitCount_0f7a4_24 0 rfl rfl ?_
  refine g_iload_n (pc := 25) C dJ6_bitCount_0f7a4_25 0 rfl rfl ?_
  refine g_iconst (pc := 26) (v := nI 4) C dJ6_bitCount_0f7a4_26 (by decide) ?_
  refine g_iushrN (pc := 27) C (by omega) (by decide) dJ6_bitCount_0f7a4_27 ?_
  refine g_iaddN (pc := 28) C dJ6_bitCount_0f7a4_28 ?_
  refine g_ldcw (pc := 29) (v := 252645135) C dJ6_bitCount_0f7a4_29 (by decide +kernel) ?_
  refine g_top (y := nI 252645135) rfl ?_
  refine g_iandN (pc := 32) C dJ6_bitCount_0f7a4_32 ?_
  refine g_nameN (fun x3 e_x3 => ?_)
  have hx3 : x3 ≤ 252645135 := by rw [e_x3]; exact Nat.and_le_right
  refine g_istore_n (pc := 33) (lv' := [(0, .int (nI x3))]) C dJ6_bitCount_0f7a4_33 rfl (by decide) rfl ?_
  refine g_iload_n (pc := 34) C dJ6_bitCount_0f7a4_34 0 rfl rfl ?_
  refine g_iload_n (pc := 35) C dJ6_bitCount_0f7a4_35 0 rfl rfl ?_
  refine g_bipush (pc := 36) (v := nI 8) C dJ6_bitCount_0f7a4_36 (by decide) ?_
  refine g_iushrN (pc := 38) C (by omega) (by decide) dJ6_bitCount_0f7a4_38 ?_
  refine g_iaddN (pc := 39) C dJ6_bitCount_0f7a4_39 ?_
  refine g_nameN (fun x4 e_x4 => ?_)
  have hx4 : x4 ≤ 252645135 + 252645135 := by rw [e_x4]; exact Nat.add_le_add hx3 (Nat.le_trans (Nat.shiftRight_le _ _) hx3)
  refine g_istore_n (pc := 40) (lv' := [(0, .int (nI x4))]) C dJ6_bitCount_0f7a4_40 rfl (by decide) rfl ?_
  refine g_iload_n (pc := 41) C dJ6_bitCount_0f7a4_41 0 rfl rfl ?_
  refine g_iload_n (pc := 42) C dJ6_bitCount_0f7a4_42 0 rfl rfl ?_
  refine g_bipush (pc := 43) (v := nI 16) C dJ6_bitCount_0f7a4_43 (by decide) ?_
  refine g_iushrN (pc := 45) C (by omega) (by decide) dJ6_bitCount_0f7a4_45 ?_
  refine g_iaddN (pc := 46) C dJ6_bitCount_0f7a4_46 ?_
  refine g_nameN (fun x5 e_x5 => ?_)
  refine g_istore_n (pc := 47) (lv' := [(0, .int (nI x5))]) C dJ6_bitCount_0f7a4_47 rfl (by decide) rfl ?_
  refine g_iload_n (pc := 48) C dJ6_bitCount_0f7a4_48 0 rfl rfl ?_
  refine g_bipush (pc := 49) (v := nI 63) C dJ6_bitCount_0f7a4_49 (by decide) ?_
  refine g_iandN (pc := 51) C dJ6_bitCount_0f7a4_51 ?_
  refine g_top (y := nI (bcN w0)) (by rw [e_x5, e_x4, e_x3, e_x2, e_x1]; rfl) ?_
  exact g_iret C hr hQ dJ6_bitCount_0f7a4_52 rfl ⟨rfl, rfl⟩

abbrev rm_J7_fill_53178 : Room := { frames := 0, cells := 0, slots := 0, locals := 0 }
theorem yd_J7_fill_53178 : yJ7_fill_53178.cls = RJ7 ∧ yJ7_fill_53178.cls ≠ "java/lang/invoke/MethodHandle" ∧ yJ7_fill_53178.cls ≠ "java/lang/invoke/VarHandle" ∧ (parseMethodDescriptor yJ7_fill_53178.desc).map (fun d => d.parameters.length) = some 2 := by decide +kernel
set_option maxHeartbeats 4000000 in
set_option maxRecDepth 100000 in
theorem m_J7_fill_53178 (l : Launch) (D : va_G) (cI cC : ClassId) (h0 : Nat) (z : Nat) (c : Nat → Int32) (x : Int32) (hz : z < 2 ^ 31) : g_M l yJ7_fill_53178 wsJ7_fill_53178 rm_J7_fill_53178 D cI cC [.ref h0, .int x] (arW cI cC h0 z c) (fun vv ww => vv = none ∧ ww = (arW cI cC h0 z (fillF c x z))) := by
  refine g_entry (lv := [(0, .ref h0), (1, .int x)]) (own := RJ7) (by decide) rfl rfl (Nat.le_of_ble_eq_true rfl) rfl ?_
  intro p e s m args below meth co A Q C hr hQ
  refine g_iconst (pc := 0) (v := nI 0) C dJ7_fill_53178_0 (by decide) ?_
  refine g_istore_n (pc := 1) (lv' := [(2, .int (nI 0)), (0, .ref h0), (1, .int x)]) C dJ7_fill_53178_1 rfl (by decide) rfl ?_
  refine g_aload_n (pc := 2) C dJ7_fill_53178_2 1 rfl rfl ?_
  refine g_alen (pc := 3) (f := c) C 0 rfl dJ7_fill_53178_3 ?_
  refine g_istore_n (pc := 4) (lv' := [(3, .int (nI z)), (2, .int (nI 0)), (0, .ref h0), (1, .int x)]) C dJ7_fill_53178_4 rfl (by decide) rfl ?_
  have L5 : ∀ (NZ : Nat) (i : Nat), z - i < NZ → (i ≤ z) → g_J p l e rm_J7_fill_53178 s m args below meth co Q D A 4 0 0 (arW cI cC h0 z (fillF c x i)) 5 [(0, .ref h0), (1, .int x), (2, .int (nI i)), (3, .int (nI z))] [] := by
    intro NZ
    induction NZ with
    | zero => intro i hN; exact absurd hN (Nat.not_lt_zero _)
    | succ NZ ih5 =>
      intro i hN5 hi
      refine g_iload_n (pc := 5) C dJ7_fill_53178_5 2 rfl rfl ?_
      refine g_iload_n (pc := 6) C dJ7_fill_53178_6 3 rfl rfl ?_
      refine g_icmp_geN (pc := 7) C 20 (by omega) (by omega) dJ7_fill_53178_7 (by decide) (fun c7 => ?_) (fun c7 => ?_)
      · refine g_ws (ws' := (arW cI cC h0 z (fillF c x z))) (by rw [show i = z by omega]) ?_
        exact g_vret C hr hQ dJ7_fill_53178_20 rfl ⟨rfl, rfl⟩
      · refine g_aload_n (pc := 10) C dJ7_fill_53178_10 0 rfl rfl ?_
        refine g_iload_n (pc := 11) C dJ7_fill_53178_11 2 rfl rfl ?_
        refine g_iload_n (pc := 12) C dJ7_fill_53178_12 1 rfl rfl ?_
        refine g_iastN (pc := 13) (f := (fillF c x i)) (ws' := (arW cI cC h0 z (upd (fillF c x i) i (x)))) C 0 rfl (by omega) (by omega) dJ7_fill_53178_13 rfl ?_
        refine g_iinc (pc := 14) (lv' := [(2, .int (nI (i + 1))), (0, .ref h0), (1, .int x), (3, .int (nI z))]) C dJ7_fill_53178_14 2 rfl (nI_add i 1) (by decide) rfl ?_
        refine g_goto (pc := 17) C 5 dJ7_fill_53178_17 (by decide) ?_
        refine g_ws (ws' := (arW cI cC h0 z (fillF c x (i + 1)))) (by rw [fillF_s]) ?_
        refine g_lvp (lv' := [(0, .ref h0), (1, .int x), (2, .int (nI (i + 1))), (3, .int (nI z))]) [1, 2, 0, 3] rfl ?_
        exact ih5 (i + 1) (by omega) (by first | assumption | omega)
  refine g_ws (ws' := arW cI cC h0 z (fillF c x 0)) (by rw [fillF_0]) ?_
  refine g_lvp (lv' := [(0, .ref h0), (1, .int x), (2, .int (nI 0)), (3, .int (nI z))]) [2, 3, 1, 0] rfl ?_
  exact L5 _ 0 (Nat.lt_succ_self _) (by first | assumption | omega)

abbrev rm_X0_hasWish : Room := { frames := 1, cells := 0, slots := 0, locals := 21 }
theorem yd_X0_hasWish : yX0_hasWish.cls = RX0 ∧ yX0_hasWish.cls ≠ "java/lang/invoke/MethodHandle" ∧ yX0_hasWish.cls ≠ "java/lang/invoke/VarHandle" ∧ (parseMethodDescriptor yX0_hasWish.desc).map (fun d => d.parameters.length) = some 2 := by decide +kernel
theorem in_X0_hasWish_X0 : ∀ w ∈ u_ws RX0 TX0 1, w ∈ wsX0_hasWish := by decide +kernel
theorem fl_X0_hasWish_11 : Cond.fieldLink RX0 11 "FenceHandshakes$Clans" "cells" "[I" ∈ wsX0_hasWish := by decide +kernel
set_option maxHeartbeats 4000000 in
set_option maxRecDepth 100000 in
theorem m_X0_hasWish (l : Launch) (D : va_G) (cI cC : ClassId) (h0 h1 : Nat) (c : Nat → Int32) (a : Nat) (b : Nat) (ha : a < 8) (hb : b < 8) (hc : cOK c) : g_M l yX0_hasWish wsX0_hasWish rm_X0_hasWish D cI cC [.ref h0, .int (nI a), .int (nI b)] (clW cI cC h0 h1 c) (fun vv ww => vv = some (.int (bI (wiC c a b))) ∧ ww = (clW cI cC h0 h1 c)) := by
  refine g_entry (lv := [(0, .ref h0), (1, .int (nI a)), (2, .int (nI b))]) (own := RX0) (by decide) rfl rfl (Nat.le_of_ble_eq_true rfl) rfl ?_
  intro p e s m args below meth co A Q C hr hQ
  refine g_aload_n (pc := 0) C dX0_hasWish_0 0 rfl rfl ?_
  refine g_get (pc := 1) (ci := 0) (T := TX0) (N := 1) (v := .ref h1) C in_X0_hasWish_X0 0 rfl rfl 0 (by decide) fl_X0_hasWish_11 rfl rfl dX0_hasWish_1 ?_
  refine g_bipush (pc := 4) (v := nI 16) C dX0_hasWish_4 (by decide) ?_
  refine g_iload_n (pc := 6) C dX0_hasWish_6 1 rfl rfl ?_
  refine g_iaddN (pc := 7) C dX0_hasWish_7 ?_
  refine g_ialdN (pc := 8) (f := c) C 1 rfl (by omega) (by decide) dX0_hasWish_8 ?_
  refine g_top (y := nI (cN c (16 + a))) (hc.w ha) ?_
  refine g_iload_n (pc := 9) C dX0_hasWish_9 2 rfl rfl ?_
  refine g_callSN (pc := 10) (st := []) (As := [.int (nI (cN c (16 + a))), .int (nI b)]) (nn := 2) (host := "FenceHandshakes") C (m_X5_hasBit l D cI cC (cN c (16 + a)) b (Nat.lt_trans (hc.w8 ha) (by decide)) (by first | assumption | omega)) gX0_hasWish_X5_hasBit_n21 rfl rfl rfl (by decide +kernel) (by decide +kernel) (by decide +kernel) yd_X5_hasBit.2 ⟨Nat.le_of_ble_eq_true rfl, Nat.le_of_ble_eq_true rfl⟩ rfl [] rfl rfl rfl (Nat.le_of_ble_eq_true rfl) ⟨Nat.le_of_ble_eq_true rfl, Nat.le_of_ble_eq_true rfl⟩ dX0_hasWish_10 ?_
  rintro _ _ ⟨rfl, rfl⟩
  refine g_eq (ws' := (clW cI cC h0 h1 c)) (st' := [.int (bI ((cN c (16 + a)).testBit b))]) rfl rfl ?_
  refine g_top (y := bI (wiC c a b)) (rfl) ?_
  exact g_zret C hr hQ dX0_hasWish_13 rfl ⟨rfl, rfl⟩

abbrev rm_X0_openWishes : Room := { frames := 0, cells := 0, slots := 0, locals := 0 }
theorem yd_X0_openWishes : yX0_openWishes.cls = RX0 ∧ yX0_openWishes.cls ≠ "java/lang/invoke/MethodHandle" ∧ yX0_openWishes.cls ≠ "java/lang/invoke/VarHandle" ∧ (parseMethodDescriptor yX0_openWishes.desc).map (fun d => d.parameters.length) = some 2 := by decide +kernel
theorem in_X0_openWishes_X0 : ∀ w ∈ u_ws RX0 TX0 1, w ∈ wsX0_openWishes := by decide +kernel
theorem fl_X0_openWishes_11 : Cond.fieldLink RX0 11 "FenceHandshakes$Clans" "cells" "[I" ∈ wsX0_openWishes := by decide +kernel
set_option maxHeartbeats 4000000 in
set_option maxRecDepth 100000 in
theorem m_X0_openWishes (l : Launch) (D : va_G) (cI cC : ClassId) (h0 h1 : Nat) (c : Nat → Int32) (a : Nat) (r : Nat) (ha : a < 8) (hc : cOK c) : g_M l yX0_openWishes wsX0_openWishes rm_X0_openWishes D cI cC [.ref h0, .int (nI a), .int (nI r)] (clW cI cC h0 h1 c) (fun vv ww => vv = none ∧ ww = (clW cI cC h0 h1 (upd c (16 + a) (nI (cN c (16 + a) ||| r))))) := by
  refine g_entry (lv := [(0, .ref h0), (1, .int (nI a)), (2, .int (nI r))]) (own := RX0) (by decide) rfl rfl (Nat.le_of_ble_eq_true rfl) rfl ?_
  intro p e s m args below meth co A Q C hr hQ
  refine g_aload_n (pc := 0) C dX0_openWishes_0 0 rfl rfl ?_
  refine g_get (pc := 1) (ci := 0) (T := TX0) (N := 1) (v := .ref h1) C in_X0_openWishes_X0 0 rfl rfl 0 (by decide) fl_X0_openWishes_11 rfl rfl dX0_openWishes_1 ?_
  refine g_bipush (pc := 4) (v := nI 16) C dX0_openWishes_4 (by decide) ?_
  refine g_iload_n (pc := 6) C dX0_openWishes_6 1 rfl rfl ?_
  refine g_iaddN (pc := 7) C dX0_openWishes_7 ?_
  refine g_dup2 (pc := 8) C dX0_openWishes_8 rfl rfl ?_
  refine g_ialdN (pc := 9) (f := c) C 1 rfl (by omega) (by decide) dX0_openWishes_9 ?_
  refine g_top (y := nI (cN c (16 + a))) (hc.w ha) ?_
  refine g_iload_n (pc := 10) C dX0_openWishes_10 2 rfl rfl ?_
  refine g_iorN (pc := 11) C dX0_openWishes_11 ?_
  refine g_iastN (pc := 12) (f := c) (ws' := (clW cI cC h0 h1 (upd c (16 + a) (nI ((cN c (16 + a)) ||| r))))) C 1 rfl (by omega) (by decide) dX0_openWishes_12 rfl ?_
  exact g_vret C hr hQ dX0_openWishes_13 rfl ⟨rfl, rfl⟩

abbrev rm_X0_openWish : Room := { frames := 1, cells := 0, slots := 0, locals := 22 }
theorem yd_X0_openWish : yX0_openWish.cls = RX0 ∧ yX0_openWish.cls ≠ "java/lang/invoke/MethodHandle" ∧ yX0_openWish.cls ≠ "java/lang/invoke/VarHandle" ∧ (parseMethodDescriptor yX0_openWish.desc).map (fun d => d.parameters.length) = some 2 := by decide +kernel
set_option maxHeartbeats 4000000 in
set_option maxRecDepth 100000 in
theorem m_X0_openWish (l : Launch) (D : va_G) (cI cC : ClassId) (h0 h1 : Nat) (c : Nat → Int32) (a : Nat) (b : Nat) (ha : a < 8) (hb : b < 8) (hc : cOK c) : g_M l yX0_openWish wsX0_openWish rm_X0_openWish D cI cC [.ref h0, .int (nI a), .int (nI b)] (clW cI cC h0 h1 c) (fun vv ww => vv = none ∧ ww = (clW cI cC h0 h1 (upd c (16 + a) (nI (cN c (16 + a) ||| (1 <<< b)))))) := by
  refine g_entry (lv := [(0, .ref h0), (1, .int (nI a)), (2, .int (nI b))]) (own := RX0) (by decide) rfl rfl (Nat.le_of_ble_eq_true rfl) rfl ?_
  intro p e s m args below meth co A Q C hr hQ
  refine g_aload_n (pc := 0) C dX0_openWish_0 0 rfl rfl ?_
  refine g_iload_n (pc := 1) C dX0_openWish_1 1 rfl rfl ?_
  refine g_iconst (pc := 2) (v := nI 1) C dX0_openWish_2 (by decide) ?_
  refine g_iload_n (pc := 3) C dX0_openWish_3 2 rfl rfl ?_
  refine g_ishlN (pc := 4) C (by omega) dX0_openWish_4 ?_
  refine g_callV (pc := 5) (st := []) (As := [.int (nI a), .int (nI (1 <<< b))]) (nn := 2) (ci := 0) (q0 := 0) C (m_X0_openWishes l D cI cC h0 h1 c a (1 <<< b) (by first | assumption | omega) (by first | assumption | omega)) gX0_openWish_X0_openWishes rfl rfl rfl yd_X0_openWishes ⟨Nat.le_of_ble_eq_true rfl, Nat.le_of_ble_eq_true rfl⟩ rfl [0, 1] rfl rfl rfl rfl rfl (Nat.le_of_ble_eq_true rfl) ⟨Nat.le_of_ble_eq_true rfl, Nat.le_of_ble_eq_true rfl⟩ dX0_openWish_5 ?_
  rintro _ _ ⟨rfl, rfl⟩
  refine g_eq (ws' := (clW cI cC h0 h1 (upd c (16 + a) (nI (cN c (16 + a) ||| (1 <<< b)))))) (st' := []) rfl rfl ?_
  exact g_vret C hr hQ dX0_openWish_8 rfl ⟨rfl, rfl⟩

abbrev rm_X0_closeWish : Room := { frames := 0, cells := 0, slots := 0, locals := 0 }
theorem yd_X0_closeWish : yX0_closeWish.cls = RX0 ∧ yX0_closeWish.cls ≠ "java/lang/invoke/MethodHandle" ∧ yX0_closeWish.cls ≠ "java/lang/invoke/VarHandle" ∧ (parseMethodDescriptor yX0_closeWish.desc).map (fun d => d.parameters.length) = some 2 := by decide +kernel
theorem in_X0_closeWish_X0 : ∀ w ∈ u_ws RX0 TX0 1, w ∈ wsX0_closeWish := by decide +kernel
theorem fl_X0_closeWish_11 : Cond.fieldLink RX0 11 "FenceHandshakes$Clans" "cells" "[I" ∈ wsX0_closeWish := by decide +kernel
set_option maxHeartbeats 4000000 in
set_option maxRecDepth 100000 in
theorem m_X0_closeWish (l : Launch) (D : va_G) (cI cC : ClassId) (h0 h1 : Nat) (c : Nat → Int32) (a : Nat) (b : Nat) (ha : a < 8) (hb : b < 8) (hc : cOK c) : g_M l yX0_closeWish wsX0_closeWish rm_X0_closeWish D cI cC [.ref h0, .int (nI a), .int (nI b)] (clW cI cC h0 h1 c) (fun vv ww => vv = none ∧ ww = (clW cI cC h0 h1 (upd c (16 + a) (nI (g_nand (cN c (16 + a)) (1 <<< b)))))) := by
  refine g_entry (lv := [(0, .ref h0), (1, .int (nI a)), (2, .int (nI b))]) (own := RX0) (by decide) rfl rfl (Nat.le_of_ble_eq_true rfl) rfl ?_
  intro p e s m args below meth co A Q C hr hQ
  refine g_aload_n (pc := 0) C dX0_closeWish_0 0 rfl rfl ?_
  refine g_get (pc := 1) (ci := 0) (T := TX0) (N := 1) (v := .ref h1) C in_X0_closeWish_X0 0 rfl rfl 0 (by decide) fl_X0_closeWish_11 rfl rfl dX0_closeWish_1 ?_
  refine g_bipush (pc := 4) (v := nI 16) C dX0_closeWish_4 (by decide) ?_
  refine g_iload_n (pc := 6) C dX0_closeWish_6 1 rfl rfl ?_
  refine g_iaddN (pc := 7) C dX0_closeWish_7 ?_
  refine g_dup2 (pc := 8) C dX0_closeWish_8 rfl rfl ?_
  refine g_ialdN (pc := 9) (f := c) C 1 rfl (by omega) (by decide) dX0_closeWish_9 ?_
  refine g_top (y := nI (cN c (16 + a))) (hc.w ha) ?_
  refine g_iconst (pc := 10) (v := nI 1) C dX0_closeWish_10 (by decide) ?_
  refine g_iload_n (pc := 11) C dX0_closeWish_11 2 rfl rfl ?_
  refine g_ishlN (pc := 12) C (by omega) dX0_closeWish_12 ?_
  refine g_iconst (pc := 13) (v := (-1)) C dX0_closeWish_13 (by decide) ?_
  refine g_ixor (pc := 14) C dX0_closeWish_14 ?_
  refine g_iandX (pc := 15) C dX0_closeWish_15 ?_
  refine g_iastN (pc := 16) (f := c) (ws' := (clW cI cC h0 h1 (upd c (16 + a) (nI (g_nand (cN c (16 + a)) (1 <<< b)))))) C 1 rfl (by omega) (by decide) dX0_closeWish_16 rfl ?_
  exact g_vret C hr hQ dX0_closeWish_17 rfl ⟨rfl, rfl⟩

abbrev rm_X0_feudOf : Room := { frames := 0, cells := 0, slots := 0, locals := 0 }
theorem yd_X0_feudOf : yX0_feudOf.cls = RX0 ∧ yX0_feudOf.cls ≠ "java/lang/invoke/MethodHandle" ∧ yX0_feudOf.cls ≠ "java/lang/invoke/VarHandle" ∧ (parseMethodDescriptor yX0_feudOf.desc).map (fun d => d.parameters.length) = some 2 := by decide +kernel
theorem in_X0_feudOf_X0 : ∀ w ∈ u_ws RX0 TX0 1, w ∈ wsX0_feudOf := by decide +kernel
theorem fl_X0_feudOf_11 : Cond.fieldLink RX0 11 "FenceHandshakes$Clans" "cells" "[I" ∈ wsX0_feudOf := by decide +kernel
set_option maxHeartbeats 4000000 in
set_option maxRecDepth 100000 in
theorem m_X0_feudOf (l : Launch) (D : va_G) (cI cC : ClassId) (h0 h1 : Nat) (c : Nat → Int32) (a : Nat) (b : Nat) (ha : a < 8) (hb : b < 8) : g_M l yX0_feudOf wsX0_feudOf rm_X0_feudOf D cI cC [.ref h0, .int (nI a), .int (nI b)] (clW cI cC h0 h1 c) (fun vv ww => vv = some (.int (feC c a b)) ∧ ww = (clW cI cC h0 h1 c)) := by
  refine g_entry (lv := [(0, .ref h0), (1, .int (nI a)), (2, .int (nI b))]) (own := RX0) (by decide) rfl rfl (Nat.le_of_ble_eq_true rfl) rfl ?_
  intro p e s m args below meth co A Q C hr hQ
  refine g_aload_n (pc := 0) C dX0_feudOf_0 0 rfl rfl ?_
  refine g_get (pc := 1) (ci := 0) (T := TX0) (N := 1) (v := .ref h1) C in_X0_feudOf_X0 0 rfl rfl 0 (by decide) fl_X0_feudOf_11 rfl rfl dX0_feudOf_1 ?_
  refine g_bipush (pc := 4) (v := nI 24) C dX0_feudOf_4 (by decide) ?_
  refine g_bipush (pc := 6) (v := nI 8) C dX0_feudOf_6 (by decide) ?_
  refine g_iload_n (pc := 8) C dX0_feudOf_8 1 rfl rfl ?_
  refine g_imulN (pc := 9) C dX0_feudOf_9 ?_
  refine g_iaddN (pc := 10) C dX0_feudOf_10 ?_
  refine g_iload_n (pc := 11) C dX0_feudOf_11 2 rfl rfl ?_
  refine g_iaddN (pc := 12) C dX0_feudOf_12 ?_
  refine g_ialdN (pc := 13) (f := c) C 1 rfl (by omega) (by decide) dX0_feudOf_13 ?_
  refine g_top (y := (feC c a b)) (rfl) ?_
  exact g_iret C hr hQ dX0_feudOf_14 rfl ⟨rfl, rfl⟩

abbrev rm_X0_setFeud : Room := { frames := 0, cells := 0, slots := 0, locals := 0 }
theorem yd_X0_setFeud : yX0_setFeud.cls = RX0 ∧ yX0_setFeud.cls ≠ "java/lang/invoke/MethodHandle" ∧ yX0_setFeud.cls ≠ "java/lang/invoke/VarHandle" ∧ (parseMethodDescriptor yX0_setFeud.desc).map (fun d => d.parameters.length) = some 3 := by decide +kernel
theorem in_X0_setFeud_X0 : ∀ w ∈ u_ws RX0 TX0 1, w ∈ wsX0_setFeud := by decide +kernel
theorem fl_X0_setFeud_11 : Cond.fieldLink RX0 11 "FenceHandshakes$Clans" "cells" "[I" ∈ wsX0_setFeud := by decide +kernel
set_option maxHeartbeats 4000000 in
set_option maxRecDepth 100000 in
theorem m_X0_setFeud (l : Launch) (D : va_G) (cI cC : ClassId) (h0 h1 : Nat) (c : Nat → Int32) (a : Nat) (b : Nat) (x : Int32) (ha : a < 8) (hb : b < 8) : g_M l yX0_setFeud wsX0_setFeud rm_X0_setFeud D cI cC [.ref h0, .int (nI a), .int (nI b), .int x] (clW cI cC h0 h1 c) (fun vv ww => vv = none ∧ ww = (clW cI cC h0 h1 (upd c (24 + 8 * a + b) x))) := by
  refine g_entry (lv := [(0, .ref h0), (1, .int (nI a)), (2, .int (nI b)), (3, .int x)]) (own := RX0) (by decide) rfl rfl (Nat.le_of_ble_eq_true rfl) rfl ?_
  intro p e s m args below meth co A Q C hr hQ
  refine g_aload_n (pc := 0) C dX0_setFeud_0 0 rfl rfl ?_
  refine g_get (pc := 1) (ci := 0) (T := TX0) (N := 1) (v := .ref h1) C in_X0_setFeud_X0 0 rfl rfl 0 (by decide) fl_X0_setFeud_11 rfl rfl dX0_setFeud_1 ?_
  refine g_bipush (pc := 4) (v := nI 24) C dX0_setFeud_4 (by decide) ?_
  refine g_bipush (pc := 6) (v := nI 8) C dX0_setFeud_6 (by decide) ?_
  refine g_iload_n (pc := 8) C dX0_setFeud_8 1 rfl rfl ?_
  refine g_imulN (pc := 9) C dX0_setFeud_9 ?_
  refine g_iaddN (pc := 10) C dX0_setFeud_10 ?_
  refine g_iload_n (pc := 11) C dX0_setFeud_11 2 rfl rfl ?_
  refine g_iaddN (pc := 12) C dX0_setFeud_12 ?_
  refine g_iload_n (pc := 13) C dX0_setFeud_13 3 rfl rfl ?_
  refine g_iastN (pc := 14) (f := c) (ws' := (clW cI cC h0 h1 (upd c ((24 + (8 * a)) + b) (x)))) C 1 rfl (by omega) (by decide) dX0_setFeud_14 rfl ?_
  exact g_vret C hr hQ dX0_setFeud_15 rfl ⟨rfl, rfl⟩

abbrev rm_X0_handshakesOf : Room := { frames := 0, cells := 0, slots := 0, locals := 0 }
theorem yd_X0_handshakesOf : yX0_handshakesOf.cls = RX0 ∧ yX0_handshakesOf.cls ≠ "java/lang/invoke/MethodHandle" ∧ yX0_handshakesOf.cls ≠ "java/lang/invoke/VarHandle" ∧ (parseMethodDescriptor yX0_handshakesOf.desc).map (fun d => d.parameters.length) = some 2 := by decide +kernel
theorem in_X0_handshakesOf_X0 : ∀ w ∈ u_ws RX0 TX0 1, w ∈ wsX0_handshakesOf := by decide +kernel
theorem fl_X0_handshakesOf_11 : Cond.fieldLink RX0 11 "FenceHandshakes$Clans" "cells" "[I" ∈ wsX0_handshakesOf := by decide +kernel
set_option maxHeartbeats 4000000 in
set_option maxRecDepth 100000 in
theorem m_X0_handshakesOf (l : Launch) (D : va_G) (cI cC : ClassId) (h0 h1 : Nat) (c : Nat → Int32) (a : Nat) (b : Nat) (ha : a < 8) (hb : b < 8) : g_M l yX0_handshakesOf wsX0_handshakesOf rm_X0_handshakesOf D cI cC [.ref h0, .int (nI a), .int (nI b)] (clW cI cC h0 h1 c) (fun vv ww => vv = some (.int (taC c a b)) ∧ ww = (clW cI cC h0 h1 c)) := by
  refine g_entry (lv := [(0, .ref h0), (1, .int (nI a)), (2, .int (nI b))]) (own := RX0) (by decide) rfl rfl (Nat.le_of_ble_eq_true rfl) rfl ?_
  intro p e s m args below meth co A Q C hr hQ
  refine g_aload_n (pc := 0) C dX0_handshakesOf_0 0 rfl rfl ?_
  refine g_get (pc := 1) (ci := 0) (T := TX0) (N := 1) (v := .ref h1) C in_X0_handshakesOf_X0 0 rfl rfl 0 (by decide) fl_X0_handshakesOf_11 rfl rfl dX0_handshakesOf_1 ?_
  refine g_bipush (pc := 4) (v := nI 88) C dX0_handshakesOf_4 (by decide) ?_
  refine g_bipush (pc := 6) (v := nI 8) C dX0_handshakesOf_6 (by decide) ?_
  refine g_iload_n (pc := 8) C dX0_handshakesOf_8 1 rfl rfl ?_
  refine g_imulN (pc := 9) C dX0_handshakesOf_9 ?_
  refine g_iaddN (pc := 10) C dX0_handshakesOf_10 ?_
  refine g_iload_n (pc := 11) C dX0_handshakesOf_11 2 rfl rfl ?_
  refine g_iaddN (pc := 12) C dX0_handshakesOf_12 ?_
  refine g_ialdN (pc := 13) (f := c) C 1 rfl (by omega) (by decide) dX0_handshakesOf_13 ?_
  refine g_top (y := (taC c a b)) (rfl) ?_
  exact g_iret C hr hQ dX0_handshakesOf_14 rfl ⟨rfl, rfl⟩

abbrev rm_X0_areLinked : Room := { frames := 1, cells := 0, slots := 0, locals := 21 }
theorem yd_X0_areLinked : yX0_areLinked.cls = RX0 ∧ yX0_areLinked.cls ≠ "java/lang/invoke/MethodHandle" ∧ yX0_areLinked.cls ≠ "java/lang/invoke/VarHandle" ∧ (parseMethodDescriptor yX0_areLinked.desc).map (fun d => d.parameters.length) = some 2 := by decide +kernel
theorem in_X0_areLinked_X0 : ∀ w ∈ u_ws RX0 TX0 1, w ∈ wsX0_areLinked := by decide +kernel
theorem fl_X0_areLinked_11 : Cond.fieldLink RX0 11 "FenceHandshakes$Clans" "cells" "[I" ∈ wsX0_areLinked := by decide +kernel
set_option maxHeartbeats 4000000 in
set_option maxRecDepth 100000 in
theorem m_X0_areLinked (l : Launch) (D : va_G) (cI cC : ClassId) (h0 h1 : Nat) (c : Nat → Int32) (a : Nat) (b : Nat) (ha : a < 4) (hb : b < 4) (hc : cOK c) : g_M l yX0_areLinked wsX0_areLinked rm_X0_areLinked D cI cC [.ref h0, .int (nI a), .int (nI b)] (clW cI cC h0 h1 c) (fun vv ww => vv = some (.int (bI (lkC c a b))) ∧ ww = (clW cI cC h0 h1 c)) := by
  refine g_entry (lv := [(0, .ref h0), (1, .int (nI a)), (2, .int (nI b))]) (own := RX0) (by decide) rfl rfl (Nat.le_of_ble_eq_true rfl) rfl ?_
  intro p e s m args below meth co A Q C hr hQ
  refine g_aload_n (pc := 0) C dX0_areLinked_0 0 rfl rfl ?_
  refine g_get (pc := 1) (ci := 0) (T := TX0) (N := 1) (v := .ref h1) C in_X0_areLinked_X0 0 rfl rfl 0 (by decide) fl_X0_areLinked_11 rfl rfl dX0_areLinked_1 ?_
  refine g_sipush (pc := 4) (v := nI 152) C dX0_areLinked_4 (by decide) ?_
  refine g_ialdN (pc := 7) (f := c) C 1 rfl (by omega) (by decide) dX0_areLinked_7 ?_
  refine g_top (y := nI (cN c 152)) (hc.l) ?_
  refine g_iconst (pc := 8) (v := nI 4) C dX0_areLinked_8 (by decide) ?_
  refine g_iload_n (pc := 9) C dX0_areLinked_9 1 rfl rfl ?_
  refine g_imulN (pc := 10) C dX0_areLinked_10 ?_
  refine g_iload_n (pc := 11) C dX0_areLinked_11 2 rfl rfl ?_
  refine g_iaddN (pc := 12) C dX0_areLinked_12 ?_
  refine g_callSN (pc := 13) (st := []) (As := [.int (nI (cN c 152)), .int (nI ((4 * a) + b))]) (nn := 2) (host := "FenceHandshakes") C (m_X5_hasBit l D cI cC (cN c 152) ((4 * a) + b) (Nat.lt_trans hc.l16 (by decide)) (by first | assumption | omega)) gX0_areLinked_X5_hasBit_n21 rfl rfl rfl (by decide +kernel) (by decide +kernel) (by decide +kernel) yd_X5_hasBit.2 ⟨Nat.le_of_ble_eq_true rfl, Nat.le_of_ble_eq_true rfl⟩ rfl [] rfl rfl rfl (Nat.le_of_ble_eq_true rfl) ⟨Nat.le_of_ble_eq_true rfl, Nat.le_of_ble_eq_true rfl⟩ dX0_areLinked_13 ?_
  rintro _ _ ⟨rfl, rfl⟩
  refine g_eq (ws' := (clW cI cC h0 h1 c)) (st' := [.int (bI ((cN c 152).testBit ((4 * a) + b)))]) rfl rfl ?_
  refine g_top (y := bI (lkC c a b)) (rfl) ?_
  exact g_zret C hr hQ dX0_areLinked_16 rfl ⟨rfl, rfl⟩

abbrev rm_X0_setLinked : Room := { frames := 0, cells := 0, slots := 0, locals := 0 }
theorem yd_X0_setLinked : yX0_setLinked.cls = RX0 ∧ yX0_setLinked.cls ≠ "java/lang/invoke/MethodHandle" ∧ yX0_setLinked.cls ≠ "java/lang/invoke/VarHandle" ∧ (parseMethodDescriptor yX0_setLinked.desc).map (fun d => d.parameters.length) = some 3 := by decide +kernel
theorem in_X0_setLinked_X0 : ∀ w ∈ u_ws RX0 TX0 1, w ∈ wsX0_setLinked := by decide +kernel
theorem fl_X0_setLinked_11 : Cond.fieldLink RX0 11 "FenceHandshakes$Clans" "cells" "[I" ∈ wsX0_setLinked := by decide +kernel
set_option maxHeartbeats 4000000 in
set_option maxRecDepth 100000 in
theorem m_X0_setLinked (l : Launch) (D : va_G) (cI cC : ClassId) (h0 h1 : Nat) (c : Nat → Int32) (a : Nat) (b : Nat) (q : Bool) (ha : a < 4) (hb : b < 4) (hc : cOK c) : g_M l yX0_setLinked wsX0_setLinked rm_X0_setLinked D cI cC [.ref h0, .int (nI a), .int (nI b), .int (bI q)] (clW cI cC h0 h1 c) (fun vv ww => vv = none ∧ ww = (clW cI cC h0 h1 (cLink c a b q))) := by
  refine g_entry (lv := [(0, .ref h0), (1, .int (nI a)), (2, .int (nI b)), (3, .int (bI q))]) (own := RX0) (by decide) rfl rfl (Nat.le_of_ble_eq_true rfl) rfl ?_
  intro p e s m args below meth co A Q C hr hQ
  refine g_iconst (pc := 0) (v := nI 1) C dX0_setLinked_0 (by decide) ?_
  refine g_iconst (pc := 1) (v := nI 4) C dX0_setLinked_1 (by decide) ?_
  refine g_iload_n (pc := 2) C dX0_setLinked_2 1 rfl rfl ?_
  refine g_imulN (pc := 3) C dX0_setLinked_3 ?_
  refine g_iload_n (pc := 4) C dX0_setLinked_4 2 rfl rfl ?_
  refine g_iaddN (pc := 5) C dX0_setLinked_5 ?_
  refine g_ishlN (pc := 6) C (by omega) dX0_setLinked_6 ?_
  refine g_istore (pc := 7) (lv' := [(4, .int (nI (1 <<< ((4 * a) + b)))), (0, .ref h0), (1, .int (nI a)), (2, .int (nI b)), (3, .int (bI q))]) C dX0_setLinked_7 (by decide) rfl ?_
  refine g_iload_n (pc := 9) C dX0_setLinked_9 4 rfl rfl ?_
  refine g_if_eqB (pc := 10) C 29 dX0_setLinked_10 (by decide) (fun c10 => ?_) (fun c10 => ?_)
  · refine g_aload_n (pc := 29) C dX0_setLinked_29 1 rfl rfl ?_
    refine g_get (pc := 30) (ci := 0) (T := TX0) (N := 1) (v := .ref h1) C in_X0_setLinked_X0 0 rfl rfl 0 (by decide) fl_X0_setLinked_11 rfl rfl dX0_setLinked_30 ?_
    refine g_sipush (pc := 33) (v := nI 152) C dX0_setLinked_33 (by decide) ?_
    refine g_dup2 (pc := 36) C dX0_setLinked_36 rfl rfl ?_
    refine g_ialdN (pc := 37) (f := c) C 1 rfl (by omega) (by decide) dX0_setLinked_37 ?_
    refine g_top (y := nI (cN c 152)) (hc.l) ?_
    refine g_iload (pc := 38) C dX0_setLinked_38 0 rfl ?_
    refine g_iconst (pc := 40) (v := (-1)) C dX0_setLinked_40 (by decide) ?_
    refine g_ixor (pc := 41) C dX0_setLinked_41 ?_
    refine g_iandX (pc := 42) C dX0_setLinked_42 ?_
    refine g_iastN (pc := 43) (f := c) (ws' := (clW cI cC h0 h1 (upd c 152 (nI (g_nand (cN c 152) (1 <<< ((4 * a) + b))))))) C 1 rfl (by omega) (by decide) dX0_setLinked_43 rfl ?_
    refine g_ws (ws' := (clW cI cC h0 h1 (cLink c a b q))) (by rw [cLink, c10]; rfl) ?_
    exact g_vret C hr hQ dX0_setLinked_44 rfl ⟨rfl, rfl⟩
  · refine g_aload_n (pc := 13) C dX0_setLinked_13 1 rfl rfl ?_
    refine g_get (pc := 14) (ci := 0) (T := TX0) (N := 1) (v := .ref h1) C in_X0_setLinked_X0 0 rfl rfl 0 (by decide) fl_X0_setLinked_11 rfl rfl dX0_setLinked_14 ?_
    refine g_sipush (pc := 17) (v := nI 152) C dX0_setLinked_17 (by decide) ?_
    refine g_dup2 (pc := 20) C dX0_setLinked_20 rfl rfl ?_
    refine g_ialdN (pc := 21) (f := c) C 1 rfl (by omega) (by decide) dX0_setLinked_21 ?_
    refine g_top (y := nI (cN c 152)) (hc.l) ?_
    refine g_iload (pc := 22) C dX0_setLinked_22 0 rfl ?_
    refine g_iorN (pc := 24) C dX0_setLinked_24 ?_
    refine g_iastN (pc := 25) (f := c) (ws' := (clW cI cC h0 h1 (upd c 152 (nI ((cN c 152) ||| (1 <<< ((4 * a) + b))))))) C 1 rfl (by omega) (by decide) dX0_setLinked_25 rfl ?_
    refine g_goto (pc := 26) C 44 dX0_setLinked_26 (by decide) ?_
    refine g_ws (ws' := (clW cI cC h0 h1 (cLink c a b q))) (by rw [cLink, c10]; rfl) ?_
    exact g_vret C hr hQ dX0_setLinked_44 rfl ⟨rfl, rfl⟩

abbrev rm_X0_linkedPairsOfGates : Room := { frames := 1, cells := 0, slots := 0, locals := 20 }
theorem yd_X0_linkedPairsOfGates : yX0_linkedPairsOfGates.cls = RX0 ∧ yX0_linkedPairsOfGates.cls ≠ "java/lang/invoke/MethodHandle" ∧ yX0_linkedPairsOfGates.cls ≠ "java/lang/invoke/VarHandle" ∧ (parseMethodDescriptor yX0_linkedPairsOfGates.desc).map (fun d => d.parameters.length) = some 0 := by decide +kernel
theorem in_X0_linkedPairsOfGates_X0 : ∀ w ∈ u_ws RX0 TX0 1, w ∈ wsX0_linkedPairsOfGates := by decide +kernel
theorem fl_X0_linkedPairsOfGates_11 : Cond.fieldLink RX0 11 "FenceHandshakes$Clans" "cells" "[I" ∈ wsX0_linkedPairsOfGates := by decide +kernel
set_option maxHeartbeats 4000000 in
set_option maxRecDepth 100000 in
theorem m_X0_linkedPairsOfGates (l : Launch) (D : va_G) (cI cC : ClassId) (h0 h1 : Nat) (c : Nat → Int32) (hc : cOK c) : g_M l yX0_linkedPairsOfGates wsX0_linkedPairsOfGates rm_X0_linkedPairsOfGates D cI cC [.ref h0] (clW cI cC h0 h1 c) (fun vv ww => vv = some (.int (nI (bcN (cN c 152)))) ∧ ww = (clW cI cC h0 h1 c)) := by
  refine g_entry (lv := [(0, .ref h0)]) (own := RX0) (by decide) rfl rfl (Nat.le_of_ble_eq_true rfl) rfl ?_
  intro p e s m args below meth co A Q C hr hQ
  refine g_aload_n (pc := 0) C dX0_linkedPairsOfGates_0 0 rfl rfl ?_
  refine g_get (pc := 1) (ci := 0) (T := TX0) (N := 1) (v := .ref h1) C in_X0_linkedPairsOfGates_X0 0 rfl rfl 0 (by decide) fl_X0_linkedPairsOfGates_11 rfl rfl dX0_linkedPairsOfGates_1 ?_
  refine g_sipush (pc := 4) (v := nI 152) C dX0_linkedPairsOfGates_4 (by decide) ?_
  refine g_ialdN (pc := 7) (f := c) C 1 rfl (by omega) (by decide) dX0_linkedPairsOfGates_7 ?_
  refine g_top (y := nI (cN c 152)) (hc.l) ?_
  refine g_callS (pc := 8) (st := []) (As := [.int (nI (cN c 152))]) (nn := 1) C (m_J6_bitCount_0f7a4 l D cI cC (cN c 152) (Nat.lt_trans hc.l16 (by decide))) gX0_linkedPairsOfGates_J6_bitCount_0f7a4 rfl rfl rfl yd_J6_bitCount_0f7a4.2 ⟨Nat.le_of_ble_eq_true rfl, Nat.le_of_ble_eq_true rfl⟩ rfl [] rfl rfl rfl (Nat.le_of_ble_eq_true rfl) ⟨Nat.le_of_ble_eq_true rfl, Nat.le_of_ble_eq_true rfl⟩ dX0_linkedPairsOfGates_8 ?_
  rintro _ _ ⟨rfl, rfl⟩
  refine g_eq (ws' := (clW cI cC h0 h1 c)) (st' := [.int (nI (bcN (cN c 152)))]) rfl rfl ?_
  exact g_iret C hr hQ dX0_linkedPairsOfGates_11 rfl ⟨rfl, rfl⟩

abbrev rm_X0_gateOf : Room := { frames := 0, cells := 0, slots := 0, locals := 0 }
theorem yd_X0_gateOf : yX0_gateOf.cls = RX0 ∧ yX0_gateOf.cls ≠ "java/lang/invoke/MethodHandle" ∧ yX0_gateOf.cls ≠ "java/lang/invoke/VarHandle" ∧ (parseMethodDescriptor yX0_gateOf.desc).map (fun d => d.parameters.length) = some 2 := by decide +kernel
theorem in_X0_gateOf_X0 : ∀ w ∈ u_ws RX0 TX0 1, w ∈ wsX0_gateOf := by decide +kernel
theorem fl_X0_gateOf_11 : Cond.fieldLink RX0 11 "FenceHandshakes$Clans" "cells" "[I" ∈ wsX0_gateOf := by decide +kernel
set_option maxHeartbeats 4000000 in
set_option maxRecDepth 100000 in
theorem m_X0_gateOf (l : Launch) (D : va_G) (cI cC : ClassId) (h0 h1 : Nat) (c : Nat → Int32) (q : Bool) (a : Nat) (ha : a < 8) : g_M l yX0_gateOf wsX0_gateOf rm_X0_gateOf D cI cC [.ref h0, .int (bI q), .int (nI a)] (clW cI cC h0 h1 c) (fun vv ww => vv = some (.int (c ((if q then 0 else 8) + a))) ∧ ww = (clW cI cC h0 h1 c)) := by
  refine g_entry (lv := [(0, .ref h0), (1, .int (bI q)), (2, .int (nI a))]) (own := RX0) (by decide) rfl rfl (Nat.le_of_ble_eq_true rfl) rfl ?_
  intro p e s m args below meth co A Q C hr hQ
  refine g_aload_n (pc := 0) C dX0_gateOf_0 0 rfl rfl ?_
  refine g_get (pc := 1) (ci := 0) (T := TX0) (N := 1) (v := .ref h1) C in_X0_gateOf_X0 0 rfl rfl 0 (by decide) fl_X0_gateOf_11 rfl rfl dX0_gateOf_1 ?_
  refine g_iload_n (pc := 4) C dX0_gateOf_4 1 rfl rfl ?_
  refine g_if_eqB (pc := 5) C 12 dX0_gateOf_5 (by decide) (fun c5 => ?_) (fun c5 => ?_)
  · refine g_bipush (pc := 12) (v := nI 8) C dX0_gateOf_12 (by decide) ?_
    refine g_iload_n (pc := 14) C dX0_gateOf_14 2 rfl rfl ?_
    refine g_iaddN (pc := 15) C dX0_gateOf_15 ?_
    refine g_ialdN (pc := 16) (f := c) C 1 rfl (by omega) (by decide) dX0_gateOf_16 ?_
    refine g_top (y := (c ((if q then 0 else 8) + a))) (by rw [c5]; rfl) ?_
    exact g_iret C hr hQ dX0_gateOf_17 rfl ⟨rfl, rfl⟩
  · refine g_iconst (pc := 8) (v := nI 0) C dX0_gateOf_8 (by decide) ?_
    refine g_goto (pc := 9) C 14 dX0_gateOf_9 (by decide) ?_
    refine g_iload_n (pc := 14) C dX0_gateOf_14 2 rfl rfl ?_
    refine g_iaddN (pc := 15) C dX0_gateOf_15 ?_
    refine g_ialdN (pc := 16) (f := c) C 1 rfl (by omega) (by decide) dX0_gateOf_16 ?_
    refine g_top (y := (c ((if q then 0 else 8) + a))) (by rw [c5]; rfl) ?_
    exact g_iret C hr hQ dX0_gateOf_17 rfl ⟨rfl, rfl⟩

abbrev rm_X0_setGate : Room := { frames := 0, cells := 0, slots := 0, locals := 0 }
theorem yd_X0_setGate : yX0_setGate.cls = RX0 ∧ yX0_setGate.cls ≠ "java/lang/invoke/MethodHandle" ∧ yX0_setGate.cls ≠ "java/lang/invoke/VarHandle" ∧ (parseMethodDescriptor yX0_setGate.desc).map (fun d => d.parameters.length) = some 3 := by decide +kernel
theorem in_X0_setGate_X0 : ∀ w ∈ u_ws RX0 TX0 1, w ∈ wsX0_setGate := by decide +kernel
theorem fl_X0_setGate_11 : Cond.fieldLink RX0 11 "FenceHandshakes$Clans" "cells" "[I" ∈ wsX0_setGate := by decide +kernel
set_option maxHeartbeats 4000000 in
set_option maxRecDepth 100000 in
theorem m_X0_setGate (l : Launch) (D : va_G) (cI cC : ClassId) (h0 h1 : Nat) (c : Nat → Int32) (q : Bool) (a : Nat) (g : Int32) (ha : a < 8) : g_M l yX0_setGate wsX0_setGate rm_X0_setGate D cI cC [.ref h0, .int (bI q), .int (nI a), .int g] (clW cI cC h0 h1 c) (fun vv ww => vv = none ∧ ww = (clW cI cC h0 h1 (upd c ((if q then 0 else 8) + a) g))) := by
  refine g_entry (lv := [(0, .ref h0), (1, .int (bI q)), (2, .int (nI a)), (3, .int g)]) (own := RX0) (by decide) rfl rfl (Nat.le_of_ble_eq_true rfl) rfl ?_
  intro p e s m args below meth co A Q C hr hQ
  refine g_aload_n (pc := 0) C dX0_setGate_0 0 rfl rfl ?_
  refine g_get (pc := 1) (ci := 0) (T := TX0) (N := 1) (v := .ref h1) C in_X0_setGate_X0 0 rfl rfl 0 (by decide) fl_X0_setGate_11 rfl rfl dX0_setGate_1 ?_
  refine g_iload_n (pc := 4) C dX0_setGate_4 1 rfl rfl ?_
  refine g_if_eqB (pc := 5) C 12 dX0_setGate_5 (by decide) (fun c5 => ?_) (fun c5 => ?_)
  · refine g_bipush (pc := 12) (v := nI 8) C dX0_setGate_12 (by decide) ?_
    refine g_iload_n (pc := 14) C dX0_setGate_14 2 rfl rfl ?_
    refine g_iaddN (pc := 15) C dX0_setGate_15 ?_
    refine g_iload_n (pc := 16) C dX0_setGate_16 3 rfl rfl ?_
    refine g_iastN (pc := 17) (f := c) (ws' := (clW cI cC h0 h1 (upd c (8 + a) (g)))) C 1 rfl (by omega) (by decide) dX0_setGate_17 rfl ?_
    refine g_ws (ws' := (clW cI cC h0 h1 (upd c ((if q then 0 else 8) + a) g))) (by rw [c5]; rfl) ?_
    exact g_vret C hr hQ dX0_setGate_18 rfl ⟨rfl, rfl⟩
  · refine g_iconst (pc := 8) (v := nI 0) C dX0_setGate_8 (by decide) ?_
    refine g_goto (pc := 9) C 14 dX0_setGate_9 (by decide) ?_
    refine g_iload_n (pc := 14) C dX0_setGate_14 2 rfl rfl ?_
    refine g_iaddN (pc := 15) C dX0_setGate_15 ?_
    refine g_iload_n (pc := 16) C dX0_setGate_16 3 rfl rfl ?_
    refine g_iastN (pc := 17) (f := c) (ws' := (clW cI cC h0 h1 (upd c (0 + a) (g)))) C 1 rfl (by omega) (by decide) dX0_setGate_17 rfl ?_
    refine g_ws (ws' := (clW cI cC h0 h1 (upd c ((if q then 0 else 8) + a) g))) (by rw [c5]; rfl) ?_
    exact g_vret C hr hQ dX0_setGate_18 rfl ⟨rfl, rfl⟩

abbrev rm_X0_areAtLinkedGates : Room := { frames := 0, cells := 0, slots := 0, locals := 0 }
theorem yd_X0_areAtLinkedGates : yX0_areAtLinkedGates.cls = RX0 ∧ yX0_areAtLinkedGates.cls ≠ "java/lang/invoke/MethodHandle" ∧ yX0_areAtLinkedGates.cls ≠ "java/lang/invoke/VarHandle" ∧ (parseMethodDescriptor yX0_areAtLinkedGates.desc).map (fun d => d.parameters.length) = some 2 := by decide +kernel
theorem in_X0_areAtLinkedGates_X0 : ∀ w ∈ u_ws RX0 TX0 1, w ∈ wsX0_areAtLinkedGates := by decide +kernel
theorem fl_X0_areAtLinkedGates_11 : Cond.fieldLink RX0 11 "FenceHandshakes$Clans" "cells" "[I" ∈ wsX0_areAtLinkedGates := by decide +kernel
set_option maxHeartbeats 4000000 in
set_option maxRecDepth 100000 in
theorem m_X0_areAtLinkedGates (l : Launch) (D : va_G) (cI cC : ClassId) (h0 h1 : Nat) (c : Nat → Int32) (a : Nat) (b : Nat) (ha : a < 8) (hb : b < 8) (hc : cOK c) : g_M l yX0_areAtLinkedGates wsX0_areAtLinkedGates rm_X0_areAtLinkedGates D cI cC [.ref h0, .int (nI a), .int (nI b)] (clW cI cC h0 h1 c) (fun vv ww => vv = some (.int (bI (glC c a b))) ∧ ww = (clW cI cC h0 h1 c)) := by
  refine g_entry (lv := [(0, .ref h0), (1, .int (nI a)), (2, .int (nI b))]) (own := RX0) (by decide) rfl rfl (Nat.le_of_ble_eq_true rfl) rfl ?_
  intro p e s m args below meth co A Q C hr hQ
  have g1 := hc.g4 (k := a) (by omega)
  have g2 := hc.g4 (k := 8 + b) (by omega)
  have g3 := hc.l16
  refine g_iconst (pc := 0) (v := nI 4) C dX0_areAtLinkedGates_0 (by decide) ?_
  refine g_aload_n (pc := 1) C dX0_areAtLinkedGates_1 0 rfl rfl ?_
  refine g_get (pc := 2) (ci := 0) (T := TX0) (N := 1) (v := .ref h1) C in_X0_areAtLinkedGates_X0 0 rfl rfl 0 (by decide) fl_X0_areAtLinkedGates_11 rfl rfl dX0_areAtLinkedGates_2 ?_
  refine g_iconst (pc := 5) (v := nI 0) C dX0_areAtLinkedGates_5 (by decide) ?_
  refine g_iload_n (pc := 6) C dX0_areAtLinkedGates_6 1 rfl rfl ?_
  refine g_iaddN (pc := 7) C dX0_areAtLinkedGates_7 ?_
  refine g_ialdN (pc := 8) (f := c) C 1 rfl (by omega) (by decide) dX0_areAtLinkedGates_8 ?_
  refine g_top (y := nI (cN c a)) (by rw [Nat.zero_add]; exact hc.g (by omega)) ?_
  refine g_imulN (pc := 9) C dX0_areAtLinkedGates_9 ?_
  refine g_aload_n (pc := 10) C dX0_areAtLinkedGates_10 0 rfl rfl ?_
  refine g_get (pc := 11) (ci := 0) (T := TX0) (N := 1) (v := .ref h1) C in_X0_areAtLinkedGates_X0 0 rfl rfl 0 (by decide) fl_X0_areAtLinkedGates_11 rfl rfl dX0_areAtLinkedGates_11 ?_
  refine g_bipush (pc := 14) (v := nI 8) C dX0_areAtLinkedGates_14 (by decide) ?_
  refine g_iload_n (pc := 16) C dX0_areAtLinkedGates_16 2 rfl rfl ?_
  refine g_iaddN (pc := 17) C dX0_areAtLinkedGates_17 ?_
  refine g_ialdN (pc := 18) (f := c) C 1 rfl (by omega) (by decide) dX0_areAtLinkedGates_18 ?_
  refine g_top (y := nI (cN c (8 + b))) (hc.g (by omega)) ?_
  refine g_iaddN (pc := 19) C dX0_areAtLinkedGates_19 ?_
  refine g_istore_n (pc := 20) (lv' := [(3, .int (nI ((4 * (cN c a)) + (cN c (8 + b))))), (0, .ref h0), (1, .int (nI a)), (2, .int (nI b))]) C dX0_areAtLinkedGates_20 rfl (by decide) rfl ?_
  refine g_aload_n (pc := 21) C dX0_areAtLinkedGates_21 1 rfl rfl ?_
  refine g_get (pc := 22) (ci := 0) (T := TX0) (N := 1) (v := .ref h1) C in_X0_areAtLinkedGates_X0 0 rfl rfl 0 (by decide) fl_X0_areAtLinkedGates_11 rfl rfl dX0_areAtLinkedGates_22 ?_
  refine g_sipush (pc := 25) (v := nI 152) C dX0_areAtLinkedGates_25 (by decide) ?_
  refine g_ialdN (pc := 28) (f := c) C 1 rfl (by omega) (by decide) dX0_areAtLinkedGates_28 ?_
  refine g_top (y := nI (cN c 152)) (hc.l) ?_
  refine g_iload_n (pc := 29) C dX0_areAtLinkedGates_29 0 rfl rfl ?_
  refine g_ishrN (pc := 30) C (by omega) (by omega) dX0_areAtLinkedGates_30 ?_
  refine g_iconst (pc := 31) (v := nI 1) C dX0_areAtLinkedGates_31 (by decide) ?_
  refine g_iandN (pc := 32) C dX0_areAtLinkedGates_32 ?_
  refine g_iconst (pc := 33) (v := nI 1) C dX0_areAtLinkedGates_33 (by decide) ?_
  refine g_icmp_neN (pc := 34) C 41 (g_and1 _) (by decide) dX0_areAtLinkedGates_34 (by decide) (fun c34 => ?_) (fun c34 => ?_)
  · refine g_iconst (pc := 41) (v := nI 0) C dX0_areAtLinkedGates_41 (by decide) ?_
    refine g_top (y := bI (glC c a b)) (hb_f c34) ?_
    exact g_zret C hr hQ dX0_areAtLinkedGates_42 rfl ⟨rfl, rfl⟩
  · refine g_iconst (pc := 37) (v := nI 1) C dX0_areAtLinkedGates_37 (by decide) ?_
    refine g_goto (pc := 38) C 42 dX0_areAtLinkedGates_38 (by decide) ?_
    refine g_top (y := bI (glC c a b)) (hb_t c34) ?_
    exact g_zret C hr hQ dX0_areAtLinkedGates_42 rfl ⟨rfl, rfl⟩

abbrev rm_X0_canMeet : Room := { frames := 1, cells := 0, slots := 0, locals := 23 }
theorem yd_X0_canMeet : yX0_canMeet.cls = RX0 ∧ yX0_canMeet.cls ≠ "java/lang/invoke/MethodHandle" ∧ yX0_canMeet.cls ≠ "java/lang/invoke/VarHandle" ∧ (parseMethodDescriptor yX0_canMeet.desc).map (fun d => d.parameters.length) = some 2 := by decide +kernel
set_option maxHeartbeats 4000000 in
set_option maxRecDepth 100000 in
theorem m_X0_canMeet (l : Launch) (D : va_G) (cI cC : ClassId) (h0 h1 : Nat) (c : Nat → Int32) (a : Nat) (b : Nat) (ha : a < 8) (hb : b < 8) (hc : cOK c) : g_M l yX0_canMeet wsX0_canMeet rm_X0_canMeet D cI cC [.ref h0, .int (nI a), .int (nI b)] (clW cI cC h0 h1 c) (fun vv ww => vv = some (.int (bI (caC c a b))) ∧ ww = (clW cI cC h0 h1 c)) := by
  refine g_entry (lv := [(0, .ref h0), (1, .int (nI a)), (2, .int (nI b))]) (own := RX0) (by decide) rfl rfl (Nat.le_of_ble_eq_true rfl) rfl ?_
  intro p e s m args below meth co A Q C hr hQ
  refine g_aload_n (pc := 0) C dX0_canMeet_0 0 rfl rfl ?_
  refine g_iload_n (pc := 1) C dX0_canMeet_1 1 rfl rfl ?_
  refine g_iload_n (pc := 2) C dX0_canMeet_2 2 rfl rfl ?_
  refine g_callV (pc := 3) (st := []) (As := [.int (nI a), .int (nI b)]) (nn := 2) (ci := 0) (q0 := 0) C (m_X0_feudOf l D cI cC h0 h1 c a b (by first | assumption | omega) (by first | assumption | omega)) gX0_canMeet_X0_feudOf rfl rfl rfl yd_X0_feudOf ⟨Nat.le_of_ble_eq_true rfl, Nat.le_of_ble_eq_true rfl⟩ rfl [0, 1] rfl rfl rfl rfl rfl (Nat.le_of_ble_eq_true rfl) ⟨Nat.le_of_ble_eq_true rfl, Nat.le_of_ble_eq_true rfl⟩ dX0_canMeet_3 ?_
  rintro _ _ ⟨rfl, rfl⟩
  refine g_eq (ws' := (clW cI cC h0 h1 c)) (st' := [.int (feC c a b)]) rfl rfl ?_
  refine g_if_ne (pc := 6) C 22 dX0_canMeet_6 (by decide) (fun c6 => ?_) (fun c6 => ?_)
  · refine g_iconst (pc := 22) (v := nI 0) C dX0_canMeet_22 (by decide) ?_
    refine g_top (y := bI (caC c a b)) (by first | (rw [caC, decide_eq_false c6]; rfl) | (rw [caC, decide_eq_true c6, c15]; rfl)) ?_
    exact g_zret C hr hQ dX0_canMeet_23 rfl ⟨rfl, rfl⟩
  · refine g_aload_n (pc := 9) C dX0_canMeet_9 0 rfl rfl ?_
    refine g_iload_n (pc := 10) C dX0_canMeet_10 1 rfl rfl ?_
    refine g_iload_n (pc := 11) C dX0_canMeet_11 2 rfl rfl ?_
    refine g_callV (pc := 12) (st := []) (As := [.int (nI a), .int (nI b)]) (nn := 2) (ci := 0) (q0 := 0) C (m_X0_areAtLinkedGates l D cI cC h0 h1 c a b (by first | assumption | omega) (by first | assumption | omega) (by first | assumption | omega)) gX0_canMeet_X0_areAtLinkedGates rfl rfl rfl yd_X0_areAtLinkedGates ⟨Nat.le_of_ble_eq_true rfl, Nat.le_of_ble_eq_true rfl⟩ rfl [0, 1] rfl rfl rfl rfl rfl (Nat.le_of_ble_eq_true rfl) ⟨Nat.le_of_ble_eq_true rfl, Nat.le_of_ble_eq_true rfl⟩ dX0_canMeet_12 ?_
    rintro _ _ ⟨rfl, rfl⟩
    refine g_eq (ws' := (clW cI cC h0 h1 c)) (st' := [.int (bI (glC c a b))]) rfl rfl ?_
    refine g_if_eqB (pc := 15) C 22 dX0_canMeet_15 (by decide) (fun c15 => ?_) (fun c15 => ?_)
    · refine g_iconst (pc := 22) (v := nI 0) C dX0_canMeet_22 (by decide) ?_
      refine g_top (y := bI (caC c a b)) (by first | (rw [caC, decide_eq_false c6]; rfl) | (rw [caC, decide_eq_true c6, c15]; rfl)) ?_
      exact g_zret C hr hQ dX0_canMeet_23 rfl ⟨rfl, rfl⟩
    · refine g_iconst (pc := 18) (v := nI 1) C dX0_canMeet_18 (by decide) ?_
      refine g_goto (pc := 19) C 23 dX0_canMeet_19 (by decide) ?_
      refine g_top (y := bI (caC c a b)) (by first | (rw [caC, decide_eq_false c6]; rfl) | (rw [caC, decide_eq_true c6, c15]; rfl)) ?_
      exact g_zret C hr hQ dX0_canMeet_23 rfl ⟨rfl, rfl⟩

abbrev rm_X0_isPossible : Room := { frames := 2, cells := 0, slots := 0, locals := 45 }
theorem yd_X0_isPossible : yX0_isPossible.cls = RX0 ∧ yX0_isPossible.cls ≠ "java/lang/invoke/MethodHandle" ∧ yX0_isPossible.cls ≠ "java/lang/invoke/VarHandle" ∧ (parseMethodDescriptor yX0_isPossible.desc).map (fun d => d.parameters.length) = some 2 := by decide +kernel
set_option maxHeartbeats 4000000 in
set_option maxRecDepth 100000 in
theorem m_X0_isPossible (l : Launch) (D : va_G) (cI cC : ClassId) (h0 h1 : Nat) (c : Nat → Int32) (a : Nat) (b : Nat) (ha : a < 8) (hb : b < 8) (hc : cOK c) : g_M l yX0_isPossible wsX0_isPossible rm_X0_isPossible D cI cC [.ref h0, .int (nI a), .int (nI b)] (clW cI cC h0 h1 c) (fun vv ww => vv = some (.int (bI (poC c a b))) ∧ ww = (clW cI cC h0 h1 c)) := by
  refine g_entry (lv := [(0, .ref h0), (1, .int (nI a)), (2, .int (nI b))]) (own := RX0) (by decide) rfl rfl (Nat.le_of_ble_eq_true rfl) rfl ?_
  intro p e s m args below meth co A Q C hr hQ
  refine g_aload_n (pc := 0) C dX0_isPossible_0 0 rfl rfl ?_
  refine g_iload_n (pc := 1) C dX0_isPossible_1 1 rfl rfl ?_
  refine g_iload_n (pc := 2) C dX0_isPossible_2 2 rfl rfl ?_
  refine g_callV (pc := 3) (st := []) (As := [.int (nI a), .int (nI b)]) (nn := 2) (ci := 0) (q0 := 0) C (m_X0_hasWish l D cI cC h0 h1 c a b (by first | assumption | omega) (by first | assumption | omega) (by first | assumption | omega)) gX0_isPossible_X0_hasWish rfl rfl rfl yd_X0_hasWish ⟨Nat.le_of_ble_eq_true rfl, Nat.le_of_ble_eq_true rfl⟩ rfl [0, 1] rfl rfl rfl rfl rfl (Nat.le_of_ble_eq_true rfl) ⟨Nat.le_of_ble_eq_true rfl, Nat.le_of_ble_eq_true rfl⟩ dX0_isPossible_3 ?_
  rintro _ _ ⟨rfl, rfl⟩
  refine g_eq (ws' := (clW cI cC h0 h1 c)) (st' := [.int (bI (wiC c a b))]) rfl rfl ?_
  refine g_if_eqB (pc := 6) C 22 dX0_isPossible_6 (by decide) (fun c6 => ?_) (fun c6 => ?_)
  · refine g_iconst (pc := 22) (v := nI 0) C dX0_isPossible_22 (by decide) ?_
    refine g_top (y := bI (poC c a b)) (by first | (rw [poC, c6]; rfl) | (rw [poC, c6, c15]; rfl)) ?_
    exact g_zret C hr hQ dX0_isPossible_23 rfl ⟨rfl, rfl⟩
  · refine g_aload_n (pc := 9) C dX0_isPossible_9 0 rfl rfl ?_
    refine g_iload_n (pc := 10) C dX0_isPossible_10 1 rfl rfl ?_
    refine g_iload_n (pc := 11) C dX0_isPossible_11 2 rfl rfl ?_
    refine g_callV (pc := 12) (st := []) (As := [.int (nI a), .int (nI b)]) (nn := 2) (ci := 0) (q0 := 0) C (m_X0_canMeet l D cI cC h0 h1 c a b (by first | assumption | omega) (by first | assumption | omega) (by first | assumption | omega)) gX0_isPossible_X0_canMeet rfl rfl rfl yd_X0_canMeet ⟨Nat.le_of_ble_eq_true rfl, Nat.le_of_ble_eq_true rfl⟩ rfl [0, 1] rfl rfl rfl rfl rfl (Nat.le_of_ble_eq_true rfl) ⟨Nat.le_of_ble_eq_true rfl, Nat.le_of_ble_eq_true rfl⟩ dX0_isPossible_12 ?_
    rintro _ _ ⟨rfl, rfl⟩
    refine g_eq (ws' := (clW cI cC h0 h1 c)) (st' := [.int (bI (caC c a b))]) rfl rfl ?_
    refine g_if_eqB (pc := 15) C 22 dX0_isPossible_15 (by decide) (fun c15 => ?_) (fun c15 => ?_)
    · refine g_iconst (pc := 22) (v := nI 0) C dX0_isPossible_22 (by decide) ?_
      refine g_top (y := bI (poC c a b)) (by first | (rw [poC, c6]; rfl) | (rw [poC, c6, c15]; rfl)) ?_
      exact g_zret C hr hQ dX0_isPossible_23 rfl ⟨rfl, rfl⟩
    · refine g_iconst (pc := 18) (v := nI 1) C dX0_isPossible_18 (by decide) ?_
      refine g_goto (pc := 19) C 23 dX0_isPossible_19 (by decide) ?_
      refine g_top (y := bI (poC c a b)) (by first | (rw [poC, c6]; rfl) | (rw [poC, c6, c15]; rfl)) ?_
      exact g_zret C hr hQ dX0_isPossible_23 rfl ⟨rfl, rfl⟩

abbrev rm_X0_peopleToMeet : Room := { frames := 2, cells := 0, slots := 0, locals := 45 }
theorem yd_X0_peopleToMeet : yX0_peopleToMeet.cls = RX0 ∧ yX0_peopleToMeet.cls ≠ "java/lang/invoke/MethodHandle" ∧ yX0_peopleToMeet.cls ≠ "java/lang/invoke/VarHandle" ∧ (parseMethodDescriptor yX0_peopleToMeet.desc).map (fun d => d.parameters.length) = some 2 := by decide +kernel
set_option maxHeartbeats 4000000 in
set_option maxRecDepth 100000 in
theorem m_X0_peopleToMeet (l : Launch) (D : va_G) (cI cC : ClassId) (h0 h1 : Nat) (c : Nat → Int32) (q : Bool) (a : Nat) (ha : a < 8) (hc : cOK c) : g_M l yX0_peopleToMeet wsX0_peopleToMeet rm_X0_peopleToMeet D cI cC [.ref h0, .int (bI q), .int (nI a)] (clW cI cC h0 h1 c) (fun vv ww => vv = some (.int (nI (pmask (fun o => if q then caC c a o else caC c o a) 8))) ∧ ww = (clW cI cC h0 h1 c)) := by
  refine g_entry (lv := [(0, .ref h0), (1, .int (bI q)), (2, .int (nI a))]) (own := RX0) (by decide) rfl rfl (Nat.le_of_ble_eq_true rfl) rfl ?_
  intro p e s m args below meth co A Q C hr hQ
  refine g_iconst (pc := 0) (v := nI 0) C dX0_peopleToMeet_0 (by decide) ?_
  refine g_istore_n (pc := 1) (lv' := [(3, .int (nI 0)), (0, .ref h0), (1, .int (bI q)), (2, .int (nI a))]) C dX0_peopleToMeet_1 rfl (by decide) rfl ?_
  refine g_iconst (pc := 2) (v := nI 0) C dX0_peopleToMeet_2 (by decide) ?_
  refine g_istore (pc := 3) (lv' := [(4, .int (nI 0)), (3, .int (nI 0)), (0, .ref h0), (1, .int (bI q)), (2, .int (nI a))]) C dX0_peopleToMeet_3 (by decide) rfl ?_
  have L5 : ∀ (NZ : Nat) (i : Nat) (u : Nat), 8 - i < NZ → (i ≤ 8) → (u = pmask (fun o => if q then caC c a o else caC c o a) i) → g_J p l e rm_X0_peopleToMeet s m args below meth co Q D A 5 0 0 (clW cI cC h0 h1 c) 5 [(0, .ref h0), (1, .int (bI q)), (2, .int (nI a)), (3, .int (nI u)), (4, .int (nI i))] [] := by
    intro NZ
    induction NZ with
    | zero => intro i u hN; exact absurd hN (Nat.not_lt_zero _)
    | succ NZ ih5 =>
      intro i u hN5 hi hu
      refine g_iload (pc := 5) C dX0_peopleToMeet_5 4 rfl ?_
      refine g_bipush (pc := 7) (v := nI 8) C dX0_peopleToMeet_7 (by decide) ?_
      refine g_icmp_geN (pc := 9) C 52 (by omega) (by omega) dX0_peopleToMeet_9 (by decide) (fun c9 => ?_) (fun c9 => ?_)
      · refine g_iload_n (pc := 52) C dX0_peopleToMeet_52 3 rfl rfl ?_
        refine g_top (y := nI (pmask (fun o => if q then caC c a o else caC c o a) 8)) (by rw [hu, show i = 8 by omega]) ?_
        exact g_iret C hr hQ dX0_peopleToMeet_53 rfl ⟨rfl, rfl⟩
      · refine g_iload_n (pc := 12) C dX0_peopleToMeet_12 1 rfl rfl ?_
        refine g_if_eqB (pc := 13) C 29 dX0_peopleToMeet_13 (by decide) (fun c13 => ?_) (fun c13 => ?_)
        · refine g_aload_n (pc := 29) C dX0_peopleToMeet_29 0 rfl rfl ?_
          refine g_iload (pc := 30) C dX0_peopleToMeet_30 4 rfl ?_
          refine g_iload_n (pc := 32) C dX0_peopleToMeet_32 2 rfl rfl ?_
          refine g_callV (pc := 33) (st := []) (As := [.int (nI i), .int (nI a)]) (nn := 2) (ci := 0) (q0 := 0) C (m_X0_canMeet l D cI cC h0 h1 c i a (by first | assumption | omega) (by first | assumption | omega) (by first | assumption | omega)) gX0_peopleToMeet_X0_canMeet rfl rfl rfl yd_X0_canMeet ⟨Nat.le_of_ble_eq_true rfl, Nat.le_of_ble_eq_true rfl⟩ rfl [0, 1] rfl rfl rfl rfl rfl (Nat.le_of_ble_eq_true rfl) ⟨Nat.le_of_ble_eq_true rfl, Nat.le_of_ble_eq_true rfl⟩ dX0_peopleToMeet_33 ?_
          rintro _ _ ⟨rfl, rfl⟩
          refine g_eq (ws' := (clW cI cC h0 h1 c)) (st' := [.int (bI (caC c i a))]) rfl rfl ?_
          refine g_if_eqB (pc := 36) C 46 dX0_peopleToMeet_36 (by decide) (fun c36 => ?_) (fun c36 => ?_)
          · refine g_iinc (pc := 46) (lv' := [(4, .int (nI (i + 1))), (0, .ref h0), (1, .int (bI q)), (2, .int (nI a)), (3, .int (nI u))]) C dX0_peopleToMeet_46 4 rfl (nI_add i 1) (by decide) rfl ?_
            refine g_goto (pc := 49) C 5 dX0_peopleToMeet_49 (by decide) ?_
            refine g_lvp (lv' := [(0, .ref h0), (1, .int (bI q)), (2, .int (nI a)), (3, .int (nI u)), (4, .int (nI (i + 1)))]) [1, 2, 3, 4, 0] rfl ?_
            exact ih5 (i + 1) u (by omega) (by first | assumption | omega) (by first | (rw [hu]; simp only [pmask, c13, c23]; rfl) | (rw [hu]; simp only [pmask, c13, c36]; rfl))
          · refine g_iload_n (pc := 39) C dX0_peopleToMeet_39 3 rfl rfl ?_
            refine g_iconst (pc := 40) (v := nI 1) C dX0_peopleToMeet_40 (by decide) ?_
            refine g_iload (pc := 41) C dX0_peopleToMeet_41 4 rfl ?_
            refine g_ishlN (pc := 43) C (by omega) dX0_peopleToMeet_43 ?_
            refine g_iorN (pc := 44) C dX0_peopleToMeet_44 ?_
            refine g_istore_n (pc := 45) (lv' := [(3, .int (nI (u ||| (1 <<< i)))), (0, .ref h0), (1, .int (bI q)), (2, .int (nI a)), (4, .int (nI i))]) C dX0_peopleToMeet_45 rfl (by decide) rfl ?_
            refine g_iinc (pc := 46) (lv' := [(4, .int (nI (i + 1))), (3, .int (nI (u ||| (1 <<< i)))), (0, .ref h0), (1, .int (bI q)), (2, .int (nI a))]) C dX0_peopleToMeet_46 4 rfl (nI_add i 1) (by decide) rfl ?_
            refine g_goto (pc := 49) C 5 dX0_peopleToMeet_49 (by decide) ?_
            refine g_lvp (lv' := [(0, .ref h0), (1, .int (bI q)), (2, .int (nI a)), (3, .int (nI (u ||| (1 <<< i)))), (4, .int (nI (i + 1)))]) [2, 3, 4, 1, 0] rfl ?_
            exact ih5 (i + 1) (u ||| (1 <<< i)) (by omega) (by first | assumption | omega) (by first | (rw [hu]; simp only [pmask, c13, c23]; rfl) | (rw [hu]; simp only [pmask, c13, c36]; rfl))
        · refine g_aload_n (pc := 16) C dX0_peopleToMeet_16 0 rfl rfl ?_
          refine g_iload_n (pc := 17) C dX0_peopleToMeet_17 2 rfl rfl ?_
          refine g_iload (pc := 18) C dX0_peopleToMeet_18 4 rfl ?_
          refine g_callV (pc := 20) (st := []) (As := [.int (nI a), .int (nI i)]) (nn := 2) (ci := 0) (q0 := 0) C (m_X0_canMeet l D cI cC h0 h1 c a i (by first | assumption | omega) (by first | assumption | omega) (by first | assumption | omega)) gX0_peopleToMeet_X0_canMeet rfl rfl rfl yd_X0_canMeet ⟨Nat.le_of_ble_eq_true rfl, Nat.le_of_ble_eq_true rfl⟩ rfl [0, 1] rfl rfl rfl rfl rfl (Nat.le_of_ble_eq_true rfl) ⟨Nat.le_of_ble_eq_true rfl, Nat.le_of_ble_eq_true rfl⟩ dX0_peopleToMeet_20 ?_
          rintro _ _ ⟨rfl, rfl⟩
          refine g_eq (ws' := (clW cI cC h0 h1 c)) (st' := [.int (bI (caC c a i))]) rfl rfl ?_
          refine g_if_eqB (pc := 23) C 46 dX0_peopleToMeet_23 (by decide) (fun c23 => ?_) (fun c23 => ?_)
          · refine g_iinc (pc := 46) (lv' := [(4, .int (nI (i + 1))), (0, .ref h0), (1, .int (bI q)), (2, .int (nI a)), (3, .int (nI u))]) C dX0_peopleToMeet_46 4 rfl (nI_add i 1) (by decide) rfl ?_
            refine g_goto (pc := 49) C 5 dX0_peopleToMeet_49 (by decide) ?_
            refine g_lvp (lv' := [(0, .ref h0), (1, .int (bI q)), (2, .int (nI a)), (3, .int (nI u)), (4, .int (nI (i + 1)))]) [1, 2, 3, 4, 0] rfl ?_
            exact ih5 (i + 1) u (by omega) (by first | assumption | omega) (by first | (rw [hu]; simp only [pmask, c13, c23]; rfl) | (rw [hu]; simp only [pmask, c13, c36]; rfl))
          · refine g_goto (pc := 26) C 39 dX0_peopleToMeet_26 (by decide) ?_
            refine g_iload_n (pc := 39) C dX0_peopleToMeet_39 3 rfl rfl ?_
            refine g_iconst (pc := 40) (v := nI 1) C dX0_peopleToMeet_40 (by decide) ?_
            refine g_iload (pc := 41) C dX0_peopleToMeet_41 4 rfl ?_
            refine g_ishlN (pc := 43) C (by omega) dX0_peopleToMeet_43 ?_
            refine g_iorN (pc := 44) C dX0_peopleToMeet_44 ?_
            refine g_istore_n (pc := 45) (lv' := [(3, .int (nI (u ||| (1 <<< i)))), (0, .ref h0), (1, .int (bI q)), (2, .int (nI a)), (4, .int (nI i))]) C dX0_peopleToMeet_45 rfl (by decide) rfl ?_
            refine g_iinc (pc := 46) (lv' := [(4, .int (nI (i + 1))), (3, .int (nI (u ||| (1 <<< i)))), (0, .ref h0), (1, .int (bI q)), (2, .int (nI a))]) C dX0_peopleToMeet_46 4 rfl (nI_add i 1) (by decide) rfl ?_
            refine g_goto (pc := 49) C 5 dX0_peopleToMeet_49 (by decide) ?_
            refine g_lvp (lv' := [(0, .ref h0), (1, .int (bI q)), (2, .int (nI a)), (3, .int (nI (u ||| (1 <<< i)))), (4, .int (nI (i + 1)))]) [2, 3, 4, 1, 0] rfl ?_
            exact ih5 (i + 1) (u ||| (1 <<< i)) (by omega) (by first | assumption | omega) (by first | (rw [hu]; simp only [pmask, c13, c23]; rfl) | (rw [hu]; simp only [pmask, c13, c36]; rfl))
  refine g_lvp (lv' := [(0, .ref h0), (1, .int (bI q)), (2, .int (nI a)), (3, .int (nI 0)), (4, .int (nI 0))]) [2, 3, 4, 1, 0] rfl ?_
  exact L5 _ 0 0 (Nat.lt_succ_self _) (by first | assumption | omega) (rfl)

abbrev rm_X0_amountOfPair : Room := { frames := 3, cells := 0, slots := 0, locals := 67 }
theorem yd_X0_amountOfPair : yX0_amountOfPair.cls = RX0 ∧ yX0_amountOfPair.cls ≠ "java/lang/invoke/MethodHandle" ∧ yX0_amountOfPair.cls ≠ "java/lang/invoke/VarHandle" ∧ (parseMethodDescriptor yX0_amountOfPair.desc).map (fun d => d.parameters.length) = some 3 := by decide +kernel
set_option maxHeartbeats 4000000 in
set_option maxRecDepth 100000 in
theorem m_X0_amountOfPair (l : Launch) (D : va_G) (cI cC : ClassId) (h0 h1 : Nat) (c : Nat → Int32) (a : Nat) (b : Nat) (w : Int32) (ha : a < 8) (hb : b < 8) (hc : cOK c) : g_M l yX0_amountOfPair wsX0_amountOfPair rm_X0_amountOfPair D cI cC [.ref h0, .int (nI a), .int (nI b), .int w] (clW cI cC h0 h1 c) (fun vv ww => vv = some (.int (amP c a b w)) ∧ ww = (clW cI cC h0 h1 c)) := by
  refine g_entry (lv := [(0, .ref h0), (1, .int (nI a)), (2, .int (nI b)), (3, .int w)]) (own := RX0) (by decide) rfl rfl (Nat.le_of_ble_eq_true rfl) rfl ?_
  intro p e s m args below meth co A Q C hr hQ
  refine g_iload_n (pc := 0) C dX0_amountOfPair_0 3 rfl rfl ?_
  by_cases t1_1 : w = nI 1
  · refine g_top (y := nI 1) t1_1 ?_
    refine g_tabIn (pc := 1) C 32 dX0_amountOfPair_1 (by decide) (by decide) rfl (by decide) ?_
    refine g_aload_n (pc := 32) C dX0_amountOfPair_32 0 rfl rfl ?_
    refine g_iload_n (pc := 33) C dX0_amountOfPair_33 1 rfl rfl ?_
    refine g_iload_n (pc := 34) C dX0_amountOfPair_34 2 rfl rfl ?_
    refine g_callV (pc := 35) (st := []) (As := [.int (nI a), .int (nI b)]) (nn := 2) (ci := 0) (q0 := 0) C (m_X0_hasWish l D cI cC h0 h1 c a b (by first | assumption | omega) (by first | assumption | omega) (by first | assumption | omega)) gX0_amountOfPair_X0_hasWish rfl rfl rfl yd_X0_hasWish ⟨Nat.le_of_ble_eq_true rfl, Nat.le_of_ble_eq_true rfl⟩ rfl [0, 1] rfl rfl rfl rfl rfl (Nat.le_of_ble_eq_true rfl) ⟨Nat.le_of_ble_eq_true rfl, Nat.le_of_ble_eq_true rfl⟩ dX0_amountOfPair_35 ?_
    rintro _ _ ⟨rfl, rfl⟩
    refine g_eq (ws' := (clW cI cC h0 h1 c)) (st' := [.int (bI (wiC c a b))]) rfl rfl ?_
    refine g_callSN (pc := 38) (st := []) (As := [.int (bI (wiC c a b))]) (nn := 1) (host := "FenceHandshakes") C (m_X5_asNumber l D cI cC (wiC c a b)) gX0_amountOfPair_X5_asNumber_n48 rfl rfl rfl (by decide +kernel) (by decide +kernel) (by decide +kernel) yd_X5_asNumber.2 ⟨Nat.le_of_ble_eq_true rfl, Nat.le_of_ble_eq_true rfl⟩ rfl [] rfl rfl rfl (Nat.le_of_ble_eq_true rfl) ⟨Nat.le_of_ble_eq_true rfl, Nat.le_of_ble_eq_true rfl⟩ dX0_amountOfPair_38 ?_
    rintro _ _ ⟨rfl, rfl⟩
    refine g_eq (ws' := (clW cI cC h0 h1 c)) (st' := [.int (bI (wiC c a b))]) rfl rfl ?_
    refine g_top (y := (amP c a b w)) (by rw [amP, if_pos t1_1]) ?_
    exact g_iret C hr hQ dX0_amountOfPair_41 rfl ⟨rfl, rfl⟩
  by_cases t1_2 : w = nI 2
  · refine g_top (y := nI 2) t1_2 ?_
    refine g_tabIn (pc := 1) C 42 dX0_amountOfPair_1 (by decide) (by decide) rfl (by decide) ?_
    refine g_aload_n (pc := 42) C dX0_amountOfPair_42 0 rfl rfl ?_
    refine g_iload_n (pc := 43) C dX0_amountOfPair_43 1 rfl rfl ?_
    refine g_iload_n (pc := 44) C dX0_amountOfPair_44 2 rfl rfl ?_
    refine g_callV (pc := 45) (st := []) (As := [.int (nI a), .int (nI b)]) (nn := 2) (ci := 0) (q0 := 0) C (m_X0_isPossible l D cI cC h0 h1 c a b (by first | assumption | omega) (by first | assumption | omega) (by first | assumption | omega)) gX0_amountOfPair_X0_isPossible rfl rfl rfl yd_X0_isPossible ⟨Nat.le_of_ble_eq_true rfl, Nat.le_of_ble_eq_true rfl⟩ rfl [0, 1] rfl rfl rfl rfl rfl (Nat.le_of_ble_eq_true rfl) ⟨Nat.le_of_ble_eq_true rfl, Nat.le_of_ble_eq_true rfl⟩ dX0_amountOfPair_45 ?_
    rintro _ _ ⟨rfl, rfl⟩
    refine g_eq (ws' := (clW cI cC h0 h1 c)) (st' := [.int (bI (poC c a b))]) rfl rfl ?_
    refine g_callSN (pc := 48) (st := []) (As := [.int (bI (poC c a b))]) (nn := 1) (host := "FenceHandshakes") C (m_X5_asNumber l D cI cC (poC c a b)) gX0_amountOfPair_X5_asNumber_n48 rfl rfl rfl (by decide +kernel) (by decide +kernel) (by decide +kernel) yd_X5_asNumber.2 ⟨Nat.le_of_ble_eq_true rfl, Nat.le_of_ble_eq_true rfl⟩ rfl [] rfl rfl rfl (Nat.le_of_ble_eq_true rfl) ⟨Nat.le_of_ble_eq_true rfl, Nat.le_of_ble_eq_true rfl⟩ dX0_amountOfPair_48 ?_
    rintro _ _ ⟨rfl, rfl⟩
    refine g_eq (ws' := (clW cI cC h0 h1 c)) (st' := [.int (bI (poC c a b))]) rfl rfl ?_
    refine g_top (y := (amP c a b w)) (by rw [amP, if_neg t1_1, if_pos t1_2]) ?_
    exact g_iret C hr hQ dX0_amountOfPair_51 rfl ⟨rfl, rfl⟩
  by_cases t1_3 : w = nI 3
  · refine g_top (y := nI 3) t1_3 ?_
    refine g_tabIn (pc := 1) C 52 dX0_amountOfPair_1 (by decide) (by decide) rfl (by decide) ?_
    refine g_aload_n (pc := 52) C dX0_amountOfPair_52 0 rfl rfl ?_
    refine g_iload_n (pc := 53) C dX0_amountOfPair_53 1 rfl rfl ?_
    refine g_iload_n (pc := 54) C dX0_amountOfPair_54 2 rfl rfl ?_
    refine g_callV (pc := 55) (st := []) (As := [.int (nI a), .int (nI b)]) (nn := 2) (ci := 0) (q0 := 0) C (m_X0_feudOf l D cI cC h0 h1 c a b (by first | assumption | omega) (by first | assumption | omega)) gX0_amountOfPair_X0_feudOf rfl rfl rfl yd_X0_feudOf ⟨Nat.le_of_ble_eq_true rfl, Nat.le_of_ble_eq_true rfl⟩ rfl [0, 1] rfl rfl rfl rfl rfl (Nat.le_of_ble_eq_true rfl) ⟨Nat.le_of_ble_eq_true rfl, Nat.le_of_ble_eq_true rfl⟩ dX0_amountOfPair_55 ?_
    rintro _ _ ⟨rfl, rfl⟩
    refine g_eq (ws' := (clW cI cC h0 h1 c)) (st' := [.int (feC c a b)]) rfl rfl ?_
    refine g_if_le (pc := 58) C 65 dX0_amountOfPair_58 (by decide) (fun c58 => ?_) (fun c58 => ?_)
    · refine g_iconst (pc := 65) (v := nI 0) C dX0_amountOfPair_65 (by decide) ?_
      refine g_callSN (pc := 66) (st := []) (As := [.int (bI false)]) (nn := 1) (host := "FenceHandshakes") C (m_X5_asNumber l D cI cC false) gX0_amountOfPair_X5_asNumber_n48 rfl rfl rfl (by decide +kernel) (by decide +kernel) (by decide +kernel) yd_X5_asNumber.2 ⟨Nat.le_of_ble_eq_true rfl, Nat.le_of_ble_eq_true rfl⟩ rfl [] rfl rfl rfl (Nat.le_of_ble_eq_true rfl) ⟨Nat.le_of_ble_eq_true rfl, Nat.le_of_ble_eq_true rfl⟩ dX0_amountOfPair_66 ?_
      rintro _ _ ⟨rfl, rfl⟩
      refine g_eq (ws' := (clW cI cC h0 h1 c)) (st' := [.int (bI false)]) rfl rfl ?_
      refine g_top (y := (amP c a b w)) (by first | (rw [amP, if_neg t1_1, if_neg t1_2, if_pos t1_3, decide_eq_false (Int32.not_lt.mpr c58)]) | (rw [amP, if_neg t1_1, if_neg t1_2, if_pos t1_3, decide_eq_true (Int32.not_le.mp c58)])) ?_
      exact g_iret C hr hQ dX0_amountOfPair_69 rfl ⟨rfl, rfl⟩
    · refine g_iconst (pc := 61) (v := nI 1) C dX0_amountOfPair_61 (by decide) ?_
      refine g_goto (pc := 62) C 66 dX0_amountOfPair_62 (by decide) ?_
      refine g_callSN (pc := 66) (st := []) (As := [.int (bI true)]) (nn := 1) (host := "FenceHandshakes") C (m_X5_asNumber l D cI cC true) gX0_amountOfPair_X5_asNumber_n48 rfl rfl rfl (by decide +kernel) (by decide +kernel) (by decide +kernel) yd_X5_asNumber.2 ⟨Nat.le_of_ble_eq_true rfl, Nat.le_of_ble_eq_true rfl⟩ rfl [] rfl rfl rfl (Nat.le_of_ble_eq_true rfl) ⟨Nat.le_of_ble_eq_true rfl, Nat.le_of_ble_eq_true rfl⟩ dX0_amountOfPair_66 ?_
      rintro _ _ ⟨rfl, rfl⟩
      refine g_eq (ws' := (clW cI cC h0 h1 c)) (st' := [.int (bI true)]) rfl rfl ?_
      refine g_top (y := (amP c a b w)) (by first | (rw [amP, if_neg t1_1, if_neg t1_2, if_pos t1_3, decide_eq_false (Int32.not_lt.mpr c58)]) | (rw [amP, if_neg t1_1, if_neg t1_2, if_pos t1_3, decide_eq_true (Int32.not_le.mp c58)])) ?_
      exact g_iret C hr hQ dX0_amountOfPair_69 rfl ⟨rfl, rfl⟩
  by_cases t1_4 : w = nI 4
  · refine g_top (y := nI 4) t1_4 ?_
    refine g_tabIn (pc := 1) C 70 dX0_amountOfPair_1 (by decide) (by decide) rfl (by decide) ?_
    refine g_aload_n (pc := 70) C dX0_amountOfPair_70 0 rfl rfl ?_
    refine g_iload_n (pc := 71) C dX0_amountOfPair_71 1 rfl rfl ?_
    refine g_iload_n (pc := 72) C dX0_amountOfPair_72 2 rfl rfl ?_
    refine g_callV (pc := 73) (st := []) (As := [.int (nI a), .int (nI b)]) (nn := 2) (ci := 0) (q0 := 0) C (m_X0_handshakesOf l D cI cC h0 h1 c a b (by first | assumption | omega) (by first | assumption | omega)) gX0_amountOfPair_X0_handshakesOf rfl rfl rfl yd_X0_handshakesOf ⟨Nat.le_of_ble_eq_true rfl, Nat.le_of_ble_eq_true rfl⟩ rfl [0, 1] rfl rfl rfl rfl rfl (Nat.le_of_ble_eq_true rfl) ⟨Nat.le_of_ble_eq_true rfl, Nat.le_of_ble_eq_true rfl⟩ dX0_amountOfPair_73 ?_
    rintro _ _ ⟨rfl, rfl⟩
    refine g_eq (ws' := (clW cI cC h0 h1 c)) (st' := [.int (taC c a b)]) rfl rfl ?_
    refine g_top (y := (amP c a b w)) (by rw [amP, if_neg t1_1, if_neg t1_2, if_neg t1_3, if_pos t1_4]) ?_
    exact g_iret C hr hQ dX0_amountOfPair_76 rfl ⟨rfl, rfl⟩
  refine g_tabOut (pc := 1) C 77 dX0_amountOfPair_1 (g_out 1 4 (by decide) (by intro k h1 h2; rcases (show k = 1 ∨ k = 2 ∨ k = 3 ∨ k = 4 by omega) with rfl | rfl | rfl | rfl <;> assumption)) (by decide) ?_
  refine g_iconst (pc := 77) (v := nI 0) C dX0_amountOfPair_77 (by decide) ?_
  refine g_top (y := (amP c a b w)) (by rw [amP, if_neg t1_1, if_neg t1_2, if_neg t1_3, if_neg t1_4]) ?_
  exact g_iret C hr hQ dX0_amountOfPair_78 rfl ⟨rfl, rfl⟩

abbrev rm_X0_amountOfPerson : Room := { frames := 4, cells := 0, slots := 0, locals := 90 }
theorem yd_X0_amountOfPerson : yX0_amountOfPerson.cls = RX0 ∧ yX0_amountOfPerson.cls ≠ "java/lang/invoke/MethodHandle" ∧ yX0_amountOfPerson.cls ≠ "java/lang/invoke/VarHandle" ∧ (parseMethodDescriptor yX0_amountOfPerson.desc).map (fun d => d.parameters.length) = some 3 := by decide +kernel
set_option maxHeartbeats 4000000 in
set_option maxRecDepth 100000 in
theorem m_X0_amountOfPerson (l : Launch) (D : va_G) (cI cC : ClassId) (h0 h1 : Nat) (c : Nat → Int32) (q : Bool) (a : Nat) (w : Int32) (ha : a < 8) (hc : cOK c) : g_M l yX0_amountOfPerson wsX0_amountOfPerson rm_X0_amountOfPerson D cI cC [.ref h0, .int (bI q), .int (nI a), .int w] (clW cI cC h0 h1 c) (fun vv ww => vv = some (.int (sI (amF c q a w) 8)) ∧ ww = (clW cI cC h0 h1 c)) := by
  refine g_entry (lv := [(0, .ref h0), (1, .int (bI q)), (2, .int (nI a)), (3, .int w)]) (own := RX0) (by decide) rfl rfl (Nat.le_of_ble_eq_true rfl) rfl ?_
  intro p e s m args below meth co A Q C hr hQ
  refine g_iconst (pc := 0) (v := nI 0) C dX0_amountOfPerson_0 (by decide) ?_
  refine g_istore (pc := 1) (lv' := [(4, .int (nI 0)), (0, .ref h0), (1, .int (bI q)), (2, .int (nI a)), (3, .int w)]) C dX0_amountOfPerson_1 (by decide) rfl ?_
  refine g_iconst (pc := 3) (v := nI 0) C dX0_amountOfPerson_3 (by decide) ?_
  refine g_istore (pc := 4) (lv' := [(5, .int (nI 0)), (4, .int (nI 0)), (0, .ref h0), (1, .int (bI q)), (2, .int (nI a)), (3, .int w)]) C dX0_amountOfPerson_4 (by decide) rfl ?_
  have L6 : ∀ (NZ : Nat) (i : Nat) (u : Int32), 8 - i < NZ → (i ≤ 8) → (u = sI (amF c q a w) i) → g_J p l e rm_X0_amountOfPerson s m args below meth co Q D A 6 0 0 (clW cI cC h0 h1 c) 6 [(0, .ref h0), (1, .int (bI q)), (2, .int (nI a)), (3, .int w), (4, .int u), (5, .int (nI i))] [] := by
    intro NZ
    induction NZ with
    | zero => intro i u hN; exact absurd hN (Nat.not_lt_zero _)
    | succ NZ ih6 =>
      intro i u hN6 hi hu
      refine g_iload (pc := 6) C dX0_amountOfPerson_6 5 rfl ?_
      refine g_bipush (pc := 8) (v := nI 8) C dX0_amountOfPerson_8 (by decide) ?_
      refine g_icmp_geN (pc := 10) C 47 (by omega) (by omega) dX0_amountOfPerson_10 (by decide) (fun c10 => ?_) (fun c10 => ?_)
      · refine g_iload (pc := 47) C dX0_amountOfPerson_47 4 rfl ?_
        refine g_top (y := (sI (amF c q a w) 8)) (by rw [hu, show i = 8 by omega]) ?_
        exact g_iret C hr hQ dX0_amountOfPerson_49 rfl ⟨rfl, rfl⟩
      · refine g_iload (pc := 13) C dX0_amountOfPerson_13 4 rfl ?_
        refine g_iload_n (pc := 15) C dX0_amountOfPerson_15 1 rfl rfl ?_
        refine g_if_eqB (pc := 16) C 30 dX0_amountOfPerson_16 (by decide) (fun c16 => ?_) (fun c16 => ?_)
        · refine g_aload_n (pc := 30) C dX0_amountOfPerson_30 0 rfl rfl ?_
          refine g_iload (pc := 31) C dX0_amountOfPerson_31 5 rfl ?_
          refine g_iload_n (pc := 33) C dX0_amountOfPerson_33 2 rfl rfl ?_
          refine g_iload_n (pc := 34) C dX0_amountOfPerson_34 3 rfl rfl ?_
          refine g_callV (pc := 35) (st := [.int u]) (As := [.int (nI i), .int (nI a), .int w]) (nn := 3) (ci := 0) (q0 := 0) C (m_X0_amountOfPair l D cI cC h0 h1 c i a w (by first | assumption | omega) (by first | assumption | omega) (by first | assumption | omega)) gX0_amountOfPerson_X0_amountOfPair rfl rfl rfl yd_X0_amountOfPair ⟨Nat.le_of_ble_eq_true rfl, Nat.le_of_ble_eq_true rfl⟩ rfl [0, 1] rfl rfl rfl rfl rfl (Nat.le_of_ble_eq_true rfl) ⟨Nat.le_of_ble_eq_true rfl, Nat.le_of_ble_eq_true rfl⟩ dX0_amountOfPerson_35 ?_
          rintro _ _ ⟨rfl, rfl⟩
          refine g_eq (ws' := (clW cI cC h0 h1 c)) (st' := [.int (amP c i a w), .int u]) rfl rfl ?_
          refine g_iadd (pc := 38) C dX0_amountOfPerson_38 ?_
          refine g_istore (pc := 39) (lv' := [(4, .int (u + (amP c i a w))), (0, .ref h0), (1, .int (bI q)), (2, .int (nI a)), (3, .int w), (5, .int (nI i))]) C dX0_amountOfPerson_39 (by decide) rfl ?_
          refine g_iinc (pc := 41) (lv' := [(5, .int (nI (i + 1))), (4, .int (u + (amP c i a w))), (0, .ref h0), (1, .int (bI q)), (2, .int (nI a)), (3, .int w)]) C dX0_amountOfPerson_41 5 rfl (nI_add i 1) (by decide) rfl ?_
          refine g_goto (pc := 44) C 6 dX0_amountOfPerson_44 (by decide) ?_
          refine g_lvp (lv' := [(0, .ref h0), (1, .int (bI q)), (2, .int (nI a)), (3, .int w), (4, .int (u + (amP c i a w))), (5, .int (nI (i + 1)))]) [2, 3, 4, 5, 1, 0] rfl ?_
          exact ih6 (i + 1) (u + (amP c i a w)) (by omega) (by first | assumption | omega) (by rw [hu]; simp only [sI, amF, c16]; rfl)
        · refine g_aload_n (pc := 19) C dX0_amountOfPerson_19 0 rfl rfl ?_
          refine g_iload_n (pc := 20) C dX0_amountOfPerson_20 2 rfl rfl ?_
          refine g_iload (pc := 21) C dX0_amountOfPerson_21 5 rfl ?_
          refine g_iload_n (pc := 23) C dX0_amountOfPerson_23 3 rfl rfl ?_
          refine g_callV (pc := 24) (st := [.int u]) (As := [.int (nI a), .int (nI i), .int w]) (nn := 3) (ci := 0) (q0 := 0) C (m_X0_amountOfPair l D cI cC h0 h1 c a i w (by first | assumption | omega) (by first | assumption | omega) (by first | assumption | omega)) gX0_amountOfPerson_X0_amountOfPair rfl rfl rfl yd_X0_amountOfPair ⟨Nat.le_of_ble_eq_true rfl, Nat.le_of_ble_eq_true rfl⟩ rfl [0, 1] rfl rfl rfl rfl rfl (Nat.le_of_ble_eq_true rfl) ⟨Nat.le_of_ble_eq_true rfl, Nat.le_of_ble_eq_true rfl⟩ dX0_amountOfPerson_24 ?_
          rintro _ _ ⟨rfl, rfl⟩
          refine g_eq (ws' := (clW cI cC h0 h1 c)) (st' := [.int (amP c a i w), .int u]) rfl rfl ?_
          refine g_goto (pc := 27) C 38 dX0_amountOfPerson_27 (by decide) ?_
          refine g_iadd (pc := 38) C dX0_amountOfPerson_38 ?_
          refine g_istore (pc := 39) (lv' := [(4, .int (u + (amP c a i w))), (0, .ref h0), (1, .int (bI q)), (2, .int (nI a)), (3, .int w), (5, .int (nI i))]) C dX0_amountOfPerson_39 (by decide) rfl ?_
          refine g_iinc (pc := 41) (lv' := [(5, .int (nI (i + 1))), (4, .int (u + (amP c a i w))), (0, .ref h0), (1, .int (bI q)), (2, .int (nI a)), (3, .int w)]) C dX0_amountOfPerson_41 5 rfl (nI_add i 1) (by decide) rfl ?_
          refine g_goto (pc := 44) C 6 dX0_amountOfPerson_44 (by decide) ?_
          refine g_lvp (lv' := [(0, .ref h0), (1, .int (bI q)), (2, .int (nI a)), (3, .int w), (4, .int (u + (amP c a i w))), (5, .int (nI (i + 1)))]) [2, 3, 4, 5, 1, 0] rfl ?_
          exact ih6 (i + 1) (u + (amP c a i w)) (by omega) (by first | assumption | omega) (by rw [hu]; simp only [sI, amF, c16]; rfl)
  refine g_lvp (lv' := [(0, .ref h0), (1, .int (bI q)), (2, .int (nI a)), (3, .int w), (4, .int (nI 0)), (5, .int (nI 0))]) [2, 3, 4, 5, 1, 0] rfl ?_
  exact L6 _ 0 (nI 0) (Nat.lt_succ_self _) (by first | assumption | omega) (rfl)

abbrev rm_X0_amountOfAll : Room := { frames := 5, cells := 0, slots := 0, locals := 115 }
theorem yd_X0_amountOfAll : yX0_amountOfAll.cls = RX0 ∧ yX0_amountOfAll.cls ≠ "java/lang/invoke/MethodHandle" ∧ yX0_amountOfAll.cls ≠ "java/lang/invoke/VarHandle" ∧ (parseMethodDescriptor yX0_amountOfAll.desc).map (fun d => d.parameters.length) = some 1 := by decide +kernel
set_option maxHeartbeats 4000000 in
set_option maxRecDepth 100000 in
theorem m_X0_amountOfAll (l : Launch) (D : va_G) (cI cC : ClassId) (h0 h1 : Nat) (c : Nat → Int32) (w : Int32) (hc : cOK c) : g_M l yX0_amountOfAll wsX0_amountOfAll rm_X0_amountOfAll D cI cC [.ref h0, .int w] (clW cI cC h0 h1 c) (fun vv ww => vv = some (.int (sI (amA c w) 8)) ∧ ww = (clW cI cC h0 h1 c)) := by
  refine g_entry (lv := [(0, .ref h0), (1, .int w)]) (own := RX0) (by decide) rfl rfl (Nat.le_of_ble_eq_true rfl) rfl ?_
  intro p e s m args below meth co A Q C hr hQ
  refine g_iconst (pc := 0) (v := nI 0) C dX0_amountOfAll_0 (by decide) ?_
  refine g_istore_n (pc := 1) (lv' := [(2, .int (nI 0)), (0, .ref h0), (1, .int w)]) C dX0_amountOfAll_1 rfl (by decide) rfl ?_
  refine g_iconst (pc := 2) (v := nI 0) C dX0_amountOfAll_2 (by decide) ?_
  refine g_istore_n (pc := 3) (lv' := [(3, .int (nI 0)), (2, .int (nI 0)), (0, .ref h0), (1, .int w)]) C dX0_amountOfAll_3 rfl (by decide) rfl ?_
  have L4 : ∀ (NZ : Nat) (i : Nat) (u : Int32), 8 - i < NZ → (i ≤ 8) → (u = sI (amA c w) i) → g_J p l e rm_X0_amountOfAll s m args below meth co Q D A 4 0 0 (clW cI cC h0 h1 c) 4 [(0, .ref h0), (1, .int w), (2, .int u), (3, .int (nI i))] [] := by
    intro NZ
    induction NZ with
    | zero => intro i u hN; exact absurd hN (Nat.not_lt_zero _)
    | succ NZ ih4 =>
      intro i u hN4 hi hu
      refine g_iload_n (pc := 4) C dX0_amountOfAll_4 3 rfl rfl ?_
      refine g_bipush (pc := 5) (v := nI 8) C dX0_amountOfAll_5 (by decide) ?_
      refine g_icmp_geN (pc := 7) C 26 (by omega) (by omega) dX0_amountOfAll_7 (by decide) (fun c7 => ?_) (fun c7 => ?_)
      · refine g_iload_n (pc := 26) C dX0_amountOfAll_26 2 rfl rfl ?_
        refine g_top (y := (sI (amA c w) 8)) (by rw [hu, show i = 8 by omega]) ?_
        exact g_iret C hr hQ dX0_amountOfAll_27 rfl ⟨rfl, rfl⟩
      · refine g_iload_n (pc := 10) C dX0_amountOfAll_10 2 rfl rfl ?_
        refine g_aload_n (pc := 11) C dX0_amountOfAll_11 0 rfl rfl ?_
        refine g_iconst (pc := 12) (v := nI 1) C dX0_amountOfAll_12 (by decide) ?_
        refine g_iload_n (pc := 13) C dX0_amountOfAll_13 3 rfl rfl ?_
        refine g_iload_n (pc := 14) C dX0_amountOfAll_14 1 rfl rfl ?_
        refine g_callV (pc := 15) (st := [.int u]) (As := [.int (bI true), .int (nI i), .int w]) (nn := 3) (ci := 0) (q0 := 0) C (m_X0_amountOfPerson l D cI cC h0 h1 c true i w (by first | assumption | omega) (by first | assumption | omega)) gX0_amountOfAll_X0_amountOfPerson rfl rfl rfl yd_X0_amountOfPerson ⟨Nat.le_of_ble_eq_true rfl, Nat.le_of_ble_eq_true rfl⟩ rfl [0, 1] rfl rfl rfl rfl rfl (Nat.le_of_ble_eq_true rfl) ⟨Nat.le_of_ble_eq_true rfl, Nat.le_of_ble_eq_true rfl⟩ dX0_amountOfAll_15 ?_
        rintro _ _ ⟨rfl, rfl⟩
        refine g_eq (ws' := (clW cI cC h0 h1 c)) (st' := [.int (sI (amF c true i w) 8), .int u]) rfl rfl ?_
        refine g_iadd (pc := 18) C dX0_amountOfAll_18 ?_
        refine g_istore_n (pc := 19) (lv' := [(2, .int (u + (sI (amF c true i w) 8))), (0, .ref h0), (1, .int w), (3, .int (nI i))]) C dX0_amountOfAll_19 rfl (by decide) rfl ?_
        refine g_iinc (pc := 20) (lv' := [(3, .int (nI (i + 1))), (2, .int (u + (sI (amF c true i w) 8))), (0, .ref h0), (1, .int w)]) C dX0_amountOfAll_20 3 rfl (nI_add i 1) (by decide) rfl ?_
        refine g_goto (pc := 23) C 4 dX0_amountOfAll_23 (by decide) ?_
        refine g_lvp (lv' := [(0, .ref h0), (1, .int w), (2, .int (u + (sI (amF c true i w) 8))), (3, .int (nI (i + 1)))]) [2, 3, 1, 0] rfl ?_
        exact ih4 (i + 1) (u + (sI (amF c true i w) 8)) (by omega) (by first | assumption | omega) (by rw [hu]; rfl)
  refine g_lvp (lv' := [(0, .ref h0), (1, .int w), (2, .int (nI 0)), (3, .int (nI 0))]) [2, 3, 1, 0] rfl ?_
  exact L4 _ 0 (nI 0) (Nat.lt_succ_self _) (by first | assumption | omega) (rfl)

abbrev rm_X0_numberOfWishes : Room := { frames := 1, cells := 0, slots := 0, locals := 20 }
theorem yd_X0_numberOfWishes : yX0_numberOfWishes.cls = RX0 ∧ yX0_numberOfWishes.cls ≠ "java/lang/invoke/MethodHandle" ∧ yX0_numberOfWishes.cls ≠ "java/lang/invoke/VarHandle" ∧ (parseMethodDescriptor yX0_numberOfWishes.desc).map (fun d => d.parameters.length) = some 0 := by decide +kernel
theorem in_X0_numberOfWishes_X0 : ∀ w ∈ u_ws RX0 TX0 1, w ∈ wsX0_numberOfWishes := by decide +kernel
theorem fl_X0_numberOfWishes_11 : Cond.fieldLink RX0 11 "FenceHandshakes$Clans" "cells" "[I" ∈ wsX0_numberOfWishes := by decide +kernel
set_option maxHeartbeats 4000000 in
set_option maxRecDepth 100000 in
theorem m_X0_numberOfWishes (l : Launch) (D : va_G) (cI cC : ClassId) (h0 h1 : Nat) (c : Nat → Int32) (hc : cOK c) : g_M l yX0_numberOfWishes wsX0_numberOfWishes rm_X0_numberOfWishes D cI cC [.ref h0] (clW cI cC h0 h1 c) (fun vv ww => vv = some (.int (nI (nwC c 8))) ∧ ww = (clW cI cC h0 h1 c)) := by
  refine g_entry (lv := [(0, .ref h0)]) (own := RX0) (by decide) rfl rfl (Nat.le_of_ble_eq_true rfl) rfl ?_
  intro p e s m args below meth co A Q C hr hQ
  refine g_iconst (pc := 0) (v := nI 0) C dX0_numberOfWishes_0 (by decide) ?_
  refine g_istore_n (pc := 1) (lv' := [(1, .int (nI 0)), (0, .ref h0)]) C dX0_numberOfWishes_1 rfl (by decide) rfl ?_
  refine g_iconst (pc := 2) (v := nI 0) C dX0_numberOfWishes_2 (by decide) ?_
  refine g_istore_n (pc := 3) (lv' := [(2, .int (nI 0)), (1, .int (nI 0)), (0, .ref h0)]) C dX0_numberOfWishes_3 rfl (by decide) rfl ?_
  have L4 : ∀ (NZ : Nat) (i : Nat) (u : Nat), 8 - i < NZ → (i ≤ 8) → (u = nwC c i) → g_J p l e rm_X0_numberOfWishes s m args below meth co Q D A 3 0 0 (clW cI cC h0 h1 c) 4 [(0, .ref h0), (1, .int (nI u)), (2, .int (nI i))] [] := by
    intro NZ
    induction NZ with
    | zero => intro i u hN; exact absurd hN (Nat.not_lt_zero _)
    | succ NZ ih4 =>
      intro i u hN4 hi hu
      refine g_iload_n (pc := 4) C dX0_numberOfWishes_4 2 rfl rfl ?_
      refine g_bipush (pc := 5) (v := nI 8) C dX0_numberOfWishes_5 (by decide) ?_
      refine g_icmp_geN (pc := 7) C 31 (by omega) (by omega) dX0_numberOfWishes_7 (by decide) (fun c7 => ?_) (fun c7 => ?_)
      · refine g_iload_n (pc := 31) C dX0_numberOfWishes_31 1 rfl rfl ?_
        refine g_top (y := nI (nwC c 8)) (by rw [hu, show i = 8 by omega]) ?_
        exact g_iret C hr hQ dX0_numberOfWishes_32 rfl ⟨rfl, rfl⟩
      · refine g_iload_n (pc := 10) C dX0_numberOfWishes_10 1 rfl rfl ?_
        refine g_aload_n (pc := 11) C dX0_numberOfWishes_11 0 rfl rfl ?_
        refine g_get (pc := 12) (ci := 0) (T := TX0) (N := 1) (v := .ref h1) C in_X0_numberOfWishes_X0 0 rfl rfl 0 (by decide) fl_X0_numberOfWishes_11 rfl rfl dX0_numberOfWishes_12 ?_
        refine g_bipush (pc := 15) (v := nI 16) C dX0_numberOfWishes_15 (by decide) ?_
        refine g_iload_n (pc := 17) C dX0_numberOfWishes_17 2 rfl rfl ?_
        refine g_iaddN (pc := 18) C dX0_numberOfWishes_18 ?_
        refine g_ialdN (pc := 19) (f := c) C 1 rfl (by omega) (by decide) dX0_numberOfWishes_19 ?_
        refine g_top (y := nI (cN c (16 + i))) (hc.w (by omega)) ?_
        refine g_callS (pc := 20) (st := [.int (nI u)]) (As := [.int (nI (cN c (16 + i)))]) (nn := 1) C (m_J6_bitCount_0f7a4 l D cI cC (cN c (16 + i)) (Nat.lt_trans (hc.w8 (by omega)) (by decide))) gX0_numberOfWishes_J6_bitCount_0f7a4 rfl rfl rfl yd_J6_bitCount_0f7a4.2 ⟨Nat.le_of_ble_eq_true rfl, Nat.le_of_ble_eq_true rfl⟩ rfl [] rfl rfl rfl (Nat.le_of_ble_eq_true rfl) ⟨Nat.le_of_ble_eq_true rfl, Nat.le_of_ble_eq_true rfl⟩ dX0_numberOfWishes_20 ?_
        rintro _ _ ⟨rfl, rfl⟩
        refine g_eq (ws' := (clW cI cC h0 h1 c)) (st' := [.int (nI (bcN (cN c (16 + i)))), .int (nI u)]) rfl rfl ?_
        refine g_iaddN (pc := 23) C dX0_numberOfWishes_23 ?_
        refine g_istore_n (pc := 24) (lv' := [(1, .int (nI (u + (bcN (cN c (16 + i)))))), (0, .ref h0), (2, .int (nI i))]) C dX0_numberOfWishes_24 rfl (by decide) rfl ?_
        refine g_iinc (pc := 25) (lv' := [(2, .int (nI (i + 1))), (1, .int (nI (u + (bcN (cN c (16 + i)))))), (0, .ref h0)]) C dX0_numberOfWishes_25 2 rfl (nI_add i 1) (by decide) rfl ?_
        refine g_goto (pc := 28) C 4 dX0_numberOfWishes_28 (by decide) ?_
        refine g_lvp (lv' := [(0, .ref h0), (1, .int (nI (u + (bcN (cN c (16 + i)))))), (2, .int (nI (i + 1)))]) [2, 1, 0] rfl ?_
        exact ih4 (i + 1) (u + (bcN (cN c (16 + i)))) (by omega) (by first | assumption | omega) (by rw [hu]; rfl)
  refine g_lvp (lv' := [(0, .ref h0), (1, .int (nI 0)), (2, .int (nI 0))]) [2, 1, 0] rfl ?_
  exact L4 _ 0 0 (Nat.lt_succ_self _) (by first | assumption | omega) (rfl)

abbrev rm_X0_roundsSoFar : Room := { frames := 0, cells := 0, slots := 0, locals := 0 }
theorem yd_X0_roundsSoFar : yX0_roundsSoFar.cls = RX0 ∧ yX0_roundsSoFar.cls ≠ "java/lang/invoke/MethodHandle" ∧ yX0_roundsSoFar.cls ≠ "java/lang/invoke/VarHandle" ∧ (parseMethodDescriptor yX0_roundsSoFar.desc).map (fun d => d.parameters.length) = some 0 := by decide +kernel
theorem in_X0_roundsSoFar_X0 : ∀ w ∈ u_ws RX0 TX0 1, w ∈ wsX0_roundsSoFar := by decide +kernel
theorem fl_X0_roundsSoFar_11 : Cond.fieldLink RX0 11 "FenceHandshakes$Clans" "cells" "[I" ∈ wsX0_roundsSoFar := by decide +kernel
set_option maxHeartbeats 4000000 in
set_option maxRecDepth 100000 in
theorem m_X0_roundsSoFar (l : Launch) (D : va_G) (cI cC : ClassId) (h0 h1 : Nat) (c : Nat → Int32) : g_M l yX0_roundsSoFar wsX0_roundsSoFar rm_X0_roundsSoFar D cI cC [.ref h0] (clW cI cC h0 h1 c) (fun vv ww => vv = some (.int (c 153)) ∧ ww = (clW cI cC h0 h1 c)) := by
  refine g_entry (lv := [(0, .ref h0)]) (own := RX0) (by decide) rfl rfl (Nat.le_of_ble_eq_true rfl) rfl ?_
  intro p e s m args below meth co A Q C hr hQ
  refine g_aload_n (pc := 0) C dX0_roundsSoFar_0 0 rfl rfl ?_
  refine g_get (pc := 1) (ci := 0) (T := TX0) (N := 1) (v := .ref h1) C in_X0_roundsSoFar_X0 0 rfl rfl 0 (by decide) fl_X0_roundsSoFar_11 rfl rfl dX0_roundsSoFar_1 ?_
  refine g_sipush (pc := 4) (v := nI 153) C dX0_roundsSoFar_4 (by decide) ?_
  refine g_ialdN (pc := 7) (f := c) C 1 rfl (by omega) (by decide) dX0_roundsSoFar_7 ?_
  exact g_iret C hr hQ dX0_roundsSoFar_8 rfl ⟨rfl, rfl⟩

abbrev rm_X0_shakeHands : Room := { frames := 1, cells := 0, slots := 0, locals := 22 }
theorem yd_X0_shakeHands : yX0_shakeHands.cls = RX0 ∧ yX0_shakeHands.cls ≠ "java/lang/invoke/MethodHandle" ∧ yX0_shakeHands.cls ≠ "java/lang/invoke/VarHandle" ∧ (parseMethodDescriptor yX0_shakeHands.desc).map (fun d => d.parameters.length) = some 2 := by decide +kernel
theorem in_X0_shakeHands_X0 : ∀ w ∈ u_ws RX0 TX0 1, w ∈ wsX0_shakeHands := by decide +kernel
theorem fl_X0_shakeHands_11 : Cond.fieldLink RX0 11 "FenceHandshakes$Clans" "cells" "[I" ∈ wsX0_shakeHands := by decide +kernel
set_option maxHeartbeats 4000000 in
set_option maxRecDepth 100000 in
theorem m_X0_shakeHands (l : Launch) (D : va_G) (cI cC : ClassId) (h0 h1 : Nat) (c : Nat → Int32) (a : Nat) (b : Nat) (ha : a < 8) (hb : b < 8) (hc : cOK c) : g_M l yX0_shakeHands wsX0_shakeHands rm_X0_shakeHands D cI cC [.ref h0, .int (nI a), .int (nI b)] (clW cI cC h0 h1 c) (fun vv ww => vv = none ∧ ww = (clW cI cC h0 h1 (cClose (cShk c a b) a b))) := by
  refine g_entry (lv := [(0, .ref h0), (1, .int (nI a)), (2, .int (nI b))]) (own := RX0) (by decide) rfl rfl (Nat.le_of_ble_eq_true rfl) rfl ?_
  intro p e s m args below meth co A Q C hr hQ
  refine g_aload_n (pc := 0) C dX0_shakeHands_0 0 rfl rfl ?_
  refine g_get (pc := 1) (ci := 0) (T := TX0) (N := 1) (v := .ref h1) C in_X0_shakeHands_X0 0 rfl rfl 0 (by decide) fl_X0_shakeHands_11 rfl rfl dX0_shakeHands_1 ?_
  refine g_bipush (pc := 4) (v := nI 88) C dX0_shakeHands_4 (by decide) ?_
  refine g_bipush (pc := 6) (v := nI 8) C dX0_shakeHands_6 (by decide) ?_
  refine g_iload_n (pc := 8) C dX0_shakeHands_8 1 rfl rfl ?_
  refine g_imulN (pc := 9) C dX0_shakeHands_9 ?_
  refine g_iaddN (pc := 10) C dX0_shakeHands_10 ?_
  refine g_iload_n (pc := 11) C dX0_shakeHands_11 2 rfl rfl ?_
  refine g_iaddN (pc := 12) C dX0_shakeHands_12 ?_
  refine g_dup2 (pc := 13) C dX0_shakeHands_13 rfl rfl ?_
  refine g_ialdN (pc := 14) (f := c) C 1 rfl (by omega) (by decide) dX0_shakeHands_14 ?_
  refine g_iconst (pc := 15) (v := nI 1) C dX0_shakeHands_15 (by decide) ?_
  refine g_iadd (pc := 16) C dX0_shakeHands_16 ?_
  refine g_iastN (pc := 17) (f := c) (ws' := (clW cI cC h0 h1 (upd c ((88 + (8 * a)) + b) (((c ((88 + (8 * a)) + b)) + (nI 1)))))) C 1 rfl (by omega) (by decide) dX0_shakeHands_17 rfl ?_
  refine g_aload_n (pc := 18) C dX0_shakeHands_18 0 rfl rfl ?_
  refine g_iload_n (pc := 19) C dX0_shakeHands_19 1 rfl rfl ?_
  refine g_iload_n (pc := 20) C dX0_shakeHands_20 2 rfl rfl ?_
  refine g_callV (pc := 21) (st := []) (As := [.int (nI a), .int (nI b)]) (nn := 2) (ci := 0) (q0 := 0) C (m_X0_closeWish l D cI cC h0 h1 (upd c ((88 + (8 * a)) + b) (((c ((88 + (8 * a)) + b)) + (nI 1)))) a b (by first | assumption | omega) (by first | assumption | omega) (cShk_ok hc ha hb)) gX0_shakeHands_X0_closeWish rfl rfl rfl yd_X0_closeWish ⟨Nat.le_of_ble_eq_true rfl, Nat.le_of_ble_eq_true rfl⟩ rfl [0, 1] rfl rfl rfl rfl rfl (Nat.le_of_ble_eq_true rfl) ⟨Nat.le_of_ble_eq_true rfl, Nat.le_of_ble_eq_true rfl⟩ dX0_shakeHands_21 ?_
  rintro _ _ ⟨rfl, rfl⟩
  refine g_eq (ws' := (clW cI cC h0 h1 (upd (upd c ((88 + (8 * a)) + b) (((c ((88 + (8 * a)) + b)) + (nI 1)))) (16 + a) (nI (g_nand (cN (upd c ((88 + (8 * a)) + b) (((c ((88 + (8 * a)) + b)) + (nI 1)))) (16 + a)) (1 <<< b)))))) (st' := []) rfl rfl ?_
  refine g_ws (ws' := (clW cI cC h0 h1 (cClose (cShk c a b) a b))) (rfl) ?_
  exact g_vret C hr hQ dX0_shakeHands_24 rfl ⟨rfl, rfl⟩

abbrev rm_X0_endRound : Room := { frames := 0, cells := 0, slots := 0, locals := 0 }
theorem yd_X0_endRound : yX0_endRound.cls = RX0 ∧ yX0_endRound.cls ≠ "java/lang/invoke/MethodHandle" ∧ yX0_endRound.cls ≠ "java/lang/invoke/VarHandle" ∧ (parseMethodDescriptor yX0_endRound.desc).map (fun d => d.parameters.length) = some 0 := by decide +kernel
theorem in_X0_endRound_X0 : ∀ w ∈ u_ws RX0 TX0 1, w ∈ wsX0_endRound := by decide +kernel
theorem fl_X0_endRound_11 : Cond.fieldLink RX0 11 "FenceHandshakes$Clans" "cells" "[I" ∈ wsX0_endRound := by decide +kernel
set_option maxHeartbeats 4000000 in
set_option maxRecDepth 100000 in
theorem m_X0_endRound (l : Launch) (D : va_G) (cI cC : ClassId) (h0 h1 : Nat) (c : Nat → Int32) : g_M l yX0_endRound wsX0_endRound rm_X0_endRound D cI cC [.ref h0] (clW cI cC h0 h1 c) (fun vv ww => vv = none ∧ ww = (clW cI cC h0 h1 (cEnd c))) := by
  refine g_entry (lv := [(0, .ref h0)]) (own := RX0) (by decide) rfl rfl (Nat.le_of_ble_eq_true rfl) rfl ?_
  intro p e s m args below meth co A Q C hr hQ
  refine g_bipush (pc := 0) (v := nI 24) C dX0_endRound_0 (by decide) ?_
  refine g_istore_n (pc := 2) (lv' := [(1, .int (nI 24)), (0, .ref h0)]) C dX0_endRound_2 rfl (by decide) rfl ?_
  have L3 : ∀ (NZ : Nat) (i : Nat), 88 - i < NZ → (24 ≤ i ∧ i ≤ 88) → g_J p l e rm_X0_endRound s m args below meth co Q D A 2 0 0 (clW cI cC h0 h1 (cFe c i)) 3 [(0, .ref h0), (1, .int (nI i))] [] := by
    intro NZ
    induction NZ with
    | zero => intro i hN; exact absurd hN (Nat.not_lt_zero _)
    | succ NZ ih3 =>
      intro i hN3 hi
      refine g_iload_n (pc := 3) C dX0_endRound_3 1 rfl rfl ?_
      refine g_bipush (pc := 4) (v := nI 88) C dX0_endRound_4 (by decide) ?_
      refine g_icmp_geN (pc := 6) C 34 (by omega) (by omega) dX0_endRound_6 (by decide) (fun c6 => ?_) (fun c6 => ?_)
      · refine g_aload_n (pc := 34) C dX0_endRound_34 0 rfl rfl ?_
        refine g_get (pc := 35) (ci := 0) (T := TX0) (N := 1) (v := .ref h1) C in_X0_endRound_X0 0 rfl rfl 0 (by decide) fl_X0_endRound_11 rfl rfl dX0_endRound_35 ?_
        refine g_sipush (pc := 38) (v := nI 153) C dX0_endRound_38 (by decide) ?_
        refine g_dup2 (pc := 41) C dX0_endRound_41 rfl rfl ?_
        refine g_ialdN (pc := 42) (f := (cFe c i)) C 1 rfl (by omega) (by decide) dX0_endRound_42 ?_
        refine g_iconst (pc := 43) (v := nI 1) C dX0_endRound_43 (by decide) ?_
        refine g_iadd (pc := 44) C dX0_endRound_44 ?_
        refine g_iastN (pc := 45) (f := (cFe c i)) (ws' := (clW cI cC h0 h1 (upd (cFe c i) 153 ((((cFe c i) 153) + (nI 1)))))) C 1 rfl (by omega) (by decide) dX0_endRound_45 rfl ?_
        refine g_ws (ws' := (clW cI cC h0 h1 (cEnd c))) (by rw [show i = 88 by omega]; rfl) ?_
        exact g_vret C hr hQ dX0_endRound_46 rfl ⟨rfl, rfl⟩
      · refine g_aload_n (pc := 9) C dX0_endRound_9 0 rfl rfl ?_
        refine g_get (pc := 10) (ci := 0) (T := TX0) (N := 1) (v := .ref h1) C in_X0_endRound_X0 0 rfl rfl 0 (by decide) fl_X0_endRound_11 rfl rfl dX0_endRound_10 ?_
        refine g_iload_n (pc := 13) C dX0_endRound_13 1 rfl rfl ?_
        refine g_ialdN (pc := 14) (f := (cFe c i)) C 1 rfl (by omega) (by decide) dX0_endRound_14 ?_
        refine g_if_le (pc := 15) C 28 dX0_endRound_15 (by decide) (fun c15 => ?_) (fun c15 => ?_)
        · refine g_iinc (pc := 28) (lv' := [(1, .int (nI (i + 1))), (0, .ref h0)]) C dX0_endRound_28 1 rfl (nI_add i 1) (by decide) rfl ?_
          refine g_goto (pc := 31) C 3 dX0_endRound_31 (by decide) ?_
          refine g_ws (ws' := (clW cI cC h0 h1 (cFe c (i + 1)))) (by rw [cFe_n c (by rw [← cFe_at c i]; exact Int32.not_lt.mpr c15)]) ?_
          refine g_lvp (lv' := [(0, .ref h0), (1, .int (nI (i + 1)))]) [1, 0] rfl ?_
          exact ih3 (i + 1) (by omega) (by first | assumption | omega)
        · refine g_aload_n (pc := 18) C dX0_endRound_18 0 rfl rfl ?_
          refine g_get (pc := 19) (ci := 0) (T := TX0) (N := 1) (v := .ref h1) C in_X0_endRound_X0 0 rfl rfl 0 (by decide) fl_X0_endRound_11 rfl rfl dX0_endRound_19 ?_
          refine g_iload_n (pc := 22) C dX0_endRound_22 1 rfl rfl ?_
          refine g_dup2 (pc := 23) C dX0_endRound_23 rfl rfl ?_
          refine g_ialdN (pc := 24) (f := (cFe c i)) C 1 rfl (by omega) (by decide) dX0_endRound_24 ?_
          refine g_iconst (pc := 25) (v := nI 1) C dX0_endRound_25 (by decide) ?_
          refine g_isub (pc := 26) C dX0_endRound_26 ?_
          refine g_iastN (pc := 27) (f := (cFe c i)) (ws' := (clW cI cC h0 h1 (upd (cFe c i) i ((((cFe c i) i) - (nI 1)))))) C 1 rfl (by omega) (by decide) dX0_endRound_27 rfl ?_
          refine g_iinc (pc := 28) (lv' := [(1, .int (nI (i + 1))), (0, .ref h0)]) C dX0_endRound_28 1 rfl (nI_add i 1) (by decide) rfl ?_
          refine g_goto (pc := 31) C 3 dX0_endRound_31 (by decide) ?_
          refine g_ws (ws' := (clW cI cC h0 h1 (cFe c (i + 1)))) (by rw [cFe_s c (by omega) (by rw [← cFe_at c i]; exact Int32.not_le.mp c15)]) ?_
          refine g_lvp (lv' := [(0, .ref h0), (1, .int (nI (i + 1)))]) [1, 0] rfl ?_
          exact ih3 (i + 1) (by omega) (by first | assumption | omega)
  refine g_ws (ws' := clW cI cC h0 h1 (cFe c 24)) (by rw [cFe_0]) ?_
  refine g_lvp (lv' := [(0, .ref h0), (1, .int (nI 24))]) [1, 0] rfl ?_
  exact L3 _ 24 (Nat.lt_succ_self _) (by first | assumption | omega)

abbrev rm_X0_copyFrom : Room := { frames := 1, cells := 0, slots := 0, locals := 26 }
theorem yd_X0_copyFrom : yX0_copyFrom.cls = RX0 ∧ yX0_copyFrom.cls ≠ "java/lang/invoke/MethodHandle" ∧ yX0_copyFrom.cls ≠ "java/lang/invoke/VarHandle" ∧ (parseMethodDescriptor yX0_copyFrom.desc).map (fun d => d.parameters.length) = some 1 := by decide +kernel
theorem in_X0_copyFrom_X0 : ∀ w ∈ u_ws RX0 TX0 1, w ∈ wsX0_copyFrom := by decide +kernel
theorem fl_X0_copyFrom_11 : Cond.fieldLink RX0 11 "FenceHandshakes$Clans" "cells" "[I" ∈ wsX0_copyFrom := by decide +kernel
set_option maxHeartbeats 4000000 in
set_option maxRecDepth 100000 in
theorem m_X0_copyFrom (l : Launch) (D : va_G) (cI cC : ClassId) (h0 h1 k0 k1 : Nat) (c : Nat → Int32) (d : Nat → Int32) : g_M l yX0_copyFrom wsX0_copyFrom rm_X0_copyFrom D cI cC [.ref h0, .ref k0] (cpW cI cC h0 h1 k0 k1 c d) (fun vv ww => vv = none ∧ ww = (cpW cI cC h0 h1 k0 k1 (va_cpy d c 0 0 154) d)) := by
  refine g_entry (lv := [(0, .ref h0), (1, .ref k0)]) (own := RX0) (by decide) rfl rfl (Nat.le_of_ble_eq_true rfl) rfl ?_
  intro p e s m args below meth co A Q C hr hQ
  refine g_aload_n (pc := 0) C dX0_copyFrom_0 1 rfl rfl ?_
  refine g_get (pc := 1) (ci := 0) (T := TX0) (N := 1) (v := .ref k1) C in_X0_copyFrom_X0 2 rfl rfl 0 (by decide) fl_X0_copyFrom_11 rfl rfl dX0_copyFrom_1 ?_
  refine g_iconst (pc := 4) (v := nI 0) C dX0_copyFrom_4 (by decide) ?_
  refine g_aload_n (pc := 5) C dX0_copyFrom_5 0 rfl rfl ?_
  refine g_get (pc := 6) (ci := 0) (T := TX0) (N := 1) (v := .ref h1) C in_X0_copyFrom_X0 0 rfl rfl 0 (by decide) fl_X0_copyFrom_11 rfl rfl dX0_copyFrom_6 ?_
  refine g_iconst (pc := 9) (v := nI 0) C dX0_copyFrom_9 (by decide) ?_
  refine g_sipush (pc := 10) (v := nI 154) C dX0_copyFrom_10 (by decide) ?_
  refine g_copyi (pc := 13) (f := d) (g := c) (ws' := (cpW cI cC h0 h1 k0 k1 (va_cpy d c 0 0 154) d)) C (by decide +kernel) (by decide +kernel) (by decide +kernel) (by decide +kernel) 3 1 rfl rfl (by omega) (by omega) (by decide) (by decide) (by decide) (Nat.le_of_ble_eq_true rfl) dX0_copyFrom_13 rfl ?_
  exact g_vret C hr hQ dX0_copyFrom_16 rfl ⟨rfl, rfl⟩

abbrev rm_X0_hasWishOverUnlinkedGates : Room := { frames := 2, cells := 0, slots := 0, locals := 43 }
theorem yd_X0_hasWishOverUnlinkedGates : yX0_hasWishOverUnlinkedGates.cls = RX0 ∧ yX0_hasWishOverUnlinkedGates.cls ≠ "java/lang/invoke/MethodHandle" ∧ yX0_hasWishOverUnlinkedGates.cls ≠ "java/lang/invoke/VarHandle" ∧ (parseMethodDescriptor yX0_hasWishOverUnlinkedGates.desc).map (fun d => d.parameters.length) = some 0 := by decide +kernel
set_option maxHeartbeats 4000000 in
set_option maxRecDepth 100000 in
theorem m_X0_hasWishOverUnlinkedGates (l : Launch) (D : va_G) (cI cC : ClassId) (h0 h1 : Nat) (c : Nat → Int32) (hc : cOK c) : g_M l yX0_hasWishOverUnlinkedGates wsX0_hasWishOverUnlinkedGates rm_X0_hasWishOverUnlinkedGates D cI cC [.ref h0] (clW cI cC h0 h1 c) (fun vv ww => ∃ (r : Bool), vv = some (.int (bI r)) ∧ ww = (clW cI cC h0 h1 c) ∧ (r = true ↔ ∃ a, a < 8 ∧ ∃ b, b < 8 ∧ wiC c a b = true ∧ glC c a b = false)) := by
  refine g_entry (lv := [(0, .ref h0)]) (own := RX0) (by decide) rfl rfl (Nat.le_of_ble_eq_true rfl) rfl ?_
  intro p e s m args below meth co A Q C hr hQ
  refine g_iconst (pc := 0) (v := nI 0) C dX0_hasWishOverUnlinkedGates_0 (by decide) ?_
  refine g_istore_n (pc := 1) (lv' := [(1, .int (nI 0)), (0, .ref h0)]) C dX0_hasWishOverUnlinkedGates_1 rfl (by decide) rfl ?_
  have L2 : ∀ (NZ : Nat) (i : Nat), 8 - i < NZ → (i ≤ 8) → (∀ a, a < i → ∀ b, b < 8 → wiC c a b = true → glC c a b = true) → g_J p l e rm_X0_hasWishOverUnlinkedGates s m args below meth co Q D A 3 0 0 (clW cI cC h0 h1 c) 2 [(0, .ref h0), (1, .int (nI i))] [] := by
    intro NZ
    induction NZ with
    | zero => intro i hN; exact absurd hN (Nat.not_lt_zero _)
    | succ NZ ih2 =>
      intro i hN2 hi hA
      refine g_iload_n (pc := 2) C dX0_hasWishOverUnlinkedGates_2 1 rfl rfl ?_
      refine g_bipush (pc := 3) (v := nI 8) C dX0_hasWishOverUnlinkedGates_3 (by decide) ?_
      refine g_icmp_geN (pc := 5) C 48 (by omega) (by omega) dX0_hasWishOverUnlinkedGates_5 (by decide) (fun c5 => ?_) (fun c5 => ?_)
      · refine g_iconst (pc := 48) (v := nI 0) C dX0_hasWishOverUnlinkedGates_48 (by decide) ?_
        refine g_top (y := bI false) (rfl) ?_
        exact g_zret C hr hQ dX0_hasWishOverUnlinkedGates_49 rfl ⟨false, rfl, rfl, ⟨fun h => (by cases h), fun ⟨a, h1, b, h2, h3, h4⟩ => (by rw [hA a (by omega) b h2 h3] at h4; cases h4)⟩⟩
      · refine g_iconst (pc := 8) (v := nI 0) C dX0_hasWishOverUnlinkedGates_8 (by decide) ?_
        refine g_istore_n (pc := 9) (lv' := [(2, .int (nI 0)), (0, .ref h0), (1, .int (nI i))]) C dX0_hasWishOverUnlinkedGates_9 rfl (by decide) rfl ?_
        have L10 : ∀ (NZ : Nat) (j : Nat), 8 - j < NZ → (j ≤ 8) → (∀ b, b < j → wiC c i b = true → glC c i b = true) → g_J p l e rm_X0_hasWishOverUnlinkedGates s m args below meth co Q D A 3 0 0 (clW cI cC h0 h1 c) 10 [(0, .ref h0), (1, .int (nI i)), (2, .int (nI j))] [] := by
          intro NZ
          induction NZ with
          | zero => intro j hN; exact absurd hN (Nat.not_lt_zero _)
          | succ NZ ih10 =>
            intro j hN10 hj hB
            refine g_iload_n (pc := 10) C dX0_hasWishOverUnlinkedGates_10 2 rfl rfl ?_
            refine g_bipush (pc := 11) (v := nI 8) C dX0_hasWishOverUnlinkedGates_11 (by decide) ?_
            refine g_icmp_geN (pc := 13) C 42 (by omega) (by omega) dX0_hasWishOverUnlinkedGates_13 (by decide) (fun c13 => ?_) (fun c13 => ?_)
            · refine g_iinc (pc := 42) (lv' := [(1, .int (nI (i + 1))), (0, .ref h0), (2, .int (nI j))]) C dX0_hasWishOverUnlinkedGates_42 1 rfl (nI_add i 1) (by decide) rfl ?_
              refine g_goto (pc := 45) C 2 dX0_hasWishOverUnlinkedGates_45 (by decide) ?_
              refine g_lvp (lv' := [(0, .ref h0), (1, .int (nI (i + 1)))]) [1, 0] rfl ?_
              exact ih2 (i + 1) (by omega) (by first | assumption | omega) (fun a h b hb => (Nat.lt_succ_iff_lt_or_eq.mp h).elim (fun h => hA a h b hb) (fun h => by subst h; exact hB b (by omega)))
            · refine g_aload_n (pc := 16) C dX0_hasWishOverUnlinkedGates_16 0 rfl rfl ?_
              refine g_iload_n (pc := 17) C dX0_hasWishOverUnlinkedGates_17 1 rfl rfl ?_
              refine g_iload_n (pc := 18) C dX0_hasWishOverUnlinkedGates_18 2 rfl rfl ?_
              refine g_callV (pc := 19) (st := []) (As := [.int (nI i), .int (nI j)]) (nn := 2) (ci := 0) (q0 := 0) C (m_X0_hasWish l D cI cC h0 h1 c i j (by first | assumption | omega) (by first | assumption | omega) (by first | assumption | omega)) gX0_hasWishOverUnlinkedGates_X0_hasWish rfl rfl rfl yd_X0_hasWish ⟨Nat.le_of_ble_eq_true rfl, Nat.le_of_ble_eq_true rfl⟩ rfl [0, 1] rfl rfl rfl rfl rfl (Nat.le_of_ble_eq_true rfl) ⟨Nat.le_of_ble_eq_true rfl, Nat.le_of_ble_eq_true rfl⟩ dX0_hasWishOverUnlinkedGates_19 ?_
              rintro _ _ ⟨rfl, rfl⟩
              refine g_eq (ws' := (clW cI cC h0 h1 c)) (st' := [.int (bI (wiC c i j))]) rfl rfl ?_
              refine g_if_eqB (pc := 22) C 36 dX0_hasWishOverUnlinkedGates_22 (by decide) (fun c22 => ?_) (fun c22 => ?_)
              · refine g_iinc (pc := 36) (lv' := [(2, .int (nI (j + 1))), (0, .ref h0), (1, .int (nI i))]) C dX0_hasWishOverUnlinkedGates_36 2 rfl (nI_add j 1) (by decide) rfl ?_
                refine g_goto (pc := 39) C 10 dX0_hasWishOverUnlinkedGates_39 (by decide) ?_
                refine g_lvp (lv' := [(0, .ref h0), (1, .int (nI i)), (2, .int (nI (j + 1)))]) [1, 2, 0] rfl ?_
                exact ih10 (j + 1) (by omega) (by first | assumption | omega) (fun b hb => (Nat.lt_succ_iff_lt_or_eq.mp hb).elim (fun h => hB b h) (fun h => by subst h; first | (intro _; exact c31) | (intro hw; rw [hw] at c22; exact absurd c22 (by decide))))
              · refine g_aload_n (pc := 25) C dX0_hasWishOverUnlinkedGates_25 0 rfl rfl ?_
                refine g_iload_n (pc := 26) C dX0_hasWishOverUnlinkedGates_26 1 rfl rfl ?_
                refine g_iload_n (pc := 27) C dX0_hasWishOverUnlinkedGates_27 2 rfl rfl ?_
                refine g_callV (pc := 28) (st := []) (As := [.int (nI i), .int (nI j)]) (nn := 2) (ci := 0) (q0 := 0) C (m_X0_areAtLinkedGates l D cI cC h0 h1 c i j (by first | assumption | omega) (by first | assumption | omega) (by first | assumption | omega)) gX0_hasWishOverUnlinkedGates_X0_areAtLinkedGates rfl rfl rfl yd_X0_areAtLinkedGates ⟨Nat.le_of_ble_eq_true rfl, Nat.le_of_ble_eq_true rfl⟩ rfl [0, 1] rfl rfl rfl rfl rfl (Nat.le_of_ble_eq_true rfl) ⟨Nat.le_of_ble_eq_true rfl, Nat.le_of_ble_eq_true rfl⟩ dX0_hasWishOverUnlinkedGates_28 ?_
                rintro _ _ ⟨rfl, rfl⟩
                refine g_eq (ws' := (clW cI cC h0 h1 c)) (st' := [.int (bI (glC c i j))]) rfl rfl ?_
                refine g_if_neB (pc := 31) C 36 dX0_hasWishOverUnlinkedGates_31 (by decide) (fun c31 => ?_) (fun c31 => ?_)
                · refine g_iinc (pc := 36) (lv' := [(2, .int (nI (j + 1))), (0, .ref h0), (1, .int (nI i))]) C dX0_hasWishOverUnlinkedGates_36 2 rfl (nI_add j 1) (by decide) rfl ?_
                  refine g_goto (pc := 39) C 10 dX0_hasWishOverUnlinkedGates_39 (by decide) ?_
                  refine g_lvp (lv' := [(0, .ref h0), (1, .int (nI i)), (2, .int (nI (j + 1)))]) [1, 2, 0] rfl ?_
                  exact ih10 (j + 1) (by omega) (by first | assumption | omega) (fun b hb => (Nat.lt_succ_iff_lt_or_eq.mp hb).elim (fun h => hB b h) (fun h => by subst h; first | (intro _; exact c31) | (intro hw; rw [hw] at c22; exact absurd c22 (by decide))))
                · refine g_iconst (pc := 34) (v := nI 1) C dX0_hasWishOverUnlinkedGates_34 (by decide) ?_
                  refine g_top (y := bI true) (rfl) ?_
                  exact g_zret C hr hQ dX0_hasWishOverUnlinkedGates_35 rfl ⟨true, rfl, rfl, ⟨fun _ => ⟨i, c5, j, c13, c22, c31⟩, fun _ => rfl⟩⟩
        refine g_lvp (lv' := [(0, .ref h0), (1, .int (nI i)), (2, .int (nI 0))]) [1, 2, 0] rfl ?_
        exact L10 _ 0 (Nat.lt_succ_self _) (by first | assumption | omega) (fun a h => absurd h (Nat.not_lt_zero _))
  refine g_lvp (lv' := [(0, .ref h0), (1, .int (nI 0))]) [1, 0] rfl ?_
  exact L2 _ 0 (Nat.lt_succ_self _) (by first | assumption | omega) (fun a h => absurd h (Nat.not_lt_zero _))
