abbrev rm_L_low : Room := { frames := 0, cells := 0, slots := 0, locals := 0 }
theorem yd_L_low : yL_low.cls = RL ∧ yL_low.cls ≠ "java/lang/invoke/MethodHandle" ∧ yL_low.cls ≠ "java/lang/invoke/VarHandle" ∧ (parseMethodDescriptor yL_low.desc).map (fun d => d.parameters.length) = some 2 := by decide +kernel
set_option maxHeartbeats 4000000 in
set_option maxRecDepth 100000 in
theorem m_L_low (l : Launch) (D : va_G) (cI cC : ClassId) (v : Int32) (n0 : Nat) (h0 : 0 < n0) (hn : n0 < 2 ^ 31) : g_M l yL_low wsL_low rm_L_low D cI cC [.int v, .int (nI n0)] [] (fun vv ww => vv = some (.int (nI (lowN v n0))) ∧ ww = []) := by
  refine g_entry (lv := [(0, .int v), (1, .int (nI n0))]) (own := RL) (by decide) rfl rfl (Nat.le_of_ble_eq_true rfl) rfl ?_
  intro p e s m args below meth co A Q C hr hQ
  refine g_iload_n (pc := 0) C dL_low_0 0 rfl rfl ?_
  refine g_ldc (pc := 1) (v := 2147483647) C dL_low_1 (by decide +kernel) ?_
  refine g_iand (pc := 3) C dL_low_3 ?_
  refine g_top (y := nI ((v &&& 2147483647).toNatClampNeg)) ((low_nn v).1) ?_
  refine g_iload_n (pc := 4) C dL_low_4 1 rfl rfl ?_
  refine g_iremN (pc := 5) C dL_low_5 (low_nn v).2 h0 hn ?_
  refine g_top (y := nI (lowN v n0)) (rfl) ?_
  exact g_iret C hr hQ dL_low_6 rfl ⟨rfl, rfl⟩
abbrev rm_L_ones : Room := { frames := 0, cells := 0, slots := 0, locals := 0 }
theorem yd_L_ones : yL_ones.cls = RL ∧ yL_ones.cls ≠ "java/lang/invoke/MethodHandle" ∧ yL_ones.cls ≠ "java/lang/invoke/VarHandle" ∧ (parseMethodDescriptor yL_ones.desc).map (fun d => d.parameters.length) = some 1 := by decide +kernel
set_option maxHeartbeats 4000000 in
set_option maxRecDepth 100000 in
theorem m_L_ones (l : Launch) (D : va_G) (cI cC : ClassId) (x0_ : Nat) (hx0 : x0_ < 256) : g_M l yL_ones wsL_ones rm_L_ones D cI cC [.int (nI x0_)] [] (fun vv ww => vv = some (.int (nI (cnt (fun k => x0_.testBit k) 8))) ∧ ww = []) := by
  refine g_entry (lv := [(0, .int (nI x0_))]) (own := RL) (by decide) rfl rfl (Nat.le_of_ble_eq_true rfl) rfl ?_
  intro p e s m args below meth co A Q C hr hQ
  refine g_iconst (pc := 0) (v := nI 0) C dL_ones_0 (by decide) ?_
  refine g_istore_n (pc := 1) (lv' := [(1, .int (nI 0)), (0, .int (nI x0_))]) C dL_ones_1 rfl (by decide) rfl ?_
  refine g_iload_n (pc := 2) C dL_ones_2 1 rfl rfl ?_
  refine g_istore_n (pc := 3) (lv' := [(2, .int (nI x0_)), (1, .int (nI 0)), (0, .int (nI x0_))]) C dL_ones_3 rfl (by decide) rfl ?_
  have L4 : ∀ (NZ : Nat) (x : Nat) (u : Nat), x < NZ → (x < 256) → (u + cnt (fun k => x.testBit k) 8 = cnt (fun k => x0_.testBit k) 8) → g_J p l e rm_L_ones s m args below meth co Q D A 3 0 0 [] 4 [(0, .int (nI x0_)), (1, .int (nI u)), (2, .int (nI x))] [] := by
    intro NZ
    induction NZ with
    | zero => intro x u hN; exact absurd hN (Nat.not_lt_zero _)
    | succ NZ ih4 =>
      intro x u hN4 hx hu
      refine g_iload_n (pc := 4) C dL_ones_4 2 rfl rfl ?_
      refine g_if_leN (pc := 5) C 20 (by omega) dL_ones_5 (by decide) (fun c5 => ?_) (fun c5 => ?_)
      · refine g_iload_n (pc := 20) C dL_ones_20 1 rfl rfl ?_
        refine g_top (y := nI (cnt (fun k => x0_.testBit k) 8)) (by rw [c5, ones_zero, Nat.add_zero] at hu; rw [hu]) ?_
        exact g_iret C hr hQ dL_ones_21 rfl ⟨rfl, rfl⟩
      · refine g_iinc (pc := 8) (lv' := [(1, .int (nI (u + 1))), (0, .int (nI x0_)), (2, .int (nI x))]) C dL_ones_8 1 rfl (nI_add u 1) (by decide) rfl ?_
        refine g_iload_n (pc := 11) C dL_ones_11 2 rfl rfl ?_
        refine g_iload_n (pc := 12) C dL_ones_12 2 rfl rfl ?_
        refine g_iconst (pc := 13) (v := nI 1) C dL_ones_13 (by decide) ?_
        refine g_isubN (pc := 14) C dL_ones_14 (by omega) ?_
        refine g_iandN (pc := 15) C dL_ones_15 ?_
        refine g_istore_n (pc := 16) (lv' := [(2, .int (nI (x &&& (x - 1)))), (1, .int (nI (u + 1))), (0, .int (nI x0_))]) C dL_ones_16 rfl (by decide) rfl ?_
        refine g_goto (pc := 17) C 4 dL_ones_17 (by decide) ?_
        refine g_lvp (lv' := [(0, .int (nI x0_)), (1, .int (nI (u + 1))), (2, .int (nI (x &&& (x - 1))))]) [2, 1, 0] rfl ?_
        exact ih4 (x &&& (x - 1)) (u + 1) (by have : x &&& (x - 1) ≤ x - 1 := Nat.and_le_right; omega) (Nat.lt_of_le_of_lt Nat.and_le_left hx) (by have := ones_step x hx (by omega); omega)
  refine g_lvp (lv' := [(0, .int (nI x0_)), (1, .int (nI 0)), (2, .int (nI x0_))]) [2, 1, 0] rfl ?_
  exact L4 _ x0_ 0 (Nat.lt_succ_self _) (by first | assumption | omega) (Nat.zero_add _)
abbrev rm_L_cell : Room := { frames := 0, cells := 0, slots := 0, locals := 0 }
theorem yd_L_cell : yL_cell.cls = RL ∧ yL_cell.cls ≠ "java/lang/invoke/MethodHandle" ∧ yL_cell.cls ≠ "java/lang/invoke/VarHandle" ∧ (parseMethodDescriptor yL_cell.desc).map (fun d => d.parameters.length) = some 2 := by decide +kernel
theorem m_L_cell (l : Launch) (D : va_G) (cI cC : ClassId) (sb SL : Nat) (xs : Nat → Int32) (kk : Nat) (hk : kk < 2 ^ 31) (hL : SL < 2 ^ 31) : g_MX l yL_cell wsL_cell rm_L_cell D cI cC [.ref sb, .int (nI kk)] sb SL xs (fun vv ww => ww = [] ∧ ∃ x, vv = some (.int x)) := by
  refine g_entryX (lv := [(0, .ref sb), (1, .int (nI kk))]) (own := RL) (by decide) rfl rfl (Nat.le_of_ble_eq_true rfl) rfl ?_
  intro p e s m args below meth co A Q C S0 hr hQ
  refine g_iload_n (pc := 0) C dL_cell_0 1 rfl rfl ?_
  refine g_aload_n (pc := 1) C dL_cell_1 0 rfl rfl ?_
  refine g_slen (pc := 2) C S0 dL_cell_2 ?_
  refine g_icmp_geN (pc := 3) C 12 (by omega) (by omega) dL_cell_3 (by decide) (fun c3 => ?_) (fun c3 => ?_)
  · refine g_sipush (pc := 12) (v := nI 7919) C dL_cell_12 (by decide) ?_
    refine g_iload_n (pc := 15) C dL_cell_15 1 rfl rfl ?_
    refine g_iconst (pc := 16) (v := nI 3) C dL_cell_16 (by decide) ?_
    refine g_iaddN (pc := 17) C dL_cell_17 ?_
    refine g_imulN (pc := 18) C dL_cell_18 ?_
    refine g_iload_n (pc := 19) C dL_cell_19 1 rfl rfl ?_
    refine g_bipush (pc := 20) (v := nI 11) C dL_cell_20 (by decide) ?_
    refine g_iaddN (pc := 22) C dL_cell_22 ?_
    refine g_imulN (pc := 23) C dL_cell_23 ?_
    exact g_iret C hr hQ dL_cell_24 rfl ⟨rfl, _, rfl⟩
  · refine g_aload_n (pc := 6) C dL_cell_6 0 rfl rfl ?_
    refine g_iload_n (pc := 7) C dL_cell_7 1 rfl rfl ?_
    refine g_sld (pc := 8) C S0 (by omega) hL dL_cell_8 ?_
    refine g_goto (pc := 9) C 24 dL_cell_9 (by decide) ?_
    exact g_iret C hr hQ dL_cell_24 rfl ⟨rfl, _, rfl⟩
