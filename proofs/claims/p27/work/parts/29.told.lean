abbrev rm_L_told : Room := { frames := 7, cells := 0, slots := 0, locals := 171 }
theorem yd_L_told : yL_told.cls = RL ∧ yL_told.cls ≠ "java/lang/invoke/MethodHandle" ∧ yL_told.cls ≠ "java/lang/invoke/VarHandle" ∧ (parseMethodDescriptor yL_told.desc).map (fun d => d.parameters.length) = some 1 := by decide +kernel
set_option maxHeartbeats 4000000 in
set_option maxRecDepth 100000 in
theorem m_L_told (l : Launch) (D : va_G) (cI cC : ClassId) (x0 n0 n1 t0 t1 s0 s1 g0 g1 w0 w1 w2 m0 m1 m2 m3 m4 p0 p1 : Nat) (c : Nat → Int32) (ct : Nat → Int32) (cs : Nat → Int32) (r : Nat → Int32) (sg : Nat → Int32) (tr : Nat → Int32) (wi : Nat → Int32) (ol : Nat → Int32) (orr : Nat → Int32) (sf : Nat → Int32) (nb : Nat → Int32) (hs : Bool) (od : Nat) (z : Nat) (ln : Nat) (lf : Nat) (rg : Nat) (bd : Bool) (rl : Nat) (hc : cOK c) (hrl : rl < 256) : g_M l yL_told wsL_told rm_L_told D cI cC [.ref x0] (xW cI cC x0 n0 n1 t0 t1 s0 s1 g0 g1 w0 w1 w2 m0 m1 m2 m3 m4 p0 p1 (bI hs) c ct cs r (nI od) (nI z) sg (nI ln) tr (nI lf) (nI rg) (bI bd) wi ol orr sf (nI rl) nb) (fun vv ww => ∃ (wi2 : Nat → Int32) (ol2 : Nat → Int32) (orr2 : Nat → Int32) (sf2 : Nat → Int32) (rl2 : Nat), vv = some (.long (TD c)) ∧ ww = (xW cI cC x0 n0 n1 t0 t1 s0 s1 g0 g1 w0 w1 w2 m0 m1 m2 m3 m4 p0 p1 (bI hs) c ct cs r (nI od) (nI z) sg (nI ln) tr (nI lf) (nI rg) (bI bd) wi2 ol2 orr2 sf2 (nI rl2) nb) ∧ rl2 < 256) := by
  refine g_entry (lv := [(0, .ref x0)]) (own := RL) (by decide) rfl rfl (Nat.le_of_ble_eq_true rfl) rfl ?_
  intro p e s m args below meth co A Q C hr hQ
  refine g_ldc2 (pc := 0) (v := 3) C dL_told_0 (by decide +kernel) ?_
  refine g_lstore_n (pc := 3) (lv' := [(1, .long 3), (0, .ref x0)]) C dL_told_3 rfl (by decide) rfl ?_
  refine g_lveq (lv' := [(1, .long (tA c 0)), (0, .ref x0)]) (rfl) ?_
  refine g_iconst (pc := 4) (v := nI 0) C dL_told_4 (by decide) ?_
  refine g_istore_n (pc := 5) (lv' := [(3, .int (nI 0)), (1, .long (tA c 0)), (0, .ref x0)]) C dL_told_5 rfl (by decide) rfl ?_
  have L6 : ∀ (NZ : Nat) (k : Nat) (wi1 : Nat → Int32) (ol1 : Nat → Int32) (orr1 : Nat → Int32) (sf1 : Nat → Int32) (rl1 : Nat), 6 - k < NZ → (k ≤ 6) → (rl1 < 256) → g_J p l e rm_L_told s m args below meth co Q D A 4 0 0 (xW cI cC x0 n0 n1 t0 t1 s0 s1 g0 g1 w0 w1 w2 m0 m1 m2 m3 m4 p0 p1 (bI hs) c ct cs r (nI od) (nI z) sg (nI ln) tr (nI lf) (nI rg) (bI bd) wi1 ol1 orr1 sf1 (nI rl1) nb) 6 [(0, .ref x0), (1, .long (tA c k)), (3, .int (nI k))] [] := by
    intro NZ
    induction NZ with
    | zero => intro k wi1 ol1 orr1 sf1 rl1 hN; exact absurd hN (Nat.not_lt_zero _)
    | succ NZ ih6 =>
      intro k wi1 ol1 orr1 sf1 rl1 hN6 hk hrl1
      refine g_iload_n (pc := 6) C dL_told_6 2 rfl rfl ?_
      refine g_bipush (pc := 7) (v := nI 6) C dL_told_7 (by decide) ?_
      refine g_icmp_geN (pc := 9) C 31 (by omega) (by omega) dL_told_9 (by decide) (fun c9 => ?_) (fun c9 => ?_)
      · refine g_lveq (lv' := [(0, .ref x0), (1, .long (tB c 0)), (3, .int (nI k))]) (by rw [show k = 6 by omega]; rfl) ?_
        refine g_iconst (pc := 31) (v := nI 0) C dL_told_31 (by decide) ?_
        refine g_istore_n (pc := 32) (lv' := [(3, .int (nI 0)), (0, .ref x0), (1, .long (tB c 0))]) C dL_told_32 rfl (by decide) rfl ?_
        have L33 : ∀ (NZ : Nat) (k2 : Nat) (wi1 : Nat → Int32) (ol1 : Nat → Int32) (orr1 : Nat → Int32) (sf1 : Nat → Int32) (rl1 : Nat), 64 - k2 < NZ → (k2 ≤ 64) → (rl1 < 256) → g_J p l e rm_L_told s m args below meth co Q D A 4 0 0 (xW cI cC x0 n0 n1 t0 t1 s0 s1 g0 g1 w0 w1 w2 m0 m1 m2 m3 m4 p0 p1 (bI hs) c ct cs r (nI od) (nI z) sg (nI ln) tr (nI lf) (nI rg) (bI bd) wi1 ol1 orr1 sf1 (nI rl1) nb) 33 [(0, .ref x0), (1, .long (tB c k2)), (3, .int (nI k2))] [] := by
          intro NZ
          induction NZ with
          | zero => intro k2 wi1 ol1 orr1 sf1 rl1 hN; exact absurd hN (Nat.not_lt_zero _)
          | succ NZ ih33 =>
            intro k2 wi1 ol1 orr1 sf1 rl1 hN33 hk hrl1
            refine g_iload_n (pc := 33) C dL_told_33 2 rfl rfl ?_
            refine g_bipush (pc := 34) (v := nI 64) C dL_told_34 (by decide) ?_
            refine g_icmp_geN (pc := 36) C 104 (by omega) (by omega) dL_told_36 (by decide) (fun c36 => ?_) (fun c36 => ?_)
            · refine g_lveq (lv' := [(0, .ref x0), (1, .long (tC c 0)), (3, .int (nI k2))]) (by rw [show k2 = 64 by omega]; rfl) ?_
              refine g_iconst (pc := 104) (v := nI 0) C dL_told_104 (by decide) ?_
              refine g_istore_n (pc := 105) (lv' := [(3, .int (nI 0)), (0, .ref x0), (1, .long (tC c 0))]) C dL_told_105 rfl (by decide) rfl ?_
              have L106 : ∀ (NZ : Nat) (k3 : Nat) (wi1 : Nat → Int32) (ol1 : Nat → Int32) (orr1 : Nat → Int32) (sf1 : Nat → Int32) (rl1 : Nat), 16 - k3 < NZ → (k3 ≤ 16) → (rl1 < 256) → g_J p l e rm_L_told s m args below meth co Q D A 4 0 0 (xW cI cC x0 n0 n1 t0 t1 s0 s1 g0 g1 w0 w1 w2 m0 m1 m2 m3 m4 p0 p1 (bI hs) c ct cs r (nI od) (nI z) sg (nI ln) tr (nI lf) (nI rg) (bI bd) wi1 ol1 orr1 sf1 (nI rl1) nb) 106 [(0, .ref x0), (1, .long (tC c k3)), (3, .int (nI k3))] [] := by
                intro NZ
                induction NZ with
                | zero => intro k3 wi1 ol1 orr1 sf1 rl1 hN; exact absurd hN (Nat.not_lt_zero _)
                | succ NZ ih106 =>
                  intro k3 wi1 ol1 orr1 sf1 rl1 hN106 hk hrl1
                  refine g_iload_n (pc := 106) C dL_told_106 2 rfl rfl ?_
                  refine g_bipush (pc := 107) (v := nI 16) C dL_told_107 (by decide) ?_
                  refine g_icmp_geN (pc := 109) C 162 (by omega) (by omega) dL_told_109 (by decide) (fun c109 => ?_) (fun c109 => ?_)
                  · refine g_lload_n (pc := 162) C dL_told_162 1 rfl rfl ?_
                    refine g_topl (y := (TD c)) (by rw [show k3 = 16 by omega]; rfl) ?_
                    exact g_lret C hr hQ dL_told_163 rfl ⟨_, _, _, _, _, rfl, rfl, hrl1⟩
                  · refine g_ldc2 (pc := 112) (v := 31) C dL_told_112 (by decide +kernel) ?_
                    refine g_ldc2 (pc := 115) (v := 31) C dL_told_115 (by decide +kernel) ?_
                    refine g_lload_n (pc := 118) C dL_told_118 1 rfl rfl ?_
                    refine g_lmul (pc := 119) C dL_told_119 ?_
                    refine g_aload_n (pc := 120) C dL_told_120 0 rfl rfl ?_
                    refine g_iload_n (pc := 121) C dL_told_121 2 rfl rfl ?_
                    refine g_iconst (pc := 122) (v := nI 4) C dL_told_122 (by decide) ?_
                    refine g_idivN (pc := 123) C dL_told_123 (by omega) (by omega) (by omega) ?_
                    refine g_iload_n (pc := 124) C dL_told_124 2 rfl rfl ?_
                    refine g_iconst (pc := 125) (v := nI 4) C dL_told_125 (by decide) ?_
                    refine g_iremN (pc := 126) C dL_told_126 (by omega) (by omega) (by omega) ?_
                    refine g_callVW (pc := 127) (st := [.long (31 * (tC c k3)), .long 31]) (As := [.int (nI (k3 / 4)), .int (nI (k3 % 4))]) (nn := 2) (ci := 5) C (m_X5_isLinked l D cI cC x0 n0 n1 t0 t1 s0 s1 g0 g1 w0 w1 w2 m0 m1 m2 m3 m4 p0 p1 c ct cs r sg tr wi1 ol1 orr1 sf1 nb hs od z ln lf rg bd rl1 (nI (k3 / 4)) (nI (k3 % 4)) (by first | assumption | omega)) gL_told_X5_isLinked rfl rfl rfl yd_X5_isLinked ⟨Nat.le_of_ble_eq_true rfl, Nat.le_of_ble_eq_true rfl⟩ rfl 19 rfl (by decide) rfl rfl rfl (Nat.le_of_ble_eq_true rfl) ⟨Nat.le_of_ble_eq_true rfl, Nat.le_of_ble_eq_true rfl⟩ dL_told_127 ?_
                    rintro _ _ ⟨rfl, rfl⟩
                    refine g_eq (ws' := (xW cI cC x0 n0 n1 t0 t1 s0 s1 g0 g1 w0 w1 w2 m0 m1 m2 m3 m4 p0 p1 (bI hs) c ct cs r (nI od) (nI z) sg (nI ln) tr (nI lf) (nI rg) (bI bd) wi1 ol1 orr1 sf1 (nI rl1) nb)) (st' := [.int (lkV c (nI (k3 / 4)) (nI (k3 % 4))), .long (31 * (tC c k3)), .long 31]) rfl rfl ?_
                    refine g_i2l (pc := 130) C dL_told_130 ?_
                    refine g_ladd (pc := 131) C dL_told_131 ?_
                    refine g_lmul (pc := 132) C dL_told_132 ?_
                    refine g_aload_n (pc := 133) C dL_told_133 0 rfl rfl ?_
                    refine g_iload_n (pc := 134) C dL_told_134 2 rfl rfl ?_
                    refine g_bipush (pc := 135) (v := nI 8) C dL_told_135 (by decide) ?_
                    refine g_bLt (pc := 137) C (by omega) (by omega) dL_told_137 dL_told_140 dL_told_141 dL_told_144 ?_
                    refine g_iload_n (pc := 145) C dL_told_145 2 rfl rfl ?_
                    refine g_bipush (pc := 146) (v := nI 8) C dL_told_146 (by decide) ?_
                    refine g_iremN (pc := 148) C dL_told_148 (by omega) (by omega) (by omega) ?_
                    refine g_iconst (pc := 149) (v := nI 0) C dL_told_149 (by decide) ?_
                    refine g_callVW (pc := 150) (st := [.long (31 * ((31 * (tC c k3)) + ((lkV c (nI (k3 / 4)) (nI (k3 % 4))).toInt64)))]) (As := [.int (bI (decide (k3 < 8))), .int (nI (k3 % 8)), .int (nI 0)]) (nn := 3) (ci := 5) C (m_X5_person l D cI cC x0 n0 n1 t0 t1 s0 s1 g0 g1 w0 w1 w2 m0 m1 m2 m3 m4 p0 p1 c ct cs r sg tr wi1 ol1 orr1 sf1 nb hs od z ln lf rg bd rl1 (decide (k3 < 8)) (nI (k3 % 8)) (nI 0) (by first | assumption | omega)) gL_told_X5_person rfl rfl rfl yd_X5_person ⟨Nat.le_of_ble_eq_true rfl, Nat.le_of_ble_eq_true rfl⟩ rfl 19 rfl (by decide) rfl rfl rfl (Nat.le_of_ble_eq_true rfl) ⟨Nat.le_of_ble_eq_true rfl, Nat.le_of_ble_eq_true rfl⟩ dL_told_150 ?_
                    rintro _ _ ⟨rfl, rfl⟩
                    refine g_eq (ws' := (xW cI cC x0 n0 n1 t0 t1 s0 s1 g0 g1 w0 w1 w2 m0 m1 m2 m3 m4 p0 p1 (bI hs) c ct cs r (nI od) (nI z) sg (nI ln) tr (nI lf) (nI rg) (bI bd) wi1 ol1 orr1 sf1 (nI rl1) nb)) (st' := [.int (peV c (decide (k3 < 8)) (nI (k3 % 8)) (nI 0)), .long (31 * ((31 * (tC c k3)) + ((lkV c (nI (k3 / 4)) (nI (k3 % 4))).toInt64)))]) rfl rfl ?_
                    refine g_i2l (pc := 153) C dL_told_153 ?_
                    refine g_ladd (pc := 154) C dL_told_154 ?_
                    refine g_lstore_n (pc := 155) (lv' := [(1, .long ((31 * ((31 * (tC c k3)) + ((lkV c (nI (k3 / 4)) (nI (k3 % 4))).toInt64))) + ((peV c (decide (k3 < 8)) (nI (k3 % 8)) (nI 0)).toInt64))), (0, .ref x0), (3, .int (nI k3))]) C dL_told_155 rfl (by decide) rfl ?_
                    refine g_iinc (pc := 156) (lv' := [(3, .int (nI (k3 + 1))), (1, .long ((31 * ((31 * (tC c k3)) + ((lkV c (nI (k3 / 4)) (nI (k3 % 4))).toInt64))) + ((peV c (decide (k3 < 8)) (nI (k3 % 8)) (nI 0)).toInt64))), (0, .ref x0)]) C dL_told_156 2 rfl (nI_add k3 1) (by decide) rfl ?_
                    refine g_goto (pc := 159) C 106 dL_told_159 (by decide) ?_
                    refine g_lveq (lv' := [(3, .int (nI (k3 + 1))), (1, .long (tC c (k3 + 1))), (0, .ref x0)]) (rfl) ?_
                    refine g_lvp (lv' := [(0, .ref x0), (1, .long (tC c (k3 + 1))), (3, .int (nI (k3 + 1)))]) [2, 1, 0] rfl ?_
                    exact ih106 (k3 + 1) wi1 ol1 orr1 sf1 rl1 (by omega) (by first | assumption | omega) (by first | assumption | omega)
              refine g_lvp (lv' := [(0, .ref x0), (1, .long (tC c 0)), (3, .int (nI 0))]) [1, 2, 0] rfl ?_
              exact L106 _ 0 _ _ _ _ _ (Nat.lt_succ_self _) (by first | assumption | omega) (by first | assumption | omega)
            · refine g_ldc2 (pc := 39) (v := 31) C dL_told_39 (by decide +kernel) ?_
              refine g_ldc2 (pc := 42) (v := 31) C dL_told_42 (by decide +kernel) ?_
              refine g_ldc2 (pc := 45) (v := 31) C dL_told_45 (by decide +kernel) ?_
              refine g_lload_n (pc := 48) C dL_told_48 1 rfl rfl ?_
              refine g_lmul (pc := 49) C dL_told_49 ?_
              refine g_aload_n (pc := 50) C dL_told_50 0 rfl rfl ?_
              refine g_iload_n (pc := 51) C dL_told_51 2 rfl rfl ?_
              refine g_bipush (pc := 52) (v := nI 8) C dL_told_52 (by decide) ?_
              refine g_idivN (pc := 54) C dL_told_54 (by omega) (by omega) (by omega) ?_
              refine g_iload_n (pc := 55) C dL_told_55 2 rfl rfl ?_
              refine g_bipush (pc := 56) (v := nI 8) C dL_told_56 (by decide) ?_
              refine g_iremN (pc := 58) C dL_told_58 (by omega) (by omega) (by omega) ?_
              refine g_iconst (pc := 59) (v := nI 0) C dL_told_59 (by decide) ?_
              refine g_callVW (pc := 60) (st := [.long (31 * (tB c k2)), .long 31, .long 31]) (As := [.int (nI (k2 / 8)), .int (nI (k2 % 8)), .int (nI 0)]) (nn := 3) (ci := 5) C (m_X5_pair l D cI cC x0 n0 n1 t0 t1 s0 s1 g0 g1 w0 w1 w2 m0 m1 m2 m3 m4 p0 p1 c ct cs r sg tr wi1 ol1 orr1 sf1 nb hs od z ln lf rg bd rl1 (nI (k2 / 8)) (nI (k2 % 8)) (nI 0) (by first | assumption | omega) (by first | assumption | omega)) gL_told_X5_pair rfl rfl rfl yd_X5_pair ⟨Nat.le_of_ble_eq_true rfl, Nat.le_of_ble_eq_true rfl⟩ rfl 19 rfl (by decide) rfl rfl rfl (Nat.le_of_ble_eq_true rfl) ⟨Nat.le_of_ble_eq_true rfl, Nat.le_of_ble_eq_true rfl⟩ dL_told_60 ?_
              rintro _ _ ⟨wi2a, ol2a, orr2a, sf2a, rl2a, rfl, rfl, h9⟩
              refine g_eq (ws' := (xW cI cC x0 n0 n1 t0 t1 s0 s1 g0 g1 w0 w1 w2 m0 m1 m2 m3 m4 p0 p1 (bI hs) c ct cs r (nI od) (nI z) sg (nI ln) tr (nI lf) (nI rg) (bI bd) wi2a ol2a orr2a sf2a (nI rl2a) nb)) (st' := [.int (paV c (nI (k2 / 8)) (nI (k2 % 8)) (nI 0)), .long (31 * (tB c k2)), .long 31, .long 31]) rfl rfl ?_
              refine g_i2l (pc := 63) C dL_told_63 ?_
              refine g_ladd (pc := 64) C dL_told_64 ?_
              refine g_lmul (pc := 65) C dL_told_65 ?_
              refine g_aload_n (pc := 66) C dL_told_66 0 rfl rfl ?_
              refine g_iload_n (pc := 67) C dL_told_67 2 rfl rfl ?_
              refine g_bipush (pc := 68) (v := nI 8) C dL_told_68 (by decide) ?_
              refine g_idivN (pc := 70) C dL_told_70 (by omega) (by omega) (by omega) ?_
              refine g_iload_n (pc := 71) C dL_told_71 2 rfl rfl ?_
              refine g_bipush (pc := 72) (v := nI 8) C dL_told_72 (by decide) ?_
              refine g_iremN (pc := 74) C dL_told_74 (by omega) (by omega) (by omega) ?_
              refine g_iconst (pc := 75) (v := nI 1) C dL_told_75 (by decide) ?_
              refine g_callVW (pc := 76) (st := [.long (31 * ((31 * (tB c k2)) + ((paV c (nI (k2 / 8)) (nI (k2 % 8)) (nI 0)).toInt64))), .long 31]) (As := [.int (nI (k2 / 8)), .int (nI (k2 % 8)), .int (nI 1)]) (nn := 3) (ci := 5) C (m_X5_pair l D cI cC x0 n0 n1 t0 t1 s0 s1 g0 g1 w0 w1 w2 m0 m1 m2 m3 m4 p0 p1 c ct cs r sg tr wi2a ol2a orr2a sf2a nb hs od z ln lf rg bd rl2a (nI (k2 / 8)) (nI (k2 % 8)) (nI 1) (by first | assumption | omega) (by first | assumption | omega)) gL_told_X5_pair rfl rfl rfl yd_X5_pair ⟨Nat.le_of_ble_eq_true rfl, Nat.le_of_ble_eq_true rfl⟩ rfl 19 rfl (by decide) rfl rfl rfl (Nat.le_of_ble_eq_true rfl) ⟨Nat.le_of_ble_eq_true rfl, Nat.le_of_ble_eq_true rfl⟩ dL_told_76 ?_
              rintro _ _ ⟨wi2b, ol2b, orr2b, sf2b, rl2b, rfl, rfl, h8⟩
              refine g_eq (ws' := (xW cI cC x0 n0 n1 t0 t1 s0 s1 g0 g1 w0 w1 w2 m0 m1 m2 m3 m4 p0 p1 (bI hs) c ct cs r (nI od) (nI z) sg (nI ln) tr (nI lf) (nI rg) (bI bd) wi2b ol2b orr2b sf2b (nI rl2b) nb)) (st' := [.int (paV c (nI (k2 / 8)) (nI (k2 % 8)) (nI 1)), .long (31 * ((31 * (tB c k2)) + ((paV c (nI (k2 / 8)) (nI (k2 % 8)) (nI 0)).toInt64))), .long 31]) rfl rfl ?_
              refine g_i2l (pc := 79) C dL_told_79 ?_
              refine g_ladd (pc := 80) C dL_told_80 ?_
              refine g_lmul (pc := 81) C dL_told_81 ?_
              refine g_aload_n (pc := 82) C dL_told_82 0 rfl rfl ?_
              refine g_iload_n (pc := 83) C dL_told_83 2 rfl rfl ?_
              refine g_bipush (pc := 84) (v := nI 8) C dL_told_84 (by decide) ?_
              refine g_idivN (pc := 86) C dL_told_86 (by omega) (by omega) (by omega) ?_
              refine g_iload_n (pc := 87) C dL_told_87 2 rfl rfl ?_
              refine g_bipush (pc := 88) (v := nI 8) C dL_told_88 (by decide) ?_
              refine g_iremN (pc := 90) C dL_told_90 (by omega) (by omega) (by omega) ?_
              refine g_iconst (pc := 91) (v := nI 2) C dL_told_91 (by decide) ?_
              refine g_callVW (pc := 92) (st := [.long (31 * ((31 * ((31 * (tB c k2)) + ((paV c (nI (k2 / 8)) (nI (k2 % 8)) (nI 0)).toInt64))) + ((paV c (nI (k2 / 8)) (nI (k2 % 8)) (nI 1)).toInt64)))]) (As := [.int (nI (k2 / 8)), .int (nI (k2 % 8)), .int (nI 2)]) (nn := 3) (ci := 5) C (m_X5_pair l D cI cC x0 n0 n1 t0 t1 s0 s1 g0 g1 w0 w1 w2 m0 m1 m2 m3 m4 p0 p1 c ct cs r sg tr wi2b ol2b orr2b sf2b nb hs od z ln lf rg bd rl2b (nI (k2 / 8)) (nI (k2 % 8)) (nI 2) (by first | assumption | omega) (by first | assumption | omega)) gL_told_X5_pair rfl rfl rfl yd_X5_pair ⟨Nat.le_of_ble_eq_true rfl, Nat.le_of_ble_eq_true rfl⟩ rfl 19 rfl (by decide) rfl rfl rfl (Nat.le_of_ble_eq_true rfl) ⟨Nat.le_of_ble_eq_true rfl, Nat.le_of_ble_eq_true rfl⟩ dL_told_92 ?_
              rintro _ _ ⟨wi2c, ol2c, orr2c, sf2c, rl2c, rfl, rfl, h7⟩
              refine g_eq (ws' := (xW cI cC x0 n0 n1 t0 t1 s0 s1 g0 g1 w0 w1 w2 m0 m1 m2 m3 m4 p0 p1 (bI hs) c ct cs r (nI od) (nI z) sg (nI ln) tr (nI lf) (nI rg) (bI bd) wi2c ol2c orr2c sf2c (nI rl2c) nb)) (st' := [.int (paV c (nI (k2 / 8)) (nI (k2 % 8)) (nI 2)), .long (31 * ((31 * ((31 * (tB c k2)) + ((paV c (nI (k2 / 8)) (nI (k2 % 8)) (nI 0)).toInt64))) + ((paV c (nI (k2 / 8)) (nI (k2 % 8)) (nI 1)).toInt64)))]) rfl rfl ?_
              refine g_i2l (pc := 95) C dL_told_95 ?_
              refine g_ladd (pc := 96) C dL_told_96 ?_
              refine g_lstore_n (pc := 97) (lv' := [(1, .long ((31 * ((31 * ((31 * (tB c k2)) + ((paV c (nI (k2 / 8)) (nI (k2 % 8)) (nI 0)).toInt64))) + ((paV c (nI (k2 / 8)) (nI (k2 % 8)) (nI 1)).toInt64))) + ((paV c (nI (k2 / 8)) (nI (k2 % 8)) (nI 2)).toInt64))), (0, .ref x0), (3, .int (nI k2))]) C dL_told_97 rfl (by decide) rfl ?_
              refine g_iinc (pc := 98) (lv' := [(3, .int (nI (k2 + 1))), (1, .long ((31 * ((31 * ((31 * (tB c k2)) + ((paV c (nI (k2 / 8)) (nI (k2 % 8)) (nI 0)).toInt64))) + ((paV c (nI (k2 / 8)) (nI (k2 % 8)) (nI 1)).toInt64))) + ((paV c (nI (k2 / 8)) (nI (k2 % 8)) (nI 2)).toInt64))), (0, .ref x0)]) C dL_told_98 2 rfl (nI_add k2 1) (by decide) rfl ?_
              refine g_goto (pc := 101) C 33 dL_told_101 (by decide) ?_
              refine g_lveq (lv' := [(3, .int (nI (k2 + 1))), (1, .long (tB c (k2 + 1))), (0, .ref x0)]) (rfl) ?_
              refine g_lvp (lv' := [(0, .ref x0), (1, .long (tB c (k2 + 1))), (3, .int (nI (k2 + 1)))]) [2, 1, 0] rfl ?_
              exact ih33 (k2 + 1) wi2c ol2c orr2c sf2c rl2c (by omega) (by first | assumption | omega) (by first | assumption | omega)
        refine g_lvp (lv' := [(0, .ref x0), (1, .long (tB c 0)), (3, .int (nI 0))]) [1, 2, 0] rfl ?_
        exact L33 _ 0 _ _ _ _ _ (Nat.lt_succ_self _) (by first | assumption | omega) (by first | assumption | omega)
      · refine g_ldc2 (pc := 12) (v := 31) C dL_told_12 (by decide +kernel) ?_
        refine g_lload_n (pc := 15) C dL_told_15 1 rfl rfl ?_
        refine g_lmul (pc := 16) C dL_told_16 ?_
        refine g_aload_n (pc := 17) C dL_told_17 0 rfl rfl ?_
        refine g_iload_n (pc := 18) C dL_told_18 2 rfl rfl ?_
        refine g_callVW (pc := 19) (st := [.long (31 * (tA c k))]) (As := [.int (nI k)]) (nn := 1) (ci := 5) C (m_X5_count l D cI cC x0 n0 n1 t0 t1 s0 s1 g0 g1 w0 w1 w2 m0 m1 m2 m3 m4 p0 p1 c ct cs r sg tr wi1 ol1 orr1 sf1 nb hs od z ln lf rg bd rl1 (nI k) (by first | assumption | omega) (by first | assumption | omega)) gL_told_X5_count rfl rfl rfl yd_X5_count ⟨Nat.le_of_ble_eq_true rfl, Nat.le_of_ble_eq_true rfl⟩ rfl 19 rfl (by decide) rfl rfl rfl (Nat.le_of_ble_eq_true rfl) ⟨Nat.le_of_ble_eq_true rfl, Nat.le_of_ble_eq_true rfl⟩ dL_told_19 ?_
        rintro _ _ ⟨wi2a, ol2a, orr2a, sf2a, rl2a, rfl, rfl, h9⟩
        refine g_eq (ws' := (xW cI cC x0 n0 n1 t0 t1 s0 s1 g0 g1 w0 w1 w2 m0 m1 m2 m3 m4 p0 p1 (bI hs) c ct cs r (nI od) (nI z) sg (nI ln) tr (nI lf) (nI rg) (bI bd) wi2a ol2a orr2a sf2a (nI rl2a) nb)) (st' := [.int (coV c z ln (nI k)), .long (31 * (tA c k))]) rfl rfl ?_
        refine g_top (y := (coV c 0 0 (nI k))) (coV_z c z ln (by omega)) ?_
        refine g_i2l (pc := 22) C dL_told_22 ?_
        refine g_ladd (pc := 23) C dL_told_23 ?_
        refine g_lstore_n (pc := 24) (lv' := [(1, .long ((31 * (tA c k)) + ((coV c 0 0 (nI k)).toInt64))), (0, .ref x0), (3, .int (nI k))]) C dL_told_24 rfl (by decide) rfl ?_
        refine g_iinc (pc := 25) (lv' := [(3, .int (nI (k + 1))), (1, .long ((31 * (tA c k)) + ((coV c 0 0 (nI k)).toInt64))), (0, .ref x0)]) C dL_told_25 2 rfl (nI_add k 1) (by decide) rfl ?_
        refine g_goto (pc := 28) C 6 dL_told_28 (by decide) ?_
        refine g_lveq (lv' := [(3, .int (nI (k + 1))), (1, .long (tA c (k + 1))), (0, .ref x0)]) (rfl) ?_
        refine g_lvp (lv' := [(0, .ref x0), (1, .long (tA c (k + 1))), (3, .int (nI (k + 1)))]) [2, 1, 0] rfl ?_
        exact ih6 (k + 1) wi2a ol2a orr2a sf2a rl2a (by omega) (by first | assumption | omega) (by first | assumption | omega)
  refine g_lvp (lv' := [(0, .ref x0), (1, .long (tA c 0)), (3, .int (nI 0))]) [2, 1, 0] rfl ?_
  exact L6 _ 0 _ _ _ _ _ (Nat.lt_succ_self _) (by first | assumption | omega) (by first | assumption | omega)
