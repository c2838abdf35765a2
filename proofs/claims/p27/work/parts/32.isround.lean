abbrev rm_L_isRound : Room := { frames := 8, cells := 0, slots := 0, locals := 194 }
theorem yd_L_isRound : yL_isRound.cls = RL ∧ yL_isRound.cls ≠ "java/lang/invoke/MethodHandle" ∧ yL_isRound.cls ≠ "java/lang/invoke/VarHandle" ∧ (parseMethodDescriptor yL_isRound.desc).map (fun d => d.parameters.length) = some 3 := by decide +kernel
set_option maxHeartbeats 4000000 in
set_option maxRecDepth 100000 in
theorem m_L_isRound (l : Launch) (D : va_G) (cI cC : ClassId) (x0 n0 n1 t0 t1 s0 s1 g0 g1 w0 w1 w2 m0 m1 m2 m3 m4 p0 p1 : Nat) (c : Nat → Int32) (ct : Nat → Int32) (cs : Nat → Int32) (r : Nat → Int32) (sg : Nat → Int32) (tr : Nat → Int32) (wi : Nat → Int32) (ol : Nat → Int32) (orr : Nat → Int32) (sf : Nat → Int32) (nb : Nat → Int32) (hs : Bool) (od : Nat) (z : Nat) (ln : Nat) (lf : Nat) (rg : Nat) (bd : Bool) (rl : Nat) (a : Nat) (b : Nat) (hc : cOK c) (hf : fOK c) (ho : od < 5) (hz : z ≤ 5) (hrl : rl < 256) (ha : a < 8) (hb : b < 8) : g_M l yL_isRound wsL_isRound rm_L_isRound D cI cC [.ref x0, .int (nI a), .int (nI b)] (xW cI cC x0 n0 n1 t0 t1 s0 s1 g0 g1 w0 w1 w2 m0 m1 m2 m3 m4 p0 p1 (bI hs) c ct cs r (nI od) (nI z) sg (nI ln) tr (nI lf) (nI rg) (bI bd) wi ol orr sf (nI rl) nb) (fun vv ww => ∃ (r2 : Nat → Int32) (od2 : Nat) (z2 : Nat) (wi2 : Nat → Int32) (ol2 : Nat → Int32) (orr2 : Nat → Int32) (sf2 : Nat → Int32) (rl2 : Nat), vv = some (.int (bI true)) ∧ ww = (xW cI cC x0 n0 n1 t0 t1 s0 s1 g0 g1 w0 w1 w2 m0 m1 m2 m3 m4 p0 p1 (bI hs) c ct cs r2 (nI od2) (nI z2) sg (nI ln) tr (nI lf) (nI rg) (bI bd) wi2 ol2 orr2 sf2 (nI rl2) nb) ∧ od2 < 5 ∧ z2 ≤ 5 ∧ rl2 < 256) := by
  refine g_entry (lv := [(0, .ref x0), (1, .int (nI a)), (2, .int (nI b))]) (own := RL) (by decide) rfl rfl (Nat.le_of_ble_eq_true rfl) rfl ?_
  intro p e s m args below meth co A Q C hr hQ
  refine g_aload_n (pc := 0) C dL_isRound_0 0 rfl rfl ?_
  refine g_bipush (pc := 1) (v := nI 6) C dL_isRound_1 (by decide) ?_
  refine g_callVW (pc := 3) (st := []) (As := [.int (nI 6)]) (nn := 1) (ci := 5) C (m_X5_count l D cI cC x0 n0 n1 t0 t1 s0 s1 g0 g1 w0 w1 w2 m0 m1 m2 m3 m4 p0 p1 c ct cs r sg tr wi ol orr sf nb hs od z ln lf rg bd rl (nI 6) (by first | assumption | omega) (by first | assumption | omega)) gL_isRound_X5_count rfl rfl rfl yd_X5_count ⟨Nat.le_of_ble_eq_true rfl, Nat.le_of_ble_eq_true rfl⟩ rfl 19 rfl (by decide) rfl rfl rfl (Nat.le_of_ble_eq_true rfl) ⟨Nat.le_of_ble_eq_true rfl, Nat.le_of_ble_eq_true rfl⟩ dL_isRound_3 ?_
  rintro _ _ ⟨wi2a, ol2a, orr2a, sf2a, rl2a, rfl, rfl, h1⟩
  refine g_eq (ws' := (xW cI cC x0 n0 n1 t0 t1 s0 s1 g0 g1 w0 w1 w2 m0 m1 m2 m3 m4 p0 p1 (bI hs) c ct cs r (nI od) (nI z) sg (nI ln) tr (nI lf) (nI rg) (bI bd) wi2a ol2a orr2a sf2a (nI rl2a) nb)) (st' := [.int (coV c z ln (nI 6))]) rfl rfl ?_
  refine g_top (y := nI (szC c)) (co_6 c z ln) ?_
  refine g_istore_n (pc := 6) (lv' := [(3, .int (nI (szC c))), (0, .ref x0), (1, .int (nI a)), (2, .int (nI b))]) C dL_isRound_6 rfl (by decide) rfl ?_
  refine g_aload_n (pc := 7) C dL_isRound_7 1 rfl rfl ?_
  refine g_iconst (pc := 8) (v := nI 0) C dL_isRound_8 (by decide) ?_
  refine g_callVW (pc := 9) (st := []) (As := [.int (nI 0)]) (nn := 1) (ci := 5) C (m_X5_count l D cI cC x0 n0 n1 t0 t1 s0 s1 g0 g1 w0 w1 w2 m0 m1 m2 m3 m4 p0 p1 c ct cs r sg tr wi2a ol2a orr2a sf2a nb hs od z ln lf rg bd rl2a (nI 0) (by first | assumption | omega) (by first | assumption | omega)) gL_isRound_X5_count rfl rfl rfl yd_X5_count ⟨Nat.le_of_ble_eq_true rfl, Nat.le_of_ble_eq_true rfl⟩ rfl 19 rfl (by decide) rfl rfl rfl (Nat.le_of_ble_eq_true rfl) ⟨Nat.le_of_ble_eq_true rfl, Nat.le_of_ble_eq_true rfl⟩ dL_isRound_9 ?_
  rintro _ _ ⟨wi2b, ol2b, orr2b, sf2b, rl2b, rfl, rfl, h2⟩
  refine g_eq (ws' := (xW cI cC x0 n0 n1 t0 t1 s0 s1 g0 g1 w0 w1 w2 m0 m1 m2 m3 m4 p0 p1 (bI hs) c ct cs r (nI od) (nI z) sg (nI ln) tr (nI lf) (nI rg) (bI bd) wi2b ol2b orr2b sf2b (nI rl2b) nb)) (st' := [.int (coV c z ln (nI 0))]) rfl rfl ?_
  refine g_top (y := nI (nwC c 8)) (co_0 c z ln) ?_
  refine g_istore (pc := 12) (lv' := [(4, .int (nI (nwC c 8))), (3, .int (nI (szC c))), (0, .ref x0), (1, .int (nI a)), (2, .int (nI b))]) C dL_isRound_12 (by decide) rfl ?_
  refine g_aload_n (pc := 14) C dL_isRound_14 2 rfl rfl ?_
  refine g_iconst (pc := 15) (v := nI 5) C dL_isRound_15 (by decide) ?_
  refine g_callVW (pc := 16) (st := []) (As := [.int (nI 5)]) (nn := 1) (ci := 5) C (m_X5_count l D cI cC x0 n0 n1 t0 t1 s0 s1 g0 g1 w0 w1 w2 m0 m1 m2 m3 m4 p0 p1 c ct cs r sg tr wi2b ol2b orr2b sf2b nb hs od z ln lf rg bd rl2b (nI 5) (by first | assumption | omega) (by first | assumption | omega)) gL_isRound_X5_count rfl rfl rfl yd_X5_count ⟨Nat.le_of_ble_eq_true rfl, Nat.le_of_ble_eq_true rfl⟩ rfl 19 rfl (by decide) rfl rfl rfl (Nat.le_of_ble_eq_true rfl) ⟨Nat.le_of_ble_eq_true rfl, Nat.le_of_ble_eq_true rfl⟩ dL_isRound_16 ?_
  rintro _ _ ⟨wi2c, ol2c, orr2c, sf2c, rl2c, rfl, rfl, h3⟩
  refine g_eq (ws' := (xW cI cC x0 n0 n1 t0 t1 s0 s1 g0 g1 w0 w1 w2 m0 m1 m2 m3 m4 p0 p1 (bI hs) c ct cs r (nI od) (nI z) sg (nI ln) tr (nI lf) (nI rg) (bI bd) wi2c ol2c orr2c sf2c (nI rl2c) nb)) (st' := [.int (coV c z ln (nI 5))]) rfl rfl ?_
  refine g_top (y := (sI (amA c (nI 4)) 8)) (co_5 c z ln) ?_
  refine g_istore (pc := 19) (lv' := [(5, .int (sI (amA c (nI 4)) 8)), (4, .int (nI (nwC c 8))), (3, .int (nI (szC c))), (0, .ref x0), (1, .int (nI a)), (2, .int (nI b))]) C dL_isRound_19 (by decide) rfl ?_
  refine g_aload_n (pc := 21) C dL_isRound_21 3 rfl rfl ?_
  refine g_iload_n (pc := 22) C dL_isRound_22 4 rfl rfl ?_
  refine g_iload_n (pc := 23) C dL_isRound_23 5 rfl rfl ?_
  refine g_iconst (pc := 24) (v := nI 1) C dL_isRound_24 (by decide) ?_
  refine g_callVW (pc := 25) (st := []) (As := [.int (nI a), .int (nI b), .int (nI 1)]) (nn := 3) (ci := 5) C (m_X5_pair l D cI cC x0 n0 n1 t0 t1 s0 s1 g0 g1 w0 w1 w2 m0 m1 m2 m3 m4 p0 p1 c ct cs r sg tr wi2c ol2c orr2c sf2c nb hs od z ln lf rg bd rl2c (nI a) (nI b) (nI 1) (by first | assumption | omega) (by first | assumption | omega)) gL_isRound_X5_pair rfl rfl rfl yd_X5_pair ⟨Nat.le_of_ble_eq_true rfl, Nat.le_of_ble_eq_true rfl⟩ rfl 19 rfl (by decide) rfl rfl rfl (Nat.le_of_ble_eq_true rfl) ⟨Nat.le_of_ble_eq_true rfl, Nat.le_of_ble_eq_true rfl⟩ dL_isRound_25 ?_
  rintro _ _ ⟨wi2d, ol2d, orr2d, sf2d, rl2d, rfl, rfl, h4⟩
  refine g_eq (ws' := (xW cI cC x0 n0 n1 t0 t1 s0 s1 g0 g1 w0 w1 w2 m0 m1 m2 m3 m4 p0 p1 (bI hs) c ct cs r (nI od) (nI z) sg (nI ln) tr (nI lf) (nI rg) (bI bd) wi2d ol2d orr2d sf2d (nI rl2d) nb)) (st' := [.int (paV c (nI a) (nI b) (nI 1))]) rfl rfl ?_
  refine g_top (y := (feC c a b)) (pa_1 ha hb) ?_
  refine g_istore (pc := 28) (lv' := [(6, .int (feC c a b)), (5, .int (sI (amA c (nI 4)) 8)), (4, .int (nI (nwC c 8))), (3, .int (nI (szC c))), (0, .ref x0), (1, .int (nI a)), (2, .int (nI b))]) C dL_isRound_28 (by decide) rfl ?_
  refine g_aload_n (pc := 30) C dL_isRound_30 4 rfl rfl ?_
  refine g_callSW (pc := 31) (st := []) (As := [.ref x0]) (nn := 1) C (m_L_told l D cI cC x0 n0 n1 t0 t1 s0 s1 g0 g1 w0 w1 w2 m0 m1 m2 m3 m4 p0 p1 c ct cs r sg tr wi2d ol2d orr2d sf2d nb hs od z ln lf rg bd rl2d (by first | assumption | omega) (by first | assumption | omega)) gL_isRound_L_told rfl rfl rfl yd_L_told.2 ⟨Nat.le_of_ble_eq_true rfl, Nat.le_of_ble_eq_true rfl⟩ rfl 19 rfl (by decide) rfl (Nat.le_of_ble_eq_true rfl) ⟨Nat.le_of_ble_eq_true rfl, Nat.le_of_ble_eq_true rfl⟩ dL_isRound_31 ?_
  rintro _ _ ⟨wi2e, ol2e, orr2e, sf2e, rl2e, rfl, rfl, h5⟩
  refine g_eq (ws' := (xW cI cC x0 n0 n1 t0 t1 s0 s1 g0 g1 w0 w1 w2 m0 m1 m2 m3 m4 p0 p1 (bI hs) c ct cs r (nI od) (nI z) sg (nI ln) tr (nI lf) (nI rg) (bI bd) wi2e ol2e orr2e sf2e (nI rl2e) nb)) (st' := [.long (TD c)]) rfl rfl ?_
  refine g_lstore (pc := 34) (lv' := [(7, .long (TD c)), (6, .int (feC c a b)), (5, .int (sI (amA c (nI 4)) 8)), (4, .int (nI (nwC c 8))), (3, .int (nI (szC c))), (0, .ref x0), (1, .int (nI a)), (2, .int (nI b))]) C dL_isRound_34 (by decide) rfl ?_
  refine g_aload_n (pc := 36) C dL_isRound_36 5 rfl rfl ?_
  refine g_callVW (pc := 37) (st := []) (As := []) (nn := 0) (ci := 5) C (m_X5_round l D cI cC x0 n0 n1 t0 t1 s0 s1 g0 g1 w0 w1 w2 m0 m1 m2 m3 m4 p0 p1 c ct cs r sg tr wi2e ol2e orr2e sf2e nb hs od z ln lf rg bd rl2e (by first | assumption | omega) (by first | assumption | omega) (by first | assumption | omega) (by first | assumption | omega)) gL_isRound_X5_round rfl rfl rfl yd_X5_round ⟨Nat.le_of_ble_eq_true rfl, Nat.le_of_ble_eq_true rfl⟩ rfl 19 rfl (by decide) rfl rfl rfl (Nat.le_of_ble_eq_true rfl) ⟨Nat.le_of_ble_eq_true rfl, Nat.le_of_ble_eq_true rfl⟩ dL_isRound_37 ?_
  rintro _ _ ⟨c2f, r2f, od2f, z2f, wi2f, ol2f, orr2f, sf2f, rl2f, rfl, rfl, fx, h6⟩
  refine g_eq (ws' := (xW cI cC x0 n0 n1 t0 t1 s0 s1 g0 g1 w0 w1 w2 m0 m1 m2 m3 m4 p0 p1 (bI hs) c2f ct cs r2f (nI od2f) (nI z2f) sg (nI ln) tr (nI lf) (nI rg) (bI bd) wi2f ol2f orr2f sf2f (nI rl2f) nb)) (st' := [.int (rnV c)]) rfl rfl ?_
  obtain ⟨e1, e2, e3, e4⟩ := fx.1 rfl
  have hc2 := rnd_ok hc
  refine g_ws (ws' := (xW cI cC x0 n0 n1 t0 t1 s0 s1 g0 g1 w0 w1 w2 m0 m1 m2 m3 m4 p0 p1 (bI hs) (rnd c) ct cs r2f (nI od2f) (nI z2f) sg (nI ln) tr (nI lf) (nI rg) (bI bd) wi2f ol2f orr2f sf2f (nI rl2f) nb)) (by rw [e1]) ?_
  refine g_ws (ws' := (xW cI cC x0 n0 n1 t0 t1 s0 s1 g0 g1 w0 w1 w2 m0 m1 m2 m3 m4 p0 p1 (bI hs) (rnd c) ct cs r2f (nI (kpO od z)) (nI z2f) sg (nI ln) tr (nI lf) (nI rg) (bI bd) wi2f ol2f orr2f sf2f (nI rl2f) nb)) (by rw [e2]) ?_
  refine g_ws (ws' := (xW cI cC x0 n0 n1 t0 t1 s0 s1 g0 g1 w0 w1 w2 m0 m1 m2 m3 m4 p0 p1 (bI hs) (rnd c) ct cs r2f (nI (kpO od z)) (nI (kpS z)) sg (nI ln) tr (nI lf) (nI rg) (bI bd) wi2f ol2f orr2f sf2f (nI rl2f) nb)) (by rw [e3]) ?_
  refine g_ws (ws' := (xW cI cC x0 n0 n1 t0 t1 s0 s1 g0 g1 w0 w1 w2 m0 m1 m2 m3 m4 p0 p1 (bI hs) (rnd c) ct cs (va_cpy c r 0 (((kpO od z + (kpS z - 1)) % 5) * 154) 154) (nI (kpO od z)) (nI (kpS z)) sg (nI ln) tr (nI lf) (nI rg) (bI bd) wi2f ol2f orr2f sf2f (nI rl2f) nb)) (by rw [e4]) ?_
  refine g_top (y := nI (szC c)) (rn_sz c) ?_
  refine g_iload_n (pc := 40) C dL_isRound_40 4 rfl rfl ?_
  refine g_icmp_neN (pc := 41) C 95 (by have := szC_le c; omega) (by have := szC_le c; omega) dL_isRound_41 (by decide) (fun c41 => ?_) (fun c41 => ?_)
  · exact absurd rfl c41
  · refine g_aload_n (pc := 44) C dL_isRound_44 5 rfl rfl ?_
    refine g_iconst (pc := 45) (v := nI 0) C dL_isRound_45 (by decide) ?_
    refine g_callVW (pc := 46) (st := []) (As := [.int (nI 0)]) (nn := 1) (ci := 5) C (m_X5_count l D cI cC x0 n0 n1 t0 t1 s0 s1 g0 g1 w0 w1 w2 m0 m1 m2 m3 m4 p0 p1 (rnd c) ct cs (va_cpy c r 0 (((kpO od z + (kpS z - 1)) % 5) * 154) 154) sg tr wi2f ol2f orr2f sf2f nb hs (kpO od z) (kpS z) ln lf rg bd rl2f (nI 0) (by first | assumption | omega) (by first | assumption | omega)) gL_isRound_X5_count rfl rfl rfl yd_X5_count ⟨Nat.le_of_ble_eq_true rfl, Nat.le_of_ble_eq_true rfl⟩ rfl 19 rfl (by decide) rfl rfl rfl (Nat.le_of_ble_eq_true rfl) ⟨Nat.le_of_ble_eq_true rfl, Nat.le_of_ble_eq_true rfl⟩ dL_isRound_46 ?_
    rintro _ _ ⟨wi2g, ol2g, orr2g, sf2g, rl2g, rfl, rfl, h7⟩
    refine g_eq (ws' := (xW cI cC x0 n0 n1 t0 t1 s0 s1 g0 g1 w0 w1 w2 m0 m1 m2 m3 m4 p0 p1 (bI hs) (rnd c) ct cs (va_cpy c r 0 (((kpO od z + (kpS z - 1)) % 5) * 154) 154) (nI (kpO od z)) (nI (kpS z)) sg (nI ln) tr (nI lf) (nI rg) (bI bd) wi2g ol2g orr2g sf2g (nI rl2g) nb)) (st' := [.int (coV (rnd c) (kpS z) ln (nI 0))]) rfl rfl ?_
    refine g_top (y := nI (nwC c 8 - szC c)) ((co_0 (rnd c) _ ln).trans (congrArg nI (by have := rn_nw hc; omega))) ?_
    refine g_iload (pc := 49) C dL_isRound_49 3 rfl ?_
    refine g_iload_n (pc := 51) C dL_isRound_51 4 rfl rfl ?_
    refine g_isubN (pc := 52) C dL_isRound_52 (by have := rn_nw hc; omega) ?_
    refine g_icmp_neN (pc := 53) C 95 (by have := nw31 c; omega) (by have := nw31 c; omega) dL_isRound_53 (by decide) (fun c53 => ?_) (fun c53 => ?_)
    · exact absurd rfl c53
    · refine g_aload_n (pc := 56) C dL_isRound_56 5 rfl rfl ?_
      refine g_iconst (pc := 57) (v := nI 5) C dL_isRound_57 (by decide) ?_
      refine g_callVW (pc := 58) (st := []) (As := [.int (nI 5)]) (nn := 1) (ci := 5) C (m_X5_count l D cI cC x0 n0 n1 t0 t1 s0 s1 g0 g1 w0 w1 w2 m0 m1 m2 m3 m4 p0 p1 (rnd c) ct cs (va_cpy c r 0 (((kpO od z + (kpS z - 1)) % 5) * 154) 154) sg tr wi2g ol2g orr2g sf2g nb hs (kpO od z) (kpS z) ln lf rg bd rl2g (nI 5) (by first | assumption | omega) (by first | assumption | omega)) gL_isRound_X5_count rfl rfl rfl yd_X5_count ⟨Nat.le_of_ble_eq_true rfl, Nat.le_of_ble_eq_true rfl⟩ rfl 19 rfl (by decide) rfl rfl rfl (Nat.le_of_ble_eq_true rfl) ⟨Nat.le_of_ble_eq_true rfl, Nat.le_of_ble_eq_true rfl⟩ dL_isRound_58 ?_
      rintro _ _ ⟨wi2i, ol2i, orr2i, sf2i, rl2i, rfl, rfl, h8⟩
      refine g_eq (ws' := (xW cI cC x0 n0 n1 t0 t1 s0 s1 g0 g1 w0 w1 w2 m0 m1 m2 m3 m4 p0 p1 (bI hs) (rnd c) ct cs (va_cpy c r 0 (((kpO od z + (kpS z - 1)) % 5) * 154) 154) (nI (kpO od z)) (nI (kpS z)) sg (nI ln) tr (nI lf) (nI rg) (bI bd) wi2i ol2i orr2i sf2i (nI rl2i) nb)) (st' := [.int (coV (rnd c) (kpS z) ln (nI 5))]) rfl rfl ?_
      refine g_top (y := (sI (amA c (nI 4)) 8 + nI (szC c))) ((co_5 (rnd c) _ ln).trans (rn_am c)) ?_
      refine g_iload (pc := 61) C dL_isRound_61 2 rfl ?_
      refine g_iload_n (pc := 63) C dL_isRound_63 4 rfl rfl ?_
      refine g_iadd (pc := 64) C dL_isRound_64 ?_
      refine g_icmp_ne (pc := 65) C 95 dL_isRound_65 (by decide) (fun c65 => ?_) (fun c65 => ?_)
      · exact absurd rfl c65
      · refine g_aload_n (pc := 68) C dL_isRound_68 5 rfl rfl ?_
        refine g_iload_n (pc := 69) C dL_isRound_69 6 rfl rfl ?_
        refine g_iload_n (pc := 70) C dL_isRound_70 7 rfl rfl ?_
        refine g_iconst (pc := 71) (v := nI 1) C dL_isRound_71 (by decide) ?_
        refine g_callVW (pc := 72) (st := []) (As := [.int (nI a), .int (nI b), .int (nI 1)]) (nn := 3) (ci := 5) C (m_X5_pair l D cI cC x0 n0 n1 t0 t1 s0 s1 g0 g1 w0 w1 w2 m0 m1 m2 m3 m4 p0 p1 (rnd c) ct cs (va_cpy c r 0 (((kpO od z + (kpS z - 1)) % 5) * 154) 154) sg tr wi2i ol2i orr2i sf2i nb hs (kpO od z) (kpS z) ln lf rg bd rl2i (nI a) (nI b) (nI 1) (by first | assumption | omega) (by first | assumption | omega)) gL_isRound_X5_pair rfl rfl rfl yd_X5_pair ⟨Nat.le_of_ble_eq_true rfl, Nat.le_of_ble_eq_true rfl⟩ rfl 19 rfl (by decide) rfl rfl rfl (Nat.le_of_ble_eq_true rfl) ⟨Nat.le_of_ble_eq_true rfl, Nat.le_of_ble_eq_true rfl⟩ dL_isRound_72 ?_
        rintro _ _ ⟨wi2j, ol2j, orr2j, sf2j, rl2j, rfl, rfl, h9⟩
        refine g_eq (ws' := (xW cI cC x0 n0 n1 t0 t1 s0 s1 g0 g1 w0 w1 w2 m0 m1 m2 m3 m4 p0 p1 (bI hs) (rnd c) ct cs (va_cpy c r 0 (((kpO od z + (kpS z - 1)) % 5) * 154) 154) (nI (kpO od z)) (nI (kpS z)) sg (nI ln) tr (nI lf) (nI rg) (bI bd) wi2j ol2j orr2j sf2j (nI rl2j) nb)) (st' := [.int (paV (rnd c) (nI a) (nI b) (nI 1))]) rfl rfl ?_
        refine g_top (y := (feC (rnd c) a b)) (pa_1 ha hb) ?_
        refine g_iload (pc := 75) C dL_isRound_75 1 rfl ?_
        refine g_if_le (pc := 77) C 87 dL_isRound_77 (by decide) (fun c77 => ?_) (fun c77 => ?_)
        · refine g_iconst (pc := 87) (v := nI 0) C dL_isRound_87 (by decide) ?_
          refine g_bEq (pc := 88) C dL_isRound_88 dL_isRound_91 dL_isRound_92 dL_isRound_95 ?_
          refine g_top (y := bI true) (congrArg bI (decide_eq_true (rn_f0 hf ha hb c77))) ?_
          refine g_istore (pc := 96) (lv' := [(9, .int (bI true)), (7, .long (TD c)), (6, .int (feC c a b)), (5, .int (sI (amA c (nI 4)) 8)), (4, .int (nI (nwC c 8))), (3, .int (nI (szC c))), (0, .ref x0), (1, .int (nI a)), (2, .int (nI b))]) C dL_isRound_96 (by decide) rfl ?_
          refine g_iload (pc := 98) C dL_isRound_98 0 rfl ?_
          refine g_if_eqB (pc := 100) C 124 dL_isRound_100 (by decide) (fun c100 => ?_) (fun c100 => ?_)
          · exact absurd c100 (by decide)
          · refine g_aload_n (pc := 103) C dL_isRound_103 6 rfl rfl ?_
            refine g_callVW (pc := 104) (st := []) (As := []) (nn := 0) (ci := 5) C (m_X5_undo l D cI cC x0 n0 n1 t0 t1 s0 s1 g0 g1 w0 w1 w2 m0 m1 m2 m3 m4 p0 p1 (rnd c) ct cs (va_cpy c r 0 (((kpO od z + (kpS z - 1)) % 5) * 154) 154) sg tr wi2j ol2j orr2j sf2j nb hs (kpO od z) (kpS z) ln lf rg bd rl2j (kpO_lt ho) (kpS_le hz)) gL_isRound_X5_undo rfl rfl rfl yd_X5_undo ⟨Nat.le_of_ble_eq_true rfl, Nat.le_of_ble_eq_true rfl⟩ rfl 19 rfl (by decide) rfl rfl rfl (Nat.le_of_ble_eq_true rfl) ⟨Nat.le_of_ble_eq_true rfl, Nat.le_of_ble_eq_true rfl⟩ dL_isRound_104 ?_
            rintro _ _ ⟨cu, zu, rfl, rfl, u0, u1⟩
            refine g_eq (ws' := (xW cI cC x0 n0 n1 t0 t1 s0 s1 g0 g1 w0 w1 w2 m0 m1 m2 m3 m4 p0 p1 (bI hs) cu ct cs (va_cpy c r 0 (((kpO od z + (kpS z - 1)) % 5) * 154) 154) (nI (kpO od z)) (nI zu) sg (nI ln) tr (nI lf) (nI rg) (bI bd) wi2j ol2j orr2j sf2j (nI rl2j) nb)) (st' := [.int (if (kpS z) = 0 then -5 else nI ((kpS z) - 1))]) rfl rfl ?_
            obtain ⟨e5, e6⟩ := u1 kp_5
            refine g_top (y := nI (kpS z - 1)) (if_neg kp_5) ?_
            refine g_same 2 (g := c) (ws' := (xW cI cC x0 n0 n1 t0 t1 s0 s1 g0 g1 w0 w1 w2 m0 m1 m2 m3 m4 p0 p1 (bI hs) c ct cs (va_cpy c r 0 (((kpO od z + (kpS z - 1)) % 5) * 154) 154) (nI (kpO od z)) (nI zu) sg (nI ln) tr (nI lf) (nI rg) (bI bd) wi2j ol2j orr2j sf2j (nI rl2j) nb)) rfl (by intro k hk; rw [e5]; exact und_same c r _ _ k hk) rfl ?_
            refine g_ws (ws' := (xW cI cC x0 n0 n1 t0 t1 s0 s1 g0 g1 w0 w1 w2 m0 m1 m2 m3 m4 p0 p1 (bI hs) c ct cs (va_cpy c r 0 (((kpO od z + (kpS z - 1)) % 5) * 154) 154) (nI (kpO od z)) (nI (kpS z - 1)) sg (nI ln) tr (nI lf) (nI rg) (bI bd) wi2j ol2j orr2j sf2j (nI rl2j) nb)) (by rw [e6]) ?_
            have hks := kpS_le hz
            refine g_if_ltN (pc := 107) C 124 (by omega) dL_isRound_107 (by decide) ?_
            refine g_aload_n (pc := 110) C dL_isRound_110 6 rfl rfl ?_
            refine g_callSW (pc := 111) (st := []) (As := [.ref x0]) (nn := 1) C (m_L_told l D cI cC x0 n0 n1 t0 t1 s0 s1 g0 g1 w0 w1 w2 m0 m1 m2 m3 m4 p0 p1 c ct cs (va_cpy c r 0 (((kpO od z + (kpS z - 1)) % 5) * 154) 154) sg tr wi2j ol2j orr2j sf2j nb hs (kpO od z) (kpS z - 1) ln lf rg bd rl2j (by first | assumption | omega) (by first | assumption | omega)) gL_isRound_L_told rfl rfl rfl yd_L_told.2 ⟨Nat.le_of_ble_eq_true rfl, Nat.le_of_ble_eq_true rfl⟩ rfl 19 rfl (by decide) rfl (Nat.le_of_ble_eq_true rfl) ⟨Nat.le_of_ble_eq_true rfl, Nat.le_of_ble_eq_true rfl⟩ dL_isRound_111 ?_
            rintro _ _ ⟨wi2k, ol2k, orr2k, sf2k, rl2k, rfl, rfl, h10⟩
            refine g_eq (ws' := (xW cI cC x0 n0 n1 t0 t1 s0 s1 g0 g1 w0 w1 w2 m0 m1 m2 m3 m4 p0 p1 (bI hs) c ct cs (va_cpy c r 0 (((kpO od z + (kpS z - 1)) % 5) * 154) 154) (nI (kpO od z)) (nI (kpS z - 1)) sg (nI ln) tr (nI lf) (nI rg) (bI bd) wi2k ol2k orr2k sf2k (nI rl2k) nb)) (st' := [.long (TD c)]) rfl rfl ?_
            refine g_lload (pc := 114) C dL_isRound_114 1 rfl ?_
            refine g_lcmp0 (pc := 116) C dL_isRound_116 (rfl) ?_
            refine g_bZ (pc := 117) C dL_isRound_117 dL_isRound_120 dL_isRound_121 dL_isRound_124 ?_
            refine g_top (y := bI true) (congrArg bI (decide_eq_true rfl)) ?_
            exact g_zret C hr hQ dL_isRound_125 rfl ⟨_, _, _, _, _, _, _, _, rfl, rfl, kpO_lt ho, by omega, h10⟩
        · refine g_iload (pc := 80) C dL_isRound_80 1 rfl ?_
          refine g_iconst (pc := 82) (v := nI 1) C dL_isRound_82 (by decide) ?_
          refine g_isub (pc := 83) C dL_isRound_83 ?_
          refine g_goto (pc := 84) C 88 dL_isRound_84 (by decide) ?_
          refine g_bEq (pc := 88) C dL_isRound_88 dL_isRound_91 dL_isRound_92 dL_isRound_95 ?_
          refine g_top (y := bI true) (congrArg bI (decide_eq_true (rn_fp ha hb c77))) ?_
          refine g_istore (pc := 96) (lv' := [(9, .int (bI true)), (7, .long (TD c)), (6, .int (feC c a b)), (5, .int (sI (amA c (nI 4)) 8)), (4, .int (nI (nwC c 8))), (3, .int (nI (szC c))), (0, .ref x0), (1, .int (nI a)), (2, .int (nI b))]) C dL_isRound_96 (by decide) rfl ?_
          refine g_iload (pc := 98) C dL_isRound_98 0 rfl ?_
          refine g_if_eqB (pc := 100) C 124 dL_isRound_100 (by decide) (fun c100 => ?_) (fun c100 => ?_)
          · exact absurd c100 (by decide)
          · refine g_aload_n (pc := 103) C dL_isRound_103 6 rfl rfl ?_
            refine g_callVW (pc := 104) (st := []) (As := []) (nn := 0) (ci := 5) C (m_X5_undo l D cI cC x0 n0 n1 t0 t1 s0 s1 g0 g1 w0 w1 w2 m0 m1 m2 m3 m4 p0 p1 (rnd c) ct cs (va_cpy c r 0 (((kpO od z + (kpS z - 1)) % 5) * 154) 154) sg tr wi2j ol2j orr2j sf2j nb hs (kpO od z) (kpS z) ln lf rg bd rl2j (kpO_lt ho) (kpS_le hz)) gL_isRound_X5_undo rfl rfl rfl yd_X5_undo ⟨Nat.le_of_ble_eq_true rfl, Nat.le_of_ble_eq_true rfl⟩ rfl 19 rfl (by decide) rfl rfl rfl (Nat.le_of_ble_eq_true rfl) ⟨Nat.le_of_ble_eq_true rfl, Nat.le_of_ble_eq_true rfl⟩ dL_isRound_104 ?_
            rintro _ _ ⟨cu, zu, rfl, rfl, u0, u1⟩
            refine g_eq (ws' := (xW cI cC x0 n0 n1 t0 t1 s0 s1 g0 g1 w0 w1 w2 m0 m1 m2 m3 m4 p0 p1 (bI hs) cu ct cs (va_cpy c r 0 (((kpO od z + (kpS z - 1)) % 5) * 154) 154) (nI (kpO od z)) (nI zu) sg (nI ln) tr (nI lf) (nI rg) (bI bd) wi2j ol2j orr2j sf2j (nI rl2j) nb)) (st' := [.int (if (kpS z) = 0 then -5 else nI ((kpS z) - 1))]) rfl rfl ?_
            obtain ⟨e5, e6⟩ := u1 kp_5
            refine g_top (y := nI (kpS z - 1)) (if_neg kp_5) ?_
            refine g_same 2 (g := c) (ws' := (xW cI cC x0 n0 n1 t0 t1 s0 s1 g0 g1 w0 w1 w2 m0 m1 m2 m3 m4 p0 p1 (bI hs) c ct cs (va_cpy c r 0 (((kpO od z + (kpS z - 1)) % 5) * 154) 154) (nI (kpO od z)) (nI zu) sg (nI ln) tr (nI lf) (nI rg) (bI bd) wi2j ol2j orr2j sf2j (nI rl2j) nb)) rfl (by intro k hk; rw [e5]; exact und_same c r _ _ k hk) rfl ?_
            refine g_ws (ws' := (xW cI cC x0 n0 n1 t0 t1 s0 s1 g0 g1 w0 w1 w2 m0 m1 m2 m3 m4 p0 p1 (bI hs) c ct cs (va_cpy c r 0 (((kpO od z + (kpS z - 1)) % 5) * 154) 154) (nI (kpO od z)) (nI (kpS z - 1)) sg (nI ln) tr (nI lf) (nI rg) (bI bd) wi2j ol2j orr2j sf2j (nI rl2j) nb)) (by rw [e6]) ?_
            have hks := kpS_le hz
            refine g_if_ltN (pc := 107) C 124 (by omega) dL_isRound_107 (by decide) ?_
            refine g_aload_n (pc := 110) C dL_isRound_110 6 rfl rfl ?_
            refine g_callSW (pc := 111) (st := []) (As := [.ref x0]) (nn := 1) C (m_L_told l D cI cC x0 n0 n1 t0 t1 s0 s1 g0 g1 w0 w1 w2 m0 m1 m2 m3 m4 p0 p1 c ct cs (va_cpy c r 0 (((kpO od z + (kpS z - 1)) % 5) * 154) 154) sg tr wi2j ol2j orr2j sf2j nb hs (kpO od z) (kpS z - 1) ln lf rg bd rl2j (by first | assumption | omega) (by first | assumption | omega)) gL_isRound_L_told rfl rfl rfl yd_L_told.2 ⟨Nat.le_of_ble_eq_true rfl, Nat.le_of_ble_eq_true rfl⟩ rfl 19 rfl (by decide) rfl (Nat.le_of_ble_eq_true rfl) ⟨Nat.le_of_ble_eq_true rfl, Nat.le_of_ble_eq_true rfl⟩ dL_isRound_111 ?_
            rintro _ _ ⟨wi2k, ol2k, orr2k, sf2k, rl2k, rfl, rfl, h10⟩
            refine g_eq (ws' := (xW cI cC x0 n0 n1 t0 t1 s0 s1 g0 g1 w0 w1 w2 m0 m1 m2 m3 m4 p0 p1 (bI hs) c ct cs (va_cpy c r 0 (((kpO od z + (kpS z - 1)) % 5) * 154) 154) (nI (kpO od z)) (nI (kpS z - 1)) sg (nI ln) tr (nI lf) (nI rg) (bI bd) wi2k ol2k orr2k sf2k (nI rl2k) nb)) (st' := [.long (TD c)]) rfl rfl ?_
            refine g_lload (pc := 114) C dL_isRound_114 1 rfl ?_
            refine g_lcmp0 (pc := 116) C dL_isRound_116 (rfl) ?_
            refine g_bZ (pc := 117) C dL_isRound_117 dL_isRound_120 dL_isRound_121 dL_isRound_124 ?_
            refine g_top (y := bI true) (congrArg bI (decide_eq_true rfl)) ?_
            exact g_zret C hr hQ dL_isRound_125 rfl ⟨_, _, _, _, _, _, _, _, rfl, rfl, kpO_lt ho, by omega, h10⟩
