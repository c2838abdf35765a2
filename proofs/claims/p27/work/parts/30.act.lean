abbrev rm_L_act : Room := { frames := 7, cells := 0, slots := 0, locals := 169 }
theorem yd_L_act : yL_act.cls = RL ∧ yL_act.cls ≠ "java/lang/invoke/MethodHandle" ∧ yL_act.cls ≠ "java/lang/invoke/VarHandle" ∧ (parseMethodDescriptor yL_act.desc).map (fun d => d.parameters.length) = some 3 := by decide +kernel
set_option maxHeartbeats 4000000 in
set_option maxRecDepth 100000 in
theorem m_L_act (l : Launch) (D : va_G) (cI cC : ClassId) (x0 n0 n1 t0 t1 s0 s1 g0 g1 w0 w1 w2 m0 m1 m2 m3 m4 p0 p1 : Nat) (c : Nat → Int32) (ct : Nat → Int32) (cs : Nat → Int32) (r : Nat → Int32) (sg : Nat → Int32) (tr : Nat → Int32) (wi : Nat → Int32) (ol : Nat → Int32) (orr : Nat → Int32) (sf : Nat → Int32) (nb : Nat → Int32) (hs : Bool) (od : Nat) (z : Nat) (ln : Nat) (lf : Nat) (rg : Nat) (bd : Bool) (rl : Nat) (v : Int32) (w : Int32) (hc : cOK c) (ho : od < 5) (hz : z ≤ 5) (hrl : rl < 256) (hcs : hs = true → cOK cs) : g_M l yL_act wsL_act rm_L_act D cI cC [.ref x0, .int v, .int w] (xW cI cC x0 n0 n1 t0 t1 s0 s1 g0 g1 w0 w1 w2 m0 m1 m2 m3 m4 p0 p1 (bI hs) c ct cs r (nI od) (nI z) sg (nI ln) tr (nI lf) (nI rg) (bI bd) wi ol orr sf (nI rl) nb) (fun vv ww => ∃ (c2 : Nat → Int32) (r2 : Nat → Int32) (od2 : Nat) (z2 : Nat) (wi2 : Nat → Int32) (ol2 : Nat → Int32) (orr2 : Nat → Int32) (sf2 : Nat → Int32) (rl2 : Nat), vv = some (.int ((AT hs c cs v w).1)) ∧ ww = (xW cI cC x0 n0 n1 t0 t1 s0 s1 g0 g1 w0 w1 w2 m0 m1 m2 m3 m4 p0 p1 (bI hs) c2 ct cs r2 (nI od2) (nI z2) sg (nI ln) tr (nI lf) (nI rg) (bI bd) wi2 ol2 orr2 sf2 (nI rl2) nb) ∧ XA (AT hs c cs v w).2.1 c (AT hs c cs v w).2.2 r od z c2 r2 od2 z2 ∧ rl2 < 256) := by
  refine g_entry (lv := [(0, .ref x0), (1, .int v), (2, .int w)]) (own := RL) (by decide) rfl rfl (Nat.le_of_ble_eq_true rfl) rfl ?_
  intro p e s m args below meth co A Q C hr hQ
  refine g_iload_n (pc := 0) C dL_act_0 1 rfl rfl ?_
  refine g_iconst (pc := 1) (v := nI 4) C dL_act_1 (by decide) ?_
  refine g_ishr (pc := 2) C dL_act_2 ?_
  refine g_bipush (pc := 3) (v := nI 9) C dL_act_3 (by decide) ?_
  refine g_callS (pc := 5) (st := []) (As := [.int (v >>> ((nI 4) &&& 31)), .int (nI 9)]) (nn := 2) C (m_L_low l D cI cC (v >>> ((nI 4) &&& 31)) 9 (by decide) (by decide)) gL_act_L_low rfl rfl rfl yd_L_low.2 ⟨Nat.le_of_ble_eq_true rfl, Nat.le_of_ble_eq_true rfl⟩ rfl [] rfl rfl rfl (Nat.le_of_ble_eq_true rfl) ⟨Nat.le_of_ble_eq_true rfl, Nat.le_of_ble_eq_true rfl⟩ dL_act_5 ?_
  rintro _ _ ⟨rfl, rfl⟩
  refine g_eq (ws' := (xW cI cC x0 n0 n1 t0 t1 s0 s1 g0 g1 w0 w1 w2 m0 m1 m2 m3 m4 p0 p1 (bI hs) c ct cs r (nI od) (nI z) sg (nI ln) tr (nI lf) (nI rg) (bI bd) wi ol orr sf (nI rl) nb)) (st' := [.int (nI (lowN (v >>> ((nI 4) &&& 31)) 9))]) rfl rfl ?_
  refine g_istore_n (pc := 8) (lv' := [(3, .int (nI (lowN (v >>> ((nI 4) &&& 31)) 9))), (0, .ref x0), (1, .int v), (2, .int w)]) C dL_act_8 rfl (by decide) rfl ?_
  refine g_iload_n (pc := 9) C dL_act_9 3 rfl rfl ?_
  refine g_bipush (pc := 10) (v := nI 8) C dL_act_10 (by decide) ?_
  refine g_callS (pc := 12) (st := []) (As := [.int w, .int (nI 8)]) (nn := 2) C (m_L_low l D cI cC w 8 (by decide) (by decide)) gL_act_L_low rfl rfl rfl yd_L_low.2 ⟨Nat.le_of_ble_eq_true rfl, Nat.le_of_ble_eq_true rfl⟩ rfl [] rfl rfl rfl (Nat.le_of_ble_eq_true rfl) ⟨Nat.le_of_ble_eq_true rfl, Nat.le_of_ble_eq_true rfl⟩ dL_act_12 ?_
  rintro _ _ ⟨rfl, rfl⟩
  refine g_eq (ws' := (xW cI cC x0 n0 n1 t0 t1 s0 s1 g0 g1 w0 w1 w2 m0 m1 m2 m3 m4 p0 p1 (bI hs) c ct cs r (nI od) (nI z) sg (nI ln) tr (nI lf) (nI rg) (bI bd) wi ol orr sf (nI rl) nb)) (st' := [.int (nI (lowN w 8))]) rfl rfl ?_
  refine g_istore (pc := 15) (lv' := [(4, .int (nI (lowN w 8))), (3, .int (nI (lowN (v >>> ((nI 4) &&& 31)) 9))), (0, .ref x0), (1, .int v), (2, .int w)]) C dL_act_15 (by decide) rfl ?_
  refine g_iload_n (pc := 17) C dL_act_17 3 rfl rfl ?_
  refine g_bipush (pc := 18) (v := nI 15) C dL_act_18 (by decide) ?_
  refine g_iand (pc := 20) C dL_act_20 ?_
  by_cases t21_0 : (v &&& (nI 15)) = nI 0
  · refine g_top (y := nI 0) t21_0 ?_
    refine g_tabIn (pc := 21) C 88 dL_act_21 (by decide) (by decide) rfl (by decide) ?_
    refine g_aload_n (pc := 88) C dL_act_88 2 rfl rfl ?_
    refine g_iload_n (pc := 89) C dL_act_89 1 rfl rfl ?_
    refine g_iload (pc := 90) C dL_act_90 0 rfl ?_
    refine g_callVW (pc := 92) (st := []) (As := [.int (nI (lowN (v >>> ((nI 4) &&& 31)) 9)), .int (nI (lowN w 8))]) (nn := 2) (ci := 5) C (m_X5_wish l D cI cC x0 n0 n1 t0 t1 s0 s1 g0 g1 w0 w1 w2 m0 m1 m2 m3 m4 p0 p1 c ct cs r sg tr wi ol orr sf nb hs od z ln lf rg bd rl (nI (lowN (v >>> ((nI 4) &&& 31)) 9)) (nI (lowN w 8)) (by first | assumption | omega) (by first | assumption | omega) (by first | assumption | omega)) gL_act_X5_wish rfl rfl rfl yd_X5_wish ⟨Nat.le_of_ble_eq_true rfl, Nat.le_of_ble_eq_true rfl⟩ rfl 19 rfl (by decide) rfl rfl rfl (Nat.le_of_ble_eq_true rfl) ⟨Nat.le_of_ble_eq_true rfl, Nat.le_of_ble_eq_true rfl⟩ dL_act_92 ?_
    rintro _ _ ⟨c2a, r2a, od2a, z2a, rfl, rfl, fx⟩
    refine g_eq (ws' := (xW cI cC x0 n0 n1 t0 t1 s0 s1 g0 g1 w0 w1 w2 m0 m1 m2 m3 m4 p0 p1 (bI hs) c2a ct cs r2a (nI od2a) (nI z2a) sg (nI ln) tr (nI lf) (nI rg) (bI bd) wi ol orr sf (nI rl) nb)) (st' := [.int (xwV c (nI (lowN (v >>> ((nI 4) &&& 31)) 9)) (nI (lowN w 8)))]) rfl rfl ?_
    have hA : AT hs c cs v w = (xwV c (nI (lowN (v >>> ((nI 4) &&& 31)) 9)) (nI (lowN w 8)), xwQ c (nI (lowN (v >>> ((nI 4) &&& 31)) 9)) (nI (lowN w 8)), xwC c (nI (lowN (v >>> ((nI 4) &&& 31)) 9)) (nI (lowN w 8))) := by rw [AT, if_pos t21_0]
    refine g_top (y := (AT hs c cs v w).1) ((congrArg (fun t => t.1) hA).symm) ?_
    exact g_iret C hr hQ dL_act_95 rfl ⟨_, _, _, _, _, _, _, _, _, rfl, rfl, (by rw [hA]; exact fx), hrl⟩
  by_cases t21_1 : (v &&& (nI 15)) = nI 1
  · refine g_top (y := nI 1) t21_1 ?_
    refine g_tabIn (pc := 21) C 88 dL_act_21 (by decide) (by decide) rfl (by decide) ?_
    refine g_aload_n (pc := 88) C dL_act_88 2 rfl rfl ?_
    refine g_iload_n (pc := 89) C dL_act_89 1 rfl rfl ?_
    refine g_iload (pc := 90) C dL_act_90 0 rfl ?_
    refine g_callVW (pc := 92) (st := []) (As := [.int (nI (lowN (v >>> ((nI 4) &&& 31)) 9)), .int (nI (lowN w 8))]) (nn := 2) (ci := 5) C (m_X5_wish l D cI cC x0 n0 n1 t0 t1 s0 s1 g0 g1 w0 w1 w2 m0 m1 m2 m3 m4 p0 p1 c ct cs r sg tr wi ol orr sf nb hs od z ln lf rg bd rl (nI (lowN (v >>> ((nI 4) &&& 31)) 9)) (nI (lowN w 8)) (by first | assumption | omega) (by first | assumption | omega) (by first | assumption | omega)) gL_act_X5_wish rfl rfl rfl yd_X5_wish ⟨Nat.le_of_ble_eq_true rfl, Nat.le_of_ble_eq_true rfl⟩ rfl 19 rfl (by decide) rfl rfl rfl (Nat.le_of_ble_eq_true rfl) ⟨Nat.le_of_ble_eq_true rfl, Nat.le_of_ble_eq_true rfl⟩ dL_act_92 ?_
    rintro _ _ ⟨c2a, r2a, od2a, z2a, rfl, rfl, fx⟩
    refine g_eq (ws' := (xW cI cC x0 n0 n1 t0 t1 s0 s1 g0 g1 w0 w1 w2 m0 m1 m2 m3 m4 p0 p1 (bI hs) c2a ct cs r2a (nI od2a) (nI z2a) sg (nI ln) tr (nI lf) (nI rg) (bI bd) wi ol orr sf (nI rl) nb)) (st' := [.int (xwV c (nI (lowN (v >>> ((nI 4) &&& 31)) 9)) (nI (lowN w 8)))]) rfl rfl ?_
    have hA : AT hs c cs v w = (xwV c (nI (lowN (v >>> ((nI 4) &&& 31)) 9)) (nI (lowN w 8)), xwQ c (nI (lowN (v >>> ((nI 4) &&& 31)) 9)) (nI (lowN w 8)), xwC c (nI (lowN (v >>> ((nI 4) &&& 31)) 9)) (nI (lowN w 8))) := by rw [AT, if_neg t21_0, if_pos t21_1]
    refine g_top (y := (AT hs c cs v w).1) ((congrArg (fun t => t.1) hA).symm) ?_
    exact g_iret C hr hQ dL_act_95 rfl ⟨_, _, _, _, _, _, _, _, _, rfl, rfl, (by rw [hA]; exact fx), hrl⟩
  by_cases t21_2 : (v &&& (nI 15)) = nI 2
  · refine g_top (y := nI 2) t21_2 ?_
    refine g_tabIn (pc := 21) C 88 dL_act_21 (by decide) (by decide) rfl (by decide) ?_
    refine g_aload_n (pc := 88) C dL_act_88 2 rfl rfl ?_
    refine g_iload_n (pc := 89) C dL_act_89 1 rfl rfl ?_
    refine g_iload (pc := 90) C dL_act_90 0 rfl ?_
    refine g_callVW (pc := 92) (st := []) (As := [.int (nI (lowN (v >>> ((nI 4) &&& 31)) 9)), .int (nI (lowN w 8))]) (nn := 2) (ci := 5) C (m_X5_wish l D cI cC x0 n0 n1 t0 t1 s0 s1 g0 g1 w0 w1 w2 m0 m1 m2 m3 m4 p0 p1 c ct cs r sg tr wi ol orr sf nb hs od z ln lf rg bd rl (nI (lowN (v >>> ((nI 4) &&& 31)) 9)) (nI (lowN w 8)) (by first | assumption | omega) (by first | assumption | omega) (by first | assumption | omega)) gL_act_X5_wish rfl rfl rfl yd_X5_wish ⟨Nat.le_of_ble_eq_true rfl, Nat.le_of_ble_eq_true rfl⟩ rfl 19 rfl (by decide) rfl rfl rfl (Nat.le_of_ble_eq_true rfl) ⟨Nat.le_of_ble_eq_true rfl, Nat.le_of_ble_eq_true rfl⟩ dL_act_92 ?_
    rintro _ _ ⟨c2a, r2a, od2a, z2a, rfl, rfl, fx⟩
    refine g_eq (ws' := (xW cI cC x0 n0 n1 t0 t1 s0 s1 g0 g1 w0 w1 w2 m0 m1 m2 m3 m4 p0 p1 (bI hs) c2a ct cs r2a (nI od2a) (nI z2a) sg (nI ln) tr (nI lf) (nI rg) (bI bd) wi ol orr sf (nI rl) nb)) (st' := [.int (xwV c (nI (lowN (v >>> ((nI 4) &&& 31)) 9)) (nI (lowN w 8)))]) rfl rfl ?_
    have hA : AT hs c cs v w = (xwV c (nI (lowN (v >>> ((nI 4) &&& 31)) 9)) (nI (lowN w 8)), xwQ c (nI (lowN (v >>> ((nI 4) &&& 31)) 9)) (nI (lowN w 8)), xwC c (nI (lowN (v >>> ((nI 4) &&& 31)) 9)) (nI (lowN w 8))) := by rw [AT, if_neg t21_0, if_neg t21_1, if_pos t21_2]
    refine g_top (y := (AT hs c cs v w).1) ((congrArg (fun t => t.1) hA).symm) ?_
    exact g_iret C hr hQ dL_act_95 rfl ⟨_, _, _, _, _, _, _, _, _, rfl, rfl, (by rw [hA]; exact fx), hrl⟩
  by_cases t21_3 : (v &&& (nI 15)) = nI 3
  · refine g_top (y := nI 3) t21_3 ?_
    refine g_tabIn (pc := 21) C 88 dL_act_21 (by decide) (by decide) rfl (by decide) ?_
    refine g_aload_n (pc := 88) C dL_act_88 2 rfl rfl ?_
    refine g_iload_n (pc := 89) C dL_act_89 1 rfl rfl ?_
    refine g_iload (pc := 90) C dL_act_90 0 rfl ?_
    refine g_callVW (pc := 92) (st := []) (As := [.int (nI (lowN (v >>> ((nI 4) &&& 31)) 9)), .int (nI (lowN w 8))]) (nn := 2) (ci := 5) C (m_X5_wish l D cI cC x0 n0 n1 t0 t1 s0 s1 g0 g1 w0 w1 w2 m0 m1 m2 m3 m4 p0 p1 c ct cs r sg tr wi ol orr sf nb hs od z ln lf rg bd rl (nI (lowN (v >>> ((nI 4) &&& 31)) 9)) (nI (lowN w 8)) (by first | assumption | omega) (by first | assumption | omega) (by first | assumption | omega)) gL_act_X5_wish rfl rfl rfl yd_X5_wish ⟨Nat.le_of_ble_eq_true rfl, Nat.le_of_ble_eq_true rfl⟩ rfl 19 rfl (by decide) rfl rfl rfl (Nat.le_of_ble_eq_true rfl) ⟨Nat.le_of_ble_eq_true rfl, Nat.le_of_ble_eq_true rfl⟩ dL_act_92 ?_
    rintro _ _ ⟨c2a, r2a, od2a, z2a, rfl, rfl, fx⟩
    refine g_eq (ws' := (xW cI cC x0 n0 n1 t0 t1 s0 s1 g0 g1 w0 w1 w2 m0 m1 m2 m3 m4 p0 p1 (bI hs) c2a ct cs r2a (nI od2a) (nI z2a) sg (nI ln) tr (nI lf) (nI rg) (bI bd) wi ol orr sf (nI rl) nb)) (st' := [.int (xwV c (nI (lowN (v >>> ((nI 4) &&& 31)) 9)) (nI (lowN w 8)))]) rfl rfl ?_
    have hA : AT hs c cs v w = (xwV c (nI (lowN (v >>> ((nI 4) &&& 31)) 9)) (nI (lowN w 8)), xwQ c (nI (lowN (v >>> ((nI 4) &&& 31)) 9)) (nI (lowN w 8)), xwC c (nI (lowN (v >>> ((nI 4) &&& 31)) 9)) (nI (lowN w 8))) := by rw [AT, if_neg t21_0, if_neg t21_1, if_neg t21_2, if_pos t21_3]
    refine g_top (y := (AT hs c cs v w).1) ((congrArg (fun t => t.1) hA).symm) ?_
    exact g_iret C hr hQ dL_act_95 rfl ⟨_, _, _, _, _, _, _, _, _, rfl, rfl, (by rw [hA]; exact fx), hrl⟩
  by_cases t21_4 : (v &&& (nI 15)) = nI 4
  · refine g_top (y := nI 4) t21_4 ?_
    refine g_tabIn (pc := 21) C 88 dL_act_21 (by decide) (by decide) rfl (by decide) ?_
    refine g_aload_n (pc := 88) C dL_act_88 2 rfl rfl ?_
    refine g_iload_n (pc := 89) C dL_act_89 1 rfl rfl ?_
    refine g_iload (pc := 90) C dL_act_90 0 rfl ?_
    refine g_callVW (pc := 92) (st := []) (As := [.int (nI (lowN (v >>> ((nI 4) &&& 31)) 9)), .int (nI (lowN w 8))]) (nn := 2) (ci := 5) C (m_X5_wish l D cI cC x0 n0 n1 t0 t1 s0 s1 g0 g1 w0 w1 w2 m0 m1 m2 m3 m4 p0 p1 c ct cs r sg tr wi ol orr sf nb hs od z ln lf rg bd rl (nI (lowN (v >>> ((nI 4) &&& 31)) 9)) (nI (lowN w 8)) (by first | assumption | omega) (by first | assumption | omega) (by first | assumption | omega)) gL_act_X5_wish rfl rfl rfl yd_X5_wish ⟨Nat.le_of_ble_eq_true rfl, Nat.le_of_ble_eq_true rfl⟩ rfl 19 rfl (by decide) rfl rfl rfl (Nat.le_of_ble_eq_true rfl) ⟨Nat.le_of_ble_eq_true rfl, Nat.le_of_ble_eq_true rfl⟩ dL_act_92 ?_
    rintro _ _ ⟨c2a, r2a, od2a, z2a, rfl, rfl, fx⟩
    refine g_eq (ws' := (xW cI cC x0 n0 n1 t0 t1 s0 s1 g0 g1 w0 w1 w2 m0 m1 m2 m3 m4 p0 p1 (bI hs) c2a ct cs r2a (nI od2a) (nI z2a) sg (nI ln) tr (nI lf) (nI rg) (bI bd) wi ol orr sf (nI rl) nb)) (st' := [.int (xwV c (nI (lowN (v >>> ((nI 4) &&& 31)) 9)) (nI (lowN w 8)))]) rfl rfl ?_
    have hA : AT hs c cs v w = (xwV c (nI (lowN (v >>> ((nI 4) &&& 31)) 9)) (nI (lowN w 8)), xwQ c (nI (lowN (v >>> ((nI 4) &&& 31)) 9)) (nI (lowN w 8)), xwC c (nI (lowN (v >>> ((nI 4) &&& 31)) 9)) (nI (lowN w 8))) := by rw [AT, if_neg t21_0, if_neg t21_1, if_neg t21_2, if_neg t21_3, if_pos t21_4]
    refine g_top (y := (AT hs c cs v w).1) ((congrArg (fun t => t.1) hA).symm) ?_
    exact g_iret C hr hQ dL_act_95 rfl ⟨_, _, _, _, _, _, _, _, _, rfl, rfl, (by rw [hA]; exact fx), hrl⟩
  by_cases t21_5 : (v &&& (nI 15)) = nI 5
  · refine g_top (y := nI 5) t21_5 ?_
    refine g_tabIn (pc := 21) C 88 dL_act_21 (by decide) (by decide) rfl (by decide) ?_
    refine g_aload_n (pc := 88) C dL_act_88 2 rfl rfl ?_
    refine g_iload_n (pc := 89) C dL_act_89 1 rfl rfl ?_
    refine g_iload (pc := 90) C dL_act_90 0 rfl ?_
    refine g_callVW (pc := 92) (st := []) (As := [.int (nI (lowN (v >>> ((nI 4) &&& 31)) 9)), .int (nI (lowN w 8))]) (nn := 2) (ci := 5) C (m_X5_wish l D cI cC x0 n0 n1 t0 t1 s0 s1 g0 g1 w0 w1 w2 m0 m1 m2 m3 m4 p0 p1 c ct cs r sg tr wi ol orr sf nb hs od z ln lf rg bd rl (nI (lowN (v >>> ((nI 4) &&& 31)) 9)) (nI (lowN w 8)) (by first | assumption | omega) (by first | assumption | omega) (by first | assumption | omega)) gL_act_X5_wish rfl rfl rfl yd_X5_wish ⟨Nat.le_of_ble_eq_true rfl, Nat.le_of_ble_eq_true rfl⟩ rfl 19 rfl (by decide) rfl rfl rfl (Nat.le_of_ble_eq_true rfl) ⟨Nat.le_of_ble_eq_true rfl, Nat.le_of_ble_eq_true rfl⟩ dL_act_92 ?_
    rintro _ _ ⟨c2a, r2a, od2a, z2a, rfl, rfl, fx⟩
    refine g_eq (ws' := (xW cI cC x0 n0 n1 t0 t1 s0 s1 g0 g1 w0 w1 w2 m0 m1 m2 m3 m4 p0 p1 (bI hs) c2a ct cs r2a (nI od2a) (nI z2a) sg (nI ln) tr (nI lf) (nI rg) (bI bd) wi ol orr sf (nI rl) nb)) (st' := [.int (xwV c (nI (lowN (v >>> ((nI 4) &&& 31)) 9)) (nI (lowN w 8)))]) rfl rfl ?_
    have hA : AT hs c cs v w = (xwV c (nI (lowN (v >>> ((nI 4) &&& 31)) 9)) (nI (lowN w 8)), xwQ c (nI (lowN (v >>> ((nI 4) &&& 31)) 9)) (nI (lowN w 8)), xwC c (nI (lowN (v >>> ((nI 4) &&& 31)) 9)) (nI (lowN w 8))) := by rw [AT, if_neg t21_0, if_neg t21_1, if_neg t21_2, if_neg t21_3, if_neg t21_4, if_pos t21_5]
    refine g_top (y := (AT hs c cs v w).1) ((congrArg (fun t => t.1) hA).symm) ?_
    exact g_iret C hr hQ dL_act_95 rfl ⟨_, _, _, _, _, _, _, _, _, rfl, rfl, (by rw [hA]; exact fx), hrl⟩
  by_cases t21_6 : (v &&& (nI 15)) = nI 6
  · refine g_top (y := nI 6) t21_6 ?_
    refine g_tabIn (pc := 21) C 96 dL_act_21 (by decide) (by decide) rfl (by decide) ?_
    refine g_aload_n (pc := 96) C dL_act_96 2 rfl rfl ?_
    refine g_iload_n (pc := 97) C dL_act_97 1 rfl rfl ?_
    refine g_iload (pc := 98) C dL_act_98 0 rfl ?_
    refine g_callVW (pc := 100) (st := []) (As := [.int (nI (lowN (v >>> ((nI 4) &&& 31)) 9)), .int (nI (lowN w 8))]) (nn := 2) (ci := 5) C (m_X5_withdraw l D cI cC x0 n0 n1 t0 t1 s0 s1 g0 g1 w0 w1 w2 m0 m1 m2 m3 m4 p0 p1 c ct cs r sg tr wi ol orr sf nb hs od z ln lf rg bd rl (nI (lowN (v >>> ((nI 4) &&& 31)) 9)) (nI (lowN w 8)) (by first | assumption | omega) (by first | assumption | omega) (by first | assumption | omega)) gL_act_X5_withdraw rfl rfl rfl yd_X5_withdraw ⟨Nat.le_of_ble_eq_true rfl, Nat.le_of_ble_eq_true rfl⟩ rfl 19 rfl (by decide) rfl rfl rfl (Nat.le_of_ble_eq_true rfl) ⟨Nat.le_of_ble_eq_true rfl, Nat.le_of_ble_eq_true rfl⟩ dL_act_100 ?_
    rintro _ _ ⟨c2a, r2a, od2a, z2a, rfl, rfl, fx⟩
    refine g_eq (ws' := (xW cI cC x0 n0 n1 t0 t1 s0 s1 g0 g1 w0 w1 w2 m0 m1 m2 m3 m4 p0 p1 (bI hs) c2a ct cs r2a (nI od2a) (nI z2a) sg (nI ln) tr (nI lf) (nI rg) (bI bd) wi ol orr sf (nI rl) nb)) (st' := [.int (wdV c (nI (lowN (v >>> ((nI 4) &&& 31)) 9)) (nI (lowN w 8)))]) rfl rfl ?_
    have hA : AT hs c cs v w = (wdV c (nI (lowN (v >>> ((nI 4) &&& 31)) 9)) (nI (lowN w 8)), wdQ c (nI (lowN (v >>> ((nI 4) &&& 31)) 9)) (nI (lowN w 8)), wdC c (nI (lowN (v >>> ((nI 4) &&& 31)) 9)) (nI (lowN w 8))) := by rw [AT, if_neg t21_0, if_neg t21_1, if_neg t21_2, if_neg t21_3, if_neg t21_4, if_neg t21_5, if_pos t21_6]
    refine g_top (y := (AT hs c cs v w).1) ((congrArg (fun t => t.1) hA).symm) ?_
    exact g_iret C hr hQ dL_act_103 rfl ⟨_, _, _, _, _, _, _, _, _, rfl, rfl, (by rw [hA]; exact fx), hrl⟩
  by_cases t21_7 : (v &&& (nI 15)) = nI 7
  · refine g_top (y := nI 7) t21_7 ?_
    refine g_tabIn (pc := 21) C 104 dL_act_21 (by decide) (by decide) rfl (by decide) ?_
    refine g_aload_n (pc := 104) C dL_act_104 2 rfl rfl ?_
    refine g_iload_n (pc := 105) C dL_act_105 1 rfl rfl ?_
    refine g_iload (pc := 106) C dL_act_106 0 rfl ?_
    refine g_iload_n (pc := 108) C dL_act_108 4 rfl rfl ?_
    refine g_iconst (pc := 109) (v := nI 3) C dL_act_109 (by decide) ?_
    refine g_ishr (pc := 110) C dL_act_110 ?_
    refine g_bipush (pc := 111) (v := nI 7) C dL_act_111 (by decide) ?_
    refine g_callS (pc := 113) (st := [.int (nI (lowN w 8)), .int (nI (lowN (v >>> ((nI 4) &&& 31)) 9)), .ref x0]) (As := [.int (w >>> ((nI 3) &&& 31)), .int (nI 7)]) (nn := 2) C (m_L_low l D cI cC (w >>> ((nI 3) &&& 31)) 7 (by decide) (by decide)) gL_act_L_low rfl rfl rfl yd_L_low.2 ⟨Nat.le_of_ble_eq_true rfl, Nat.le_of_ble_eq_true rfl⟩ rfl [] rfl rfl rfl (Nat.le_of_ble_eq_true rfl) ⟨Nat.le_of_ble_eq_true rfl, Nat.le_of_ble_eq_true rfl⟩ dL_act_113 ?_
    rintro _ _ ⟨rfl, rfl⟩
    refine g_eq (ws' := (xW cI cC x0 n0 n1 t0 t1 s0 s1 g0 g1 w0 w1 w2 m0 m1 m2 m3 m4 p0 p1 (bI hs) c ct cs r (nI od) (nI z) sg (nI ln) tr (nI lf) (nI rg) (bI bd) wi ol orr sf (nI rl) nb)) (st' := [.int (nI (lowN (w >>> ((nI 3) &&& 31)) 7)), .int (nI (lowN w 8)), .int (nI (lowN (v >>> ((nI 4) &&& 31)) 9)), .ref x0]) rfl rfl ?_
    refine g_callVW (pc := 116) (st := []) (As := [.int (nI (lowN (v >>> ((nI 4) &&& 31)) 9)), .int (nI (lowN w 8)), .int (nI (lowN (w >>> ((nI 3) &&& 31)) 7))]) (nn := 3) (ci := 5) C (m_X5_quarrel l D cI cC x0 n0 n1 t0 t1 s0 s1 g0 g1 w0 w1 w2 m0 m1 m2 m3 m4 p0 p1 c ct cs r sg tr wi ol orr sf nb hs od z ln lf rg bd rl (nI (lowN (v >>> ((nI 4) &&& 31)) 9)) (nI (lowN w 8)) (nI (lowN (w >>> ((nI 3) &&& 31)) 7)) (by first | assumption | omega) (by first | assumption | omega) (by first | assumption | omega)) gL_act_X5_quarrel rfl rfl rfl yd_X5_quarrel ⟨Nat.le_of_ble_eq_true rfl, Nat.le_of_ble_eq_true rfl⟩ rfl 19 rfl (by decide) rfl rfl rfl (Nat.le_of_ble_eq_true rfl) ⟨Nat.le_of_ble_eq_true rfl, Nat.le_of_ble_eq_true rfl⟩ dL_act_116 ?_
    rintro _ _ ⟨c2a, r2a, od2a, z2a, rfl, rfl, fx⟩
    refine g_eq (ws' := (xW cI cC x0 n0 n1 t0 t1 s0 s1 g0 g1 w0 w1 w2 m0 m1 m2 m3 m4 p0 p1 (bI hs) c2a ct cs r2a (nI od2a) (nI z2a) sg (nI ln) tr (nI lf) (nI rg) (bI bd) wi ol orr sf (nI rl) nb)) (st' := [.int (quV c (nI (lowN (v >>> ((nI 4) &&& 31)) 9)) (nI (lowN w 8)) (nI (lowN (w >>> ((nI 3) &&& 31)) 7)))]) rfl rfl ?_
    have hA : AT hs c cs v w = (quV c (nI (lowN (v >>> ((nI 4) &&& 31)) 9)) (nI (lowN w 8)) (nI (lowN (w >>> ((nI 3) &&& 31)) 7)), quQ (nI (lowN (v >>> ((nI 4) &&& 31)) 9)) (nI (lowN w 8)) (nI (lowN (w >>> ((nI 3) &&& 31)) 7)), fdC c (nI (lowN (v >>> ((nI 4) &&& 31)) 9)) (nI (lowN w 8)) (nI (lowN (w >>> ((nI 3) &&& 31)) 7))) := by rw [AT, if_neg t21_0, if_neg t21_1, if_neg t21_2, if_neg t21_3, if_neg t21_4, if_neg t21_5, if_neg t21_6, if_pos t21_7]
    refine g_top (y := (AT hs c cs v w).1) ((congrArg (fun t => t.1) hA).symm) ?_
    exact g_iret C hr hQ dL_act_119 rfl ⟨_, _, _, _, _, _, _, _, _, rfl, rfl, (by rw [hA]; exact fx), hrl⟩
  by_cases t21_8 : (v &&& (nI 15)) = nI 8
  · refine g_top (y := nI 8) t21_8 ?_
    refine g_tabIn (pc := 21) C 104 dL_act_21 (by decide) (by decide) rfl (by decide) ?_
    refine g_aload_n (pc := 104) C dL_act_104 2 rfl rfl ?_
    refine g_iload_n (pc := 105) C dL_act_105 1 rfl rfl ?_
    refine g_iload (pc := 106) C dL_act_106 0 rfl ?_
    refine g_iload_n (pc := 108) C dL_act_108 4 rfl rfl ?_
    refine g_iconst (pc := 109) (v := nI 3) C dL_act_109 (by decide) ?_
    refine g_ishr (pc := 110) C dL_act_110 ?_
    refine g_bipush (pc := 111) (v := nI 7) C dL_act_111 (by decide) ?_
    refine g_callS (pc := 113) (st := [.int (nI (lowN w 8)), .int (nI (lowN (v >>> ((nI 4) &&& 31)) 9)), .ref x0]) (As := [.int (w >>> ((nI 3) &&& 31)), .int (nI 7)]) (nn := 2) C (m_L_low l D cI cC (w >>> ((nI 3) &&& 31)) 7 (by decide) (by decide)) gL_act_L_low rfl rfl rfl yd_L_low.2 ⟨Nat.le_of_ble_eq_true rfl, Nat.le_of_ble_eq_true rfl⟩ rfl [] rfl rfl rfl (Nat.le_of_ble_eq_true rfl) ⟨Nat.le_of_ble_eq_true rfl, Nat.le_of_ble_eq_true rfl⟩ dL_act_113 ?_
    rintro _ _ ⟨rfl, rfl⟩
    refine g_eq (ws' := (xW cI cC x0 n0 n1 t0 t1 s0 s1 g0 g1 w0 w1 w2 m0 m1 m2 m3 m4 p0 p1 (bI hs) c ct cs r (nI od) (nI z) sg (nI ln) tr (nI lf) (nI rg) (bI bd) wi ol orr sf (nI rl) nb)) (st' := [.int (nI (lowN (w >>> ((nI 3) &&& 31)) 7)), .int (nI (lowN w 8)), .int (nI (lowN (v >>> ((nI 4) &&& 31)) 9)), .ref x0]) rfl rfl ?_
    refine g_callVW (pc := 116) (st := []) (As := [.int (nI (lowN (v >>> ((nI 4) &&& 31)) 9)), .int (nI (lowN w 8)), .int (nI (lowN (w >>> ((nI 3) &&& 31)) 7))]) (nn := 3) (ci := 5) C (m_X5_quarrel l D cI cC x0 n0 n1 t0 t1 s0 s1 g0 g1 w0 w1 w2 m0 m1 m2 m3 m4 p0 p1 c ct cs r sg tr wi ol orr sf nb hs od z ln lf rg bd rl (nI (lowN (v >>> ((nI 4) &&& 31)) 9)) (nI (lowN w 8)) (nI (lowN (w >>> ((nI 3) &&& 31)) 7)) (by first | assumption | omega) (by first | assumption | omega) (by first | assumption | omega)) gL_act_X5_quarrel rfl rfl rfl yd_X5_quarrel ⟨Nat.le_of_ble_eq_true rfl, Nat.le_of_ble_eq_true rfl⟩ rfl 19 rfl (by decide) rfl rfl rfl (Nat.le_of_ble_eq_true rfl) ⟨Nat.le_of_ble_eq_true rfl, Nat.le_of_ble_eq_true rfl⟩ dL_act_116 ?_
    rintro _ _ ⟨c2a, r2a, od2a, z2a, rfl, rfl, fx⟩
    refine g_eq (ws' := (xW cI cC x0 n0 n1 t0 t1 s0 s1 g0 g1 w0 w1 w2 m0 m1 m2 m3 m4 p0 p1 (bI hs) c2a ct cs r2a (nI od2a) (nI z2a) sg (nI ln) tr (nI lf) (nI rg) (bI bd) wi ol orr sf (nI rl) nb)) (st' := [.int (quV c (nI (lowN (v >>> ((nI 4) &&& 31)) 9)) (nI (lowN w 8)) (nI (lowN (w >>> ((nI 3) &&& 31)) 7)))]) rfl rfl ?_
    have hA : AT hs c cs v w = (quV c (nI (lowN (v >>> ((nI 4) &&& 31)) 9)) (nI (lowN w 8)) (nI (lowN (w >>> ((nI 3) &&& 31)) 7)), quQ (nI (lowN (v >>> ((nI 4) &&& 31)) 9)) (nI (lowN w 8)) (nI (lowN (w >>> ((nI 3) &&& 31)) 7)), fdC c (nI (lowN (v >>> ((nI 4) &&& 31)) 9)) (nI (lowN w 8)) (nI (lowN (w >>> ((nI 3) &&& 31)) 7))) := by rw [AT, if_neg t21_0, if_neg t21_1, if_neg t21_2, if_neg t21_3, if_neg t21_4, if_neg t21_5, if_neg t21_6, if_neg t21_7, if_pos t21_8]
    refine g_top (y := (AT hs c cs v w).1) ((congrArg (fun t => t.1) hA).symm) ?_
    exact g_iret C hr hQ dL_act_119 rfl ⟨_, _, _, _, _, _, _, _, _, rfl, rfl, (by rw [hA]; exact fx), hrl⟩
  by_cases t21_9 : (v &&& (nI 15)) = nI 9
  · refine g_top (y := nI 9) t21_9 ?_
    refine g_tabIn (pc := 21) C 120 dL_act_21 (by decide) (by decide) rfl (by decide) ?_
    refine g_iload_n (pc := 120) C dL_act_120 4 rfl rfl ?_
    refine g_iconst (pc := 121) (v := nI 4) C dL_act_121 (by decide) ?_
    refine g_ishr (pc := 122) C dL_act_122 ?_
    refine g_iconst (pc := 123) (v := nI 1) C dL_act_123 (by decide) ?_
    refine g_iand (pc := 124) C dL_act_124 ?_
    refine g_if_ne (pc := 125) C 138 dL_act_125 (by decide) (fun c125 => ?_) (fun c125 => ?_)
    · refine g_aload_n (pc := 138) C dL_act_138 2 rfl rfl ?_
      refine g_callVW (pc := 139) (st := []) (As := []) (nn := 0) (ci := 5) C (m_X5_restore l D cI cC x0 n0 n1 t0 t1 s0 s1 g0 g1 w0 w1 w2 m0 m1 m2 m3 m4 p0 p1 c ct cs r sg tr wi ol orr sf nb hs od z ln lf rg bd rl (by first | assumption | omega) (by first | assumption | omega) (by first | assumption | omega) (by first | assumption | omega)) gL_act_X5_restore rfl rfl rfl yd_X5_restore ⟨Nat.le_of_ble_eq_true rfl, Nat.le_of_ble_eq_true rfl⟩ rfl 19 rfl (by decide) rfl rfl rfl (Nat.le_of_ble_eq_true rfl) ⟨Nat.le_of_ble_eq_true rfl, Nat.le_of_ble_eq_true rfl⟩ dL_act_139 ?_
      rintro _ _ ⟨c2a, r2a, od2a, z2a, rfl, rfl, fx⟩
      refine g_eq (ws' := (xW cI cC x0 n0 n1 t0 t1 s0 s1 g0 g1 w0 w1 w2 m0 m1 m2 m3 m4 p0 p1 (bI hs) c2a ct cs r2a (nI od2a) (nI z2a) sg (nI ln) tr (nI lf) (nI rg) (bI bd) wi ol orr sf (nI rl) nb)) (st' := [.int (if hs then nI (nwC (va_cpy cs c 0 0 154) 8) else -4)]) rfl rfl ?_
      have hA : AT hs c cs v w = (if hs then nI (nwC (va_cpy cs c 0 0 154) 8) else -4, hs, va_cpy cs c 0 0 154) := by rw [AT, if_neg t21_0, if_neg t21_1, if_neg t21_2, if_neg t21_3, if_neg t21_4, if_neg t21_5, if_neg t21_6, if_neg t21_7, if_neg t21_8, if_pos t21_9, if_neg c125]
      refine g_top (y := (AT hs c cs v w).1) ((congrArg (fun t => t.1) hA).symm) ?_
      exact g_iret C hr hQ dL_act_142 rfl ⟨_, _, _, _, _, _, _, _, _, rfl, rfl, (by rw [hA]; exact fx), hrl⟩
    · refine g_aload_n (pc := 128) C dL_act_128 2 rfl rfl ?_
      refine g_iload_n (pc := 129) C dL_act_129 1 rfl rfl ?_
      refine g_iload (pc := 130) C dL_act_130 0 rfl ?_
      refine g_callVW (pc := 132) (st := []) (As := [.int (nI (lowN (v >>> ((nI 4) &&& 31)) 9)), .int (nI (lowN w 8))]) (nn := 2) (ci := 5) C (m_X5_reconcile l D cI cC x0 n0 n1 t0 t1 s0 s1 g0 g1 w0 w1 w2 m0 m1 m2 m3 m4 p0 p1 c ct cs r sg tr wi ol orr sf nb hs od z ln lf rg bd rl (nI (lowN (v >>> ((nI 4) &&& 31)) 9)) (nI (lowN w 8)) (by first | assumption | omega) (by first | assumption | omega) (by first | assumption | omega)) gL_act_X5_reconcile rfl rfl rfl yd_X5_reconcile ⟨Nat.le_of_ble_eq_true rfl, Nat.le_of_ble_eq_true rfl⟩ rfl 19 rfl (by decide) rfl rfl rfl (Nat.le_of_ble_eq_true rfl) ⟨Nat.le_of_ble_eq_true rfl, Nat.le_of_ble_eq_true rfl⟩ dL_act_132 ?_
      rintro _ _ ⟨c2a, r2a, od2a, z2a, rfl, rfl, fx⟩
      refine g_eq (ws' := (xW cI cC x0 n0 n1 t0 t1 s0 s1 g0 g1 w0 w1 w2 m0 m1 m2 m3 m4 p0 p1 (bI hs) c2a ct cs r2a (nI od2a) (nI z2a) sg (nI ln) tr (nI lf) (nI rg) (bI bd) wi ol orr sf (nI rl) nb)) (st' := [.int (rcV c (nI (lowN (v >>> ((nI 4) &&& 31)) 9)) (nI (lowN w 8)))]) rfl rfl ?_
      refine g_goto (pc := 135) C 142 dL_act_135 (by decide) ?_
      have hA : AT hs c cs v w = (rcV c (nI (lowN (v >>> ((nI 4) &&& 31)) 9)) (nI (lowN w 8)), rcQ c (nI (lowN (v >>> ((nI 4) &&& 31)) 9)) (nI (lowN w 8)), fdC c (nI (lowN (v >>> ((nI 4) &&& 31)) 9)) (nI (lowN w 8)) (nI 0)) := by rw [AT, if_neg t21_0, if_neg t21_1, if_neg t21_2, if_neg t21_3, if_neg t21_4, if_neg t21_5, if_neg t21_6, if_neg t21_7, if_neg t21_8, if_pos t21_9, if_pos c125]
      refine g_top (y := (AT hs c cs v w).1) ((congrArg (fun t => t.1) hA).symm) ?_
      exact g_iret C hr hQ dL_act_142 rfl ⟨_, _, _, _, _, _, _, _, _, rfl, rfl, (by rw [hA]; exact fx), hrl⟩
  by_cases t21_10 : (v &&& (nI 15)) = nI 10
  · refine g_top (y := nI 10) t21_10 ?_
    refine g_tabIn (pc := 21) C 143 dL_act_21 (by decide) (by decide) rfl (by decide) ?_
    refine g_aload_n (pc := 143) C dL_act_143 2 rfl rfl ?_
    refine g_iload_n (pc := 144) C dL_act_144 4 rfl rfl ?_
    refine g_iconst (pc := 145) (v := nI 5) C dL_act_145 (by decide) ?_
    refine g_callS (pc := 146) (st := [.ref x0]) (As := [.int w, .int (nI 5)]) (nn := 2) C (m_L_low l D cI cC w 5 (by decide) (by decide)) gL_act_L_low rfl rfl rfl yd_L_low.2 ⟨Nat.le_of_ble_eq_true rfl, Nat.le_of_ble_eq_true rfl⟩ rfl [] rfl rfl rfl (Nat.le_of_ble_eq_true rfl) ⟨Nat.le_of_ble_eq_true rfl, Nat.le_of_ble_eq_true rfl⟩ dL_act_146 ?_
    rintro _ _ ⟨rfl, rfl⟩
    refine g_eq (ws' := (xW cI cC x0 n0 n1 t0 t1 s0 s1 g0 g1 w0 w1 w2 m0 m1 m2 m3 m4 p0 p1 (bI hs) c ct cs r (nI od) (nI z) sg (nI ln) tr (nI lf) (nI rg) (bI bd) wi ol orr sf (nI rl) nb)) (st' := [.int (nI (lowN w 5)), .ref x0]) rfl rfl ?_
    refine g_iload_n (pc := 149) C dL_act_149 4 rfl rfl ?_
    refine g_iconst (pc := 150) (v := nI 3) C dL_act_150 (by decide) ?_
    refine g_ishr (pc := 151) C dL_act_151 ?_
    refine g_iconst (pc := 152) (v := nI 4) C dL_act_152 (by decide) ?_
    refine g_callS (pc := 153) (st := [.int (nI (lowN w 5)), .ref x0]) (As := [.int (w >>> ((nI 3) &&& 31)), .int (nI 4)]) (nn := 2) C (m_L_low l D cI cC (w >>> ((nI 3) &&& 31)) 4 (by decide) (by decide)) gL_act_L_low rfl rfl rfl yd_L_low.2 ⟨Nat.le_of_ble_eq_true rfl, Nat.le_of_ble_eq_true rfl⟩ rfl [] rfl rfl rfl (Nat.le_of_ble_eq_true rfl) ⟨Nat.le_of_ble_eq_true rfl, Nat.le_of_ble_eq_true rfl⟩ dL_act_153 ?_
    rintro _ _ ⟨rfl, rfl⟩
    refine g_eq (ws' := (xW cI cC x0 n0 n1 t0 t1 s0 s1 g0 g1 w0 w1 w2 m0 m1 m2 m3 m4 p0 p1 (bI hs) c ct cs r (nI od) (nI z) sg (nI ln) tr (nI lf) (nI rg) (bI bd) wi ol orr sf (nI rl) nb)) (st' := [.int (nI (lowN (w >>> ((nI 3) &&& 31)) 4)), .int (nI (lowN w 5)), .ref x0]) rfl rfl ?_
    refine g_iload_n (pc := 156) C dL_act_156 4 rfl rfl ?_
    refine g_bipush (pc := 157) (v := nI 6) C dL_act_157 (by decide) ?_
    refine g_ishr (pc := 159) C dL_act_159 ?_
    refine g_iconst (pc := 160) (v := nI 3) C dL_act_160 (by decide) ?_
    refine g_iand (pc := 161) C dL_act_161 ?_
    refine g_bPos (pc := 162) C dL_act_162 dL_act_165 dL_act_166 dL_act_169 ?_
    refine g_callVW (pc := 170) (st := []) (As := [.int (nI (lowN w 5)), .int (nI (lowN (w >>> ((nI 3) &&& 31)) 4)), .int (bI (decide (0 < ((w >>> ((nI 6) &&& 31)) &&& (nI 3)))))]) (nn := 3) (ci := 5) C (m_X5_link l D cI cC x0 n0 n1 t0 t1 s0 s1 g0 g1 w0 w1 w2 m0 m1 m2 m3 m4 p0 p1 c ct cs r sg tr wi ol orr sf nb hs od z ln lf rg bd rl (nI (lowN w 5)) (nI (lowN (w >>> ((nI 3) &&& 31)) 4)) (decide (0 < ((w >>> ((nI 6) &&& 31)) &&& (nI 3)))) (by first | assumption | omega) (by first | assumption | omega) (by first | assumption | omega)) gL_act_X5_link rfl rfl rfl yd_X5_link ⟨Nat.le_of_ble_eq_true rfl, Nat.le_of_ble_eq_true rfl⟩ rfl 19 rfl (by decide) rfl rfl rfl (Nat.le_of_ble_eq_true rfl) ⟨Nat.le_of_ble_eq_true rfl, Nat.le_of_ble_eq_true rfl⟩ dL_act_170 ?_
    rintro _ _ ⟨c2a, r2a, od2a, z2a, rfl, rfl, fx⟩
    refine g_eq (ws' := (xW cI cC x0 n0 n1 t0 t1 s0 s1 g0 g1 w0 w1 w2 m0 m1 m2 m3 m4 p0 p1 (bI hs) c2a ct cs r2a (nI od2a) (nI z2a) sg (nI ln) tr (nI lf) (nI rg) (bI bd) wi ol orr sf (nI rl) nb)) (st' := [.int (lkV c (nI (lowN w 5)) (nI (lowN (w >>> ((nI 3) &&& 31)) 4)))]) rfl rfl ?_
    have hA : AT hs c cs v w = (lkV c (nI (lowN w 5)) (nI (lowN (w >>> ((nI 3) &&& 31)) 4)), twG (nI (lowN w 5)) (nI (lowN (w >>> ((nI 3) &&& 31)) 4)), cLink c (pN (nI (lowN w 5))) (pN (nI (lowN (w >>> ((nI 3) &&& 31)) 4))) (decide (0 < ((w >>> ((nI 6) &&& 31)) &&& (nI 3))))) := by rw [AT, if_neg t21_0, if_neg t21_1, if_neg t21_2, if_neg t21_3, if_neg t21_4, if_neg t21_5, if_neg t21_6, if_neg t21_7, if_neg t21_8, if_neg t21_9, if_pos t21_10]
    refine g_top (y := (AT hs c cs v w).1) ((congrArg (fun t => t.1) hA).symm) ?_
    exact g_iret C hr hQ dL_act_173 rfl ⟨_, _, _, _, _, _, _, _, _, rfl, rfl, (by rw [hA]; exact fx), hrl⟩
  by_cases t21_11 : (v &&& (nI 15)) = nI 11
  · refine g_top (y := nI 11) t21_11 ?_
    refine g_tabIn (pc := 21) C 143 dL_act_21 (by decide) (by decide) rfl (by decide) ?_
    refine g_aload_n (pc := 143) C dL_act_143 2 rfl rfl ?_
    refine g_iload_n (pc := 144) C dL_act_144 4 rfl rfl ?_
    refine g_iconst (pc := 145) (v := nI 5) C dL_act_145 (by decide) ?_
    refine g_callS (pc := 146) (st := [.ref x0]) (As := [.int w, .int (nI 5)]) (nn := 2) C (m_L_low l D cI cC w 5 (by decide) (by decide)) gL_act_L_low rfl rfl rfl yd_L_low.2 ⟨Nat.le_of_ble_eq_true rfl, Nat.le_of_ble_eq_true rfl⟩ rfl [] rfl rfl rfl (Nat.le_of_ble_eq_true rfl) ⟨Nat.le_of_ble_eq_true rfl, Nat.le_of_ble_eq_true rfl⟩ dL_act_146 ?_
    rintro _ _ ⟨rfl, rfl⟩
    refine g_eq (ws' := (xW cI cC x0 n0 n1 t0 t1 s0 s1 g0 g1 w0 w1 w2 m0 m1 m2 m3 m4 p0 p1 (bI hs) c ct cs r (nI od) (nI z) sg (nI ln) tr (nI lf) (nI rg) (bI bd) wi ol orr sf (nI rl) nb)) (st' := [.int (nI (lowN w 5)), .ref x0]) rfl rfl ?_
    refine g_iload_n (pc := 149) C dL_act_149 4 rfl rfl ?_
    refine g_iconst (pc := 150) (v := nI 3) C dL_act_150 (by decide) ?_
    refine g_ishr (pc := 151) C dL_act_151 ?_
    refine g_iconst (pc := 152) (v := nI 4) C dL_act_152 (by decide) ?_
    refine g_callS (pc := 153) (st := [.int (nI (lowN w 5)), .ref x0]) (As := [.int (w >>> ((nI 3) &&& 31)), .int (nI 4)]) (nn := 2) C (m_L_low l D cI cC (w >>> ((nI 3) &&& 31)) 4 (by decide) (by decide)) gL_act_L_low rfl rfl rfl yd_L_low.2 ⟨Nat.le_of_ble_eq_true rfl, Nat.le_of_ble_eq_true rfl⟩ rfl [] rfl rfl rfl (Nat.le_of_ble_eq_true rfl) ⟨Nat.le_of_ble_eq_true rfl, Nat.le_of_ble_eq_true rfl⟩ dL_act_153 ?_
    rintro _ _ ⟨rfl, rfl⟩
    refine g_eq (ws' := (xW cI cC x0 n0 n1 t0 t1 s0 s1 g0 g1 w0 w1 w2 m0 m1 m2 m3 m4 p0 p1 (bI hs) c ct cs r (nI od) (nI z) sg (nI ln) tr (nI lf) (nI rg) (bI bd) wi ol orr sf (nI rl) nb)) (st' := [.int (nI (lowN (w >>> ((nI 3) &&& 31)) 4)), .int (nI (lowN w 5)), .ref x0]) rfl rfl ?_
    refine g_iload_n (pc := 156) C dL_act_156 4 rfl rfl ?_
    refine g_bipush (pc := 157) (v := nI 6) C dL_act_157 (by decide) ?_
    refine g_ishr (pc := 159) C dL_act_159 ?_
    refine g_iconst (pc := 160) (v := nI 3) C dL_act_160 (by decide) ?_
    refine g_iand (pc := 161) C dL_act_161 ?_
    refine g_bPos (pc := 162) C dL_act_162 dL_act_165 dL_act_166 dL_act_169 ?_
    refine g_callVW (pc := 170) (st := []) (As := [.int (nI (lowN w 5)), .int (nI (lowN (w >>> ((nI 3) &&& 31)) 4)), .int (bI (decide (0 < ((w >>> ((nI 6) &&& 31)) &&& (nI 3)))))]) (nn := 3) (ci := 5) C (m_X5_link l D cI cC x0 n0 n1 t0 t1 s0 s1 g0 g1 w0 w1 w2 m0 m1 m2 m3 m4 p0 p1 c ct cs r sg tr wi ol orr sf nb hs od z ln lf rg bd rl (nI (lowN w 5)) (nI (lowN (w >>> ((nI 3) &&& 31)) 4)) (decide (0 < ((w >>> ((nI 6) &&& 31)) &&& (nI 3)))) (by first | assumption | omega) (by first | assumption | omega) (by first | assumption | omega)) gL_act_X5_link rfl rfl rfl yd_X5_link ⟨Nat.le_of_ble_eq_true rfl, Nat.le_of_ble_eq_true rfl⟩ rfl 19 rfl (by decide) rfl rfl rfl (Nat.le_of_ble_eq_true rfl) ⟨Nat.le_of_ble_eq_true rfl, Nat.le_of_ble_eq_true rfl⟩ dL_act_170 ?_
    rintro _ _ ⟨c2a, r2a, od2a, z2a, rfl, rfl, fx⟩
    refine g_eq (ws' := (xW cI cC x0 n0 n1 t0 t1 s0 s1 g0 g1 w0 w1 w2 m0 m1 m2 m3 m4 p0 p1 (bI hs) c2a ct cs r2a (nI od2a) (nI z2a) sg (nI ln) tr (nI lf) (nI rg) (bI bd) wi ol orr sf (nI rl) nb)) (st' := [.int (lkV c (nI (lowN w 5)) (nI (lowN (w >>> ((nI 3) &&& 31)) 4)))]) rfl rfl ?_
    have hA : AT hs c cs v w = (lkV c (nI (lowN w 5)) (nI (lowN (w >>> ((nI 3) &&& 31)) 4)), twG (nI (lowN w 5)) (nI (lowN (w >>> ((nI 3) &&& 31)) 4)), cLink c (pN (nI (lowN w 5))) (pN (nI (lowN (w >>> ((nI 3) &&& 31)) 4))) (decide (0 < ((w >>> ((nI 6) &&& 31)) &&& (nI 3))))) := by rw [AT, if_neg t21_0, if_neg t21_1, if_neg t21_2, if_neg t21_3, if_neg t21_4, if_neg t21_5, if_neg t21_6, if_neg t21_7, if_neg t21_8, if_neg t21_9, if_neg t21_10, if_pos t21_11]
    refine g_top (y := (AT hs c cs v w).1) ((congrArg (fun t => t.1) hA).symm) ?_
    exact g_iret C hr hQ dL_act_173 rfl ⟨_, _, _, _, _, _, _, _, _, rfl, rfl, (by rw [hA]; exact fx), hrl⟩
  by_cases t21_12 : (v &&& (nI 15)) = nI 12
  · refine g_top (y := nI 12) t21_12 ?_
    refine g_tabIn (pc := 21) C 174 dL_act_21 (by decide) (by decide) rfl (by decide) ?_
    refine g_aload_n (pc := 174) C dL_act_174 2 rfl rfl ?_
    refine g_iload_n (pc := 175) C dL_act_175 4 rfl rfl ?_
    refine g_iconst (pc := 176) (v := nI 1) C dL_act_176 (by decide) ?_
    refine g_iand (pc := 177) C dL_act_177 ?_
    refine g_bZ (pc := 178) C dL_act_178 dL_act_181 dL_act_182 dL_act_185 ?_
    refine g_iload_n (pc := 186) C dL_act_186 1 rfl rfl ?_
    refine g_iload_n (pc := 187) C dL_act_187 4 rfl rfl ?_
    refine g_iconst (pc := 188) (v := nI 3) C dL_act_188 (by decide) ?_
    refine g_ishr (pc := 189) C dL_act_189 ?_
    refine g_iconst (pc := 190) (v := nI 5) C dL_act_190 (by decide) ?_
    refine g_callS (pc := 191) (st := [.int (nI (lowN (v >>> ((nI 4) &&& 31)) 9)), .int (bI (decide ((w &&& (nI 1)) = 0))), .ref x0]) (As := [.int (w >>> ((nI 3) &&& 31)), .int (nI 5)]) (nn := 2) C (m_L_low l D cI cC (w >>> ((nI 3) &&& 31)) 5 (by decide) (by decide)) gL_act_L_low rfl rfl rfl yd_L_low.2 ⟨Nat.le_of_ble_eq_true rfl, Nat.le_of_ble_eq_true rfl⟩ rfl [] rfl rfl rfl (Nat.le_of_ble_eq_true rfl) ⟨Nat.le_of_ble_eq_true rfl, Nat.le_of_ble_eq_true rfl⟩ dL_act_191 ?_
    rintro _ _ ⟨rfl, rfl⟩
    refine g_eq (ws' := (xW cI cC x0 n0 n1 t0 t1 s0 s1 g0 g1 w0 w1 w2 m0 m1 m2 m3 m4 p0 p1 (bI hs) c ct cs r (nI od) (nI z) sg (nI ln) tr (nI lf) (nI rg) (bI bd) wi ol orr sf (nI rl) nb)) (st' := [.int (nI (lowN (w >>> ((nI 3) &&& 31)) 5)), .int (nI (lowN (v >>> ((nI 4) &&& 31)) 9)), .int (bI (decide ((w &&& (nI 1)) = 0))), .ref x0]) rfl rfl ?_
    refine g_callVW (pc := 194) (st := []) (As := [.int (bI (decide ((w &&& (nI 1)) = 0))), .int (nI (lowN (v >>> ((nI 4) &&& 31)) 9)), .int (nI (lowN (w >>> ((nI 3) &&& 31)) 5))]) (nn := 3) (ci := 5) C (m_X5_move l D cI cC x0 n0 n1 t0 t1 s0 s1 g0 g1 w0 w1 w2 m0 m1 m2 m3 m4 p0 p1 c ct cs r sg tr wi ol orr sf nb hs od z ln lf rg bd rl (decide ((w &&& (nI 1)) = 0)) (nI (lowN (v >>> ((nI 4) &&& 31)) 9)) (nI (lowN (w >>> ((nI 3) &&& 31)) 5)) (by first | assumption | omega) (by first | assumption | omega) (by first | assumption | omega)) gL_act_X5_move rfl rfl rfl yd_X5_move ⟨Nat.le_of_ble_eq_true rfl, Nat.le_of_ble_eq_true rfl⟩ rfl 19 rfl (by decide) rfl rfl rfl (Nat.le_of_ble_eq_true rfl) ⟨Nat.le_of_ble_eq_true rfl, Nat.le_of_ble_eq_true rfl⟩ dL_act_194 ?_
    rintro _ _ ⟨c2a, r2a, od2a, z2a, rfl, rfl, fx⟩
    refine g_eq (ws' := (xW cI cC x0 n0 n1 t0 t1 s0 s1 g0 g1 w0 w1 w2 m0 m1 m2 m3 m4 p0 p1 (bI hs) c2a ct cs r2a (nI od2a) (nI z2a) sg (nI ln) tr (nI lf) (nI rg) (bI bd) wi ol orr sf (nI rl) nb)) (st' := [.int (mvV c (decide ((w &&& (nI 1)) = 0)) (nI (lowN (v >>> ((nI 4) &&& 31)) 9)) (nI (lowN (w >>> ((nI 3) &&& 31)) 5)))]) rfl rfl ?_
    have hA : AT hs c cs v w = (mvV c (decide ((w &&& (nI 1)) = 0)) (nI (lowN (v >>> ((nI 4) &&& 31)) 9)) (nI (lowN (w >>> ((nI 3) &&& 31)) 5)), mvQ (nI (lowN (v >>> ((nI 4) &&& 31)) 9)) (nI (lowN (w >>> ((nI 3) &&& 31)) 5)), mvC c (decide ((w &&& (nI 1)) = 0)) (nI (lowN (v >>> ((nI 4) &&& 31)) 9)) (nI (lowN (w >>> ((nI 3) &&& 31)) 5))) := by rw [AT, if_neg t21_0, if_neg t21_1, if_neg t21_2, if_neg t21_3, if_neg t21_4, if_neg t21_5, if_neg t21_6, if_neg t21_7, if_neg t21_8, if_neg t21_9, if_neg t21_10, if_neg t21_11, if_pos t21_12]
    refine g_top (y := (AT hs c cs v w).1) ((congrArg (fun t => t.1) hA).symm) ?_
    exact g_iret C hr hQ dL_act_197 rfl ⟨_, _, _, _, _, _, _, _, _, rfl, rfl, (by rw [hA]; exact fx), hrl⟩
  refine g_tabOut (pc := 21) C 198 dL_act_21 (g_out 0 12 (by decide) (by intro k h1 h2; rcases (show k = 0 ∨ k = 1 ∨ k = 2 ∨ k = 3 ∨ k = 4 ∨ k = 5 ∨ k = 6 ∨ k = 7 ∨ k = 8 ∨ k = 9 ∨ k = 10 ∨ k = 11 ∨ k = 12 by omega) with rfl | rfl | rfl | rfl | rfl | rfl | rfl | rfl | rfl | rfl | rfl | rfl | rfl <;> assumption)) (by decide) ?_
  refine g_aload_n (pc := 198) C dL_act_198 2 rfl rfl ?_
  refine g_callVW (pc := 199) (st := []) (As := []) (nn := 0) (ci := 5) C (m_X5_round l D cI cC x0 n0 n1 t0 t1 s0 s1 g0 g1 w0 w1 w2 m0 m1 m2 m3 m4 p0 p1 c ct cs r sg tr wi ol orr sf nb hs od z ln lf rg bd rl (by first | assumption | omega) (by first | assumption | omega) (by first | assumption | omega) (by first | assumption | omega)) gL_act_X5_round rfl rfl rfl yd_X5_round ⟨Nat.le_of_ble_eq_true rfl, Nat.le_of_ble_eq_true rfl⟩ rfl 19 rfl (by decide) rfl rfl rfl (Nat.le_of_ble_eq_true rfl) ⟨Nat.le_of_ble_eq_true rfl, Nat.le_of_ble_eq_true rfl⟩ dL_act_199 ?_
  rintro _ _ ⟨c2a, r2a, od2a, z2a, wi2a, ol2a, orr2a, sf2a, rl2a, rfl, rfl, fx, fr⟩
  refine g_eq (ws' := (xW cI cC x0 n0 n1 t0 t1 s0 s1 g0 g1 w0 w1 w2 m0 m1 m2 m3 m4 p0 p1 (bI hs) c2a ct cs r2a (nI od2a) (nI z2a) sg (nI ln) tr (nI lf) (nI rg) (bI bd) wi2a ol2a orr2a sf2a (nI rl2a) nb)) (st' := [.int (rnV c)]) rfl rfl ?_
  have hA : AT hs c cs v w = (rnV c, true, rnd c) := by rw [AT, if_neg t21_0, if_neg t21_1, if_neg t21_2, if_neg t21_3, if_neg t21_4, if_neg t21_5, if_neg t21_6, if_neg t21_7, if_neg t21_8, if_neg t21_9, if_neg t21_10, if_neg t21_11, if_neg t21_12]
  refine g_top (y := (AT hs c cs v w).1) ((congrArg (fun t => t.1) hA).symm) ?_
  exact g_iret C hr hQ dL_act_202 rfl ⟨_, _, _, _, _, _, _, _, _, rfl, rfl, (by rw [hA]; exact fx), fr⟩
