set_option maxHeartbeats 4000000 in
set_option maxRecDepth 100000 in
theorem lc_12 {p : Program} {l : Launch} {e : Env} {s : State} {m : MethodId} {args : Array Value} {below : List Frame} {meth : Method} {co : Code} {Q : State → Prop} {D : va_G} {A : Nat → Prop} {cI cC : ClassId} {x0 n0 n1 t0 t1 s0 s1 g0 g1 w0 w1 w2 m0 m1 m2 m3 m4 p0 p1 q0 q1 q2 q3 q4 q5 q6 q7 q8 q9 q10 q11 : Nat} {hs : Bool} {c ct cs r : Nat → Int32} {od z : Nat} {sg : Nat → Int32} {ln : Nat} {tr : Nat → Int32} {lf rg : Nat} {bd : Bool} {wi ol orr sf : Nat → Int32} {rl : Nat} {nb : Nat → Int32} {th : Int32} {ss asd sts snp tx can szs ptn nms pth : Nat → Int32} {att isw : Int32} {rdd : Nat → Int32} {rmy : Int32} {sb SL i : Nat} {xs : Nat → Int32} (C : g_C p s m args meth co cL_law 8 RL wsL_law D cI cC A) (S0 : lS s A sb SL xs) (hi : i + 4 ≤ SL) (hL : SL ≤ 2048) (hS : SR c ss) (hH : HR r sts od z) (ho : od < 5) (hz : z ≤ 5) (hX : HX sg tx ln) (hT : ∀ k, k < ln → sg k = nI (cN sg k)) (hN : hs = true → SR cs snp) (hrl : rl < 256) (K : ∀ w : va_W, lINV cI cC x0 n0 n1 t0 t1 s0 s1 g0 g1 w0 w1 w2 m0 m1 m2 m3 m4 p0 p1 q0 q1 q2 q3 q4 q5 q6 q7 q8 q9 q10 q11 w → g_J p l e room_1 s m args below meth co Q D A 8 31 5852 w 838 [(3, .int (nI i)), (0, .ref sb), (1, .ref x0), (2, .ref q0)] []) : g_J p l e room_1 s m args below meth co Q D A 8 31 5852 ((xW cI cC x0 n0 n1 t0 t1 s0 s1 g0 g1 w0 w1 w2 m0 m1 m2 m3 m4 p0 p1 (bI hs) c ct cs r (nI od) (nI z) sg (nI ln) tr (nI lf) (nI rg) (bI bd) wi ol orr sf (nI rl) nb) ++ (rW cI cC q0 q1 q2 q3 q4 q5 q6 q7 q8 q9 q10 q11 th ss asd sts (nI z) snp (bI hs) tx (nI ln) can szs ptn nms pth att isw rdd rmy)) 492 [(3, .int (nI i)), (0, .ref sb), (1, .ref x0), (2, .ref q0)] [] := by
  have hc : cOK c := hS.ok
  have hn : ln ≤ 80 := hX.1
  have ht : ∀ k, k < ln → sg k = nI (cN sg k) ∧ cN sg k < 128 := fun k hk => ⟨hT k hk, (hX.2 k hk).2⟩
  have hcs : hs = true → cOK cs := fun h => (hN h).ok
  refine g_aload_n (pc := 492) C dL_law_492 2 rfl rfl ?_
  refine g_callX (pc := 493) (st := []) (As := []) (nn := 0) (ci := 5) C (m_X5_save l D cI cC x0 n0 n1 t0 t1 s0 s1 g0 g1 w0 w1 w2 m0 m1 m2 m3 m4 p0 p1 c ct cs r sg tr wi ol orr sf nb hs od z ln lf rg bd rl (by first | assumption | omega)) gL_law_X5_save rfl rfl rfl yd_X5_save ⟨Nat.le_of_ble_eq_true rfl, Nat.le_of_ble_eq_true rfl⟩ rfl 19 rfl (by decide) rfl rfl rfl (Nat.le_of_ble_eq_true rfl) ⟨Nat.le_of_ble_eq_true rfl, Nat.le_of_ble_eq_true rfl⟩ dL_law_493 ?_
  rintro _ _ ⟨rfl, rfl⟩
  refine g_eq (ws' := ((xW cI cC x0 n0 n1 t0 t1 s0 s1 g0 g1 w0 w1 w2 m0 m1 m2 m3 m4 p0 p1 (bI true) c ct (va_cpy c cs 0 0 154) r (nI od) (nI z) sg (nI ln) tr (nI lf) (nI rg) (bI bd) wi ol orr sf (nI rl) nb) ++ (rW cI cC q0 q1 q2 q3 q4 q5 q6 q7 q8 q9 q10 q11 th ss asd sts (nI z) snp (bI hs) tx (nI ln) can szs ptn nms pth att isw rdd rmy))) (st' := [.int (nI (nwC c 8))]) rfl rfl ?_
  refine g_aload_n (pc := 496) C dL_law_496 3 rfl rfl ?_
  refine g_callR (pc := 497) (st := [.int (nI (nwC c 8))]) (As := []) (nn := 0) (ci := 6) C (m_X6_save l D cI cC q0 q1 q2 q3 q4 q5 q6 q7 q8 q9 q10 q11 th ss asd sts (nI z) snp tx (nI ln) can szs ptn nms pth att isw rdd rmy hs c (by first | assumption | omega)) gL_law_X6_save rfl rfl rfl yd_X6_save ⟨Nat.le_of_ble_eq_true rfl, Nat.le_of_ble_eq_true rfl⟩ rfl 12 19 rfl rfl (by decide) rfl rfl rfl (Nat.le_of_ble_eq_true rfl) ⟨Nat.le_of_ble_eq_true rfl, Nat.le_of_ble_eq_true rfl⟩ dL_law_497 ?_
  rintro _ _ ⟨rfl, rfl⟩
  refine g_eq (ws' := ((xW cI cC x0 n0 n1 t0 t1 s0 s1 g0 g1 w0 w1 w2 m0 m1 m2 m3 m4 p0 p1 (bI true) c ct (va_cpy c cs 0 0 154) r (nI od) (nI z) sg (nI ln) tr (nI lf) (nI rg) (bI bd) wi ol orr sf (nI rl) nb) ++ (rW cI cC q0 q1 q2 q3 q4 q5 q6 q7 q8 q9 q10 q11 (nI 0) ss asd sts (nI z) (cpF ss snp 225) (bI true) tx (nI ln) can szs ptn nms pth att isw rdd rmy))) (st' := [.int (nI (nwC c 8)), .int (nI (nwC c 8))]) rfl rfl ?_
  refine g_icmp_eq (pc := 500) C 838 dL_law_500 (by decide) (fun _ => ?_) (fun cN => absurd rfl cN)
  exact K _ (lINV_mk hS hH ho hz hX hT (fun _ => SR_cp hS (same_cpy c cs)) hrl)

set_option maxHeartbeats 4000000 in
set_option maxRecDepth 100000 in
theorem lc_13 {p : Program} {l : Launch} {e : Env} {s : State} {m : MethodId} {args : Array Value} {below : List Frame} {meth : Method} {co : Code} {Q : State → Prop} {D : va_G} {A : Nat → Prop} {cI cC : ClassId} {x0 n0 n1 t0 t1 s0 s1 g0 g1 w0 w1 w2 m0 m1 m2 m3 m4 p0 p1 q0 q1 q2 q3 q4 q5 q6 q7 q8 q9 q10 q11 : Nat} {hs : Bool} {c ct cs r : Nat → Int32} {od z : Nat} {sg : Nat → Int32} {ln : Nat} {tr : Nat → Int32} {lf rg : Nat} {bd : Bool} {wi ol orr sf : Nat → Int32} {rl : Nat} {nb : Nat → Int32} {th : Int32} {ss asd sts snp tx can szs ptn nms pth : Nat → Int32} {att isw : Int32} {rdd : Nat → Int32} {rmy : Int32} {sb SL i : Nat} {xs : Nat → Int32} (C : g_C p s m args meth co cL_law 8 RL wsL_law D cI cC A) (S0 : lS s A sb SL xs) (hi : i + 4 ≤ SL) (hL : SL ≤ 2048) (hS : SR c ss) (hH : HR r sts od z) (ho : od < 5) (hz : z ≤ 5) (hX : HX sg tx ln) (hT : ∀ k, k < ln → sg k = nI (cN sg k)) (hN : hs = true → SR cs snp) (hrl : rl < 256) (K : ∀ w : va_W, lINV cI cC x0 n0 n1 t0 t1 s0 s1 g0 g1 w0 w1 w2 m0 m1 m2 m3 m4 p0 p1 q0 q1 q2 q3 q4 q5 q6 q7 q8 q9 q10 q11 w → g_J p l e room_1 s m args below meth co Q D A 8 31 5852 w 838 [(3, .int (nI i)), (0, .ref sb), (1, .ref x0), (2, .ref q0)] []) : g_J p l e room_1 s m args below meth co Q D A 8 31 5852 ((xW cI cC x0 n0 n1 t0 t1 s0 s1 g0 g1 w0 w1 w2 m0 m1 m2 m3 m4 p0 p1 (bI hs) c ct cs r (nI od) (nI z) sg (nI ln) tr (nI lf) (nI rg) (bI bd) wi ol orr sf (nI rl) nb) ++ (rW cI cC q0 q1 q2 q3 q4 q5 q6 q7 q8 q9 q10 q11 th ss asd sts (nI z) snp (bI hs) tx (nI ln) can szs ptn nms pth att isw rdd rmy)) 505 [(3, .int (nI i)), (0, .ref sb), (1, .ref x0), (2, .ref q0)] [] := by
  have hc : cOK c := hS.ok
  have hn : ln ≤ 80 := hX.1
  have ht : ∀ k, k < ln → sg k = nI (cN sg k) ∧ cN sg k < 128 := fun k hk => ⟨hT k hk, (hX.2 k hk).2⟩
  have hcs : hs = true → cOK cs := fun h => (hN h).ok
  refine g_aload_n (pc := 505) C dL_law_505 2 rfl rfl ?_
  refine g_callX (pc := 506) (st := []) (As := []) (nn := 0) (ci := 5) C (m_X5_restore l D cI cC x0 n0 n1 t0 t1 s0 s1 g0 g1 w0 w1 w2 m0 m1 m2 m3 m4 p0 p1 c ct cs r sg tr wi ol orr sf nb hs od z ln lf rg bd rl (by first | assumption | omega) (by first | assumption | omega) (by first | assumption | omega) (by first | assumption | omega)) gL_law_X5_restore rfl rfl rfl yd_X5_restore ⟨Nat.le_of_ble_eq_true rfl, Nat.le_of_ble_eq_true rfl⟩ rfl 19 rfl (by decide) rfl rfl rfl (Nat.le_of_ble_eq_true rfl) ⟨Nat.le_of_ble_eq_true rfl, Nat.le_of_ble_eq_true rfl⟩ dL_law_506 ?_
  rintro _ _ ⟨c2_506, r2_506, od2_506, z2_506, rfl, rfl, f506_0⟩
  refine g_eq (ws' := ((xW cI cC x0 n0 n1 t0 t1 s0 s1 g0 g1 w0 w1 w2 m0 m1 m2 m3 m4 p0 p1 (bI hs) c2_506 ct cs r2_506 (nI od2_506) (nI z2_506) sg (nI ln) tr (nI lf) (nI rg) (bI bd) wi ol orr sf (nI rl) nb) ++ (rW cI cC q0 q1 q2 q3 q4 q5 q6 q7 q8 q9 q10 q11 th ss asd sts (nI z) snp (bI hs) tx (nI ln) can szs ptn nms pth att isw rdd rmy))) (st' := [.int (if hs then nI (nwC (va_cpy cs c 0 0 154) 8) else -4)]) rfl rfl ?_
  refine g_aload_n (pc := 509) C dL_law_509 3 rfl rfl ?_
  refine g_callR (pc := 510) (st := [.int (if hs then nI (nwC (va_cpy cs c 0 0 154) 8) else -4)]) (As := []) (nn := 0) (ci := 6) C (m_X6_restore l D cI cC q0 q1 q2 q3 q4 q5 q6 q7 q8 q9 q10 q11 th ss asd sts snp tx (nI ln) can szs ptn nms pth att isw rdd rmy z hs c cs (by first | assumption | omega) (by first | assumption | omega) (by first | assumption | omega)) gL_law_X6_restore rfl rfl rfl yd_X6_restore ⟨Nat.le_of_ble_eq_true rfl, Nat.le_of_ble_eq_true rfl⟩ rfl 12 19 rfl rfl (by decide) rfl rfl rfl (Nat.le_of_ble_eq_true rfl) ⟨Nat.le_of_ble_eq_true rfl, Nat.le_of_ble_eq_true rfl⟩ dL_law_510 ?_
  rintro _ _ ⟨ss2_510, sts2_510, z2_510, rfl, rfl, f510_0⟩
  refine g_eq (ws' := ((xW cI cC x0 n0 n1 t0 t1 s0 s1 g0 g1 w0 w1 w2 m0 m1 m2 m3 m4 p0 p1 (bI hs) c2_506 ct cs r2_506 (nI od2_506) (nI z2_506) sg (nI ln) tr (nI lf) (nI rg) (bI bd) wi ol orr sf (nI rl) nb) ++ (rW cI cC q0 q1 q2 q3 q4 q5 q6 q7 q8 q9 q10 q11 (nI 0) ss2_510 asd sts2_510 (nI z2_510) snp (bI hs) tx (nI ln) can szs ptn nms pth att isw rdd rmy))) (st' := [.int (if hs then nI (nwC (va_cpy cs c 0 0 154) 8) else -4), .int (if hs then nI (nwC (va_cpy cs c 0 0 154) 8) else -4)]) rfl rfl ?_
  refine g_icmp_eq (pc := 513) C 838 dL_law_513 (by decide) (fun _ => ?_) (fun cN => absurd rfl cN)
  obtain ⟨gS, gH, rfl, go, gz⟩ := ACT f506_0 f510_0 hS hH ho hz
  exact K _ (lINV_mk gS gH go gz hX hT hN hrl)

set_option maxHeartbeats 4000000 in
set_option maxRecDepth 100000 in
theorem lc_14 {p : Program} {l : Launch} {e : Env} {s : State} {m : MethodId} {args : Array Value} {below : List Frame} {meth : Method} {co : Code} {Q : State → Prop} {D : va_G} {A : Nat → Prop} {cI cC : ClassId} {x0 n0 n1 t0 t1 s0 s1 g0 g1 w0 w1 w2 m0 m1 m2 m3 m4 p0 p1 q0 q1 q2 q3 q4 q5 q6 q7 q8 q9 q10 q11 : Nat} {hs : Bool} {c ct cs r : Nat → Int32} {od z : Nat} {sg : Nat → Int32} {ln : Nat} {tr : Nat → Int32} {lf rg : Nat} {bd : Bool} {wi ol orr sf : Nat → Int32} {rl : Nat} {nb : Nat → Int32} {th : Int32} {ss asd sts snp tx can szs ptn nms pth : Nat → Int32} {att isw : Int32} {rdd : Nat → Int32} {rmy : Int32} {sb SL i : Nat} {xs : Nat → Int32} (C : g_C p s m args meth co cL_law 8 RL wsL_law D cI cC A) (S0 : lS s A sb SL xs) (hi : i + 4 ≤ SL) (hL : SL ≤ 2048) (hS : SR c ss) (hH : HR r sts od z) (ho : od < 5) (hz : z ≤ 5) (hX : HX sg tx ln) (hT : ∀ k, k < ln → sg k = nI (cN sg k)) (hN : hs = true → SR cs snp) (hrl : rl < 256) (K : ∀ w : va_W, lINV cI cC x0 n0 n1 t0 t1 s0 s1 g0 g1 w0 w1 w2 m0 m1 m2 m3 m4 p0 p1 q0 q1 q2 q3 q4 q5 q6 q7 q8 q9 q10 q11 w → g_J p l e room_1 s m args below meth co Q D A 8 31 5852 w 838 [(3, .int (nI i)), (0, .ref sb), (1, .ref x0), (2, .ref q0)] []) : g_J p l e room_1 s m args below meth co Q D A 8 31 5852 ((xW cI cC x0 n0 n1 t0 t1 s0 s1 g0 g1 w0 w1 w2 m0 m1 m2 m3 m4 p0 p1 (bI hs) c ct cs r (nI od) (nI z) sg (nI ln) tr (nI lf) (nI rg) (bI bd) wi ol orr sf (nI rl) nb) ++ (rW cI cC q0 q1 q2 q3 q4 q5 q6 q7 q8 q9 q10 q11 th ss asd sts (nI z) snp (bI hs) tx (nI ln) can szs ptn nms pth att isw rdd rmy)) 518 [(3, .int (nI i)), (0, .ref sb), (1, .ref x0), (2, .ref q0)] [] := by
  have hc : cOK c := hS.ok
  have hn : ln ≤ 80 := hX.1
  have ht : ∀ k, k < ln → sg k = nI (cN sg k) ∧ cN sg k < 128 := fun k hk => ⟨hT k hk, (hX.2 k hk).2⟩
  have hcs : hs = true → cOK cs := fun h => (hN h).ok
  refine g_aload_n (pc := 518) C dL_law_518 2 rfl rfl ?_
  refine g_aload_n (pc := 519) C dL_law_519 1 rfl rfl ?_
  refine g_iload_n (pc := 520) C dL_law_520 0 rfl rfl ?_
  refine g_iconst (pc := 521) (v := nI 1) C dL_law_521 (by decide) ?_
  refine g_iaddN (pc := 522) C dL_law_522 ?_
  refine g_sld (pc := 523) C S0 (by omega) (by omega) dL_law_523 ?_
  refine g_ne0 (pc := 524) C dL_law_524 dL_law_527 dL_law_528 dL_law_531 ?_
  refine g_aload_n (pc := 532) C dL_law_532 1 rfl rfl ?_
  refine g_iload_n (pc := 533) C dL_law_533 0 rfl rfl ?_
  refine g_iconst (pc := 534) (v := nI 2) C dL_law_534 (by decide) ?_
  refine g_iaddN (pc := 535) C dL_law_535 ?_
  refine g_sld (pc := 536) C S0 (by omega) (by omega) dL_law_536 ?_
  refine g_aload_n (pc := 537) C dL_law_537 1 rfl rfl ?_
  refine g_iload_n (pc := 538) C dL_law_538 0 rfl rfl ?_
  refine g_iconst (pc := 539) (v := nI 3) C dL_law_539 (by decide) ?_
  refine g_iaddN (pc := 540) C dL_law_540 ?_
  refine g_sld (pc := 541) C S0 (by omega) (by omega) dL_law_541 ?_
  refine g_callX (pc := 542) (st := []) (As := [.int (bI (!decide ((xs (i + 1)) = 0))), .int (xs (i + 2)), .int (xs (i + 3))]) (nn := 3) (ci := 5) C (m_X5_person l D cI cC x0 n0 n1 t0 t1 s0 s1 g0 g1 w0 w1 w2 m0 m1 m2 m3 m4 p0 p1 c ct cs r sg tr wi ol orr sf nb hs od z ln lf rg bd rl (!decide ((xs (i + 1)) = 0)) (xs (i + 2)) (xs (i + 3)) (by first | assumption | omega)) gL_law_X5_person rfl rfl rfl yd_X5_person ⟨Nat.le_of_ble_eq_true rfl, Nat.le_of_ble_eq_true rfl⟩ rfl 19 rfl (by decide) rfl rfl rfl (Nat.le_of_ble_eq_true rfl) ⟨Nat.le_of_ble_eq_true rfl, Nat.le_of_ble_eq_true rfl⟩ dL_law_542 ?_
  rintro _ _ ⟨rfl, rfl⟩
  refine g_eq (ws' := ((xW cI cC x0 n0 n1 t0 t1 s0 s1 g0 g1 w0 w1 w2 m0 m1 m2 m3 m4 p0 p1 (bI hs) c ct cs r (nI od) (nI z) sg (nI ln) tr (nI lf) (nI rg) (bI bd) wi ol orr sf (nI rl) nb) ++ (rW cI cC q0 q1 q2 q3 q4 q5 q6 q7 q8 q9 q10 q11 th ss asd sts (nI z) snp (bI hs) tx (nI ln) can szs ptn nms pth att isw rdd rmy))) (st' := [.int (peV c (!decide ((xs (i + 1)) = 0)) (xs (i + 2)) (xs (i + 3)))]) rfl rfl ?_
  refine g_aload_n (pc := 545) C dL_law_545 3 rfl rfl ?_
  refine g_aload_n (pc := 546) C dL_law_546 1 rfl rfl ?_
  refine g_iload_n (pc := 547) C dL_law_547 0 rfl rfl ?_
  refine g_iconst (pc := 548) (v := nI 1) C dL_law_548 (by decide) ?_
  refine g_iaddN (pc := 549) C dL_law_549 ?_
  refine g_sld (pc := 550) C S0 (by omega) (by omega) dL_law_550 ?_
  refine g_ne0 (pc := 551) C dL_law_551 dL_law_554 dL_law_555 dL_law_558 ?_
  refine g_aload_n (pc := 559) C dL_law_559 1 rfl rfl ?_
  refine g_iload_n (pc := 560) C dL_law_560 0 rfl rfl ?_
  refine g_iconst (pc := 561) (v := nI 2) C dL_law_561 (by decide) ?_
  refine g_iaddN (pc := 562) C dL_law_562 ?_
  refine g_sld (pc := 563) C S0 (by omega) (by omega) dL_law_563 ?_
  refine g_aload_n (pc := 564) C dL_law_564 1 rfl rfl ?_
  refine g_iload_n (pc := 565) C dL_law_565 0 rfl rfl ?_
  refine g_iconst (pc := 566) (v := nI 3) C dL_law_566 (by decide) ?_
  refine g_iaddN (pc := 567) C dL_law_567 ?_
  refine g_sld (pc := 568) C S0 (by omega) (by omega) dL_law_568 ?_
  refine g_callR (pc := 569) (st := [.int (peV c (!decide ((xs (i + 1)) = 0)) (xs (i + 2)) (xs (i + 3)))]) (As := [.int (bI (!decide ((xs (i + 1)) = 0))), .int (xs (i + 2)), .int (xs (i + 3))]) (nn := 3) (ci := 6) C (m_X6_person l D cI cC q0 q1 q2 q3 q4 q5 q6 q7 q8 q9 q10 q11 th ss asd sts (nI z) snp (bI hs) tx (nI ln) can szs ptn nms pth att isw rdd rmy c (!decide ((xs (i + 1)) = 0)) (xs (i + 2)) (xs (i + 3)) (by first | assumption | omega)) gL_law_X6_person rfl rfl rfl yd_X6_person ⟨Nat.le_of_ble_eq_true rfl, Nat.le_of_ble_eq_true rfl⟩ rfl 12 19 rfl rfl (by decide) rfl rfl rfl (Nat.le_of_ble_eq_true rfl) ⟨Nat.le_of_ble_eq_true rfl, Nat.le_of_ble_eq_true rfl⟩ dL_law_569 ?_
  rintro _ _ ⟨rfl, rfl⟩
  refine g_eq (ws' := ((xW cI cC x0 n0 n1 t0 t1 s0 s1 g0 g1 w0 w1 w2 m0 m1 m2 m3 m4 p0 p1 (bI hs) c ct cs r (nI od) (nI z) sg (nI ln) tr (nI lf) (nI rg) (bI bd) wi ol orr sf (nI rl) nb) ++ (rW cI cC q0 q1 q2 q3 q4 q5 q6 q7 q8 q9 q10 q11 (nI 0) ss asd sts (nI z) snp (bI hs) tx (nI ln) can szs ptn nms pth att isw rdd rmy))) (st' := [.int (peV c (!decide ((xs (i + 1)) = 0)) (xs (i + 2)) (xs (i + 3))), .int (peV c (!decide ((xs (i + 1)) = 0)) (xs (i + 2)) (xs (i + 3)))]) rfl rfl ?_
  refine g_icmp_eq (pc := 572) C 838 dL_law_572 (by decide) (fun _ => ?_) (fun cN => absurd rfl cN)
  exact K _ (lINV_mk hS hH ho hz hX hT hN hrl)

set_option maxHeartbeats 4000000 in
set_option maxRecDepth 100000 in
theorem lc_15 {p : Program} {l : Launch} {e : Env} {s : State} {m : MethodId} {args : Array Value} {below : List Frame} {meth : Method} {co : Code} {Q : State → Prop} {D : va_G} {A : Nat → Prop} {cI cC : ClassId} {x0 n0 n1 t0 t1 s0 s1 g0 g1 w0 w1 w2 m0 m1 m2 m3 m4 p0 p1 q0 q1 q2 q3 q4 q5 q6 q7 q8 q9 q10 q11 : Nat} {hs : Bool} {c ct cs r : Nat → Int32} {od z : Nat} {sg : Nat → Int32} {ln : Nat} {tr : Nat → Int32} {lf rg : Nat} {bd : Bool} {wi ol orr sf : Nat → Int32} {rl : Nat} {nb : Nat → Int32} {th : Int32} {ss asd sts snp tx can szs ptn nms pth : Nat → Int32} {att isw : Int32} {rdd : Nat → Int32} {rmy : Int32} {sb SL i : Nat} {xs : Nat → Int32} (C : g_C p s m args meth co cL_law 8 RL wsL_law D cI cC A) (S0 : lS s A sb SL xs) (hi : i + 4 ≤ SL) (hL : SL ≤ 2048) (hS : SR c ss) (hH : HR r sts od z) (ho : od < 5) (hz : z ≤ 5) (hX : HX sg tx ln) (hT : ∀ k, k < ln → sg k = nI (cN sg k)) (hN : hs = true → SR cs snp) (hrl : rl < 256) (K : ∀ w : va_W, lINV cI cC x0 n0 n1 t0 t1 s0 s1 g0 g1 w0 w1 w2 m0 m1 m2 m3 m4 p0 p1 q0 q1 q2 q3 q4 q5 q6 q7 q8 q9 q10 q11 w → g_J p l e room_1 s m args below meth co Q D A 8 31 5852 w 838 [(3, .int (nI i)), (0, .ref sb), (1, .ref x0), (2, .ref q0)] []) : g_J p l e room_1 s m args below meth co Q D A 8 31 5852 ((xW cI cC x0 n0 n1 t0 t1 s0 s1 g0 g1 w0 w1 w2 m0 m1 m2 m3 m4 p0 p1 (bI hs) c ct cs r (nI od) (nI z) sg (nI ln) tr (nI lf) (nI rg) (bI bd) wi ol orr sf (nI rl) nb) ++ (rW cI cC q0 q1 q2 q3 q4 q5 q6 q7 q8 q9 q10 q11 th ss asd sts (nI z) snp (bI hs) tx (nI ln) can szs ptn nms pth att isw rdd rmy)) 577 [(3, .int (nI i)), (0, .ref sb), (1, .ref x0), (2, .ref q0)] [] := by
  have hc : cOK c := hS.ok
  have hn : ln ≤ 80 := hX.1
  have ht : ∀ k, k < ln → sg k = nI (cN sg k) ∧ cN sg k < 128 := fun k hk => ⟨hT k hk, (hX.2 k hk).2⟩
  have hcs : hs = true → cOK cs := fun h => (hN h).ok
  refine g_aload_n (pc := 577) C dL_law_577 2 rfl rfl ?_
  refine g_aload_n (pc := 578) C dL_law_578 1 rfl rfl ?_
  refine g_iload_n (pc := 579) C dL_law_579 0 rfl rfl ?_
  refine g_iconst (pc := 580) (v := nI 1) C dL_law_580 (by decide) ?_
  refine g_iaddN (pc := 581) C dL_law_581 ?_
  refine g_sld (pc := 582) C S0 (by omega) (by omega) dL_law_582 ?_
  refine g_aload_n (pc := 583) C dL_law_583 1 rfl rfl ?_
  refine g_iload_n (pc := 584) C dL_law_584 0 rfl rfl ?_
  refine g_iconst (pc := 585) (v := nI 2) C dL_law_585 (by decide) ?_
  refine g_iaddN (pc := 586) C dL_law_586 ?_
  refine g_sld (pc := 587) C S0 (by omega) (by omega) dL_law_587 ?_
  refine g_aload_n (pc := 588) C dL_law_588 1 rfl rfl ?_
  refine g_iload_n (pc := 589) C dL_law_589 0 rfl rfl ?_
  refine g_iconst (pc := 590) (v := nI 3) C dL_law_590 (by decide) ?_
  refine g_iaddN (pc := 591) C dL_law_591 ?_
  refine g_sld (pc := 592) C S0 (by omega) (by omega) dL_law_592 ?_
  refine g_callX (pc := 593) (st := []) (As := [.int (xs (i + 1)), .int (xs (i + 2)), .int (xs (i + 3))]) (nn := 3) (ci := 5) C (m_X5_pair l D cI cC x0 n0 n1 t0 t1 s0 s1 g0 g1 w0 w1 w2 m0 m1 m2 m3 m4 p0 p1 c ct cs r sg tr wi ol orr sf nb hs od z ln lf rg bd rl (xs (i + 1)) (xs (i + 2)) (xs (i + 3)) (by first | assumption | omega) (by first | assumption | omega)) gL_law_X5_pair rfl rfl rfl yd_X5_pair ⟨Nat.le_of_ble_eq_true rfl, Nat.le_of_ble_eq_true rfl⟩ rfl 19 rfl (by decide) rfl rfl rfl (Nat.le_of_ble_eq_true rfl) ⟨Nat.le_of_ble_eq_true rfl, Nat.le_of_ble_eq_true rfl⟩ dL_law_593 ?_
  rintro _ _ ⟨wi2_593, ol2_593, orr2_593, sf2_593, rl2_593, rfl, rfl, f593_0⟩
  refine g_eq (ws' := ((xW cI cC x0 n0 n1 t0 t1 s0 s1 g0 g1 w0 w1 w2 m0 m1 m2 m3 m4 p0 p1 (bI hs) c ct cs r (nI od) (nI z) sg (nI ln) tr (nI lf) (nI rg) (bI bd) wi2_593 ol2_593 orr2_593 sf2_593 (nI rl2_593) nb) ++ (rW cI cC q0 q1 q2 q3 q4 q5 q6 q7 q8 q9 q10 q11 th ss asd sts (nI z) snp (bI hs) tx (nI ln) can szs ptn nms pth att isw rdd rmy))) (st' := [.int (paV c (xs (i + 1)) (xs (i + 2)) (xs (i + 3)))]) rfl rfl ?_
  refine g_aload_n (pc := 596) C dL_law_596 3 rfl rfl ?_
  refine g_aload_n (pc := 597) C dL_law_597 1 rfl rfl ?_
  refine g_iload_n (pc := 598) C dL_law_598 0 rfl rfl ?_
  refine g_iconst (pc := 599) (v := nI 1) C dL_law_599 (by decide) ?_
  refine g_iaddN (pc := 600) C dL_law_600 ?_
  refine g_sld (pc := 601) C S0 (by omega) (by omega) dL_law_601 ?_
  refine g_aload_n (pc := 602) C dL_law_602 1 rfl rfl ?_
  refine g_iload_n (pc := 603) C dL_law_603 0 rfl rfl ?_
  refine g_iconst (pc := 604) (v := nI 2) C dL_law_604 (by decide) ?_
  refine g_iaddN (pc := 605) C dL_law_605 ?_
  refine g_sld (pc := 606) C S0 (by omega) (by omega) dL_law_606 ?_
  refine g_aload_n (pc := 607) C dL_law_607 1 rfl rfl ?_
  refine g_iload_n (pc := 608) C dL_law_608 0 rfl rfl ?_
  refine g_iconst (pc := 609) (v := nI 3) C dL_law_609 (by decide) ?_
  refine g_iaddN (pc := 610) C dL_law_610 ?_
  refine g_sld (pc := 611) C S0 (by omega) (by omega) dL_law_611 ?_
  refine g_callR (pc := 612) (st := [.int (paV c (xs (i + 1)) (xs (i + 2)) (xs (i + 3)))]) (As := [.int (xs (i + 1)), .int (xs (i + 2)), .int (xs (i + 3))]) (nn := 3) (ci := 6) C (m_X6_pair l D cI cC q0 q1 q2 q3 q4 q5 q6 q7 q8 q9 q10 q11 th ss asd sts (nI z) snp (bI hs) tx (nI ln) can szs ptn nms pth att isw rdd rmy c (xs (i + 1)) (xs (i + 2)) (xs (i + 3)) (by first | assumption | omega)) gL_law_X6_pair rfl rfl rfl yd_X6_pair ⟨Nat.le_of_ble_eq_true rfl, Nat.le_of_ble_eq_true rfl⟩ rfl 12 19 rfl rfl (by decide) rfl rfl rfl (Nat.le_of_ble_eq_true rfl) ⟨Nat.le_of_ble_eq_true rfl, Nat.le_of_ble_eq_true rfl⟩ dL_law_612 ?_
  rintro _ _ ⟨can2_612, szs2_612, ptn2_612, rfl, rfl⟩
  refine g_eq (ws' := ((xW cI cC x0 n0 n1 t0 t1 s0 s1 g0 g1 w0 w1 w2 m0 m1 m2 m3 m4 p0 p1 (bI hs) c ct cs r (nI od) (nI z) sg (nI ln) tr (nI lf) (nI rg) (bI bd) wi2_593 ol2_593 orr2_593 sf2_593 (nI rl2_593) nb) ++ (rW cI cC q0 q1 q2 q3 q4 q5 q6 q7 q8 q9 q10 q11 (nI 0) ss asd sts (nI z) snp (bI hs) tx (nI ln) can2_612 szs2_612 ptn2_612 nms pth att isw rdd rmy))) (st' := [.int (paV c (xs (i + 1)) (xs (i + 2)) (xs (i + 3))), .int (paV c (xs (i + 1)) (xs (i + 2)) (xs (i + 3)))]) rfl rfl ?_
  refine g_icmp_eq (pc := 615) C 838 dL_law_615 (by decide) (fun _ => ?_) (fun cN => absurd rfl cN)
  exact K _ (lINV_mk hS hH ho hz hX hT hN f593_0)

set_option maxHeartbeats 4000000 in
set_option maxRecDepth 100000 in
theorem lc_16 {p : Program} {l : Launch} {e : Env} {s : State} {m : MethodId} {args : Array Value} {below : List Frame} {meth : Method} {co : Code} {Q : State → Prop} {D : va_G} {A : Nat → Prop} {cI cC : ClassId} {x0 n0 n1 t0 t1 s0 s1 g0 g1 w0 w1 w2 m0 m1 m2 m3 m4 p0 p1 q0 q1 q2 q3 q4 q5 q6 q7 q8 q9 q10 q11 : Nat} {hs : Bool} {c ct cs r : Nat → Int32} {od z : Nat} {sg : Nat → Int32} {ln : Nat} {tr : Nat → Int32} {lf rg : Nat} {bd : Bool} {wi ol orr sf : Nat → Int32} {rl : Nat} {nb : Nat → Int32} {th : Int32} {ss asd sts snp tx can szs ptn nms pth : Nat → Int32} {att isw : Int32} {rdd : Nat → Int32} {rmy : Int32} {sb SL i : Nat} {xs : Nat → Int32} (C : g_C p s m args meth co cL_law 8 RL wsL_law D cI cC A) (S0 : lS s A sb SL xs) (hi : i + 4 ≤ SL) (hL : SL ≤ 2048) (hS : SR c ss) (hH : HR r sts od z) (ho : od < 5) (hz : z ≤ 5) (hX : HX sg tx ln) (hT : ∀ k, k < ln → sg k = nI (cN sg k)) (hN : hs = true → SR cs snp) (hrl : rl < 256) (K : ∀ w : va_W, lINV cI cC x0 n0 n1 t0 t1 s0 s1 g0 g1 w0 w1 w2 m0 m1 m2 m3 m4 p0 p1 q0 q1 q2 q3 q4 q5 q6 q7 q8 q9 q10 q11 w → g_J p l e room_1 s m args below meth co Q D A 8 31 5852 w 838 [(3, .int (nI i)), (0, .ref sb), (1, .ref x0), (2, .ref q0)] []) : g_J p l e room_1 s m args below meth co Q D A 8 31 5852 ((xW cI cC x0 n0 n1 t0 t1 s0 s1 g0 g1 w0 w1 w2 m0 m1 m2 m3 m4 p0 p1 (bI hs) c ct cs r (nI od) (nI z) sg (nI ln) tr (nI lf) (nI rg) (bI bd) wi ol orr sf (nI rl) nb) ++ (rW cI cC q0 q1 q2 q3 q4 q5 q6 q7 q8 q9 q10 q11 th ss asd sts (nI z) snp (bI hs) tx (nI ln) can szs ptn nms pth att isw rdd rmy)) 620 [(3, .int (nI i)), (0, .ref sb), (1, .ref x0), (2, .ref q0)] [] := by
  have hc : cOK c := hS.ok
  have hn : ln ≤ 80 := hX.1
  have ht : ∀ k, k < ln → sg k = nI (cN sg k) ∧ cN sg k < 128 := fun k hk => ⟨hT k hk, (hX.2 k hk).2⟩
  have hcs : hs = true → cOK cs := fun h => (hN h).ok
  refine g_aload_n (pc := 620) C dL_law_620 2 rfl rfl ?_
  refine g_aload_n (pc := 621) C dL_law_621 1 rfl rfl ?_
  refine g_iload_n (pc := 622) C dL_law_622 0 rfl rfl ?_
  refine g_iconst (pc := 623) (v := nI 1) C dL_law_623 (by decide) ?_
  refine g_iaddN (pc := 624) C dL_law_624 ?_
  refine g_sld (pc := 625) C S0 (by omega) (by omega) dL_law_625 ?_
  refine g_aload_n (pc := 626) C dL_law_626 1 rfl rfl ?_
  refine g_iload_n (pc := 627) C dL_law_627 0 rfl rfl ?_
  refine g_iconst (pc := 628) (v := nI 2) C dL_law_628 (by decide) ?_
  refine g_iaddN (pc := 629) C dL_law_629 ?_
  refine g_sld (pc := 630) C S0 (by omega) (by omega) dL_law_630 ?_
  refine g_callX (pc := 631) (st := []) (As := [.int (xs (i + 1)), .int (xs (i + 2))]) (nn := 2) (ci := 5) C (m_X5_isLinked l D cI cC x0 n0 n1 t0 t1 s0 s1 g0 g1 w0 w1 w2 m0 m1 m2 m3 m4 p0 p1 c ct cs r sg tr wi ol orr sf nb hs od z ln lf rg bd rl (xs (i + 1)) (xs (i + 2)) (by first | assumption | omega)) gL_law_X5_isLinked rfl rfl rfl yd_X5_isLinked ⟨Nat.le_of_ble_eq_true rfl, Nat.le_of_ble_eq_true rfl⟩ rfl 19 rfl (by decide) rfl rfl rfl (Nat.le_of_ble_eq_true rfl) ⟨Nat.le_of_ble_eq_true rfl, Nat.le_of_ble_eq_true rfl⟩ dL_law_631 ?_
  rintro _ _ ⟨rfl, rfl⟩
  refine g_eq (ws' := ((xW cI cC x0 n0 n1 t0 t1 s0 s1 g0 g1 w0 w1 w2 m0 m1 m2 m3 m4 p0 p1 (bI hs) c ct cs r (nI od) (nI z) sg (nI ln) tr (nI lf) (nI rg) (bI bd) wi ol orr sf (nI rl) nb) ++ (rW cI cC q0 q1 q2 q3 q4 q5 q6 q7 q8 q9 q10 q11 th ss asd sts (nI z) snp (bI hs) tx (nI ln) can szs ptn nms pth att isw rdd rmy))) (st' := [.int (lkV c (xs (i + 1)) (xs (i + 2)))]) rfl rfl ?_
  refine g_aload_n (pc := 634) C dL_law_634 3 rfl rfl ?_
  refine g_aload_n (pc := 635) C dL_law_635 1 rfl rfl ?_
  refine g_iload_n (pc := 636) C dL_law_636 0 rfl rfl ?_
  refine g_iconst (pc := 637) (v := nI 1) C dL_law_637 (by decide) ?_
  refine g_iaddN (pc := 638) C dL_law_638 ?_
  refine g_sld (pc := 639) C S0 (by omega) (by omega) dL_law_639 ?_
  refine g_aload_n (pc := 640) C dL_law_640 1 rfl rfl ?_
  refine g_iload_n (pc := 641) C dL_law_641 0 rfl rfl ?_
  refine g_iconst (pc := 642) (v := nI 2) C dL_law_642 (by decide) ?_
  refine g_iaddN (pc := 643) C dL_law_643 ?_
  refine g_sld (pc := 644) C S0 (by omega) (by omega) dL_law_644 ?_
  refine g_callR (pc := 645) (st := [.int (lkV c (xs (i + 1)) (xs (i + 2)))]) (As := [.int (xs (i + 1)), .int (xs (i + 2))]) (nn := 2) (ci := 6) C (m_X6_isLinked l D cI cC q0 q1 q2 q3 q4 q5 q6 q7 q8 q9 q10 q11 th ss asd sts (nI z) snp (bI hs) tx (nI ln) can szs ptn nms pth att isw rdd rmy c (xs (i + 1)) (xs (i + 2)) (by first | assumption | omega)) gL_law_X6_isLinked rfl rfl rfl yd_X6_isLinked ⟨Nat.le_of_ble_eq_true rfl, Nat.le_of_ble_eq_true rfl⟩ rfl 12 19 rfl rfl (by decide) rfl rfl rfl (Nat.le_of_ble_eq_true rfl) ⟨Nat.le_of_ble_eq_true rfl, Nat.le_of_ble_eq_true rfl⟩ dL_law_645 ?_
  rintro _ _ ⟨rfl, rfl⟩
  refine g_eq (ws' := ((xW cI cC x0 n0 n1 t0 t1 s0 s1 g0 g1 w0 w1 w2 m0 m1 m2 m3 m4 p0 p1 (bI hs) c ct cs r (nI od) (nI z) sg (nI ln) tr (nI lf) (nI rg) (bI bd) wi ol orr sf (nI rl) nb) ++ (rW cI cC q0 q1 q2 q3 q4 q5 q6 q7 q8 q9 q10 q11 (nI 0) ss asd sts (nI z) snp (bI hs) tx (nI ln) can szs ptn nms pth att isw rdd rmy))) (st' := [.int (lkV c (xs (i + 1)) (xs (i + 2))), .int (lkV c (xs (i + 1)) (xs (i + 2)))]) rfl rfl ?_
  refine g_icmp_eq (pc := 648) C 838 dL_law_648 (by decide) (fun _ => ?_) (fun cN => absurd rfl cN)
  exact K _ (lINV_mk hS hH ho hz hX hT hN hrl)

set_option maxHeartbeats 4000000 in
set_option maxRecDepth 100000 in
theorem lc_17 {p : Program} {l : Launch} {e : Env} {s : State} {m : MethodId} {args : Array Value} {below : List Frame} {meth : Method} {co : Code} {Q : State → Prop} {D : va_G} {A : Nat → Prop} {cI cC : ClassId} {x0 n0 n1 t0 t1 s0 s1 g0 g1 w0 w1 w2 m0 m1 m2 m3 m4 p0 p1 q0 q1 q2 q3 q4 q5 q6 q7 q8 q9 q10 q11 : Nat} {hs : Bool} {c ct cs r : Nat → Int32} {od z : Nat} {sg : Nat → Int32} {ln : Nat} {tr : Nat → Int32} {lf rg : Nat} {bd : Bool} {wi ol orr sf : Nat → Int32} {rl : Nat} {nb : Nat → Int32} {th : Int32} {ss asd sts snp tx can szs ptn nms pth : Nat → Int32} {att isw : Int32} {rdd : Nat → Int32} {rmy : Int32} {sb SL i : Nat} {xs : Nat → Int32} (C : g_C p s m args meth co cL_law 8 RL wsL_law D cI cC A) (S0 : lS s A sb SL xs) (hi : i + 4 ≤ SL) (hL : SL ≤ 2048) (hS : SR c ss) (hH : HR r sts od z) (ho : od < 5) (hz : z ≤ 5) (hX : HX sg tx ln) (hT : ∀ k, k < ln → sg k = nI (cN sg k)) (hN : hs = true → SR cs snp) (hrl : rl < 256) (K : ∀ w : va_W, lINV cI cC x0 n0 n1 t0 t1 s0 s1 g0 g1 w0 w1 w2 m0 m1 m2 m3 m4 p0 p1 q0 q1 q2 q3 q4 q5 q6 q7 q8 q9 q10 q11 w → g_J p l e room_1 s m args below meth co Q D A 8 31 5852 w 838 [(3, .int (nI i)), (0, .ref sb), (1, .ref x0), (2, .ref q0)] []) : g_J p l e room_1 s m args below meth co Q D A 8 31 5852 ((xW cI cC x0 n0 n1 t0 t1 s0 s1 g0 g1 w0 w1 w2 m0 m1 m2 m3 m4 p0 p1 (bI hs) c ct cs r (nI od) (nI z) sg (nI ln) tr (nI lf) (nI rg) (bI bd) wi ol orr sf (nI rl) nb) ++ (rW cI cC q0 q1 q2 q3 q4 q5 q6 q7 q8 q9 q10 q11 th ss asd sts (nI z) snp (bI hs) tx (nI ln) can szs ptn nms pth att isw rdd rmy)) 653 [(3, .int (nI i)), (0, .ref sb), (1, .ref x0), (2, .ref q0)] [] := by
  have hc : cOK c := hS.ok
  have hn : ln ≤ 80 := hX.1
  have ht : ∀ k, k < ln → sg k = nI (cN sg k) ∧ cN sg k < 128 := fun k hk => ⟨hT k hk, (hX.2 k hk).2⟩
  have hcs : hs = true → cOK cs := fun h => (hN h).ok
  refine g_aload_n (pc := 653) C dL_law_653 2 rfl rfl ?_
  refine g_aload_n (pc := 654) C dL_law_654 1 rfl rfl ?_
  refine g_iload_n (pc := 655) C dL_law_655 0 rfl rfl ?_
  refine g_iconst (pc := 656) (v := nI 1) C dL_law_656 (by decide) ?_
  refine g_iaddN (pc := 657) C dL_law_657 ?_
  refine g_sld (pc := 658) C S0 (by omega) (by omega) dL_law_658 ?_
  refine g_ne0 (pc := 659) C dL_law_659 dL_law_662 dL_law_663 dL_law_666 ?_
  refine g_aload_n (pc := 667) C dL_law_667 1 rfl rfl ?_
  refine g_iload_n (pc := 668) C dL_law_668 0 rfl rfl ?_
  refine g_iconst (pc := 669) (v := nI 2) C dL_law_669 (by decide) ?_
  refine g_iaddN (pc := 670) C dL_law_670 ?_
  refine g_sld (pc := 671) C S0 (by omega) (by omega) dL_law_671 ?_
  refine g_callX (pc := 672) (st := []) (As := [.int (bI (!decide ((xs (i + 1)) = 0))), .int (xs (i + 2))]) (nn := 2) (ci := 5) C (m_X5_partner l D cI cC x0 n0 n1 t0 t1 s0 s1 g0 g1 w0 w1 w2 m0 m1 m2 m3 m4 p0 p1 c ct cs r sg tr wi ol orr sf nb hs od z ln lf rg bd rl (!decide ((xs (i + 1)) = 0)) (xs (i + 2)) (by first | assumption | omega) (by first | assumption | omega)) gL_law_X5_partner rfl rfl rfl yd_X5_partner ⟨Nat.le_of_ble_eq_true rfl, Nat.le_of_ble_eq_true rfl⟩ rfl 19 rfl (by decide) rfl rfl rfl (Nat.le_of_ble_eq_true rfl) ⟨Nat.le_of_ble_eq_true rfl, Nat.le_of_ble_eq_true rfl⟩ dL_law_672 ?_
  rintro _ _ ⟨wi2_672, ol2_672, orr2_672, sf2_672, rl2_672, rfl, rfl, f672_0⟩
  refine g_eq (ws' := ((xW cI cC x0 n0 n1 t0 t1 s0 s1 g0 g1 w0 w1 w2 m0 m1 m2 m3 m4 p0 p1 (bI hs) c ct cs r (nI od) (nI z) sg (nI ln) tr (nI lf) (nI rg) (bI bd) wi2_672 ol2_672 orr2_672 sf2_672 (nI rl2_672) nb) ++ (rW cI cC q0 q1 q2 q3 q4 q5 q6 q7 q8 q9 q10 q11 th ss asd sts (nI z) snp (bI hs) tx (nI ln) can szs ptn nms pth att isw rdd rmy))) (st' := [.int (ptV c (!decide ((xs (i + 1)) = 0)) (xs (i + 2)))]) rfl rfl ?_
  refine g_aload_n (pc := 675) C dL_law_675 3 rfl rfl ?_
  refine g_aload_n (pc := 676) C dL_law_676 1 rfl rfl ?_
  refine g_iload_n (pc := 677) C dL_law_677 0 rfl rfl ?_
  refine g_iconst (pc := 678) (v := nI 1) C dL_law_678 (by decide) ?_
  refine g_iaddN (pc := 679) C dL_law_679 ?_
  refine g_sld (pc := 680) C S0 (by omega) (by omega) dL_law_680 ?_
  refine g_ne0 (pc := 681) C dL_law_681 dL_law_684 dL_law_685 dL_law_688 ?_
  refine g_aload_n (pc := 689) C dL_law_689 1 rfl rfl ?_
  refine g_iload_n (pc := 690) C dL_law_690 0 rfl rfl ?_
  refine g_iconst (pc := 691) (v := nI 2) C dL_law_691 (by decide) ?_
  refine g_iaddN (pc := 692) C dL_law_692 ?_
  refine g_sld (pc := 693) C S0 (by omega) (by omega) dL_law_693 ?_
  refine g_callR (pc := 694) (st := [.int (ptV c (!decide ((xs (i + 1)) = 0)) (xs (i + 2)))]) (As := [.int (bI (!decide ((xs (i + 1)) = 0))), .int (xs (i + 2))]) (nn := 2) (ci := 6) C (m_X6_partner l D cI cC q0 q1 q2 q3 q4 q5 q6 q7 q8 q9 q10 q11 th ss asd sts (nI z) snp (bI hs) tx (nI ln) can szs ptn nms pth att isw rdd rmy c (!decide ((xs (i + 1)) = 0)) (xs (i + 2)) (by first | assumption | omega)) gL_law_X6_partner rfl rfl rfl yd_X6_partner ⟨Nat.le_of_ble_eq_true rfl, Nat.le_of_ble_eq_true rfl⟩ rfl 12 19 rfl rfl (by decide) rfl rfl rfl (Nat.le_of_ble_eq_true rfl) ⟨Nat.le_of_ble_eq_true rfl, Nat.le_of_ble_eq_true rfl⟩ dL_law_694 ?_
  rintro _ _ ⟨can2_694, szs2_694, ptn2_694, rfl, rfl⟩
  refine g_eq (ws' := ((xW cI cC x0 n0 n1 t0 t1 s0 s1 g0 g1 w0 w1 w2 m0 m1 m2 m3 m4 p0 p1 (bI hs) c ct cs r (nI od) (nI z) sg (nI ln) tr (nI lf) (nI rg) (bI bd) wi2_672 ol2_672 orr2_672 sf2_672 (nI rl2_672) nb) ++ (rW cI cC q0 q1 q2 q3 q4 q5 q6 q7 q8 q9 q10 q11 (nI 0) ss asd sts (nI z) snp (bI hs) tx (nI ln) can2_694 szs2_694 ptn2_694 nms pth att isw rdd rmy))) (st' := [.int (ptV c (!decide ((xs (i + 1)) = 0)) (xs (i + 2))), .int (ptV c (!decide ((xs (i + 1)) = 0)) (xs (i + 2)))]) rfl rfl ?_
  refine g_icmp_eq (pc := 697) C 838 dL_law_697 (by decide) (fun _ => ?_) (fun cN => absurd rfl cN)
  exact K _ (lINV_mk hS hH ho hz hX hT hN f672_0)

set_option maxHeartbeats 4000000 in
set_option maxRecDepth 100000 in
theorem lc_18 {p : Program} {l : Launch} {e : Env} {s : State} {m : MethodId} {args : Array Value} {below : List Frame} {meth : Method} {co : Code} {Q : State → Prop} {D : va_G} {A : Nat → Prop} {cI cC : ClassId} {x0 n0 n1 t0 t1 s0 s1 g0 g1 w0 w1 w2 m0 m1 m2 m3 m4 p0 p1 q0 q1 q2 q3 q4 q5 q6 q7 q8 q9 q10 q11 : Nat} {hs : Bool} {c ct cs r : Nat → Int32} {od z : Nat} {sg : Nat → Int32} {ln : Nat} {tr : Nat → Int32} {lf rg : Nat} {bd : Bool} {wi ol orr sf : Nat → Int32} {rl : Nat} {nb : Nat → Int32} {th : Int32} {ss asd sts snp tx can szs ptn nms pth : Nat → Int32} {att isw : Int32} {rdd : Nat → Int32} {rmy : Int32} {sb SL i : Nat} {xs : Nat → Int32} (C : g_C p s m args meth co cL_law 8 RL wsL_law D cI cC A) (S0 : lS s A sb SL xs) (hi : i + 4 ≤ SL) (hL : SL ≤ 2048) (hS : SR c ss) (hH : HR r sts od z) (ho : od < 5) (hz : z ≤ 5) (hX : HX sg tx ln) (hT : ∀ k, k < ln → sg k = nI (cN sg k)) (hN : hs = true → SR cs snp) (hrl : rl < 256) (K : ∀ w : va_W, lINV cI cC x0 n0 n1 t0 t1 s0 s1 g0 g1 w0 w1 w2 m0 m1 m2 m3 m4 p0 p1 q0 q1 q2 q3 q4 q5 q6 q7 q8 q9 q10 q11 w → g_J p l e room_1 s m args below meth co Q D A 8 31 5852 w 838 [(3, .int (nI i)), (0, .ref sb), (1, .ref x0), (2, .ref q0)] []) : g_J p l e room_1 s m args below meth co Q D A 8 31 5852 ((xW cI cC x0 n0 n1 t0 t1 s0 s1 g0 g1 w0 w1 w2 m0 m1 m2 m3 m4 p0 p1 (bI hs) c ct cs r (nI od) (nI z) sg (nI ln) tr (nI lf) (nI rg) (bI bd) wi ol orr sf (nI rl) nb) ++ (rW cI cC q0 q1 q2 q3 q4 q5 q6 q7 q8 q9 q10 q11 th ss asd sts (nI z) snp (bI hs) tx (nI ln) can szs ptn nms pth att isw rdd rmy)) 702 [(3, .int (nI i)), (0, .ref sb), (1, .ref x0), (2, .ref q0)] [] := by
  have hc : cOK c := hS.ok
  have hn : ln ≤ 80 := hX.1
  have ht : ∀ k, k < ln → sg k = nI (cN sg k) ∧ cN sg k < 128 := fun k hk => ⟨hT k hk, (hX.2 k hk).2⟩
  have hcs : hs = true → cOK cs := fun h => (hN h).ok
  refine g_aload_n (pc := 702) C dL_law_702 2 rfl rfl ?_
  refine g_callX (pc := 703) (st := []) (As := []) (nn := 0) (ci := 5) C (m_X5_hindered l D cI cC x0 n0 n1 t0 t1 s0 s1 g0 g1 w0 w1 w2 m0 m1 m2 m3 m4 p0 p1 c ct cs r sg tr wi ol orr sf nb hs od z ln lf rg bd rl (by first | assumption | omega) (by first | assumption | omega)) gL_law_X5_hindered rfl rfl rfl yd_X5_hindered ⟨Nat.le_of_ble_eq_true rfl, Nat.le_of_ble_eq_true rfl⟩ rfl 19 rfl (by decide) rfl rfl rfl (Nat.le_of_ble_eq_true rfl) ⟨Nat.le_of_ble_eq_true rfl, Nat.le_of_ble_eq_true rfl⟩ dL_law_703 ?_
  rintro _ _ ⟨wi2_703, ol2_703, orr2_703, sf2_703, rl2_703, rfl, rfl, f703_0⟩
  refine g_eq (ws' := ((xW cI cC x0 n0 n1 t0 t1 s0 s1 g0 g1 w0 w1 w2 m0 m1 m2 m3 m4 p0 p1 (bI hs) c ct cs r (nI od) (nI z) sg (nI ln) tr (nI lf) (nI rg) (bI bd) wi2_703 ol2_703 orr2_703 sf2_703 (nI rl2_703) nb) ++ (rW cI cC q0 q1 q2 q3 q4 q5 q6 q7 q8 q9 q10 q11 th ss asd sts (nI z) snp (bI hs) tx (nI ln) can szs ptn nms pth att isw rdd rmy))) (st' := [.int (nI (hnN c))]) rfl rfl ?_
  refine g_aload_n (pc := 706) C dL_law_706 3 rfl rfl ?_
  refine g_callR (pc := 707) (st := [.int (nI (hnN c))]) (As := []) (nn := 0) (ci := 6) C (m_X6_hindered l D cI cC q0 q1 q2 q3 q4 q5 q6 q7 q8 q9 q10 q11 th ss asd sts (nI z) snp (bI hs) tx (nI ln) can szs ptn nms pth att isw rdd rmy c (by first | assumption | omega)) gL_law_X6_hindered rfl rfl rfl yd_X6_hindered ⟨Nat.le_of_ble_eq_true rfl, Nat.le_of_ble_eq_true rfl⟩ rfl 12 19 rfl rfl (by decide) rfl rfl rfl (Nat.le_of_ble_eq_true rfl) ⟨Nat.le_of_ble_eq_true rfl, Nat.le_of_ble_eq_true rfl⟩ dL_law_707 ?_
  rintro _ _ ⟨can2_707, szs2_707, ptn2_707, rfl, rfl⟩
  refine g_eq (ws' := ((xW cI cC x0 n0 n1 t0 t1 s0 s1 g0 g1 w0 w1 w2 m0 m1 m2 m3 m4 p0 p1 (bI hs) c ct cs r (nI od) (nI z) sg (nI ln) tr (nI lf) (nI rg) (bI bd) wi2_703 ol2_703 orr2_703 sf2_703 (nI rl2_703) nb) ++ (rW cI cC q0 q1 q2 q3 q4 q5 q6 q7 q8 q9 q10 q11 (nI 0) ss asd sts (nI z) snp (bI hs) tx (nI ln) can2_707 szs2_707 ptn2_707 nms pth att isw rdd rmy))) (st' := [.int (nI (hnN c)), .int (nI (hnN c))]) rfl rfl ?_
  refine g_icmp_eq (pc := 710) C 838 dL_law_710 (by decide) (fun _ => ?_) (fun cN => absurd rfl cN)
  exact K _ (lINV_mk hS hH ho hz hX hT hN f703_0)

set_option maxHeartbeats 4000000 in
set_option maxRecDepth 100000 in
theorem lc_19 {p : Program} {l : Launch} {e : Env} {s : State} {m : MethodId} {args : Array Value} {below : List Frame} {meth : Method} {co : Code} {Q : State → Prop} {D : va_G} {A : Nat → Prop} {cI cC : ClassId} {x0 n0 n1 t0 t1 s0 s1 g0 g1 w0 w1 w2 m0 m1 m2 m3 m4 p0 p1 q0 q1 q2 q3 q4 q5 q6 q7 q8 q9 q10 q11 : Nat} {hs : Bool} {c ct cs r : Nat → Int32} {od z : Nat} {sg : Nat → Int32} {ln : Nat} {tr : Nat → Int32} {lf rg : Nat} {bd : Bool} {wi ol orr sf : Nat → Int32} {rl : Nat} {nb : Nat → Int32} {th : Int32} {ss asd sts snp tx can szs ptn nms pth : Nat → Int32} {att isw : Int32} {rdd : Nat → Int32} {rmy : Int32} {sb SL i : Nat} {xs : Nat → Int32} (C : g_C p s m args meth co cL_law 8 RL wsL_law D cI cC A) (S0 : lS s A sb SL xs) (hi : i + 4 ≤ SL) (hL : SL ≤ 2048) (hS : SR c ss) (hH : HR r sts od z) (ho : od < 5) (hz : z ≤ 5) (hX : HX sg tx ln) (hT : ∀ k, k < ln → sg k = nI (cN sg k)) (hN : hs = true → SR cs snp) (hrl : rl < 256) (K : ∀ w : va_W, lINV cI cC x0 n0 n1 t0 t1 s0 s1 g0 g1 w0 w1 w2 m0 m1 m2 m3 m4 p0 p1 q0 q1 q2 q3 q4 q5 q6 q7 q8 q9 q10 q11 w → g_J p l e room_1 s m args below meth co Q D A 8 31 5852 w 838 [(3, .int (nI i)), (0, .ref sb), (1, .ref x0), (2, .ref q0)] []) : g_J p l e room_1 s m args below meth co Q D A 8 31 5852 ((xW cI cC x0 n0 n1 t0 t1 s0 s1 g0 g1 w0 w1 w2 m0 m1 m2 m3 m4 p0 p1 (bI hs) c ct cs r (nI od) (nI z) sg (nI ln) tr (nI lf) (nI rg) (bI bd) wi ol orr sf (nI rl) nb) ++ (rW cI cC q0 q1 q2 q3 q4 q5 q6 q7 q8 q9 q10 q11 th ss asd sts (nI z) snp (bI hs) tx (nI ln) can szs ptn nms pth att isw rdd rmy)) 715 [(3, .int (nI i)), (0, .ref sb), (1, .ref x0), (2, .ref q0)] [] := by
  have hc : cOK c := hS.ok
  have hn : ln ≤ 80 := hX.1
  have ht : ∀ k, k < ln → sg k = nI (cN sg k) ∧ cN sg k < 128 := fun k hk => ⟨hT k hk, (hX.2 k hk).2⟩
  have hcs : hs = true → cOK cs := fun h => (hN h).ok
  refine g_aload_n (pc := 715) C dL_law_715 2 rfl rfl ?_
  refine g_aload_n (pc := 716) C dL_law_716 1 rfl rfl ?_
  refine g_iload_n (pc := 717) C dL_law_717 0 rfl rfl ?_
  refine g_iconst (pc := 718) (v := nI 1) C dL_law_718 (by decide) ?_
  refine g_iaddN (pc := 719) C dL_law_719 ?_
  refine g_sld (pc := 720) C S0 (by omega) (by omega) dL_law_720 ?_
  refine g_aload_n (pc := 721) C dL_law_721 1 rfl rfl ?_
  refine g_iload_n (pc := 722) C dL_law_722 0 rfl rfl ?_
  refine g_iconst (pc := 723) (v := nI 2) C dL_law_723 (by decide) ?_
  refine g_iaddN (pc := 724) C dL_law_724 ?_
  refine g_sld (pc := 725) C S0 (by omega) (by omega) dL_law_725 ?_
  refine g_callX (pc := 726) (st := []) (As := [.int (xs (i + 1)), .int (xs (i + 2))]) (nn := 2) (ci := 5) C (m_X5_planned l D cI cC x0 n0 n1 t0 t1 s0 s1 g0 g1 w0 w1 w2 m0 m1 m2 m3 m4 p0 p1 c ct cs r sg tr wi ol orr sf nb hs od z ln lf rg bd rl (xs (i + 1)) (xs (i + 2)) (by first | assumption | omega)) gL_law_X5_planned rfl rfl rfl yd_X5_planned ⟨Nat.le_of_ble_eq_true rfl, Nat.le_of_ble_eq_true rfl⟩ rfl 19 rfl (by decide) rfl rfl rfl (Nat.le_of_ble_eq_true rfl) ⟨Nat.le_of_ble_eq_true rfl, Nat.le_of_ble_eq_true rfl⟩ dL_law_726 ?_
  rintro _ _ ⟨nb2_726, rfl, rfl⟩
  refine g_eq (ws' := ((xW cI cC x0 n0 n1 t0 t1 s0 s1 g0 g1 w0 w1 w2 m0 m1 m2 m3 m4 p0 p1 (bI hs) c ct cs r (nI od) (nI z) sg (nI ln) tr (nI lf) (nI rg) (bI bd) wi ol orr sf (nI rl) nb2_726) ++ (rW cI cC q0 q1 q2 q3 q4 q5 q6 q7 q8 q9 q10 q11 th ss asd sts (nI z) snp (bI hs) tx (nI ln) can szs ptn nms pth att isw rdd rmy))) (st' := [.int (plV c (xs (i + 1)) (xs (i + 2)))]) rfl rfl ?_
  refine g_aload_n (pc := 729) C dL_law_729 3 rfl rfl ?_
  refine g_aload_n (pc := 730) C dL_law_730 1 rfl rfl ?_
  refine g_iload_n (pc := 731) C dL_law_731 0 rfl rfl ?_
  refine g_iconst (pc := 732) (v := nI 1) C dL_law_732 (by decide) ?_
  refine g_iaddN (pc := 733) C dL_law_733 ?_
  refine g_sld (pc := 734) C S0 (by omega) (by omega) dL_law_734 ?_
  refine g_aload_n (pc := 735) C dL_law_735 1 rfl rfl ?_
  refine g_iload_n (pc := 736) C dL_law_736 0 rfl rfl ?_
  refine g_iconst (pc := 737) (v := nI 2) C dL_law_737 (by decide) ?_
  refine g_iaddN (pc := 738) C dL_law_738 ?_
  refine g_sld (pc := 739) C S0 (by omega) (by omega) dL_law_739 ?_
  refine g_callR (pc := 740) (st := [.int (plV c (xs (i + 1)) (xs (i + 2)))]) (As := [.int (xs (i + 1)), .int (xs (i + 2))]) (nn := 2) (ci := 6) C (m_X6_planned l D cI cC q0 q1 q2 q3 q4 q5 q6 q7 q8 q9 q10 q11 th ss asd sts (nI z) snp (bI hs) tx (nI ln) can szs ptn nms pth att isw rdd rmy c (xs (i + 1)) (xs (i + 2)) (by first | assumption | omega)) gL_law_X6_planned rfl rfl rfl yd_X6_planned ⟨Nat.le_of_ble_eq_true rfl, Nat.le_of_ble_eq_true rfl⟩ rfl 12 19 rfl rfl (by decide) rfl rfl rfl (Nat.le_of_ble_eq_true rfl) ⟨Nat.le_of_ble_eq_true rfl, Nat.le_of_ble_eq_true rfl⟩ dL_law_740 ?_
  rintro _ _ ⟨nms2_740, pth2_740, rfl, rfl⟩
  refine g_eq (ws' := ((xW cI cC x0 n0 n1 t0 t1 s0 s1 g0 g1 w0 w1 w2 m0 m1 m2 m3 m4 p0 p1 (bI hs) c ct cs r (nI od) (nI z) sg (nI ln) tr (nI lf) (nI rg) (bI bd) wi ol orr sf (nI rl) nb2_726) ++ (rW cI cC q0 q1 q2 q3 q4 q5 q6 q7 q8 q9 q10 q11 (nI 0) ss asd sts (nI z) snp (bI hs) tx (nI ln) can szs ptn nms2_740 pth2_740 att isw rdd rmy))) (st' := [.int (plV c (xs (i + 1)) (xs (i + 2))), .int (plV c (xs (i + 1)) (xs (i + 2)))]) rfl rfl ?_
  refine g_icmp_eq (pc := 743) C 838 dL_law_743 (by decide) (fun _ => ?_) (fun cN => absurd rfl cN)
  exact K _ (lINV_mk hS hH ho hz hX hT hN hrl)

set_option maxHeartbeats 4000000 in
set_option maxRecDepth 100000 in
theorem lc_20 {p : Program} {l : Launch} {e : Env} {s : State} {m : MethodId} {args : Array Value} {below : List Frame} {meth : Method} {co : Code} {Q : State → Prop} {D : va_G} {A : Nat → Prop} {cI cC : ClassId} {x0 n0 n1 t0 t1 s0 s1 g0 g1 w0 w1 w2 m0 m1 m2 m3 m4 p0 p1 q0 q1 q2 q3 q4 q5 q6 q7 q8 q9 q10 q11 : Nat} {hs : Bool} {c ct cs r : Nat → Int32} {od z : Nat} {sg : Nat → Int32} {ln : Nat} {tr : Nat → Int32} {lf rg : Nat} {bd : Bool} {wi ol orr sf : Nat → Int32} {rl : Nat} {nb : Nat → Int32} {th : Int32} {ss asd sts snp tx can szs ptn nms pth : Nat → Int32} {att isw : Int32} {rdd : Nat → Int32} {rmy : Int32} {sb SL i : Nat} {xs : Nat → Int32} (C : g_C p s m args meth co cL_law 8 RL wsL_law D cI cC A) (S0 : lS s A sb SL xs) (hi : i + 4 ≤ SL) (hL : SL ≤ 2048) (hS : SR c ss) (hH : HR r sts od z) (ho : od < 5) (hz : z ≤ 5) (hX : HX sg tx ln) (hT : ∀ k, k < ln → sg k = nI (cN sg k)) (hN : hs = true → SR cs snp) (hrl : rl < 256) (K : ∀ w : va_W, lINV cI cC x0 n0 n1 t0 t1 s0 s1 g0 g1 w0 w1 w2 m0 m1 m2 m3 m4 p0 p1 q0 q1 q2 q3 q4 q5 q6 q7 q8 q9 q10 q11 w → g_J p l e room_1 s m args below meth co Q D A 8 31 5852 w 838 [(3, .int (nI i)), (0, .ref sb), (1, .ref x0), (2, .ref q0)] []) : g_J p l e room_1 s m args below meth co Q D A 8 31 5852 ((xW cI cC x0 n0 n1 t0 t1 s0 s1 g0 g1 w0 w1 w2 m0 m1 m2 m3 m4 p0 p1 (bI hs) c ct cs r (nI od) (nI z) sg (nI ln) tr (nI lf) (nI rg) (bI bd) wi ol orr sf (nI rl) nb) ++ (rW cI cC q0 q1 q2 q3 q4 q5 q6 q7 q8 q9 q10 q11 th ss asd sts (nI z) snp (bI hs) tx (nI ln) can szs ptn nms pth att isw rdd rmy)) 748 [(3, .int (nI i)), (0, .ref sb), (1, .ref x0), (2, .ref q0)] [] := by
  have hc : cOK c := hS.ok
  have hn : ln ≤ 80 := hX.1
  have ht : ∀ k, k < ln → sg k = nI (cN sg k) ∧ cN sg k < 128 := fun k hk => ⟨hT k hk, (hX.2 k hk).2⟩
  have hcs : hs = true → cOK cs := fun h => (hN h).ok
  refine g_aload_n (pc := 748) C dL_law_748 2 rfl rfl ?_
  refine g_aload_n (pc := 749) C dL_law_749 1 rfl rfl ?_
  refine g_iload_n (pc := 750) C dL_law_750 0 rfl rfl ?_
  refine g_iconst (pc := 751) (v := nI 1) C dL_law_751 (by decide) ?_
  refine g_iaddN (pc := 752) C dL_law_752 ?_
  refine g_sld (pc := 753) C S0 (by omega) (by omega) dL_law_753 ?_
  refine g_callX (pc := 754) (st := []) (As := [.int (xs (i + 1))]) (nn := 1) (ci := 5) C (m_X5_count l D cI cC x0 n0 n1 t0 t1 s0 s1 g0 g1 w0 w1 w2 m0 m1 m2 m3 m4 p0 p1 c ct cs r sg tr wi ol orr sf nb hs od z ln lf rg bd rl (xs (i + 1)) (by first | assumption | omega) (by first | assumption | omega)) gL_law_X5_count rfl rfl rfl yd_X5_count ⟨Nat.le_of_ble_eq_true rfl, Nat.le_of_ble_eq_true rfl⟩ rfl 19 rfl (by decide) rfl rfl rfl (Nat.le_of_ble_eq_true rfl) ⟨Nat.le_of_ble_eq_true rfl, Nat.le_of_ble_eq_true rfl⟩ dL_law_754 ?_
  rintro _ _ ⟨wi2_754, ol2_754, orr2_754, sf2_754, rl2_754, rfl, rfl, f754_0⟩
  refine g_eq (ws' := ((xW cI cC x0 n0 n1 t0 t1 s0 s1 g0 g1 w0 w1 w2 m0 m1 m2 m3 m4 p0 p1 (bI hs) c ct cs r (nI od) (nI z) sg (nI ln) tr (nI lf) (nI rg) (bI bd) wi2_754 ol2_754 orr2_754 sf2_754 (nI rl2_754) nb) ++ (rW cI cC q0 q1 q2 q3 q4 q5 q6 q7 q8 q9 q10 q11 th ss asd sts (nI z) snp (bI hs) tx (nI ln) can szs ptn nms pth att isw rdd rmy))) (st' := [.int (coV c z ln (xs (i + 1)))]) rfl rfl ?_
  refine g_aload_n (pc := 757) C dL_law_757 3 rfl rfl ?_
  refine g_aload_n (pc := 758) C dL_law_758 1 rfl rfl ?_
  refine g_iload_n (pc := 759) C dL_law_759 0 rfl rfl ?_
  refine g_iconst (pc := 760) (v := nI 1) C dL_law_760 (by decide) ?_
  refine g_iaddN (pc := 761) C dL_law_761 ?_
  refine g_sld (pc := 762) C S0 (by omega) (by omega) dL_law_762 ?_
  refine g_callR (pc := 763) (st := [.int (coV c z ln (xs (i + 1)))]) (As := [.int (xs (i + 1))]) (nn := 1) (ci := 6) C (m_X6_count l D cI cC q0 q1 q2 q3 q4 q5 q6 q7 q8 q9 q10 q11 th ss asd sts snp (bI hs) tx can szs ptn nms pth att isw rdd rmy z ln c (xs (i + 1)) (by first | assumption | omega)) gL_law_X6_count rfl rfl rfl yd_X6_count ⟨Nat.le_of_ble_eq_true rfl, Nat.le_of_ble_eq_true rfl⟩ rfl 12 19 rfl rfl (by decide) rfl rfl rfl (Nat.le_of_ble_eq_true rfl) ⟨Nat.le_of_ble_eq_true rfl, Nat.le_of_ble_eq_true rfl⟩ dL_law_763 ?_
  rintro _ _ ⟨can2_763, szs2_763, ptn2_763, rfl, rfl⟩
  refine g_eq (ws' := ((xW cI cC x0 n0 n1 t0 t1 s0 s1 g0 g1 w0 w1 w2 m0 m1 m2 m3 m4 p0 p1 (bI hs) c ct cs r (nI od) (nI z) sg (nI ln) tr (nI lf) (nI rg) (bI bd) wi2_754 ol2_754 orr2_754 sf2_754 (nI rl2_754) nb) ++ (rW cI cC q0 q1 q2 q3 q4 q5 q6 q7 q8 q9 q10 q11 (nI 0) ss asd sts (nI z) snp (bI hs) tx (nI ln) can2_763 szs2_763 ptn2_763 nms pth att isw rdd rmy))) (st' := [.int (coV c z ln (xs (i + 1))), .int (coV c z ln (xs (i + 1)))]) rfl rfl ?_
  refine g_icmp_eq (pc := 766) C 838 dL_law_766 (by decide) (fun _ => ?_) (fun cN => absurd rfl cN)
  exact K _ (lINV_mk hS hH ho hz hX hT hN f754_0)

set_option maxHeartbeats 4000000 in
set_option maxRecDepth 100000 in
theorem lc_21 {p : Program} {l : Launch} {e : Env} {s : State} {m : MethodId} {args : Array Value} {below : List Frame} {meth : Method} {co : Code} {Q : State → Prop} {D : va_G} {A : Nat → Prop} {cI cC : ClassId} {x0 n0 n1 t0 t1 s0 s1 g0 g1 w0 w1 w2 m0 m1 m2 m3 m4 p0 p1 q0 q1 q2 q3 q4 q5 q6 q7 q8 q9 q10 q11 : Nat} {hs : Bool} {c ct cs r : Nat → Int32} {od z : Nat} {sg : Nat → Int32} {ln : Nat} {tr : Nat → Int32} {lf rg : Nat} {bd : Bool} {wi ol orr sf : Nat → Int32} {rl : Nat} {nb : Nat → Int32} {th : Int32} {ss asd sts snp tx can szs ptn nms pth : Nat → Int32} {att isw : Int32} {rdd : Nat → Int32} {rmy : Int32} {sb SL i : Nat} {xs : Nat → Int32} (C : g_C p s m args meth co cL_law 8 RL wsL_law D cI cC A) (S0 : lS s A sb SL xs) (hi : i + 4 ≤ SL) (hL : SL ≤ 2048) (hS : SR c ss) (hH : HR r sts od z) (ho : od < 5) (hz : z ≤ 5) (hX : HX sg tx ln) (hT : ∀ k, k < ln → sg k = nI (cN sg k)) (hN : hs = true → SR cs snp) (hrl : rl < 256) (K : ∀ w : va_W, lINV cI cC x0 n0 n1 t0 t1 s0 s1 g0 g1 w0 w1 w2 m0 m1 m2 m3 m4 p0 p1 q0 q1 q2 q3 q4 q5 q6 q7 q8 q9 q10 q11 w → g_J p l e room_1 s m args below meth co Q D A 8 31 5852 w 838 [(3, .int (nI i)), (0, .ref sb), (1, .ref x0), (2, .ref q0)] []) : g_J p l e room_1 s m args below meth co Q D A 8 31 5852 ((xW cI cC x0 n0 n1 t0 t1 s0 s1 g0 g1 w0 w1 w2 m0 m1 m2 m3 m4 p0 p1 (bI hs) c ct cs r (nI od) (nI z) sg (nI ln) tr (nI lf) (nI rg) (bI bd) wi ol orr sf (nI rl) nb) ++ (rW cI cC q0 q1 q2 q3 q4 q5 q6 q7 q8 q9 q10 q11 th ss asd sts (nI z) snp (bI hs) tx (nI ln) can szs ptn nms pth att isw rdd rmy)) 771 [(3, .int (nI i)), (0, .ref sb), (1, .ref x0), (2, .ref q0)] [] := by
  have hc : cOK c := hS.ok
  have hn : ln ≤ 80 := hX.1
  have ht : ∀ k, k < ln → sg k = nI (cN sg k) ∧ cN sg k < 128 := fun k hk => ⟨hT k hk, (hX.2 k hk).2⟩
  have hcs : hs = true → cOK cs := fun h => (hN h).ok
  refine g_aload_n (pc := 771) C dL_law_771 2 rfl rfl ?_
  refine g_callX (pc := 772) (st := []) (As := []) (nn := 0) (ci := 5) C (m_X5_doneIn l D cI cC x0 n0 n1 t0 t1 s0 s1 g0 g1 w0 w1 w2 m0 m1 m2 m3 m4 p0 p1 c ct cs r sg tr wi ol orr sf nb hs od z ln lf rg bd rl (by first | assumption | omega) (by first | assumption | omega)) gL_law_X5_doneIn rfl rfl rfl yd_X5_doneIn ⟨Nat.le_of_ble_eq_true rfl, Nat.le_of_ble_eq_true rfl⟩ rfl 19 rfl (by decide) rfl rfl rfl (Nat.le_of_ble_eq_true rfl) ⟨Nat.le_of_ble_eq_true rfl, Nat.le_of_ble_eq_true rfl⟩ dL_law_772 ?_
  rintro _ _ ⟨ct2_772, v_772, wi2_772, ol2_772, orr2_772, sf2_772, rl2_772, rfl, rfl, f772_0, f772_1, f772_2⟩
  refine g_eq (ws' := ((xW cI cC x0 n0 n1 t0 t1 s0 s1 g0 g1 w0 w1 w2 m0 m1 m2 m3 m4 p0 p1 (bI hs) c ct2_772 cs r (nI od) (nI z) sg (nI ln) tr (nI lf) (nI rg) (bI bd) wi2_772 ol2_772 orr2_772 sf2_772 (nI rl2_772) nb) ++ (rW cI cC q0 q1 q2 q3 q4 q5 q6 q7 q8 q9 q10 q11 th ss asd sts (nI z) snp (bI hs) tx (nI ln) can szs ptn nms pth att isw rdd rmy))) (st' := [.int v_772]) rfl rfl ?_
  refine g_aload_n (pc := 775) C dL_law_775 3 rfl rfl ?_
  refine g_callR (pc := 776) (st := [.int v_772]) (As := []) (nn := 0) (ci := 6) C (m_X6_doneIn l D cI cC q0 q1 q2 q3 q4 q5 q6 q7 q8 q9 q10 q11 th ss asd sts (nI z) snp (bI hs) tx (nI ln) can szs ptn nms pth att isw rdd rmy (va_cpy c ct 0 0 154) (SR.cells hS (same_cpy c ct))) gL_law_X6_doneIn rfl rfl rfl yd_X6_doneIn ⟨Nat.le_of_ble_eq_true rfl, Nat.le_of_ble_eq_true rfl⟩ rfl 12 19 rfl rfl (by decide) rfl rfl rfl (Nat.le_of_ble_eq_true rfl) ⟨Nat.le_of_ble_eq_true rfl, Nat.le_of_ble_eq_true rfl⟩ dL_law_776 ?_
  rintro _ _ ⟨asd2_776, ss2_776, can2_776, szs2_776, ptn2_776, rfl, rfl, f776_0⟩
  refine g_eq (ws' := ((xW cI cC x0 n0 n1 t0 t1 s0 s1 g0 g1 w0 w1 w2 m0 m1 m2 m3 m4 p0 p1 (bI hs) c ct2_772 cs r (nI od) (nI z) sg (nI ln) tr (nI lf) (nI rg) (bI bd) wi2_772 ol2_772 orr2_772 sf2_772 (nI rl2_772) nb) ++ (rW cI cC q0 q1 q2 q3 q4 q5 q6 q7 q8 q9 q10 q11 (nI 0) ss2_776 asd2_776 sts (nI z) snp (bI hs) tx (nI ln) can2_776 szs2_776 ptn2_776 nms pth att isw rdd rmy))) (st' := [.int (dnW (va_cpy c ct 0 0 154)), .int v_772]) rfl rfl ?_
  refine g_icmp_eq (pc := 779) C 838 dL_law_779 (by decide) (fun _ => ?_) (fun cN => absurd (dn_both hc f772_1 f772_2) cN)
  exact K _ (lINV_mk (SR.cells f776_0 (fun k hk => (same_cpy c ct k hk).symm)) hH ho hz hX hT hN f772_0)

set_option maxHeartbeats 4000000 in
set_option maxRecDepth 100000 in
theorem lc_22 {p : Program} {l : Launch} {e : Env} {s : State} {m : MethodId} {args : Array Value} {below : List Frame} {meth : Method} {co : Code} {Q : State → Prop} {D : va_G} {A : Nat → Prop} {cI cC : ClassId} {x0 n0 n1 t0 t1 s0 s1 g0 g1 w0 w1 w2 m0 m1 m2 m3 m4 p0 p1 q0 q1 q2 q3 q4 q5 q6 q7 q8 q9 q10 q11 : Nat} {hs : Bool} {c ct cs r : Nat → Int32} {od z : Nat} {sg : Nat → Int32} {ln : Nat} {tr : Nat → Int32} {lf rg : Nat} {bd : Bool} {wi ol orr sf : Nat → Int32} {rl : Nat} {nb : Nat → Int32} {th : Int32} {ss asd sts snp tx can szs ptn nms pth : Nat → Int32} {att isw : Int32} {rdd : Nat → Int32} {rmy : Int32} {sb SL i : Nat} {xs : Nat → Int32} (C : g_C p s m args meth co cL_law 8 RL wsL_law D cI cC A) (S0 : lS s A sb SL xs) (hi : i + 4 ≤ SL) (hL : SL ≤ 2048) (hS : SR c ss) (hH : HR r sts od z) (ho : od < 5) (hz : z ≤ 5) (hX : HX sg tx ln) (hT : ∀ k, k < ln → sg k = nI (cN sg k)) (hN : hs = true → SR cs snp) (hrl : rl < 256) (K : ∀ w : va_W, lINV cI cC x0 n0 n1 t0 t1 s0 s1 g0 g1 w0 w1 w2 m0 m1 m2 m3 m4 p0 p1 q0 q1 q2 q3 q4 q5 q6 q7 q8 q9 q10 q11 w → g_J p l e room_1 s m args below meth co Q D A 8 31 5852 w 838 [(3, .int (nI i)), (0, .ref sb), (1, .ref x0), (2, .ref q0)] []) : g_J p l e room_1 s m args below meth co Q D A 8 31 5852 ((xW cI cC x0 n0 n1 t0 t1 s0 s1 g0 g1 w0 w1 w2 m0 m1 m2 m3 m4 p0 p1 (bI hs) c ct cs r (nI od) (nI z) sg (nI ln) tr (nI lf) (nI rg) (bI bd) wi ol orr sf (nI rl) nb) ++ (rW cI cC q0 q1 q2 q3 q4 q5 q6 q7 q8 q9 q10 q11 th ss asd sts (nI z) snp (bI hs) tx (nI ln) can szs ptn nms pth att isw rdd rmy)) 784 [(3, .int (nI i)), (0, .ref sb), (1, .ref x0), (2, .ref q0)] [] := by
  have hc : cOK c := hS.ok
  have hn : ln ≤ 80 := hX.1
  have ht : ∀ k, k < ln → sg k = nI (cN sg k) ∧ cN sg k < 128 := fun k hk => ⟨hT k hk, (hX.2 k hk).2⟩
  have hcs : hs = true → cOK cs := fun h => (hN h).ok
  refine g_aload_n (pc := 784) C dL_law_784 2 rfl rfl ?_
  refine g_callX (pc := 785) (st := []) (As := []) (nn := 0) (ci := 5) C (m_X5_bestLink l D cI cC x0 n0 n1 t0 t1 s0 s1 g0 g1 w0 w1 w2 m0 m1 m2 m3 m4 p0 p1 c ct cs r sg tr wi ol orr sf nb hs od z ln lf rg bd rl (by first | assumption | omega) (by first | assumption | omega)) gL_law_X5_bestLink rfl rfl rfl yd_X5_bestLink ⟨Nat.le_of_ble_eq_true rfl, Nat.le_of_ble_eq_true rfl⟩ rfl 19 rfl (by decide) rfl rfl rfl (Nat.le_of_ble_eq_true rfl) ⟨Nat.le_of_ble_eq_true rfl, Nat.le_of_ble_eq_true rfl⟩ dL_law_785 ?_
  rintro _ _ ⟨ct2_785, wi2_785, ol2_785, orr2_785, sf2_785, rl2_785, rfl, rfl, f785_0⟩
  refine g_eq (ws' := ((xW cI cC x0 n0 n1 t0 t1 s0 s1 g0 g1 w0 w1 w2 m0 m1 m2 m3 m4 p0 p1 (bI hs) c ct2_785 cs r (nI od) (nI z) sg (nI ln) tr (nI lf) (nI rg) (bI bd) wi2_785 ol2_785 orr2_785 sf2_785 (nI rl2_785) nb) ++ (rW cI cC q0 q1 q2 q3 q4 q5 q6 q7 q8 q9 q10 q11 th ss asd sts (nI z) snp (bI hs) tx (nI ln) can szs ptn nms pth att isw rdd rmy))) (st' := [.int ((bLs c 16).2)]) rfl rfl ?_
  refine g_aload_n (pc := 788) C dL_law_788 3 rfl rfl ?_
  refine g_callR (pc := 789) (st := [.int ((bLs c 16).2)]) (As := []) (nn := 0) (ci := 6) C (m_X6_bestLink l D cI cC q0 q1 q2 q3 q4 q5 q6 q7 q8 q9 q10 q11 th ss asd sts (nI z) snp (bI hs) tx (nI ln) can szs ptn nms pth att isw rdd rmy c (by first | assumption | omega)) gL_law_X6_bestLink rfl rfl rfl yd_X6_bestLink ⟨Nat.le_of_ble_eq_true rfl, Nat.le_of_ble_eq_true rfl⟩ rfl 12 19 rfl rfl (by decide) rfl rfl rfl (Nat.le_of_ble_eq_true rfl) ⟨Nat.le_of_ble_eq_true rfl, Nat.le_of_ble_eq_true rfl⟩ dL_law_789 ?_
  rintro _ _ ⟨ss2_789, can2_789, szs2_789, ptn2_789, rfl, rfl, f789_0⟩
  refine g_eq (ws' := ((xW cI cC x0 n0 n1 t0 t1 s0 s1 g0 g1 w0 w1 w2 m0 m1 m2 m3 m4 p0 p1 (bI hs) c ct2_785 cs r (nI od) (nI z) sg (nI ln) tr (nI lf) (nI rg) (bI bd) wi2_785 ol2_785 orr2_785 sf2_785 (nI rl2_785) nb) ++ (rW cI cC q0 q1 q2 q3 q4 q5 q6 q7 q8 q9 q10 q11 (nI 0) ss2_789 asd sts (nI z) snp (bI hs) tx (nI ln) can2_789 szs2_789 ptn2_789 nms pth att isw rdd rmy))) (st' := [.int ((bLs c 16).2), .int ((bLs c 16).2)]) rfl rfl ?_
  refine g_icmp_eq (pc := 792) C 838 dL_law_792 (by decide) (fun _ => ?_) (fun cN => absurd rfl cN)
  exact K _ (lINV_mk f789_0 hH ho hz hX hT hN f785_0)

set_option maxHeartbeats 4000000 in
set_option maxRecDepth 100000 in
theorem lc_23 {p : Program} {l : Launch} {e : Env} {s : State} {m : MethodId} {args : Array Value} {below : List Frame} {meth : Method} {co : Code} {Q : State → Prop} {D : va_G} {A : Nat → Prop} {cI cC : ClassId} {x0 n0 n1 t0 t1 s0 s1 g0 g1 w0 w1 w2 m0 m1 m2 m3 m4 p0 p1 q0 q1 q2 q3 q4 q5 q6 q7 q8 q9 q10 q11 : Nat} {hs : Bool} {c ct cs r : Nat → Int32} {od z : Nat} {sg : Nat → Int32} {ln : Nat} {tr : Nat → Int32} {lf rg : Nat} {bd : Bool} {wi ol orr sf : Nat → Int32} {rl : Nat} {nb : Nat → Int32} {th : Int32} {ss asd sts snp tx can szs ptn nms pth : Nat → Int32} {att isw : Int32} {rdd : Nat → Int32} {rmy : Int32} {sb SL i : Nat} {xs : Nat → Int32} (C : g_C p s m args meth co cL_law 8 RL wsL_law D cI cC A) (S0 : lS s A sb SL xs) (hi : i + 4 ≤ SL) (hL : SL ≤ 2048) (hS : SR c ss) (hH : HR r sts od z) (ho : od < 5) (hz : z ≤ 5) (hX : HX sg tx ln) (hT : ∀ k, k < ln → sg k = nI (cN sg k)) (hN : hs = true → SR cs snp) (hrl : rl < 256) (K : ∀ w : va_W, lINV cI cC x0 n0 n1 t0 t1 s0 s1 g0 g1 w0 w1 w2 m0 m1 m2 m3 m4 p0 p1 q0 q1 q2 q3 q4 q5 q6 q7 q8 q9 q10 q11 w → g_J p l e room_1 s m args below meth co Q D A 8 31 5852 w 838 [(3, .int (nI i)), (0, .ref sb), (1, .ref x0), (2, .ref q0)] []) : g_J p l e room_1 s m args below meth co Q D A 8 31 5852 ((xW cI cC x0 n0 n1 t0 t1 s0 s1 g0 g1 w0 w1 w2 m0 m1 m2 m3 m4 p0 p1 (bI hs) c ct cs r (nI od) (nI z) sg (nI ln) tr (nI lf) (nI rg) (bI bd) wi ol orr sf (nI rl) nb) ++ (rW cI cC q0 q1 q2 q3 q4 q5 q6 q7 q8 q9 q10 q11 th ss asd sts (nI z) snp (bI hs) tx (nI ln) can szs ptn nms pth att isw rdd rmy)) 797 [(3, .int (nI i)), (0, .ref sb), (1, .ref x0), (2, .ref q0)] [] := by
  have hc : cOK c := hS.ok
  have hn : ln ≤ 80 := hX.1
  have ht : ∀ k, k < ln → sg k = nI (cN sg k) ∧ cN sg k < 128 := fun k hk => ⟨hT k hk, (hX.2 k hk).2⟩
  have hcs : hs = true → cOK cs := fun h => (hN h).ok
  refine g_aload_n (pc := 797) C dL_law_797 2 rfl rfl ?_
  refine g_callX (pc := 798) (st := []) (As := []) (nn := 0) (ci := 5) C (m_X5_mean l D cI cC x0 n0 n1 t0 t1 s0 s1 g0 g1 w0 w1 w2 m0 m1 m2 m3 m4 p0 p1 c ct cs r sg tr wi ol orr sf nb hs od z ln lf rg bd rl (by first | assumption | omega)) gL_law_X5_mean rfl rfl rfl yd_X5_mean ⟨Nat.le_of_ble_eq_true rfl, Nat.le_of_ble_eq_true rfl⟩ rfl 19 rfl (by decide) rfl rfl rfl (Nat.le_of_ble_eq_true rfl) ⟨Nat.le_of_ble_eq_true rfl, Nat.le_of_ble_eq_true rfl⟩ dL_law_798 ?_
  rintro _ _ ⟨rfl, rfl⟩
  refine g_eq (ws' := ((xW cI cC x0 n0 n1 t0 t1 s0 s1 g0 g1 w0 w1 w2 m0 m1 m2 m3 m4 p0 p1 (bI hs) c ct cs r (nI od) (nI z) sg (nI ln) tr (nI lf) (nI rg) (bI bd) wi ol orr sf (nI rl) nb) ++ (rW cI cC q0 q1 q2 q3 q4 q5 q6 q7 q8 q9 q10 q11 th ss asd sts (nI z) snp (bI hs) tx (nI ln) can szs ptn nms pth att isw rdd rmy))) (st' := [.double (meV c)]) rfl rfl ?_
  refine g_dstore (pc := 801) (lv' := [(4, .double (meV c)), (3, .int (nI i)), (0, .ref sb), (1, .ref x0), (2, .ref q0)]) C dL_law_801 (by decide) rfl ?_
  refine g_aload_n (pc := 803) C dL_law_803 4 rfl rfl ?_
  refine g_callR (pc := 804) (st := []) (As := []) (nn := 0) (ci := 6) C (m_X6_mean l D cI cC q0 q1 q2 q3 q4 q5 q6 q7 q8 q9 q10 q11 th ss asd sts (nI z) snp (bI hs) tx (nI ln) can szs ptn nms pth att isw rdd rmy c (by first | assumption | omega)) gL_law_X6_mean rfl rfl rfl yd_X6_mean ⟨Nat.le_of_ble_eq_true rfl, Nat.le_of_ble_eq_true rfl⟩ rfl 12 19 rfl rfl (by decide) rfl rfl rfl (Nat.le_of_ble_eq_true rfl) ⟨Nat.le_of_ble_eq_true rfl, Nat.le_of_ble_eq_true rfl⟩ dL_law_804 ?_
  rintro _ _ ⟨rfl, rfl⟩
  refine g_eq (ws' := ((xW cI cC x0 n0 n1 t0 t1 s0 s1 g0 g1 w0 w1 w2 m0 m1 m2 m3 m4 p0 p1 (bI hs) c ct cs r (nI od) (nI z) sg (nI ln) tr (nI lf) (nI rg) (bI bd) wi ol orr sf (nI rl) nb) ++ (rW cI cC q0 q1 q2 q3 q4 q5 q6 q7 q8 q9 q10 q11 (nI 0) ss asd sts (nI z) snp (bI hs) tx (nI ln) can szs ptn nms pth att isw rdd rmy))) (st' := [.double (meV c)]) rfl rfl ?_
  refine g_dstore (pc := 807) (lv' := [(6, .double (meV c)), (4, .double (meV c)), (3, .int (nI i)), (0, .ref sb), (1, .ref x0), (2, .ref q0)]) C dL_law_807 (by decide) rfl ?_
  refine g_dload (pc := 809) C dL_law_809 1 rfl ?_
  refine g_dload (pc := 811) C dL_law_811 0 rfl ?_
  refine g_dcmp (pc := 813) C dL_law_813 (me_self c) ?_
  refine g_if_eq (pc := 814) C 835 dL_law_814 (by decide) (fun _ => ?_) (fun cN => absurd rfl cN)
  refine g_goto (pc := 835) C 838 dL_law_835 (by decide) ?_
  refine g_lvp (lv' := [(3, .int (nI i)), (0, .ref sb), (1, .ref x0), (2, .ref q0)]) [2, 3, 4, 5] rfl ?_
  exact K _ (lINV_mk hS hH ho hz hX hT hN hrl)
set_option maxHeartbeats 4000000 in
set_option maxRecDepth 100000 in
theorem law_loop {p : Program} {l : Launch} {e : Env} {s : State} {m : MethodId} {args : Array Value} {below : List Frame} {meth : Method} {co : Code} {Q : State → Prop} {D : va_G} {A : Nat → Prop} {cI cC : ClassId} {x0 n0 n1 t0 t1 s0 s1 g0 g1 w0 w1 w2 m0 m1 m2 m3 m4 p0 p1 q0 q1 q2 q3 q4 q5 q6 q7 q8 q9 q10 q11 : Nat} {sb SL : Nat} {xs : Nat → Int32} (C : g_C p s m args meth co cL_law 8 RL wsL_law D cI cC A) (S0 : lS s A sb SL xs) (hL : SL ≤ 2048) (E : ∀ (w : va_W) (lv : List (Nat × Value)), g_J p l e room_1 s m args below meth co Q D A 8 31 5852 w 844 lv []) : ∀ (NZ i : Nat), SL + 4 - i < NZ → i ≤ SL → ∀ w : va_W, lINV cI cC x0 n0 n1 t0 t1 s0 s1 g0 g1 w0 w1 w2 m0 m1 m2 m3 m4 p0 p1 q0 q1 q2 q3 q4 q5 q6 q7 q8 q9 q10 q11 w → g_J p l e room_1 s m args below meth co Q D A 8 31 5852 w 18 [(3, .int (nI i)), (0, .ref sb), (1, .ref x0), (2, .ref q0)] [] := by
  intro NZ
  induction NZ with
  | zero => intro i hN; exact absurd hN (Nat.not_lt_zero _)
  | succ NZ ih =>
    intro i hN hi w hw
    have K : ∀ w : va_W, i + 4 ≤ SL → lINV cI cC x0 n0 n1 t0 t1 s0 s1 g0 g1 w0 w1 w2 m0 m1 m2 m3 m4 p0 p1 q0 q1 q2 q3 q4 q5 q6 q7 q8 q9 q10 q11 w → g_J p l e room_1 s m args below meth co Q D A 8 31 5852 w 838 [(3, .int (nI i)), (0, .ref sb), (1, .ref x0), (2, .ref q0)] [] := by
      intro w h4 hw
      refine g_iinc (pc := 838) (lv' := [(3, .int (nI (i + 4))), (0, .ref sb), (1, .ref x0), (2, .ref q0)]) C dL_law_838 0 rfl (nI_add i 4) (by decide) rfl ?_
      refine g_goto (pc := 841) C 18 dL_law_841 (by decide) ?_
      exact ih (i + 4) (by omega) h4 w hw
    refine g_iload_n (pc := 18) C dL_law_18 0 rfl rfl ?_
    refine g_aload_n (pc := 19) C dL_law_19 1 rfl rfl ?_
    refine g_slen (pc := 20) C S0 dL_law_20 ?_
    refine g_iconst (pc := 21) (v := nI 4) C dL_law_21 (by decide) ?_
    refine g_isub (pc := 22) C dL_law_22 ?_
    refine g_icmp_gt (pc := 23) C 844 dL_law_23 (by decide) (fun _ => E w _) (fun c23 => ?_)
    have h4 : i + 4 ≤ SL := hd_room hL hi c23
    have hsl : SL < 2 ^ 31 := by omega
    refine g_aload_n (pc := 26) C dL_law_26 1 rfl rfl ?_
    refine g_iload_n (pc := 27) C dL_law_27 0 rfl rfl ?_
    refine g_sld (pc := 28) C S0 (by omega) hsl dL_law_28 ?_
    refine g_bipush (pc := 29) (v := nI 31) C dL_law_29 (by decide) ?_
    refine g_iand (pc := 31) C dL_law_31 ?_
    have K := fun w => K w h4
    obtain ⟨hs, c, ct, cs, r, od, z, sg, ln, tr, lf, rg, bd, wi, ol, orr, sf, rl, nb, th, ss, asd, sts, snp, tx, can, szs, ptn, nms, pth, att, isw, rdd, rmy, rfl, hS, hH, ho, hz, hX, hT, hN, hrl⟩ := hw
    by_cases t0 : xs i &&& nI 31 = nI 0
    · refine g_top (y := nI 0) t0 ?_
      refine g_tabIn (pc := 32) C 144 dL_law_32 (by decide) (by decide) rfl (by decide) ?_
      exact lc_0 C S0 h4 hL hS hH ho hz hX hT hN hrl K
    by_cases t1 : xs i &&& nI 31 = nI 1
    · refine g_top (y := nI 1) t1 ?_
      refine g_tabIn (pc := 32) C 177 dL_law_32 (by decide) (by decide) rfl (by decide) ?_
      exact lc_1 C S0 h4 hL hS hH ho hz hX hT hN hrl K
    by_cases t2 : xs i &&& nI 31 = nI 2
    · refine g_top (y := nI 2) t2 ?_
      refine g_tabIn (pc := 32) C 210 dL_law_32 (by decide) (by decide) rfl (by decide) ?_
      exact lc_2 C S0 h4 hL hS hH ho hz hX hT hN hrl K
    by_cases t3 : xs i &&& nI 31 = nI 3
    · refine g_top (y := nI 3) t3 ?_
      refine g_tabIn (pc := 32) C 253 dL_law_32 (by decide) (by decide) rfl (by decide) ?_
      exact lc_3 C S0 h4 hL hS hH ho hz hX hT hN hrl K
    by_cases t4 : xs i &&& nI 31 = nI 4
    · refine g_top (y := nI 4) t4 ?_
      refine g_tabIn (pc := 32) C 286 dL_law_32 (by decide) (by decide) rfl (by decide) ?_
      exact lc_4 C S0 h4 hL hS hH ho hz hX hT hN hrl K
    by_cases t5 : xs i &&& nI 31 = nI 5
    · refine g_top (y := nI 5) t5 ?_
      refine g_tabIn (pc := 32) C 345 dL_law_32 (by decide) (by decide) rfl (by decide) ?_
      exact lc_5 C S0 h4 hL hS hH ho hz hX hT hN hrl K
    by_cases t6 : xs i &&& nI 31 = nI 6
    · refine g_top (y := nI 6) t6 ?_
      refine g_tabIn (pc := 32) C 404 dL_law_32 (by decide) (by decide) rfl (by decide) ?_
      exact lc_6 C S0 h4 hL hS hH ho hz hX hT hN hrl K
    by_cases t7 : xs i &&& nI 31 = nI 7
    · refine g_top (y := nI 7) t7 ?_
      refine g_tabIn (pc := 32) C 417 dL_law_32 (by decide) (by decide) rfl (by decide) ?_
      exact lc_7 C S0 h4 hL hS hH ho hz hX hT hN hrl K
    by_cases t8 : xs i &&& nI 31 = nI 8
    · refine g_top (y := nI 8) t8 ?_
      refine g_tabIn (pc := 32) C 440 dL_law_32 (by decide) (by decide) rfl (by decide) ?_
      exact lc_8 C S0 h4 hL hS hH ho hz hX hT hN hrl K
    by_cases t9 : xs i &&& nI 31 = nI 9
    · refine g_top (y := nI 9) t9 ?_
      refine g_tabIn (pc := 32) C 453 dL_law_32 (by decide) (by decide) rfl (by decide) ?_
      exact lc_9 C S0 h4 hL hS hH ho hz hX hT hN hrl K
    by_cases t10 : xs i &&& nI 31 = nI 10
    · refine g_top (y := nI 10) t10 ?_
      refine g_tabIn (pc := 32) C 466 dL_law_32 (by decide) (by decide) rfl (by decide) ?_
      exact lc_10 C S0 h4 hL hS hH ho hz hX hT hN hrl K
    by_cases t11 : xs i &&& nI 31 = nI 11
    · refine g_top (y := nI 11) t11 ?_
      refine g_tabIn (pc := 32) C 479 dL_law_32 (by decide) (by decide) rfl (by decide) ?_
      exact lc_11 C S0 h4 hL hS hH ho hz hX hT hN hrl K
    by_cases t12 : xs i &&& nI 31 = nI 12
    · refine g_top (y := nI 12) t12 ?_
      refine g_tabIn (pc := 32) C 492 dL_law_32 (by decide) (by decide) rfl (by decide) ?_
      exact lc_12 C S0 h4 hL hS hH ho hz hX hT hN hrl K
    by_cases t13 : xs i &&& nI 31 = nI 13
    · refine g_top (y := nI 13) t13 ?_
      refine g_tabIn (pc := 32) C 505 dL_law_32 (by decide) (by decide) rfl (by decide) ?_
      exact lc_13 C S0 h4 hL hS hH ho hz hX hT hN hrl K
    by_cases t14 : xs i &&& nI 31 = nI 14
    · refine g_top (y := nI 14) t14 ?_
      refine g_tabIn (pc := 32) C 518 dL_law_32 (by decide) (by decide) rfl (by decide) ?_
      exact lc_14 C S0 h4 hL hS hH ho hz hX hT hN hrl K
    by_cases t15 : xs i &&& nI 31 = nI 15
    · refine g_top (y := nI 15) t15 ?_
      refine g_tabIn (pc := 32) C 577 dL_law_32 (by decide) (by decide) rfl (by decide) ?_
      exact lc_15 C S0 h4 hL hS hH ho hz hX hT hN hrl K
    by_cases t16 : xs i &&& nI 31 = nI 16
    · refine g_top (y := nI 16) t16 ?_
      refine g_tabIn (pc := 32) C 620 dL_law_32 (by decide) (by decide) rfl (by decide) ?_
      exact lc_16 C S0 h4 hL hS hH ho hz hX hT hN hrl K
    by_cases t17 : xs i &&& nI 31 = nI 17
    · refine g_top (y := nI 17) t17 ?_
      refine g_tabIn (pc := 32) C 653 dL_law_32 (by decide) (by decide) rfl (by decide) ?_
      exact lc_17 C S0 h4 hL hS hH ho hz hX hT hN hrl K
    by_cases t18 : xs i &&& nI 31 = nI 18
    · refine g_top (y := nI 18) t18 ?_
      refine g_tabIn (pc := 32) C 702 dL_law_32 (by decide) (by decide) rfl (by decide) ?_
      exact lc_18 C S0 h4 hL hS hH ho hz hX hT hN hrl K
    by_cases t19 : xs i &&& nI 31 = nI 19
    · refine g_top (y := nI 19) t19 ?_
      refine g_tabIn (pc := 32) C 715 dL_law_32 (by decide) (by decide) rfl (by decide) ?_
      exact lc_19 C S0 h4 hL hS hH ho hz hX hT hN hrl K
    by_cases t20 : xs i &&& nI 31 = nI 20
    · refine g_top (y := nI 20) t20 ?_
      refine g_tabIn (pc := 32) C 748 dL_law_32 (by decide) (by decide) rfl (by decide) ?_
      exact lc_20 C S0 h4 hL hS hH ho hz hX hT hN hrl K
    by_cases t21 : xs i &&& nI 31 = nI 21
    · refine g_top (y := nI 21) t21 ?_
      refine g_tabIn (pc := 32) C 771 dL_law_32 (by decide) (by decide) rfl (by decide) ?_
      exact lc_21 C S0 h4 hL hS hH ho hz hX hT hN hrl K
    by_cases t22 : xs i &&& nI 31 = nI 22
    · refine g_top (y := nI 22) t22 ?_
      refine g_tabIn (pc := 32) C 784 dL_law_32 (by decide) (by decide) rfl (by decide) ?_
      exact lc_22 C S0 h4 hL hS hH ho hz hX hT hN hrl K
    by_cases t23 : xs i &&& nI 31 = nI 23
    · refine g_top (y := nI 23) t23 ?_
      refine g_tabIn (pc := 32) C 797 dL_law_32 (by decide) (by decide) rfl (by decide) ?_
      exact lc_23 C S0 h4 hL hS hH ho hz hX hT hN hrl K
    refine g_tabOut (pc := 32) C 838 dL_law_32 (g_out 0 23 (by decide) (by intro k h1 h2; rcases (show k = 0 ∨ k = 1 ∨ k = 2 ∨ k = 3 ∨ k = 4 ∨ k = 5 ∨ k = 6 ∨ k = 7 ∨ k = 8 ∨ k = 9 ∨ k = 10 ∨ k = 11 ∨ k = 12 ∨ k = 13 ∨ k = 14 ∨ k = 15 ∨ k = 16 ∨ k = 17 ∨ k = 18 ∨ k = 19 ∨ k = 20 ∨ k = 21 ∨ k = 22 ∨ k = 23 by omega) with rfl | rfl | rfl | rfl | rfl | rfl | rfl | rfl | rfl | rfl | rfl | rfl | rfl | rfl | rfl | rfl | rfl | rfl | rfl | rfl | rfl | rfl | rfl | rfl <;> assumption)) (by decide) ?_
    exact K _ (lINV_mk hS hH ho hz hX hT hN hrl)
