
/-! the first calls on a new object -/
theorem nw_same {c c2 : Nat → Int32} (h : same c c2) : ∀ n, n ≤ 8 → nwC c n = nwC c2 n
  | 0, _ => rfl
  | n + 1, hn => by
    show nwC c n + bcN (cN c (16 + n)) = nwC c2 n + bcN (cN c2 (16 + n))
    rw [nw_same h n (by omega), same_N h (by omega)]
theorem st_nw : nwC cI0 8 = 0 := by decide +kernel
theorem st_nw2 (t : Nat → Int32) : nwC (va_cpy cI0 t 0 0 154) 8 = 0 := (nw_same (same_cpy cI0 t) 8 (Nat.le_refl _)).trans st_nw
theorem st_f0 : ∀ k, 24 ≤ k → k < 88 → cI0 k = nI 0 := fun k h1 h2 => by
  show (if k < 8 then nI (k / 2) else if k < 16 then nI ((k - 8) / 2) else if k = 152 then nI 33825 else nI 0) = nI 0
  rw [if_neg (by omega), if_neg (by omega), if_neg (by omega)]
theorem st_fOK : fOK cI0 := fun k h1 h2 => ⟨0, by decide, st_f0 k h1 h2⟩
theorem st_cs (t : Nat → Int32) : cOK (va_cpy cI0 t 0 0 154) ∧ fOK (va_cpy cI0 t 0 0 154) := ⟨cOK_cpy st_ok, fOK_of st_fOK (fun k _ hk => same_cpy cI0 t k (by omega))⟩
theorem st_unl : ¬ unl cI0 := fun h => unl_nw st_ok h st_nw
theorem st_done {v : Int32} {t : Nat → Int32} (h : ¬ unl cI0 → v = dnW (va_cpy cI0 t 0 0 154)) : v = nI 0 := by
  rw [h st_unl]
  exact dnW_at (k := 0) (fun j hj => absurd hj (Nat.not_lt_zero _)) (st_nw2 t) (by decide)
theorem st_153 : cI0 153 = 0 := by decide +kernel
theorem st_me : meV cI0 = FP.dconst0 := if_pos st_153
theorem d0_cmp : Op.cmpValue (FP.dcmp FP.dconst0 FP.dconst0) .l = nI 0 := by
  have h := me_self cI0
  rw [st_me] at h
  exact h
set_option maxHeartbeats 8000000 in
set_option maxRecDepth 100000 in
theorem ls_s {p : Program} {l : Launch} {e : Env} {s : State} {m : MethodId} {args : Array Value} {below : List Frame} {meth : Method} {co : Code} {Q : State → Prop} {D : va_G} {A : Nat → Prop} {cI cC : ClassId} {x0 n0 n1 t0 t1 s0 s1 g0 g1 w0 w1 w2 m0 m1 m2 m3 m4 p0 p1 : Nat} {sb SL : Nat} {xs : Nat → Int32} (C : g_C p s m args meth co cL_law 12 RL wsL_law D cI cC A) (S0 : lS s A sb SL xs) (hL : SL ≤ 260) (E : ∀ (w : va_W) (lv : List (Nat × Value)), g_J p l e room_1 s m args below meth co Q D A 12 19 1442 w 288 lv []) : g_J p l e room_1 s m args below meth co Q D A 12 19 1442 (xW cI cC x0 n0 n1 t0 t1 s0 s1 g0 g1 w0 w1 w2 m0 m1 m2 m3 m4 p0 p1 (bI false) cI0 cI0 cI0 zF (nI 0) (nI 0) zF (nI 0) zF (nI 0) (nI 0) (bI false) zF zF zF zF (nI 0) zF) 8 [(1, .ref x0), (0, .ref sb)] [] := by
  have hcs0 : false = true → cOK cI0 := fun h => Bool.noConfusion h
  refine g_aload_n (pc := 8) C dL_law_8 0 rfl rfl ?_
  refine g_callVW (pc := 9) (st := []) (As := []) (nn := 0) (ci := 5) C (m_X5_undo l D cI cC x0 n0 n1 t0 t1 s0 s1 g0 g1 w0 w1 w2 m0 m1 m2 m3 m4 p0 p1 cI0 cI0 cI0 zF zF zF zF zF zF zF zF false 0 0 0 0 0 false 0 (by first | assumption | omega) (by first | assumption | omega)) gL_law_X5_undo rfl rfl rfl yd_X5_undo ⟨Nat.le_of_ble_eq_true rfl, Nat.le_of_ble_eq_true rfl⟩ rfl 19 rfl (by decide) rfl rfl rfl (Nat.le_of_ble_eq_true rfl) ⟨Nat.le_of_ble_eq_true rfl, Nat.le_of_ble_eq_true rfl⟩ dL_law_9 ?_
  rintro _ _ ⟨cu, zu, rfl, rfl, u0, u1⟩
  refine g_eq (ws' := (xW cI cC x0 n0 n1 t0 t1 s0 s1 g0 g1 w0 w1 w2 m0 m1 m2 m3 m4 p0 p1 (bI false) cu cI0 cI0 zF (nI 0) (nI zu) zF (nI 0) zF (nI 0) (nI 0) (bI false) zF zF zF zF (nI 0) zF)) (st' := [.int (if 0 = 0 then -5 else nI (0 - 1))]) rfl rfl ?_
  obtain ⟨e5, e6⟩ := u0 rfl
  refine g_ws (ws' := (xW cI cC x0 n0 n1 t0 t1 s0 s1 g0 g1 w0 w1 w2 m0 m1 m2 m3 m4 p0 p1 (bI false) cI0 cI0 cI0 zF (nI 0) (nI zu) zF (nI 0) zF (nI 0) (nI 0) (bI false) zF zF zF zF (nI 0) zF)) (by rw [e5]) ?_
  refine g_ws (ws' := (xW cI cC x0 n0 n1 t0 t1 s0 s1 g0 g1 w0 w1 w2 m0 m1 m2 m3 m4 p0 p1 (bI false) cI0 cI0 cI0 zF (nI 0) (nI 0) zF (nI 0) zF (nI 0) (nI 0) (bI false) zF zF zF zF (nI 0) zF)) (by rw [e6]) ?_
  refine g_top (y := (-5)) (rfl) ?_
  refine g_bipush (pc := 12) (v := (-5)) C dL_law_12 (by decide) ?_
  refine g_icmp_ne (pc := 14) C 49 dL_law_14 (by decide) (fun c14 => ?_) (fun c14 => ?_)
  · exact absurd rfl c14
  · refine g_aload_n (pc := 17) C dL_law_17 0 rfl rfl ?_
    refine g_callVW (pc := 18) (st := []) (As := []) (nn := 0) (ci := 5) C (m_X5_restore l D cI cC x0 n0 n1 t0 t1 s0 s1 g0 g1 w0 w1 w2 m0 m1 m2 m3 m4 p0 p1 cI0 cI0 cI0 zF zF zF zF zF zF zF zF false 0 0 0 0 0 false 0 (st_ok) (by decide) (by decide) (hcs0)) gL_law_X5_restore rfl rfl rfl yd_X5_restore ⟨Nat.le_of_ble_eq_true rfl, Nat.le_of_ble_eq_true rfl⟩ rfl 19 rfl (by decide) rfl rfl rfl (Nat.le_of_ble_eq_true rfl) ⟨Nat.le_of_ble_eq_true rfl, Nat.le_of_ble_eq_true rfl⟩ dL_law_18 ?_
    rintro _ _ ⟨c2r, r2r, od2r, z2r, rfl, rfl, fr⟩
    refine g_eq (ws' := (xW cI cC x0 n0 n1 t0 t1 s0 s1 g0 g1 w0 w1 w2 m0 m1 m2 m3 m4 p0 p1 (bI false) c2r cI0 cI0 r2r (nI od2r) (nI z2r) zF (nI 0) zF (nI 0) (nI 0) (bI false) zF zF zF zF (nI 0) zF)) (st' := [.int (if false then nI (nwC (va_cpy cI0 cI0 0 0 154) 8) else -4)]) rfl rfl ?_
    obtain ⟨k1, k2, k3, k4⟩ := fr.2 rfl
    refine g_ws (ws' := (xW cI cC x0 n0 n1 t0 t1 s0 s1 g0 g1 w0 w1 w2 m0 m1 m2 m3 m4 p0 p1 (bI false) cI0 cI0 cI0 r2r (nI od2r) (nI z2r) zF (nI 0) zF (nI 0) (nI 0) (bI false) zF zF zF zF (nI 0) zF)) (by rw [k1]) ?_
    refine g_ws (ws' := (xW cI cC x0 n0 n1 t0 t1 s0 s1 g0 g1 w0 w1 w2 m0 m1 m2 m3 m4 p0 p1 (bI false) cI0 cI0 cI0 zF (nI od2r) (nI z2r) zF (nI 0) zF (nI 0) (nI 0) (bI false) zF zF zF zF (nI 0) zF)) (by rw [k2]) ?_
    refine g_ws (ws' := (xW cI cC x0 n0 n1 t0 t1 s0 s1 g0 g1 w0 w1 w2 m0 m1 m2 m3 m4 p0 p1 (bI false) cI0 cI0 cI0 zF (nI 0) (nI z2r) zF (nI 0) zF (nI 0) (nI 0) (bI false) zF zF zF zF (nI 0) zF)) (by rw [k3]) ?_
    refine g_ws (ws' := (xW cI cC x0 n0 n1 t0 t1 s0 s1 g0 g1 w0 w1 w2 m0 m1 m2 m3 m4 p0 p1 (bI false) cI0 cI0 cI0 zF (nI 0) (nI 0) zF (nI 0) zF (nI 0) (nI 0) (bI false) zF zF zF zF (nI 0) zF)) (by rw [k4]) ?_
    refine g_top (y := (-4)) (rfl) ?_
    refine g_bipush (pc := 21) (v := (-4)) C dL_law_21 (by decide) ?_
    refine g_icmp_ne (pc := 23) C 49 dL_law_23 (by decide) (fun c23 => ?_) (fun c23 => ?_)
    · exact absurd rfl c23
    · refine g_aload_n (pc := 26) C dL_law_26 0 rfl rfl ?_
      refine g_callVW (pc := 27) (st := []) (As := []) (nn := 0) (ci := 5) C (m_X5_doneIn l D cI cC x0 n0 n1 t0 t1 s0 s1 g0 g1 w0 w1 w2 m0 m1 m2 m3 m4 p0 p1 cI0 cI0 cI0 zF zF zF zF zF zF zF zF false 0 0 0 0 0 false 0 (st_ok) (by decide)) gL_law_X5_doneIn rfl rfl rfl yd_X5_doneIn ⟨Nat.le_of_ble_eq_true rfl, Nat.le_of_ble_eq_true rfl⟩ rfl 19 rfl (by decide) rfl rfl rfl (Nat.le_of_ble_eq_true rfl) ⟨Nat.le_of_ble_eq_true rfl, Nat.le_of_ble_eq_true rfl⟩ dL_law_27 ?_
      rintro _ _ ⟨ctd, vd, wi2d, ol2d, orr2d, sf2d, rl2d, rfl, rfl, m5, m6, m7⟩
      refine g_eq (ws' := (xW cI cC x0 n0 n1 t0 t1 s0 s1 g0 g1 w0 w1 w2 m0 m1 m2 m3 m4 p0 p1 (bI false) cI0 ctd cI0 zF (nI 0) (nI 0) zF (nI 0) zF (nI 0) (nI 0) (bI false) wi2d ol2d orr2d sf2d (nI rl2d) zF)) (st' := [.int vd]) rfl rfl ?_
      refine g_top (y := nI 0) (st_done m7) ?_
      refine g_if_neN (pc := 30) C 49 (by omega) dL_law_30 (by decide) (fun c30 => ?_) (fun c30 => ?_)
      · exact absurd rfl c30
      · refine g_aload_n (pc := 33) C dL_law_33 0 rfl rfl ?_
        refine g_callVW (pc := 34) (st := []) (As := []) (nn := 0) (ci := 5) C (m_X5_mean l D cI cC x0 n0 n1 t0 t1 s0 s1 g0 g1 w0 w1 w2 m0 m1 m2 m3 m4 p0 p1 cI0 ctd cI0 zF zF zF wi2d ol2d orr2d sf2d zF false 0 0 0 0 0 false rl2d (st_ok)) gL_law_X5_mean rfl rfl rfl yd_X5_mean ⟨Nat.le_of_ble_eq_true rfl, Nat.le_of_ble_eq_true rfl⟩ rfl 19 rfl (by decide) rfl rfl rfl (Nat.le_of_ble_eq_true rfl) ⟨Nat.le_of_ble_eq_true rfl, Nat.le_of_ble_eq_true rfl⟩ dL_law_34 ?_
        rintro _ _ ⟨rfl, rfl⟩
        refine g_eq (ws' := (xW cI cC x0 n0 n1 t0 t1 s0 s1 g0 g1 w0 w1 w2 m0 m1 m2 m3 m4 p0 p1 (bI false) cI0 ctd cI0 zF (nI 0) (nI 0) zF (nI 0) zF (nI 0) (nI 0) (bI false) wi2d ol2d orr2d sf2d (nI rl2d) zF)) (st' := [.double (meV cI0)]) rfl rfl ?_
        refine g_topd (y := FP.dconst0) st_me ?_
        refine g_dconst0 (pc := 37) C dL_law_37 ?_
        refine g_dcmp (pc := 38) (v := nI 0) C dL_law_38 (d0_cmp) ?_
        refine g_if_neN (pc := 39) C 49 (by omega) dL_law_39 (by decide) (fun c39 => ?_) (fun c39 => ?_)
        · exact absurd rfl c39
        · refine g_aload_n (pc := 42) C dL_law_42 0 rfl rfl ?_
          refine g_callVW (pc := 43) (st := []) (As := []) (nn := 0) (ci := 5) C (m_X5_save l D cI cC x0 n0 n1 t0 t1 s0 s1 g0 g1 w0 w1 w2 m0 m1 m2 m3 m4 p0 p1 cI0 ctd cI0 zF zF zF wi2d ol2d orr2d sf2d zF false 0 0 0 0 0 false rl2d (st_ok)) gL_law_X5_save rfl rfl rfl yd_X5_save ⟨Nat.le_of_ble_eq_true rfl, Nat.le_of_ble_eq_true rfl⟩ rfl 19 rfl (by decide) rfl rfl rfl (Nat.le_of_ble_eq_true rfl) ⟨Nat.le_of_ble_eq_true rfl, Nat.le_of_ble_eq_true rfl⟩ dL_law_43 ?_
          rintro _ _ ⟨rfl, rfl⟩
          refine g_eq (ws' := (xW cI cC x0 n0 n1 t0 t1 s0 s1 g0 g1 w0 w1 w2 m0 m1 m2 m3 m4 p0 p1 (bI true) cI0 ctd (va_cpy cI0 cI0 0 0 154) zF (nI 0) (nI 0) zF (nI 0) zF (nI 0) (nI 0) (bI false) wi2d ol2d orr2d sf2d (nI rl2d) zF)) (st' := [.int (nI (nwC cI0 8))]) rfl rfl ?_
          refine g_top (y := nI 0) (congrArg nI st_nw) ?_
          refine g_if_eqN (pc := 46) C 51 (by omega) dL_law_46 (by decide) (fun c46 => ?_) (fun c46 => ?_)
          · refine g_iconst (pc := 51) (v := nI 0) C dL_law_51 (by decide) ?_
            refine g_istore_n (pc := 52) (lv' := [(2, .int (nI 0)), (1, .ref x0), (0, .ref sb)]) C dL_law_52 rfl (by decide) rfl ?_
            refine g_lvp (lv' := [(2, .int (nI 0)), (0, .ref sb), (1, .ref x0)]) [0, 2, 1] rfl ?_
            exact law_loop C S0 hL E 35 0 (by decide) (by decide) _ (pINV_mk st_ok st_fOK (fun _ => st_cs _) (by decide) (by decide) m5)
          · exact absurd rfl c46
theorem in_L_law_X5 : ∀ w ∈ u_ws RX5 TX5 8, w ∈ wsL_law := fun w hw => inlX5 w ((by decide +kernel : ∀ w ∈ u_ws RX5 TX5 8, w ∈ wsX50) w hw)
set_option maxHeartbeats 4000000 in
set_option maxRecDepth 100000 in
theorem law_begin {p : Program} {l : Launch} {e : Env} {s : State} {m : MethodId} {args : Array Value} {below : List Frame} {meth : Method} {co : Code} {Q : State → Prop} {D : va_G} {A : Nat → Prop} {cI cC : ClassId} {sb SL : Nat} {xs : Nat → Int32} (C : g_C p s m args meth co cL_law 12 RL wsL_law D cI cC A) (S0 : lS s A sb SL xs) (hL : SL ≤ 260) (E : ∀ (w : va_W) (lv : List (Nat × Value)), g_J p l e room_1 s m args below meth co Q D A 12 19 1442 w 288 lv []) : g_J p l e room_1 s m args below meth co Q D A 12 0 0 [] 0 [(0, .ref sb)] [] := by
  refine g_new (pc := 0) (Cn := RX5) (T := TX5) (N := 8) (ci := 5) C in_L_law_X5 tyX5 tyX5_ok (by decide +kernel) (by decide +kernel) (by decide +kernel) rfl [.null, .null, .null, .int (bI false), .null, .null, .null, .null] (fun j hj => by rcases (show j = 0 ∨ j = 1 ∨ j = 2 ∨ j = 3 ∨ j = 4 ∨ j = 5 ∨ j = 6 ∨ j = 7 by omega) with rfl | rfl | rfl | rfl | rfl | rfl | rfl | rfl <;> rfl) (Nat.le_of_ble_eq_true rfl) (Nat.le_of_ble_eq_true rfl) dL_law_0 (fun x0 => ?_)
  refine g_ws (ws' := [(x0, .inr (5, [.null, .null, .null, .int (bI false), .null, .null, .null, .null]))]) rfl ?_
  refine g_dup (pc := 3) C dL_law_3 rfl ?_
  refine g_callI (pc := 4) (index := 78) (nn := 0) (b := x0) (As := []) (st := [.ref x0]) (wr := []) C (m_X5_init l D cI cC x0) (g_cwI 0 C.1.2.2.2.2 gL_law_X5_init rfl rfl rfl (by decide +kernel) (by decide +kernel) (by decide +kernel) rfl yd_X5_init.2 ⟨Nat.le_of_ble_eq_true rfl, Nat.le_of_ble_eq_true rfl⟩) rfl [0] [] rfl rfl rfl rfl (by decide) rfl (Nat.le_of_ble_eq_true rfl) ⟨Nat.le_of_ble_eq_true rfl, Nat.le_of_ble_eq_true rfl⟩ dL_law_4 ?_
  rintro _ ⟨n0, n1, t0, t1, s0, s1, g0, g1, w0, w1, w2, m0, m1, m2, m3, m4, p0, p1, rfl⟩
  refine g_ws (ws' := [(x0, .inr (5, [.ref n0, .ref t0, .ref s0, .int (bI false), .ref g0, .ref w0, .ref m0, .ref p0])), (n0, .inr (0, [.ref n1])), (n1, .inl (cI, 154, .inl cI0)), (t0, .inr (0, [.ref t1])), (t1, .inl (cI, 154, .inl cI0)), (s0, .inr (0, [.ref s1])), (s1, .inl (cI, 154, .inl cI0)), (g0, .inr (1, [.ref g1, .int (nI 0), .int (nI 0)])), (g1, .inl (cI, 770, .inl (fun _ => nI 0))), (w0, .inr (4, [.ref w1, .int (nI 0), .ref w2, .int (nI 0), .int (nI 0), .int (bI false)])), (w1, .inl (cC, 80, .inl (fun _ => nI 0))), (w2, .inl (cI, 8, .inl (fun _ => nI 0))), (m0, .inr (2, [.ref m1, .ref m2, .ref m3, .ref m4, .int (nI 0)])), (m1, .inl (cI, 8, .inl (fun _ => nI 0))), (m2, .inl (cI, 8, .inl (fun _ => nI 0))), (m3, .inl (cI, 8, .inl (fun _ => nI 0))), (m4, .inl (cI, 8, .inl (fun _ => nI 0))), (p0, .inr (3, [.ref p1])), (p1, .inl (cI, 64, .inl (fun _ => nI 0)))]) rfl ?_
  refine g_astore_n (pc := 7) (lv' := [(1, .ref x0), (0, .ref sb)]) C dL_law_7 rfl (by decide) rfl ?_
  refine g_ws (ws' := (xW cI cC x0 n0 n1 t0 t1 s0 s1 g0 g1 w0 w1 w2 m0 m1 m2 m3 m4 p0 p1 (bI false) cI0 cI0 cI0 zF (nI 0) (nI 0) zF (nI 0) zF (nI 0) (nI 0) (bI false) zF zF zF zF (nI 0) zF)) rfl ?_
  refine g_lvp (lv' := [(1, .ref x0), (0, .ref sb)]) [0, 1] rfl ?_
  exact ls_s C S0 hL E
