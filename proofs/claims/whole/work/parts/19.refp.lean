/-! the reference's plan -/
def fq (q : Bool) (x : Nat) : Nat → Nat := if q = true then rwf x else clf x
theorem fq_lt {q : Bool} {x o : Nat} (hx : x < 8) (ho : o < 8) : fq q x o < 64 := by
  cases q
  · show 8 * o + x < 64; omega
  · show 8 * x + o < 64; omega
theorem map_m5 {N : Nat → Option Nat} {f g : Nat → Nat} {c : Nat} (hg : ∀ o, o < 8 → g o < 64) (h : pI ((fnd N f c).map g) = -5) : fnd N f c = none := by
  cases q : fnd N f c with
  | none => rfl
  | some z =>
    rw [q] at h
    exact absurd h (nI_m5 (by have := hg z (fnd_b z q); omega))
theorem map_n5 {N : Nat → Option Nat} {f g : Nat → Nat} {c : Nat} (h : ¬ pI ((fnd N f c).map g) = -5) : ∃ z, fnd N f c = some z := by
  cases q : fnd N f c with
  | none => rw [q] at h; exact absurd rfl h
  | some z => exact ⟨z, rfl⟩
theorem pcol_t {a b n : Nat} (h : pcol a b n ≠ a) : pcol a b (n + 1) = a := by
  by_cases e : n % 2 = 0
  · exact absurd (if_pos e) h
  · exact if_pos (by omega)
theorem pcol_f {a b n : Nat} (hab : a ≠ b) (h : pcol a b n = a) : pcol a b (n + 1) = b := by
  by_cases e : n % 2 = 0
  · exact if_neg (by omega)
  · exact absurd (h.symm.trans (if_neg e)) hab
theorem pcol_8 {a b n : Nat} (ha : a < 8) (hb : b < 8) : pcol a b n < 8 := by
  unfold pcol; split <;> assumption
theorem pe_nx0 {N : Nat → Option Nat} {a b r n w : Nat} (h : n % 2 = 0) (e : pe N a b r n = some w) : pe N a b r (n + 1) = (fnd N (fq true (w / 8)) (pcol a b (n + 1))).map (fq true (w / 8)) := by
  rw [pe_succ, e, show pcol a b (n + 1) = b from if_neg (by omega)]
  exact if_pos h
theorem pe_nx1 {N : Nat → Option Nat} {a b r n w : Nat} (h : n % 2 = 1) (e : pe N a b r n = some w) : pe N a b r (n + 1) = (fnd N (fq false (w % 8)) (pcol a b (n + 1))).map (fq false (w % 8)) := by
  rw [pe_succ, e, show pcol a b (n + 1) = a from if_pos (by omega)]
  exact if_neg (by omega)
theorem pe_some {N : Nat → Option Nat} {a b r n : Nat} {v : Int32} (hr : r < 8) (hv : v = pI (pe N a b r n)) (h : ¬ v = -5) : ∃ w, pe N a b r n = some w ∧ v = nI w ∧ w < 64 := by
  cases q : pe N a b r n with
  | none => rw [hv, q] at h; exact absurd rfl h
  | some w => exact ⟨w, rfl, by rw [hv, q]; rfl, (pe_prop hr n w q).1⟩
theorem peN_no {N : Nat → Option Nat} {a b r n : Nat} {v : Int32} (hr : r < 8) (hv : v = pI (pe N a b r n)) (h : v = -5) : pe N a b r n = none := by
  cases q : pe N a b r n with
  | none => rfl
  | some w =>
    rw [hv, q] at h
    exact absurd h (nI_m5 (by have := (pe_prop hr n w q).1; omega))
theorem ap_k {nb : Nat → Int32} {N : Nat → Option Nat} {x : Int32} {k : Nat} {v : Option Nat} (h : ap nb N) (hx : x = pI v) (e : 8 * (k / 8) + k % 8 = k) : ap (upd nb k x) (oset N (8 * (k / 8) + k % 8) v) := by
  rw [e]; exact ap_upd h hx
theorem PLn_t {E : Nat → Nat → Bool} {k : Nat} (h : E (k / 8) (k % 8) = true) : PLn E (k + 1) = stp (PLn E k) (k / 8) (k % 8) := if_pos h
theorem PLn_f {E : Nat → Nat → Bool} {k : Nat} (h : E (k / 8) (k % 8) = false) : PLn E (k + 1) = PLn E k := if_neg (by rw [h]; decide)
abbrev rm_X6_wishWith : Room := { frames := 0, cells := 0, slots := 0, locals := 0 }
theorem yd_X6_wishWith : yX6_wishWith.cls = RX6 ∧ yX6_wishWith.cls ≠ "java/lang/invoke/MethodHandle" ∧ yX6_wishWith.cls ≠ "java/lang/invoke/VarHandle" ∧ (parseMethodDescriptor yX6_wishWith.desc).map (fun d => d.parameters.length) = some 3 := by decide +kernel
theorem in_X6_wishWith_X6 : ∀ w ∈ u_ws RX6 TX6 18, w ∈ wsX6_wishWith := by decide +kernel
theorem fl_X6_wishWith_34 : Cond.fieldLink RX6 34 "FenceHandshakesModel" "numbers" "[I" ∈ wsX6_wishWith := by decide +kernel
set_option maxHeartbeats 4000000 in
set_option maxRecDepth 100000 in
theorem m_X6_wishWith (l : Launch) (D : va_G) (cI cC : ClassId) (q0 q1 q2 q3 q4 q5 q6 q7 q8 q9 q10 q11 : Nat) (th : Int32) (ss : Nat → Int32) (asd : Nat → Int32) (sts : Nat → Int32) (sm : Int32) (snp : Nat → Int32) (hx : Int32) (tx : Nat → Int32) (lgt : Int32) (can : Nat → Int32) (szs : Nat → Int32) (ptn : Nat → Int32) (nms : Nat → Int32) (pth : Nat → Int32) (att : Int32) (isw : Int32) (rdd : Nat → Int32) (rmy : Int32) (N : Nat → Option Nat) (q : Bool) (x : Nat) (c : Nat) (hA : ap nms N) (hB : b8 N) (hxx : x < 8) (hc : c < 8) : g_M l yX6_wishWith wsX6_wishWith rm_X6_wishWith D cI cC [.ref q0, .int (bI q), .int (nI x), .int (nI c)] (rW cI cC q0 q1 q2 q3 q4 q5 q6 q7 q8 q9 q10 q11 th ss asd sts sm snp hx tx lgt can szs ptn nms pth att isw rdd rmy) (fun vv ww => vv = some (.int (pI ((fnd N (fq q x) c).map (fq q x)))) ∧ ww = (rW cI cC q0 q1 q2 q3 q4 q5 q6 q7 q8 q9 q10 q11 th ss asd sts sm snp hx tx lgt can szs ptn nms pth att isw rdd rmy)) := by
  refine g_entry (lv := [(0, .ref q0), (1, .int (bI q)), (2, .int (nI x)), (3, .int (nI c))]) (own := RX6) (by decide) rfl rfl (Nat.le_of_ble_eq_true rfl) rfl ?_
  intro p e s m args below meth co A Q C hr hQ
  have hF : ∀ o, o < 8 → fq q x o < 64 := fun o ho => fq_lt hxx ho
  refine g_iconst (pc := 0) (v := nI 0) C dX6_wishWith_0 (by decide) ?_
  refine g_istore (pc := 1) (lv' := [(4, .int (nI 0)), (0, .ref q0), (1, .int (bI q)), (2, .int (nI x)), (3, .int (nI c))]) C dX6_wishWith_1 (by decide) rfl ?_
  have L3 : ∀ (NZ : Nat) (i : Nat), 8 - i < NZ → (i ≤ 8) → (∀ j, j < i → N (fq q x j) ≠ some c) → g_J p l e rm_X6_wishWith s m args below meth co Q D A 6 0 0 (rW cI cC q0 q1 q2 q3 q4 q5 q6 q7 q8 q9 q10 q11 th ss asd sts sm snp hx tx lgt can szs ptn nms pth att isw rdd rmy) 3 [(0, .ref q0), (1, .int (bI q)), (2, .int (nI x)), (3, .int (nI c)), (4, .int (nI i))] [] := by
    intro NZ
    induction NZ with
    | zero => intro i hN; exact absurd hN (Nat.not_lt_zero _)
    | succ NZ ih3 =>
      intro i hN3 hi hf
      refine g_iload (pc := 3) C dX6_wishWith_3 4 rfl ?_
      refine g_bipush (pc := 5) (v := nI 8) C dX6_wishWith_5 (by decide) ?_
      refine g_icmp_geN (pc := 7) C 53 (by omega) (by omega) dX6_wishWith_7 (by decide) (fun c7 => ?_) (fun c7 => ?_)
      · refine g_bipush (pc := 53) (v := (-5)) C dX6_wishWith_53 (by decide) ?_
        refine g_top (y := (pI ((fnd N (fq q x) c).map (fq q x)))) (by rw [fnd_no (fun j hj => hf j (by omega))]; rfl) ?_
        exact g_iret C hr hQ dX6_wishWith_55 rfl ⟨rfl, rfl⟩
      · refine g_iload_n (pc := 10) C dX6_wishWith_10 1 rfl rfl ?_
        refine g_if_eqB (pc := 11) C 24 dX6_wishWith_11 (by decide) (fun c11 => ?_) (fun c11 => ?_)
        · refine g_bipush (pc := 24) (v := nI 8) C dX6_wishWith_24 (by decide) ?_
          refine g_iload (pc := 26) C dX6_wishWith_26 4 rfl ?_
          refine g_imulN (pc := 28) C dX6_wishWith_28 ?_
          refine g_iload_n (pc := 29) C dX6_wishWith_29 2 rfl rfl ?_
          refine g_iaddN (pc := 30) C dX6_wishWith_30 ?_
          refine g_top (y := nI (fq q x i)) (by rw [c11]; rfl) ?_
          refine g_istore (pc := 31) (lv' := [(5, .int (nI (fq q x i))), (0, .ref q0), (1, .int (bI q)), (2, .int (nI x)), (3, .int (nI c)), (4, .int (nI i))]) C dX6_wishWith_31 (by decide) rfl ?_
          refine g_aload_n (pc := 33) C dX6_wishWith_33 1 rfl rfl ?_
          refine g_get (pc := 34) (ci := 6) (T := TX6) (N := 18) (v := .ref q9) C in_X6_wishWith_X6 0 rfl rfl 12 (by decide) fl_X6_wishWith_34 rfl rfl dX6_wishWith_34 ?_
          refine g_iload (pc := 37) C dX6_wishWith_37 0 rfl ?_
          refine g_ialdN (pc := 39) (f := nms) C 9 rfl (hF i (by omega)) (by decide) dX6_wishWith_39 ?_
          refine g_top (y := (pI (N (fq q x i)))) (hA _ (hF i (by omega))) ?_
          refine g_iload_n (pc := 40) C dX6_wishWith_40 4 rfl rfl ?_
          refine g_icmp_ne (pc := 41) C 47 dX6_wishWith_41 (by decide) (fun c41 => ?_) (fun c41 => ?_)
          · refine g_iinc (pc := 47) (lv' := [(4, .int (nI (i + 1))), (5, .int (nI (fq q x i))), (0, .ref q0), (1, .int (bI q)), (2, .int (nI x)), (3, .int (nI c))]) C dX6_wishWith_47 5 rfl (nI_add i 1) (by decide) rfl ?_
            refine g_goto (pc := 50) C 3 dX6_wishWith_50 (by decide) ?_
            refine g_lvp (lv' := [(0, .ref q0), (1, .int (bI q)), (2, .int (nI x)), (3, .int (nI c)), (4, .int (nI (i + 1)))]) [2, 3, 4, 5, 0] rfl ?_
            exact ih3 (i + 1) (by omega) (by first | assumption | omega) (fun j h => (Nat.lt_succ_iff_lt_or_eq.mp h).elim (hf j) (fun e => by subst e; exact fun e => c41 (congrArg pI e)))
          · refine g_iload (pc := 44) C dX6_wishWith_44 0 rfl ?_
            refine g_top (y := (pI ((fnd N (fq q x) c).map (fq q x)))) (by rw [fnd_at (f := fq q x) (i := i) (by omega) (pI_inj (fun r hr => hB (fq q x i) r (hF i (by omega)) hr) hc c41) hf]; rfl) ?_
            exact g_iret C hr hQ dX6_wishWith_46 rfl ⟨rfl, rfl⟩
        · refine g_bipush (pc := 14) (v := nI 8) C dX6_wishWith_14 (by decide) ?_
          refine g_iload_n (pc := 16) C dX6_wishWith_16 2 rfl rfl ?_
          refine g_imulN (pc := 17) C dX6_wishWith_17 ?_
          refine g_iload (pc := 18) C dX6_wishWith_18 4 rfl ?_
          refine g_iaddN (pc := 20) C dX6_wishWith_20 ?_
          refine g_goto (pc := 21) C 31 dX6_wishWith_21 (by decide) ?_
          refine g_top (y := nI (fq q x i)) (by rw [c11]; rfl) ?_
          refine g_istore (pc := 31) (lv' := [(5, .int (nI (fq q x i))), (0, .ref q0), (1, .int (bI q)), (2, .int (nI x)), (3, .int (nI c)), (4, .int (nI i))]) C dX6_wishWith_31 (by decide) rfl ?_
          refine g_aload_n (pc := 33) C dX6_wishWith_33 1 rfl rfl ?_
          refine g_get (pc := 34) (ci := 6) (T := TX6) (N := 18) (v := .ref q9) C in_X6_wishWith_X6 0 rfl rfl 12 (by decide) fl_X6_wishWith_34 rfl rfl dX6_wishWith_34 ?_
          refine g_iload (pc := 37) C dX6_wishWith_37 0 rfl ?_
          refine g_ialdN (pc := 39) (f := nms) C 9 rfl (hF i (by omega)) (by decide) dX6_wishWith_39 ?_
          refine g_top (y := (pI (N (fq q x i)))) (hA _ (hF i (by omega))) ?_
          refine g_iload_n (pc := 40) C dX6_wishWith_40 4 rfl rfl ?_
          refine g_icmp_ne (pc := 41) C 47 dX6_wishWith_41 (by decide) (fun c41 => ?_) (fun c41 => ?_)
          · refine g_iinc (pc := 47) (lv' := [(4, .int (nI (i + 1))), (5, .int (nI (fq q x i))), (0, .ref q0), (1, .int (bI q)), (2, .int (nI x)), (3, .int (nI c))]) C dX6_wishWith_47 5 rfl (nI_add i 1) (by decide) rfl ?_
            refine g_goto (pc := 50) C 3 dX6_wishWith_50 (by decide) ?_
            refine g_lvp (lv' := [(0, .ref q0), (1, .int (bI q)), (2, .int (nI x)), (3, .int (nI c)), (4, .int (nI (i + 1)))]) [2, 3, 4, 5, 0] rfl ?_
            exact ih3 (i + 1) (by omega) (by first | assumption | omega) (fun j h => (Nat.lt_succ_iff_lt_or_eq.mp h).elim (hf j) (fun e => by subst e; exact fun e => c41 (congrArg pI e)))
          · refine g_iload (pc := 44) C dX6_wishWith_44 0 rfl ?_
            refine g_top (y := (pI ((fnd N (fq q x) c).map (fq q x)))) (by rw [fnd_at (f := fq q x) (i := i) (by omega) (pI_inj (fun r hr => hB (fq q x i) r (hF i (by omega)) hr) hc c41) hf]; rfl) ?_
            exact g_iret C hr hQ dX6_wishWith_46 rfl ⟨rfl, rfl⟩
  refine g_lvp (lv' := [(0, .ref q0), (1, .int (bI q)), (2, .int (nI x)), (3, .int (nI c)), (4, .int (nI 0))]) [1, 2, 3, 4, 0] rfl ?_
  exact L3 _ 0 (Nat.lt_succ_self _) (by first | assumption | omega) (fun j h => absurd h (Nat.not_lt_zero _))

abbrev rm_X6_leastFree : Room := { frames := 1, cells := 0, slots := 0, locals := 25 }
theorem yd_X6_leastFree : yX6_leastFree.cls = RX6 ∧ yX6_leastFree.cls ≠ "java/lang/invoke/MethodHandle" ∧ yX6_leastFree.cls ≠ "java/lang/invoke/VarHandle" ∧ (parseMethodDescriptor yX6_leastFree.desc).map (fun d => d.parameters.length) = some 2 := by decide +kernel
set_option maxHeartbeats 4000000 in
set_option maxRecDepth 100000 in
theorem m_X6_leastFree (l : Launch) (D : va_G) (cI cC : ClassId) (q0 q1 q2 q3 q4 q5 q6 q7 q8 q9 q10 q11 : Nat) (th : Int32) (ss : Nat → Int32) (asd : Nat → Int32) (sts : Nat → Int32) (sm : Int32) (snp : Nat → Int32) (hx : Int32) (tx : Nat → Int32) (lgt : Int32) (can : Nat → Int32) (szs : Nat → Int32) (ptn : Nat → Int32) (nms : Nat → Int32) (pth : Nat → Int32) (att : Int32) (isw : Int32) (rdd : Nat → Int32) (rmy : Int32) (N : Nat → Option Nat) (q : Bool) (x : Nat) (hA : ap nms N) (hB : b8 N) (hxx : x < 8) (hL : lfr N (fq q x) < 8) : g_M l yX6_leastFree wsX6_leastFree rm_X6_leastFree D cI cC [.ref q0, .int (bI q), .int (nI x)] (rW cI cC q0 q1 q2 q3 q4 q5 q6 q7 q8 q9 q10 q11 th ss asd sts sm snp hx tx lgt can szs ptn nms pth att isw rdd rmy) (fun vv ww => vv = some (.int (nI (lfr N (fq q x)))) ∧ ww = (rW cI cC q0 q1 q2 q3 q4 q5 q6 q7 q8 q9 q10 q11 th ss asd sts sm snp hx tx lgt can szs ptn nms pth att isw rdd rmy)) := by
  refine g_entry (lv := [(0, .ref q0), (1, .int (bI q)), (2, .int (nI x))]) (own := RX6) (by decide) rfl rfl (Nat.le_of_ble_eq_true rfl) rfl ?_
  intro p e s m args below meth co A Q C hr hQ
  have hF : ∀ o, o < 8 → fq q x o < 64 := fun o ho => fq_lt hxx ho
  have hfr : fnd N (fq q x) (lfr N (fq q x)) = none := lfr_free (fun o c ho e => hB _ c (hF o ho) e)
  refine g_iconst (pc := 0) (v := nI 0) C dX6_leastFree_0 (by decide) ?_
  refine g_istore_n (pc := 1) (lv' := [(3, .int (nI 0)), (0, .ref q0), (1, .int (bI q)), (2, .int (nI x))]) C dX6_leastFree_1 rfl (by decide) rfl ?_
  have L2 : ∀ (NZ : Nat) (n : Nat), 8 - n < NZ → (n ≤ lfr N (fq q x)) → (∀ d, d < n → (fnd N (fq q x) d).isSome = true) → g_J p l e rm_X6_leastFree s m args below meth co Q D A 4 0 0 (rW cI cC q0 q1 q2 q3 q4 q5 q6 q7 q8 q9 q10 q11 th ss asd sts sm snp hx tx lgt can szs ptn nms pth att isw rdd rmy) 2 [(0, .ref q0), (1, .int (bI q)), (2, .int (nI x)), (3, .int (nI n))] [] := by
    intro NZ
    induction NZ with
    | zero => intro n hN; exact absurd hN (Nat.not_lt_zero _)
    | succ NZ ih2 =>
      intro n hN2 hn hd
      refine g_aload_n (pc := 2) C dX6_leastFree_2 0 rfl rfl ?_
      refine g_iload_n (pc := 3) C dX6_leastFree_3 1 rfl rfl ?_
      refine g_iload_n (pc := 4) C dX6_leastFree_4 2 rfl rfl ?_
      refine g_iload_n (pc := 5) C dX6_leastFree_5 3 rfl rfl ?_
      refine g_callV (pc := 6) (st := []) (As := [.int (bI q), .int (nI x), .int (nI n)]) (nn := 3) (ci := 6) (q0 := 0) C (m_X6_wishWith l D cI cC q0 q1 q2 q3 q4 q5 q6 q7 q8 q9 q10 q11 th ss asd sts sm snp hx tx lgt can szs ptn nms pth att isw rdd rmy N q x n (hA) (by first | assumption | omega) (by first | assumption | omega) (by first | assumption | omega)) gX6_leastFree_X6_wishWith rfl rfl rfl yd_X6_wishWith ⟨Nat.le_of_ble_eq_true rfl, Nat.le_of_ble_eq_true rfl⟩ rfl [0, 1, 2, 3, 4, 5, 6, 7, 8, 9, 10, 11] rfl rfl rfl rfl rfl (Nat.le_of_ble_eq_true rfl) ⟨Nat.le_of_ble_eq_true rfl, Nat.le_of_ble_eq_true rfl⟩ dX6_leastFree_6 ?_
      rintro _ _ ⟨rfl, rfl⟩
      refine g_eq (ws' := (rW cI cC q0 q1 q2 q3 q4 q5 q6 q7 q8 q9 q10 q11 th ss asd sts sm snp hx tx lgt can szs ptn nms pth att isw rdd rmy)) (st' := [.int (pI ((fnd N (fq q x) n).map (fq q x)))]) rfl rfl ?_
      refine g_bipush (pc := 9) (v := (-5)) C dX6_leastFree_9 (by decide) ?_
      refine g_icmp_eq (pc := 11) C 20 dX6_leastFree_11 (by decide) (fun c11 => ?_) (fun c11 => ?_)
      · have fn := map_m5 hF c11
        refine g_iload_n (pc := 20) C dX6_leastFree_20 3 rfl rfl ?_
        refine g_top (y := nI (lfr N (fq q x))) (by rw [lfr_eq (c := n) hd (Or.inr ⟨by omega, fn⟩)]) ?_
        exact g_iret C hr hQ dX6_leastFree_21 rfl ⟨rfl, rfl⟩
      · obtain ⟨z, fz⟩ := map_n5 c11
        have hne : n ≠ lfr N (fq q x) := fun e => by rw [e, hfr] at fz; cases fz
        refine g_iinc (pc := 14) (lv' := [(3, .int (nI (n + 1))), (0, .ref q0), (1, .int (bI q)), (2, .int (nI x))]) C dX6_leastFree_14 3 rfl (nI_add n 1) (by decide) rfl ?_
        refine g_goto (pc := 17) C 2 dX6_leastFree_17 (by decide) ?_
        refine g_lvp (lv' := [(0, .ref q0), (1, .int (bI q)), (2, .int (nI x)), (3, .int (nI (n + 1)))]) [1, 2, 3, 0] rfl ?_
        exact ih2 (n + 1) (by omega) (by first | assumption | omega) (fun d h => (Nat.lt_succ_iff_lt_or_eq.mp h).elim (hd d) (fun e => by subst e; rw [fz]; rfl))
  refine g_lvp (lv' := [(0, .ref q0), (1, .int (bI q)), (2, .int (nI x)), (3, .int (nI 0))]) [1, 2, 3, 0] rfl ?_
  exact L2 _ 0 (Nat.lt_succ_self _) (Nat.zero_le _) (fun d h => absurd h (Nat.not_lt_zero _))

abbrev rm_X6_changes : Room := { frames := 1, cells := 0, slots := 0, locals := 25 }
theorem yd_X6_changes : yX6_changes.cls = RX6 ∧ yX6_changes.cls ≠ "java/lang/invoke/MethodHandle" ∧ yX6_changes.cls ≠ "java/lang/invoke/VarHandle" ∧ (parseMethodDescriptor yX6_changes.desc).map (fun d => d.parameters.length) = some 3 := by decide +kernel
theorem in_X6_changes_X6 : ∀ w ∈ u_ws RX6 TX6 18, w ∈ wsX6_changes := by decide +kernel
theorem fl_X6_changes_34 : Cond.fieldLink RX6 34 "FenceHandshakesModel" "numbers" "[I" ∈ wsX6_changes := by decide +kernel
theorem fl_X6_changes_37 : Cond.fieldLink RX6 37 "FenceHandshakesModel" "path" "[I" ∈ wsX6_changes := by decide +kernel
set_option maxHeartbeats 4000000 in
set_option maxRecDepth 100000 in
theorem m_X6_changes (l : Launch) (D : va_G) (cI cC : ClassId) (q0 q1 q2 q3 q4 q5 q6 q7 q8 q9 q10 q11 : Nat) (th : Int32) (ss : Nat → Int32) (asd : Nat → Int32) (sts : Nat → Int32) (sm : Int32) (snp : Nat → Int32) (hx : Int32) (tx : Nat → Int32) (lgt : Int32) (can : Nat → Int32) (szs : Nat → Int32) (ptn : Nat → Int32) (nms : Nat → Int32) (pth : Nat → Int32) (att : Int32) (isw : Int32) (rdd : Nat → Int32) (rmy : Int32) (N : Nat → Option Nat) (r : Nat) (a : Nat) (b : Nat) (hA : ap nms N) (hN : PR N) (hr8 : r < 8) (ha : a < 8) (hb8 : b < 8) (hab : a ≠ b) (hb : ∀ w, w < 64 → w % 8 = r → N w ≠ some b) : g_M l yX6_changes wsX6_changes rm_X6_changes D cI cC [.ref q0, .int (nI r), .int (nI a), .int (nI b)] (rW cI cC q0 q1 q2 q3 q4 q5 q6 q7 q8 q9 q10 q11 th ss asd sts sm snp hx tx lgt can szs ptn nms pth att isw rdd rmy) (fun vv ww => ∃ (nms2 : Nat → Int32) (pth2 : Nat → Int32), vv = none ∧ ww = (rW cI cC q0 q1 q2 q3 q4 q5 q6 q7 q8 q9 q10 q11 th ss asd sts sm snp hx tx lgt can szs ptn nms2 pth2 att isw rdd rmy) ∧ ap nms2 (FL N a b r)) := by
  refine g_entry (lv := [(0, .ref q0), (1, .int (nI r)), (2, .int (nI a)), (3, .int (nI b))]) (own := RX6) (by decide) rfl rfl (Nat.le_of_ble_eq_true rfl) rfl ?_
  intro p e s m args below meth co A Q C hr hQ
  refine g_iconst (pc := 0) (v := nI 0) C dX6_changes_0 (by decide) ?_
  refine g_istore (pc := 1) (lv' := [(4, .int (nI 0)), (0, .ref q0), (1, .int (nI r)), (2, .int (nI a)), (3, .int (nI b))]) C dX6_changes_1 (by decide) rfl ?_
  refine g_iconst (pc := 3) (v := nI 0) C dX6_changes_3 (by decide) ?_
  refine g_top (y := bI false) (rfl) ?_
  refine g_istore (pc := 4) (lv' := [(5, .int (bI false)), (4, .int (nI 0)), (0, .ref q0), (1, .int (nI r)), (2, .int (nI a)), (3, .int (nI b))]) C dX6_changes_4 (by decide) rfl ?_
  refine g_iload_n (pc := 6) C dX6_changes_6 3 rfl rfl ?_
  refine g_istore (pc := 7) (lv' := [(6, .int (nI r)), (5, .int (bI false)), (4, .int (nI 0)), (0, .ref q0), (1, .int (nI r)), (2, .int (nI a)), (3, .int (nI b))]) C dX6_changes_7 (by decide) rfl ?_
  refine g_iload_n (pc := 9) C dX6_changes_9 5 rfl rfl ?_
  refine g_top (y := nI (pcol a b 0)) (rfl) ?_
  refine g_istore (pc := 10) (lv' := [(7, .int (nI (pcol a b 0))), (6, .int (nI r)), (5, .int (bI false)), (4, .int (nI 0)), (0, .ref q0), (1, .int (nI r)), (2, .int (nI a)), (3, .int (nI b))]) C dX6_changes_10 (by decide) rfl ?_
  refine g_aload_n (pc := 12) C dX6_changes_12 4 rfl rfl ?_
  refine g_iload (pc := 13) C dX6_changes_13 2 rfl ?_
  refine g_iload (pc := 15) C dX6_changes_15 1 rfl ?_
  refine g_iload (pc := 17) C dX6_changes_17 0 rfl ?_
  refine g_callV (pc := 19) (st := []) (As := [.int (bI false), .int (nI r), .int (nI (pcol a b 0))]) (nn := 3) (ci := 6) (q0 := 0) C (m_X6_wishWith l D cI cC q0 q1 q2 q3 q4 q5 q6 q7 q8 q9 q10 q11 th ss asd sts sm snp hx tx lgt can szs ptn nms pth att isw rdd rmy N false r (pcol a b 0) (by first | assumption | omega) (hN.1) (by first | assumption | omega) (ha)) gX6_changes_X6_wishWith rfl rfl rfl yd_X6_wishWith ⟨Nat.le_of_ble_eq_true rfl, Nat.le_of_ble_eq_true rfl⟩ rfl [0, 1, 2, 3, 4, 5, 6, 7, 8, 9, 10, 11] rfl rfl rfl rfl rfl (Nat.le_of_ble_eq_true rfl) ⟨Nat.le_of_ble_eq_true rfl, Nat.le_of_ble_eq_true rfl⟩ dX6_changes_19 ?_
  rintro _ _ ⟨rfl, rfl⟩
  refine g_eq (ws' := (rW cI cC q0 q1 q2 q3 q4 q5 q6 q7 q8 q9 q10 q11 th ss asd sts sm snp hx tx lgt can szs ptn nms pth att isw rdd rmy)) (st' := [.int (pI ((fnd N (fq false r) (pcol a b 0)).map (fq false r)))]) rfl rfl ?_
  refine g_top (y := (pI (pe N a b r 0))) (rfl) ?_
  refine g_istore (pc := 22) (lv' := [(8, .int (pI (pe N a b r 0))), (7, .int (nI (pcol a b 0))), (6, .int (nI r)), (5, .int (bI false)), (4, .int (nI 0)), (0, .ref q0), (1, .int (nI r)), (2, .int (nI a)), (3, .int (nI b))]) C dX6_changes_22 (by decide) rfl ?_
  have L24 : ∀ (NZ : Nat) (n : Nat) (q : Bool) (x : Nat) (v : Int32) (pth1 : Nat → Int32), 64 - n < NZ → (n ≤ 64) → (q = decide (n % 2 = 1)) → (v = pI (pe N a b r n)) → (∀ i, i < n → ∃ w, pe N a b r i = some w ∧ pth1 i = nI w) → g_J p l e rm_X6_changes s m args below meth co Q D A 10 0 0 (rW cI cC q0 q1 q2 q3 q4 q5 q6 q7 q8 q9 q10 q11 th ss asd sts sm snp hx tx lgt can szs ptn nms pth1 att isw rdd rmy) 24 [(0, .ref q0), (1, .int (nI r)), (2, .int (nI a)), (3, .int (nI b)), (4, .int (nI n)), (5, .int (bI q)), (6, .int (nI x)), (7, .int (nI (pcol a b n))), (8, .int v)] [] := by
    intro NZ
    induction NZ with
    | zero => intro n q x v pth1 hN; exact absurd hN (Nat.not_lt_zero _)
    | succ NZ ih24 =>
      intro n q x v pth1 hN24 hn hq hv hpth
      refine g_iload (pc := 24) C dX6_changes_24 8 rfl ?_
      refine g_bipush (pc := 26) (v := (-5)) C dX6_changes_26 (by decide) ?_
      refine g_icmp_eq (pc := 28) C 103 dX6_changes_28 (by decide) (fun c28 => ?_) (fun c28 => ?_)
      · have hpn := peN_no hr8 hv c28
        refine g_iconst (pc := 103) (v := nI 0) C dX6_changes_103 (by decide) ?_
        refine g_istore (pc := 104) (lv' := [(9, .int (nI 0)), (0, .ref q0), (1, .int (nI r)), (2, .int (nI a)), (3, .int (nI b)), (4, .int (nI n)), (5, .int (bI q)), (6, .int (nI x)), (7, .int (nI (pcol a b n))), (8, .int v)]) C dX6_changes_104 (by decide) rfl ?_
        have L106 : ∀ (NZ : Nat) (k : Nat) (nms1 : Nat → Int32), n - k < NZ → (k ≤ n) → (ap nms1 (FLn N a b r k)) → g_J p l e rm_X6_changes s m args below meth co Q D A 10 0 0 (rW cI cC q0 q1 q2 q3 q4 q5 q6 q7 q8 q9 q10 q11 th ss asd sts sm snp hx tx lgt can szs ptn nms1 pth1 att isw rdd rmy) 106 [(0, .ref q0), (2, .int (nI a)), (3, .int (nI b)), (4, .int (nI n)), (9, .int (nI k))] [] := by
          intro NZ
          induction NZ with
          | zero => intro k nms1 hN; exact absurd hN (Nat.not_lt_zero _)
          | succ NZ ih106 =>
            intro k nms1 hN106 hk hA1
            refine g_iload (pc := 106) C dX6_changes_106 4 rfl ?_
            refine g_iload (pc := 108) C dX6_changes_108 3 rfl ?_
            refine g_icmp_geN (pc := 110) C 152 (by omega) (by omega) dX6_changes_110 (by decide) (fun c110 => ?_) (fun c110 => ?_)
            · exact g_vret C hr hQ dX6_changes_152 rfl ⟨_, _, rfl, rfl, by rw [← FL_of hr8 hpn hn, ← show k = n by omega]; exact hA1⟩
            · obtain ⟨w, ew, ewp⟩ := hpth k (by omega)
              have hwp := pe_prop hr8 _ _ ew
              have hw := hwp.1
              refine g_aload_n (pc := 113) C dX6_changes_113 0 rfl rfl ?_
              refine g_get (pc := 114) (ci := 6) (T := TX6) (N := 18) (v := .ref q9) C in_X6_changes_X6 0 rfl rfl 12 (by decide) fl_X6_changes_34 rfl rfl dX6_changes_114 ?_
              refine g_aload_n (pc := 117) C dX6_changes_117 0 rfl rfl ?_
              refine g_get (pc := 118) (ci := 6) (T := TX6) (N := 18) (v := .ref q10) C in_X6_changes_X6 0 rfl rfl 13 (by decide) fl_X6_changes_37 rfl rfl dX6_changes_118 ?_
              refine g_iload (pc := 121) C dX6_changes_121 4 rfl ?_
              refine g_ialdN (pc := 123) (f := pth1) C 10 rfl (by omega) (by decide) dX6_changes_123 ?_
              refine g_top (y := nI w) (ewp) ?_
              refine g_aload_n (pc := 124) C dX6_changes_124 0 rfl rfl ?_
              refine g_get (pc := 125) (ci := 6) (T := TX6) (N := 18) (v := .ref q9) C in_X6_changes_X6 0 rfl rfl 12 (by decide) fl_X6_changes_34 rfl rfl dX6_changes_125 ?_
              refine g_aload_n (pc := 128) C dX6_changes_128 0 rfl rfl ?_
              refine g_get (pc := 129) (ci := 6) (T := TX6) (N := 18) (v := .ref q10) C in_X6_changes_X6 0 rfl rfl 13 (by decide) fl_X6_changes_37 rfl rfl dX6_changes_129 ?_
              refine g_iload (pc := 132) C dX6_changes_132 4 rfl ?_
              refine g_ialdN (pc := 134) (f := pth1) C 10 rfl (by omega) (by decide) dX6_changes_134 ?_
              refine g_top (y := nI w) (ewp) ?_
              refine g_ialdN (pc := 135) (f := nms1) C 9 rfl (by omega) (by decide) dX6_changes_135 ?_
              refine g_top (y := (pI (N w))) (by rw [hA1 w hw, FLn_out (fun i h e => pe_inj hN hr8 hab hb i k w h e ew)]) ?_
              refine g_iload_n (pc := 136) C dX6_changes_136 1 rfl rfl ?_
              refine g_icmp_ne (pc := 137) C 144 dX6_changes_137 (by decide) (fun c137 => ?_) (fun c137 => ?_)
              · have hNa : ¬ N w = some a := fun e => c137 (by rw [e]; rfl)
                refine g_iload_n (pc := 144) C dX6_changes_144 1 rfl rfl ?_
                refine g_iastN (pc := 145) (f := nms1) (ws' := (rW cI cC q0 q1 q2 q3 q4 q5 q6 q7 q8 q9 q10 q11 th ss asd sts sm snp hx tx lgt can szs ptn (upd nms1 w (nI a)) pth1 att isw rdd rmy)) C 9 rfl (by omega) (by decide) dX6_changes_145 rfl ?_
                refine g_iinc (pc := 146) (lv' := [(9, .int (nI (k + 1))), (0, .ref q0), (2, .int (nI a)), (3, .int (nI b)), (4, .int (nI n))]) C dX6_changes_146 4 rfl (nI_add k 1) (by decide) rfl ?_
                refine g_goto (pc := 149) C 106 dX6_changes_149 (by decide) ?_
                refine g_lvp (lv' := [(0, .ref q0), (2, .int (nI a)), (3, .int (nI b)), (4, .int (nI n)), (9, .int (nI (k + 1)))]) [1, 2, 3, 4, 0] rfl ?_
                exact ih106 (k + 1) (upd nms1 w (nI a)) (by omega) (by first | assumption | omega) (by rw [FLn_s ew]; exact ap_upd hA1 (by rw [if_neg hNa]; rfl))
              · have hNa : N w = some a := pI_inj (fun r hr => hN.1 w r hw hr) ha c137
                refine g_iload_n (pc := 140) C dX6_changes_140 2 rfl rfl ?_
                refine g_goto (pc := 141) C 145 dX6_changes_141 (by decide) ?_
                refine g_iastN (pc := 145) (f := nms1) (ws' := (rW cI cC q0 q1 q2 q3 q4 q5 q6 q7 q8 q9 q10 q11 th ss asd sts sm snp hx tx lgt can szs ptn (upd nms1 w (nI b)) pth1 att isw rdd rmy)) C 9 rfl (by omega) (by decide) dX6_changes_145 rfl ?_
                refine g_iinc (pc := 146) (lv' := [(9, .int (nI (k + 1))), (0, .ref q0), (2, .int (nI a)), (3, .int (nI b)), (4, .int (nI n))]) C dX6_changes_146 4 rfl (nI_add k 1) (by decide) rfl ?_
                refine g_goto (pc := 149) C 106 dX6_changes_149 (by decide) ?_
                refine g_lvp (lv' := [(0, .ref q0), (2, .int (nI a)), (3, .int (nI b)), (4, .int (nI n)), (9, .int (nI (k + 1)))]) [1, 2, 3, 4, 0] rfl ?_
                exact ih106 (k + 1) (upd nms1 w (nI b)) (by omega) (by first | assumption | omega) (by rw [FLn_s ew]; exact ap_upd hA1 (by rw [if_pos hNa]; rfl))
        refine g_lvp (lv' := [(0, .ref q0), (2, .int (nI a)), (3, .int (nI b)), (4, .int (nI n)), (9, .int (nI 0))]) [1, 3, 4, 5, 0] rfl ?_
        exact L106 _ 0 nms (Nat.lt_succ_self _) (by first | assumption | omega) (by rw [FLn_0]; exact hA)
      · obtain ⟨w, ew, evw, hw⟩ := pe_some hr8 hv c28
        have hn64 := pe_64 hN hr8 hab hb ew
        have hpc : pcol a b n < 8 := pcol_8 ha hb8
        refine g_lveq (lv' := [(0, .ref q0), (1, .int (nI r)), (2, .int (nI a)), (3, .int (nI b)), (4, .int (nI n)), (5, .int (bI q)), (6, .int (nI x)), (7, .int (nI (pcol a b n))), (8, .int (nI w))]) (by rw [evw]) ?_
        refine g_aload_n (pc := 31) C dX6_changes_31 0 rfl rfl ?_
        refine g_get (pc := 32) (ci := 6) (T := TX6) (N := 18) (v := .ref q10) C in_X6_changes_X6 0 rfl rfl 13 (by decide) fl_X6_changes_37 rfl rfl dX6_changes_32 ?_
        refine g_iload (pc := 35) C dX6_changes_35 4 rfl ?_
        refine g_iload (pc := 37) C dX6_changes_37 8 rfl ?_
        refine g_iastN (pc := 39) (f := pth1) (ws' := (rW cI cC q0 q1 q2 q3 q4 q5 q6 q7 q8 q9 q10 q11 th ss asd sts sm snp hx tx lgt can szs ptn nms (upd pth1 n (nI w)) att isw rdd rmy)) C 10 rfl (by omega) (by decide) dX6_changes_39 rfl ?_
        refine g_iinc (pc := 40) (lv' := [(4, .int (nI (n + 1))), (0, .ref q0), (1, .int (nI r)), (2, .int (nI a)), (3, .int (nI b)), (5, .int (bI q)), (6, .int (nI x)), (7, .int (nI (pcol a b n))), (8, .int (nI w))]) C dX6_changes_40 4 rfl (nI_add n 1) (by decide) rfl ?_
        refine g_iload (pc := 43) C dX6_changes_43 5 rfl ?_
        refine g_if_eqB (pc := 45) C 56 dX6_changes_45 (by decide) (fun c45 => ?_) (fun c45 => ?_)
        · have hn2 : n % 2 = 0 := by have := hq.symm.trans c45; have := of_decide_eq_false this; omega
          refine g_iload (pc := 56) C dX6_changes_56 8 rfl ?_
          refine g_bipush (pc := 58) (v := nI 8) C dX6_changes_58 (by decide) ?_
          refine g_idivN (pc := 60) C dX6_changes_60 (by omega) (by omega) (by omega) ?_
          refine g_istore (pc := 61) (lv' := [(6, .int (nI (w / 8))), (4, .int (nI (n + 1))), (0, .ref q0), (1, .int (nI r)), (2, .int (nI a)), (3, .int (nI b)), (5, .int (bI q)), (7, .int (nI (pcol a b n))), (8, .int (nI w))]) C dX6_changes_61 (by decide) rfl ?_
          refine g_iload (pc := 63) C dX6_changes_63 6 rfl ?_
          refine g_if_neB (pc := 65) C 72 dX6_changes_65 (by decide) (fun c65 => ?_) (fun c65 => ?_)
          · exact absurd (c45.symm.trans c65) (by decide)
          · refine g_iconst (pc := 68) (v := nI 1) C dX6_changes_68 (by decide) ?_
            refine g_goto (pc := 69) C 73 dX6_changes_69 (by decide) ?_
            refine g_top (y := bI true) (rfl) ?_
            refine g_istore (pc := 73) (lv' := [(5, .int (bI true)), (6, .int (nI (w / 8))), (4, .int (nI (n + 1))), (0, .ref q0), (1, .int (nI r)), (2, .int (nI a)), (3, .int (nI b)), (7, .int (nI (pcol a b n))), (8, .int (nI w))]) C dX6_changes_73 (by decide) rfl ?_
            refine g_iload (pc := 75) C dX6_changes_75 7 rfl ?_
            refine g_iload_n (pc := 77) C dX6_changes_77 5 rfl rfl ?_
            refine g_icmp_neN (pc := 78) C 85 (by omega) (by omega) dX6_changes_78 (by decide) (fun c78 => ?_) (fun c78 => ?_)
            · refine g_iload_n (pc := 85) C dX6_changes_85 5 rfl rfl ?_
              refine g_top (y := nI (pcol a b (n + 1))) (by rw [pcol_t c78]) ?_
              refine g_istore (pc := 86) (lv' := [(7, .int (nI (pcol a b (n + 1)))), (5, .int (bI true)), (6, .int (nI (w / 8))), (4, .int (nI (n + 1))), (0, .ref q0), (1, .int (nI r)), (2, .int (nI a)), (3, .int (nI b)), (8, .int (nI w))]) C dX6_changes_86 (by decide) rfl ?_
              refine g_aload_n (pc := 88) C dX6_changes_88 4 rfl rfl ?_
              refine g_iload (pc := 89) C dX6_changes_89 1 rfl ?_
              refine g_iload (pc := 91) C dX6_changes_91 2 rfl ?_
              refine g_iload (pc := 93) C dX6_changes_93 0 rfl ?_
              refine g_callV (pc := 95) (st := []) (As := [.int (bI true), .int (nI (w / 8)), .int (nI (pcol a b (n + 1)))]) (nn := 3) (ci := 6) (q0 := 0) C (m_X6_wishWith l D cI cC q0 q1 q2 q3 q4 q5 q6 q7 q8 q9 q10 q11 th ss asd sts sm snp hx tx lgt can szs ptn nms (upd pth1 n (nI w)) att isw rdd rmy N true (w / 8) (pcol a b (n + 1)) (by first | assumption | omega) (hN.1) (by omega) (pcol_8 ha hb8)) gX6_changes_X6_wishWith rfl rfl rfl yd_X6_wishWith ⟨Nat.le_of_ble_eq_true rfl, Nat.le_of_ble_eq_true rfl⟩ rfl [0, 1, 2, 3, 4, 5, 6, 7, 8, 9, 10, 11] rfl rfl rfl rfl rfl (Nat.le_of_ble_eq_true rfl) ⟨Nat.le_of_ble_eq_true rfl, Nat.le_of_ble_eq_true rfl⟩ dX6_changes_95 ?_
              rintro _ _ ⟨rfl, rfl⟩
              refine g_eq (ws' := (rW cI cC q0 q1 q2 q3 q4 q5 q6 q7 q8 q9 q10 q11 th ss asd sts sm snp hx tx lgt can szs ptn nms (upd pth1 n (nI w)) att isw rdd rmy)) (st' := [.int (pI ((fnd N (fq true (w / 8)) (pcol a b (n + 1))).map (fq true (w / 8))))]) rfl rfl ?_
              refine g_top (y := (pI (pe N a b r (n + 1)))) (by rw [pe_nx0 (by omega) ew]) ?_
              refine g_istore (pc := 98) (lv' := [(8, .int (pI (pe N a b r (n + 1)))), (7, .int (nI (pcol a b (n + 1)))), (5, .int (bI true)), (6, .int (nI (w / 8))), (4, .int (nI (n + 1))), (0, .ref q0), (1, .int (nI r)), (2, .int (nI a)), (3, .int (nI b))]) C dX6_changes_98 (by decide) rfl ?_
              refine g_goto (pc := 100) C 24 dX6_changes_100 (by decide) ?_
              refine g_lvp (lv' := [(0, .ref q0), (1, .int (nI r)), (2, .int (nI a)), (3, .int (nI b)), (4, .int (nI (n + 1))), (5, .int (bI true)), (6, .int (nI (w / 8))), (7, .int (nI (pcol a b (n + 1)))), (8, .int (pI (pe N a b r (n + 1))))]) [5, 6, 7, 8, 4, 2, 3, 1, 0] rfl ?_
              exact ih24 (n + 1) true (w / 8) (pI (pe N a b r (n + 1))) (upd pth1 n (nI w)) (by omega) (by first | assumption | omega) (by first | exact (decide_eq_true (by omega)).symm | exact (decide_eq_false (by omega)).symm) (rfl) (fun i h => (Nat.lt_succ_iff_lt_or_eq.mp h).elim (fun z => by obtain ⟨w2, q1, q2⟩ := hpth i z; exact ⟨w2, q1, by rw [upd_ne (by omega)]; exact q2⟩) (fun e => by subst e; exact ⟨w, ew, upd_eq⟩))
            · refine g_iload_n (pc := 81) C dX6_changes_81 6 rfl rfl ?_
              refine g_goto (pc := 82) C 86 dX6_changes_82 (by decide) ?_
              refine g_top (y := nI (pcol a b (n + 1))) (by rw [pcol_f hab c78]) ?_
              refine g_istore (pc := 86) (lv' := [(7, .int (nI (pcol a b (n + 1)))), (5, .int (bI true)), (6, .int (nI (w / 8))), (4, .int (nI (n + 1))), (0, .ref q0), (1, .int (nI r)), (2, .int (nI a)), (3, .int (nI b)), (8, .int (nI w))]) C dX6_changes_86 (by decide) rfl ?_
              refine g_aload_n (pc := 88) C dX6_changes_88 4 rfl rfl ?_
              refine g_iload (pc := 89) C dX6_changes_89 1 rfl ?_
              refine g_iload (pc := 91) C dX6_changes_91 2 rfl ?_
              refine g_iload (pc := 93) C dX6_changes_93 0 rfl ?_
              refine g_callV (pc := 95) (st := []) (As := [.int (bI true), .int (nI (w / 8)), .int (nI (pcol a b (n + 1)))]) (nn := 3) (ci := 6) (q0 := 0) C (m_X6_wishWith l D cI cC q0 q1 q2 q3 q4 q5 q6 q7 q8 q9 q10 q11 th ss asd sts sm snp hx tx lgt can szs ptn nms (upd pth1 n (nI w)) att isw rdd rmy N true (w / 8) (pcol a b (n + 1)) (by first | assumption | omega) (hN.1) (by omega) (pcol_8 ha hb8)) gX6_changes_X6_wishWith rfl rfl rfl yd_X6_wishWith ⟨Nat.le_of_ble_eq_true rfl, Nat.le_of_ble_eq_true rfl⟩ rfl [0, 1, 2, 3, 4, 5, 6, 7, 8, 9, 10, 11] rfl rfl rfl rfl rfl (Nat.le_of_ble_eq_true rfl) ⟨Nat.le_of_ble_eq_true rfl, Nat.le_of_ble_eq_true rfl⟩ dX6_changes_95 ?_
              rintro _ _ ⟨rfl, rfl⟩
              refine g_eq (ws' := (rW cI cC q0 q1 q2 q3 q4 q5 q6 q7 q8 q9 q10 q11 th ss asd sts sm snp hx tx lgt can szs ptn nms (upd pth1 n (nI w)) att isw rdd rmy)) (st' := [.int (pI ((fnd N (fq true (w / 8)) (pcol a b (n + 1))).map (fq true (w / 8))))]) rfl rfl ?_
              refine g_top (y := (pI (pe N a b r (n + 1)))) (by rw [pe_nx0 (by omega) ew]) ?_
              refine g_istore (pc := 98) (lv' := [(8, .int (pI (pe N a b r (n + 1)))), (7, .int (nI (pcol a b (n + 1)))), (5, .int (bI true)), (6, .int (nI (w / 8))), (4, .int (nI (n + 1))), (0, .ref q0), (1, .int (nI r)), (2, .int (nI a)), (3, .int (nI b))]) C dX6_changes_98 (by decide) rfl ?_
              refine g_goto (pc := 100) C 24 dX6_changes_100 (by decide) ?_
              refine g_lvp (lv' := [(0, .ref q0), (1, .int (nI r)), (2, .int (nI a)), (3, .int (nI b)), (4, .int (nI (n + 1))), (5, .int (bI true)), (6, .int (nI (w / 8))), (7, .int (nI (pcol a b (n + 1)))), (8, .int (pI (pe N a b r (n + 1))))]) [5, 6, 7, 8, 4, 2, 3, 1, 0] rfl ?_
              exact ih24 (n + 1) true (w / 8) (pI (pe N a b r (n + 1))) (upd pth1 n (nI w)) (by omega) (by first | assumption | omega) (by first | exact (decide_eq_true (by omega)).symm | exact (decide_eq_false (by omega)).symm) (rfl) (fun i h => (Nat.lt_succ_iff_lt_or_eq.mp h).elim (fun z => by obtain ⟨w2, q1, q2⟩ := hpth i z; exact ⟨w2, q1, by rw [upd_ne (by omega)]; exact q2⟩) (fun e => by subst e; exact ⟨w, ew, upd_eq⟩))
        · have hn2 : n % 2 = 1 := of_decide_eq_true (hq.symm.trans c45)
          refine g_iload (pc := 48) C dX6_changes_48 8 rfl ?_
          refine g_bipush (pc := 50) (v := nI 8) C dX6_changes_50 (by decide) ?_
          refine g_iremN (pc := 52) C dX6_changes_52 (by omega) (by omega) (by omega) ?_
          refine g_goto (pc := 53) C 61 dX6_changes_53 (by decide) ?_
          refine g_istore (pc := 61) (lv' := [(6, .int (nI (w % 8))), (4, .int (nI (n + 1))), (0, .ref q0), (1, .int (nI r)), (2, .int (nI a)), (3, .int (nI b)), (5, .int (bI q)), (7, .int (nI (pcol a b n))), (8, .int (nI w))]) C dX6_changes_61 (by decide) rfl ?_
          refine g_iload (pc := 63) C dX6_changes_63 6 rfl ?_
          refine g_if_neB (pc := 65) C 72 dX6_changes_65 (by decide) (fun c65 => ?_) (fun c65 => ?_)
          · refine g_iconst (pc := 72) (v := nI 0) C dX6_changes_72 (by decide) ?_
            refine g_top (y := bI false) (rfl) ?_
            refine g_istore (pc := 73) (lv' := [(5, .int (bI false)), (6, .int (nI (w % 8))), (4, .int (nI (n + 1))), (0, .ref q0), (1, .int (nI r)), (2, .int (nI a)), (3, .int (nI b)), (7, .int (nI (pcol a b n))), (8, .int (nI w))]) C dX6_changes_73 (by decide) rfl ?_
            refine g_iload (pc := 75) C dX6_changes_75 7 rfl ?_
            refine g_iload_n (pc := 77) C dX6_changes_77 5 rfl rfl ?_
            refine g_icmp_neN (pc := 78) C 85 (by omega) (by omega) dX6_changes_78 (by decide) (fun c78 => ?_) (fun c78 => ?_)
            · refine g_iload_n (pc := 85) C dX6_changes_85 5 rfl rfl ?_
              refine g_top (y := nI (pcol a b (n + 1))) (by rw [pcol_t c78]) ?_
              refine g_istore (pc := 86) (lv' := [(7, .int (nI (pcol a b (n + 1)))), (5, .int (bI false)), (6, .int (nI (w % 8))), (4, .int (nI (n + 1))), (0, .ref q0), (1, .int (nI r)), (2, .int (nI a)), (3, .int (nI b)), (8, .int (nI w))]) C dX6_changes_86 (by decide) rfl ?_
              refine g_aload_n (pc := 88) C dX6_changes_88 4 rfl rfl ?_
              refine g_iload (pc := 89) C dX6_changes_89 1 rfl ?_
              refine g_iload (pc := 91) C dX6_changes_91 2 rfl ?_
              refine g_iload (pc := 93) C dX6_changes_93 0 rfl ?_
              refine g_callV (pc := 95) (st := []) (As := [.int (bI false), .int (nI (w % 8)), .int (nI (pcol a b (n + 1)))]) (nn := 3) (ci := 6) (q0 := 0) C (m_X6_wishWith l D cI cC q0 q1 q2 q3 q4 q5 q6 q7 q8 q9 q10 q11 th ss asd sts sm snp hx tx lgt can szs ptn nms (upd pth1 n (nI w)) att isw rdd rmy N false (w % 8) (pcol a b (n + 1)) (by first | assumption | omega) (hN.1) (by omega) (pcol_8 ha hb8)) gX6_changes_X6_wishWith rfl rfl rfl yd_X6_wishWith ⟨Nat.le_of_ble_eq_true rfl, Nat.le_of_ble_eq_true rfl⟩ rfl [0, 1, 2, 3, 4, 5, 6, 7, 8, 9, 10, 11] rfl rfl rfl rfl rfl (Nat.le_of_ble_eq_true rfl) ⟨Nat.le_of_ble_eq_true rfl, Nat.le_of_ble_eq_true rfl⟩ dX6_changes_95 ?_
              rintro _ _ ⟨rfl, rfl⟩
              refine g_eq (ws' := (rW cI cC q0 q1 q2 q3 q4 q5 q6 q7 q8 q9 q10 q11 th ss asd sts sm snp hx tx lgt can szs ptn nms (upd pth1 n (nI w)) att isw rdd rmy)) (st' := [.int (pI ((fnd N (fq false (w % 8)) (pcol a b (n + 1))).map (fq false (w % 8))))]) rfl rfl ?_
              refine g_top (y := (pI (pe N a b r (n + 1)))) (by rw [pe_nx1 (by omega) ew]) ?_
              refine g_istore (pc := 98) (lv' := [(8, .int (pI (pe N a b r (n + 1)))), (7, .int (nI (pcol a b (n + 1)))), (5, .int (bI false)), (6, .int (nI (w % 8))), (4, .int (nI (n + 1))), (0, .ref q0), (1, .int (nI r)), (2, .int (nI a)), (3, .int (nI b))]) C dX6_changes_98 (by decide) rfl ?_
              refine g_goto (pc := 100) C 24 dX6_changes_100 (by decide) ?_
              refine g_lvp (lv' := [(0, .ref q0), (1, .int (nI r)), (2, .int (nI a)), (3, .int (nI b)), (4, .int (nI (n + 1))), (5, .int (bI false)), (6, .int (nI (w % 8))), (7, .int (nI (pcol a b (n + 1)))), (8, .int (pI (pe N a b r (n + 1))))]) [5, 6, 7, 8, 4, 2, 3, 1, 0] rfl ?_
              exact ih24 (n + 1) false (w % 8) (pI (pe N a b r (n + 1))) (upd pth1 n (nI w)) (by omega) (by first | assumption | omega) (by first | exact (decide_eq_true (by omega)).symm | exact (decide_eq_false (by omega)).symm) (rfl) (fun i h => (Nat.lt_succ_iff_lt_or_eq.mp h).elim (fun z => by obtain ⟨w2, q1, q2⟩ := hpth i z; exact ⟨w2, q1, by rw [upd_ne (by omega)]; exact q2⟩) (fun e => by subst e; exact ⟨w, ew, upd_eq⟩))
            · refine g_iload_n (pc := 81) C dX6_changes_81 6 rfl rfl ?_
              refine g_goto (pc := 82) C 86 dX6_changes_82 (by decide) ?_
              refine g_top (y := nI (pcol a b (n + 1))) (by rw [pcol_f hab c78]) ?_
              refine g_istore (pc := 86) (lv' := [(7, .int (nI (pcol a b (n + 1)))), (5, .int (bI false)), (6, .int (nI (w % 8))), (4, .int (nI (n + 1))), (0, .ref q0), (1, .int (nI r)), (2, .int (nI a)), (3, .int (nI b)), (8, .int (nI w))]) C dX6_changes_86 (by decide) rfl ?_
              refine g_aload_n (pc := 88) C dX6_changes_88 4 rfl rfl ?_
              refine g_iload (pc := 89) C dX6_changes_89 1 rfl ?_
              refine g_iload (pc := 91) C dX6_changes_91 2 rfl ?_
              refine g_iload (pc := 93) C dX6_changes_93 0 rfl ?_
              refine g_callV (pc := 95) (st := []) (As := [.int (bI false), .int (nI (w % 8)), .int (nI (pcol a b (n + 1)))]) (nn := 3) (ci := 6) (q0 := 0) C (m_X6_wishWith l D cI cC q0 q1 q2 q3 q4 q5 q6 q7 q8 q9 q10 q11 th ss asd sts sm snp hx tx lgt can szs ptn nms (upd pth1 n (nI w)) att isw rdd rmy N false (w % 8) (pcol a b (n + 1)) (by first | assumption | omega) (hN.1) (by omega) (pcol_8 ha hb8)) gX6_changes_X6_wishWith rfl rfl rfl yd_X6_wishWith ⟨Nat.le_of_ble_eq_true rfl, Nat.le_of_ble_eq_true rfl⟩ rfl [0, 1, 2, 3, 4, 5, 6, 7, 8, 9, 10, 11] rfl rfl rfl rfl rfl (Nat.le_of_ble_eq_true rfl) ⟨Nat.le_of_ble_eq_true rfl, Nat.le_of_ble_eq_true rfl⟩ dX6_changes_95 ?_
              rintro _ _ ⟨rfl, rfl⟩
              refine g_eq (ws' := (rW cI cC q0 q1 q2 q3 q4 q5 q6 q7 q8 q9 q10 q11 th ss asd sts sm snp hx tx lgt can szs ptn nms (upd pth1 n (nI w)) att isw rdd rmy)) (st' := [.int (pI ((fnd N (fq false (w % 8)) (pcol a b (n + 1))).map (fq false (w % 8))))]) rfl rfl ?_
              refine g_top (y := (pI (pe N a b r (n + 1)))) (by rw [pe_nx1 (by omega) ew]) ?_
              refine g_istore (pc := 98) (lv' := [(8, .int (pI (pe N a b r (n + 1)))), (7, .int (nI (pcol a b (n + 1)))), (5, .int (bI false)), (6, .int (nI (w % 8))), (4, .int (nI (n + 1))), (0, .ref q0), (1, .int (nI r)), (2, .int (nI a)), (3, .int (nI b))]) C dX6_changes_98 (by decide) rfl ?_
              refine g_goto (pc := 100) C 24 dX6_changes_100 (by decide) ?_
              refine g_lvp (lv' := [(0, .ref q0), (1, .int (nI r)), (2, .int (nI a)), (3, .int (nI b)), (4, .int (nI (n + 1))), (5, .int (bI false)), (6, .int (nI (w % 8))), (7, .int (nI (pcol a b (n + 1)))), (8, .int (pI (pe N a b r (n + 1))))]) [5, 6, 7, 8, 4, 2, 3, 1, 0] rfl ?_
              exact ih24 (n + 1) false (w % 8) (pI (pe N a b r (n + 1))) (upd pth1 n (nI w)) (by omega) (by first | assumption | omega) (by first | exact (decide_eq_true (by omega)).symm | exact (decide_eq_false (by omega)).symm) (rfl) (fun i h => (Nat.lt_succ_iff_lt_or_eq.mp h).elim (fun z => by obtain ⟨w2, q1, q2⟩ := hpth i z; exact ⟨w2, q1, by rw [upd_ne (by omega)]; exact q2⟩) (fun e => by subst e; exact ⟨w, ew, upd_eq⟩))
          · exact absurd (c45.symm.trans c65) (by decide)
  refine g_lvp (lv' := [(0, .ref q0), (1, .int (nI r)), (2, .int (nI a)), (3, .int (nI b)), (4, .int (nI 0)), (5, .int (bI false)), (6, .int (nI r)), (7, .int (nI (pcol a b 0))), (8, .int (pI (pe N a b r 0)))]) [5, 6, 7, 8, 4, 3, 2, 1, 0] rfl ?_
  exact L24 _ 0 false r (pI (pe N a b r 0)) pth (Nat.lt_succ_self _) (by first | assumption | omega) (rfl) (rfl) (fun i h => absurd h (Nat.not_lt_zero _))

abbrev rm_X6_plans : Room := { frames := 3, cells := 0, slots := 0, locals := 66 }
theorem yd_X6_plans : yX6_plans.cls = RX6 ∧ yX6_plans.cls ≠ "java/lang/invoke/MethodHandle" ∧ yX6_plans.cls ≠ "java/lang/invoke/VarHandle" ∧ (parseMethodDescriptor yX6_plans.desc).map (fun d => d.parameters.length) = some 0 := by decide +kernel
theorem in_X6_plans_X6 : ∀ w ∈ u_ws RX6 TX6 18, w ∈ wsX6_plans := by decide +kernel
theorem fl_X6_plans_34 : Cond.fieldLink RX6 34 "FenceHandshakesModel" "numbers" "[I" ∈ wsX6_plans := by decide +kernel
set_option maxHeartbeats 4000000 in
set_option maxRecDepth 100000 in
theorem m_X6_plans (l : Launch) (D : va_G) (cI cC : ClassId) (q0 q1 q2 q3 q4 q5 q6 q7 q8 q9 q10 q11 : Nat) (th : Int32) (ss : Nat → Int32) (asd : Nat → Int32) (sts : Nat → Int32) (sm : Int32) (snp : Nat → Int32) (hx : Int32) (tx : Nat → Int32) (lgt : Int32) (can : Nat → Int32) (szs : Nat → Int32) (ptn : Nat → Int32) (nms : Nat → Int32) (pth : Nat → Int32) (att : Int32) (isw : Int32) (rdd : Nat → Int32) (rmy : Int32) (c : Nat → Int32) (hS : SR c ss) : g_M l yX6_plans wsX6_plans rm_X6_plans D cI cC [.ref q0] (rW cI cC q0 q1 q2 q3 q4 q5 q6 q7 q8 q9 q10 q11 th ss asd sts sm snp hx tx lgt can szs ptn nms pth att isw rdd rmy) (fun vv ww => ∃ (nms2 : Nat → Int32) (pth2 : Nat → Int32), vv = none ∧ ww = (rW cI cC q0 q1 q2 q3 q4 q5 q6 q7 q8 q9 q10 q11 th ss asd sts sm snp hx tx lgt can szs ptn nms2 pth2 att isw rdd rmy) ∧ ap nms2 (PLn (poC c) 64)) := by
  refine g_entry (lv := [(0, .ref q0)]) (own := RX6) (by decide) rfl rfl (Nat.le_of_ble_eq_true rfl) rfl ?_
  intro p e s m args below meth co A Q C hr hQ
  refine g_ws (ws' := (rW cI cC q0 q1 q2 q3 q4 q5 q6 q7 q8 q9 q10 q11 th ss asd sts sm snp hx tx lgt can szs ptn (fillF nms (-5) 0) pth att isw rdd rmy)) (by rw [fillF_0]) ?_
  refine g_iconst (pc := 0) (v := nI 0) C dX6_plans_0 (by decide) ?_
  refine g_istore_n (pc := 1) (lv' := [(1, .int (nI 0)), (0, .ref q0)]) C dX6_plans_1 rfl (by decide) rfl ?_
  have L2 : ∀ (NZ : Nat) (i : Nat), 64 - i < NZ → (i ≤ 64) → g_J p l e rm_X6_plans s m args below meth co Q D A 5 0 0 (rW cI cC q0 q1 q2 q3 q4 q5 q6 q7 q8 q9 q10 q11 th ss asd sts sm snp hx tx lgt can szs ptn (fillF nms (-5) i) pth att isw rdd rmy) 2 [(0, .ref q0), (1, .int (nI i))] [] := by
    intro NZ
    induction NZ with
    | zero => intro i hN; exact absurd hN (Nat.not_lt_zero _)
    | succ NZ ih2 =>
      intro i hN2 hi
      refine g_iload_n (pc := 2) C dX6_plans_2 1 rfl rfl ?_
      refine g_bipush (pc := 3) (v := nI 64) C dX6_plans_3 (by decide) ?_
      refine g_icmp_geN (pc := 5) C 22 (by omega) (by omega) dX6_plans_5 (by decide) (fun c5 => ?_) (fun c5 => ?_)
      · refine g_iconst (pc := 22) (v := nI 0) C dX6_plans_22 (by decide) ?_
        refine g_istore_n (pc := 23) (lv' := [(1, .int (nI 0)), (0, .ref q0)]) C dX6_plans_23 rfl (by decide) rfl ?_
        have L24 : ∀ (NZ : Nat) (k : Nat) (nms1 : Nat → Int32) (pth1 : Nat → Int32), 64 - k < NZ → (k ≤ 64) → (ap nms1 (PLn (poC c) k)) → g_J p l e rm_X6_plans s m args below meth co Q D A 5 0 0 (rW cI cC q0 q1 q2 q3 q4 q5 q6 q7 q8 q9 q10 q11 th ss asd sts sm snp hx tx lgt can szs ptn nms1 pth1 att isw rdd rmy) 24 [(0, .ref q0), (1, .int (nI k))] [] := by
          intro NZ
          induction NZ with
          | zero => intro k nms1 pth1 hN; exact absurd hN (Nat.not_lt_zero _)
          | succ NZ ih24 =>
            intro k nms1 pth1 hN24 hk hA1
            refine g_iload_n (pc := 24) C dX6_plans_24 1 rfl rfl ?_
            refine g_bipush (pc := 25) (v := nI 64) C dX6_plans_25 (by decide) ?_
            refine g_icmp_geN (pc := 27) C 97 (by omega) (by omega) dX6_plans_27 (by decide) (fun c27 => ?_) (fun c27 => ?_)
            · exact g_vret C hr hQ dX6_plans_97 rfl ⟨_, _, rfl, rfl, by rw [← show k = 64 by omega]; exact hA1⟩
            · refine g_iload_n (pc := 30) C dX6_plans_30 1 rfl rfl ?_
              refine g_bipush (pc := 31) (v := nI 8) C dX6_plans_31 (by decide) ?_
              refine g_idivN (pc := 33) C dX6_plans_33 (by omega) (by omega) (by omega) ?_
              refine g_istore_n (pc := 34) (lv' := [(2, .int (nI (k / 8))), (0, .ref q0), (1, .int (nI k))]) C dX6_plans_34 rfl (by decide) rfl ?_
              refine g_iload_n (pc := 35) C dX6_plans_35 2 rfl rfl ?_
              refine g_bipush (pc := 36) (v := nI 8) C dX6_plans_36 (by decide) ?_
              refine g_iremN (pc := 38) C dX6_plans_38 (by omega) (by omega) (by omega) ?_
              refine g_istore_n (pc := 39) (lv' := [(3, .int (nI (k % 8))), (2, .int (nI (k / 8))), (0, .ref q0), (1, .int (nI k))]) C dX6_plans_39 rfl (by decide) rfl ?_
              refine g_aload_n (pc := 40) C dX6_plans_40 2 rfl rfl ?_
              refine g_iload_n (pc := 41) C dX6_plans_41 1 rfl rfl ?_
              refine g_iload_n (pc := 42) C dX6_plans_42 0 rfl rfl ?_
              refine g_callV (pc := 43) (st := []) (As := [.int (nI (k / 8)), .int (nI (k % 8))]) (nn := 2) (ci := 6) (q0 := 0) C (m_X6_isPossible l D cI cC q0 q1 q2 q3 q4 q5 q6 q7 q8 q9 q10 q11 th ss asd sts sm snp hx tx lgt can szs ptn nms1 pth1 att isw rdd rmy c (k / 8) (k % 8) (by first | assumption | omega) (by first | assumption | omega) (by first | assumption | omega)) gX6_plans_X6_isPossible rfl rfl rfl yd_X6_isPossible ⟨Nat.le_of_ble_eq_true rfl, Nat.le_of_ble_eq_true rfl⟩ rfl [0, 1, 2, 3, 4, 5, 6, 7, 8, 9, 10, 11] rfl rfl rfl rfl rfl (Nat.le_of_ble_eq_true rfl) ⟨Nat.le_of_ble_eq_true rfl, Nat.le_of_ble_eq_true rfl⟩ dX6_plans_43 ?_
              rintro _ _ ⟨rfl, rfl⟩
              refine g_eq (ws' := (rW cI cC q0 q1 q2 q3 q4 q5 q6 q7 q8 q9 q10 q11 th ss asd sts sm snp hx tx lgt can szs ptn nms1 pth1 att isw rdd rmy)) (st' := [.int (bI (poC c (k / 8) (k % 8)))]) rfl rfl ?_
              refine g_if_eqB (pc := 46) C 91 dX6_plans_46 (by decide) (fun c46 => ?_) (fun c46 => ?_)
              · refine g_iinc (pc := 91) (lv' := [(1, .int (nI (k + 1))), (3, .int (nI (k % 8))), (2, .int (nI (k / 8))), (0, .ref q0)]) C dX6_plans_91 3 rfl (nI_add k 1) (by decide) rfl ?_
                refine g_goto (pc := 94) C 24 dX6_plans_94 (by decide) ?_
                refine g_lvp (lv' := [(0, .ref q0), (1, .int (nI (k + 1)))]) [3, 0] rfl ?_
                exact ih24 (k + 1) nms1 pth1 (by omega) (by first | assumption | omega) (by rw [PLn_f c46]; exact hA1)
              · have hP := (PLn_ok (poC c) k (by omega)).1
                have hz : (PLn (poC c) k) (8 * (k / 8) + k % 8) = none := (PLn_ok (poC c) k (by omega)).2 _ (by omega) (by omega)
                have ha8 : lfr (PLn (poC c) k) (rwf (k / 8)) < 8 := lfr_lt (z := k % 8) (by omega) hz
                have hb8 : lfr (PLn (poC c) k) (clf (k % 8)) < 8 := lfr_lt (z := k / 8) (by omega) hz
                have fb := lfr_free (N := (PLn (poC c) k)) (f := clf (k % 8)) (fun o c2 ho e => hP.1 _ c2 (by simp only [clf]; omega) e)
                refine g_aload_n (pc := 49) C dX6_plans_49 2 rfl rfl ?_
                refine g_iconst (pc := 50) (v := nI 1) C dX6_plans_50 (by decide) ?_
                refine g_iload_n (pc := 51) C dX6_plans_51 1 rfl rfl ?_
                refine g_callV (pc := 52) (st := []) (As := [.int (bI true), .int (nI (k / 8))]) (nn := 2) (ci := 6) (q0 := 0) C (m_X6_leastFree l D cI cC q0 q1 q2 q3 q4 q5 q6 q7 q8 q9 q10 q11 th ss asd sts sm snp hx tx lgt can szs ptn nms1 pth1 att isw rdd rmy (PLn (poC c) k) true (k / 8) (hA1) (hP.1) (by omega) (ha8)) gX6_plans_X6_leastFree rfl rfl rfl yd_X6_leastFree ⟨Nat.le_of_ble_eq_true rfl, Nat.le_of_ble_eq_true rfl⟩ rfl [0, 1, 2, 3, 4, 5, 6, 7, 8, 9, 10, 11] rfl rfl rfl rfl rfl (Nat.le_of_ble_eq_true rfl) ⟨Nat.le_of_ble_eq_true rfl, Nat.le_of_ble_eq_true rfl⟩ dX6_plans_52 ?_
                rintro _ _ ⟨rfl, rfl⟩
                refine g_eq (ws' := (rW cI cC q0 q1 q2 q3 q4 q5 q6 q7 q8 q9 q10 q11 th ss asd sts sm snp hx tx lgt can szs ptn nms1 pth1 att isw rdd rmy)) (st' := [.int (nI (lfr (PLn (poC c) k) (fq true (k / 8))))]) rfl rfl ?_
                refine g_top (y := nI (lfr (PLn (poC c) k) (rwf (k / 8)))) (rfl) ?_
                refine g_istore (pc := 55) (lv' := [(4, .int (nI (lfr (PLn (poC c) k) (rwf (k / 8))))), (3, .int (nI (k % 8))), (2, .int (nI (k / 8))), (0, .ref q0), (1, .int (nI k))]) C dX6_plans_55 (by decide) rfl ?_
                refine g_aload_n (pc := 57) C dX6_plans_57 3 rfl rfl ?_
                refine g_iconst (pc := 58) (v := nI 0) C dX6_plans_58 (by decide) ?_
                refine g_iload_n (pc := 59) C dX6_plans_59 1 rfl rfl ?_
                refine g_iload (pc := 60) C dX6_plans_60 0 rfl ?_
                refine g_callV (pc := 62) (st := []) (As := [.int (bI false), .int (nI (k % 8)), .int (nI (lfr (PLn (poC c) k) (rwf (k / 8))))]) (nn := 3) (ci := 6) (q0 := 0) C (m_X6_wishWith l D cI cC q0 q1 q2 q3 q4 q5 q6 q7 q8 q9 q10 q11 th ss asd sts sm snp hx tx lgt can szs ptn nms1 pth1 att isw rdd rmy (PLn (poC c) k) false (k % 8) (lfr (PLn (poC c) k) (rwf (k / 8))) (hA1) (hP.1) (by omega) (by first | assumption | omega)) gX6_plans_X6_wishWith rfl rfl rfl yd_X6_wishWith ⟨Nat.le_of_ble_eq_true rfl, Nat.le_of_ble_eq_true rfl⟩ rfl [0, 1, 2, 3, 4, 5, 6, 7, 8, 9, 10, 11] rfl rfl rfl rfl rfl (Nat.le_of_ble_eq_true rfl) ⟨Nat.le_of_ble_eq_true rfl, Nat.le_of_ble_eq_true rfl⟩ dX6_plans_62 ?_
                rintro _ _ ⟨rfl, rfl⟩
                refine g_eq (ws' := (rW cI cC q0 q1 q2 q3 q4 q5 q6 q7 q8 q9 q10 q11 th ss asd sts sm snp hx tx lgt can szs ptn nms1 pth1 att isw rdd rmy)) (st' := [.int (pI ((fnd (PLn (poC c) k) (fq false (k % 8)) (lfr (PLn (poC c) k) (rwf (k / 8)))).map (fq false (k % 8))))]) rfl rfl ?_
                refine g_top (y := (pI ((fnd (PLn (poC c) k) (clf (k % 8)) (lfr (PLn (poC c) k) (rwf (k / 8)))).map (clf (k % 8))))) (rfl) ?_
                refine g_bipush (pc := 65) (v := (-5)) C dX6_plans_65 (by decide) ?_
                refine g_icmp_eq (pc := 67) C 83 dX6_plans_67 (by decide) (fun c67 => ?_) (fun c67 => ?_)
                · have fn := map_m5 (fun o ho => by simp only [clf]; omega) c67
                  refine g_aload_n (pc := 83) C dX6_plans_83 3 rfl rfl ?_
                  refine g_get (pc := 84) (ci := 6) (T := TX6) (N := 18) (v := .ref q9) C in_X6_plans_X6 0 rfl rfl 12 (by decide) fl_X6_plans_34 rfl rfl dX6_plans_84 ?_
                  refine g_iload_n (pc := 87) C dX6_plans_87 4 rfl rfl ?_
                  refine g_iload (pc := 88) C dX6_plans_88 0 rfl ?_
                  refine g_iastN (pc := 90) (f := nms1) (ws' := (rW cI cC q0 q1 q2 q3 q4 q5 q6 q7 q8 q9 q10 q11 th ss asd sts sm snp hx tx lgt can szs ptn (upd nms1 k (nI (lfr (PLn (poC c) k) (rwf (k / 8))))) pth1 att isw rdd rmy)) C 9 rfl (by omega) (by decide) dX6_plans_90 rfl ?_
                  refine g_iinc (pc := 91) (lv' := [(1, .int (nI (k + 1))), (4, .int (nI (lfr (PLn (poC c) k) (rwf (k / 8))))), (3, .int (nI (k % 8))), (2, .int (nI (k / 8))), (0, .ref q0)]) C dX6_plans_91 4 rfl (nI_add k 1) (by decide) rfl ?_
                  refine g_goto (pc := 94) C 24 dX6_plans_94 (by decide) ?_
                  refine g_lvp (lv' := [(0, .ref q0), (1, .int (nI (k + 1)))]) [4, 0] rfl ?_
                  exact ih24 (k + 1) (upd nms1 k (nI (lfr (PLn (poC c) k) (rwf (k / 8))))) pth1 (by omega) (by first | assumption | omega) (by rw [PLn_t c46, stp_n fn]; exact ap_k hA1 rfl (by omega))
                · obtain ⟨z, ez⟩ := map_n5 c67
                  refine g_aload_n (pc := 70) C dX6_plans_70 3 rfl rfl ?_
                  refine g_iload_n (pc := 71) C dX6_plans_71 1 rfl rfl ?_
                  refine g_iload (pc := 72) C dX6_plans_72 0 rfl ?_
                  refine g_aload_n (pc := 74) C dX6_plans_74 3 rfl rfl ?_
                  refine g_iconst (pc := 75) (v := nI 0) C dX6_plans_75 (by decide) ?_
                  refine g_iload_n (pc := 76) C dX6_plans_76 1 rfl rfl ?_
                  refine g_callV (pc := 77) (st := [.int (nI (lfr (PLn (poC c) k) (rwf (k / 8)))), .int (nI (k % 8)), .ref q0]) (As := [.int (bI false), .int (nI (k % 8))]) (nn := 2) (ci := 6) (q0 := 0) C (m_X6_leastFree l D cI cC q0 q1 q2 q3 q4 q5 q6 q7 q8 q9 q10 q11 th ss asd sts sm snp hx tx lgt can szs ptn nms1 pth1 att isw rdd rmy (PLn (poC c) k) false (k % 8) (hA1) (hP.1) (by omega) (hb8)) gX6_plans_X6_leastFree rfl rfl rfl yd_X6_leastFree ⟨Nat.le_of_ble_eq_true rfl, Nat.le_of_ble_eq_true rfl⟩ rfl [0, 1, 2, 3, 4, 5, 6, 7, 8, 9, 10, 11] rfl rfl rfl rfl rfl (Nat.le_of_ble_eq_true rfl) ⟨Nat.le_of_ble_eq_true rfl, Nat.le_of_ble_eq_true rfl⟩ dX6_plans_77 ?_
                  rintro _ _ ⟨rfl, rfl⟩
                  refine g_eq (ws' := (rW cI cC q0 q1 q2 q3 q4 q5 q6 q7 q8 q9 q10 q11 th ss asd sts sm snp hx tx lgt can szs ptn nms1 pth1 att isw rdd rmy)) (st' := [.int (nI (lfr (PLn (poC c) k) (fq false (k % 8)))), .int (nI (lfr (PLn (poC c) k) (rwf (k / 8)))), .int (nI (k % 8)), .ref q0]) rfl rfl ?_
                  refine g_top (y := nI (lfr (PLn (poC c) k) (clf (k % 8)))) (rfl) ?_
                  refine g_callV (pc := 80) (st := []) (As := [.int (nI (k % 8)), .int (nI (lfr (PLn (poC c) k) (rwf (k / 8)))), .int (nI (lfr (PLn (poC c) k) (clf (k % 8))))]) (nn := 3) (ci := 6) (q0 := 0) C (m_X6_changes l D cI cC q0 q1 q2 q3 q4 q5 q6 q7 q8 q9 q10 q11 th ss asd sts sm snp hx tx lgt can szs ptn nms1 pth1 att isw rdd rmy (PLn (poC c) k) (k % 8) (lfr (PLn (poC c) k) (rwf (k / 8))) (lfr (PLn (poC c) k) (clf (k % 8))) (hA1) (hP) (by omega) (by first | assumption | omega) (by first | assumption | omega) (fun e => by rw [e] at ez; rw [fb] at ez; cases ez) (fun w hw hw2 e => by have h9 := fnd_none fb (o := w / 8) (by omega); simp only [clf] at h9; rw [show 8 * (w / 8) + k % 8 = w by omega] at h9; exact h9 e)) gX6_plans_X6_changes rfl rfl rfl yd_X6_changes ⟨Nat.le_of_ble_eq_true rfl, Nat.le_of_ble_eq_true rfl⟩ rfl [0, 1, 2, 3, 4, 5, 6, 7, 8, 9, 10, 11] rfl rfl rfl rfl rfl (Nat.le_of_ble_eq_true rfl) ⟨Nat.le_of_ble_eq_true rfl, Nat.le_of_ble_eq_true rfl⟩ dX6_plans_80 ?_
                  rintro _ _ ⟨nms3, pth3, rfl, rfl, v1⟩
                  refine g_eq (ws' := (rW cI cC q0 q1 q2 q3 q4 q5 q6 q7 q8 q9 q10 q11 th ss asd sts sm snp hx tx lgt can szs ptn nms3 pth3 att isw rdd rmy)) (st' := []) rfl rfl ?_
                  refine g_aload_n (pc := 83) C dX6_plans_83 3 rfl rfl ?_
                  refine g_get (pc := 84) (ci := 6) (T := TX6) (N := 18) (v := .ref q9) C in_X6_plans_X6 0 rfl rfl 12 (by decide) fl_X6_plans_34 rfl rfl dX6_plans_84 ?_
                  refine g_iload_n (pc := 87) C dX6_plans_87 4 rfl rfl ?_
                  refine g_iload (pc := 88) C dX6_plans_88 0 rfl ?_
                  refine g_iastN (pc := 90) (f := nms3) (ws' := (rW cI cC q0 q1 q2 q3 q4 q5 q6 q7 q8 q9 q10 q11 th ss asd sts sm snp hx tx lgt can szs ptn (upd nms3 k (nI (lfr (PLn (poC c) k) (rwf (k / 8))))) pth3 att isw rdd rmy)) C 9 rfl (by omega) (by decide) dX6_plans_90 rfl ?_
                  refine g_iinc (pc := 91) (lv' := [(1, .int (nI (k + 1))), (4, .int (nI (lfr (PLn (poC c) k) (rwf (k / 8))))), (3, .int (nI (k % 8))), (2, .int (nI (k / 8))), (0, .ref q0)]) C dX6_plans_91 4 rfl (nI_add k 1) (by decide) rfl ?_
                  refine g_goto (pc := 94) C 24 dX6_plans_94 (by decide) ?_
                  refine g_lvp (lv' := [(0, .ref q0), (1, .int (nI (k + 1)))]) [4, 0] rfl ?_
                  exact ih24 (k + 1) (upd nms3 k (nI (lfr (PLn (poC c) k) (rwf (k / 8))))) pth3 (by omega) (by first | assumption | omega) (by rw [PLn_t c46, stp_s ez]; exact ap_k v1 rfl (by omega))
        refine g_lvp (lv' := [(0, .ref q0), (1, .int (nI 0))]) [1, 0] rfl ?_
        exact L24 _ 0 (fillF nms (-5) i) pth (Nat.lt_succ_self _) (by first | assumption | omega) (fun j hj => fillF_in (by omega))
      · refine g_aload_n (pc := 8) C dX6_plans_8 0 rfl rfl ?_
        refine g_get (pc := 9) (ci := 6) (T := TX6) (N := 18) (v := .ref q9) C in_X6_plans_X6 0 rfl rfl 12 (by decide) fl_X6_plans_34 rfl rfl dX6_plans_9 ?_
        refine g_iload_n (pc := 12) C dX6_plans_12 1 rfl rfl ?_
        refine g_bipush (pc := 13) (v := (-5)) C dX6_plans_13 (by decide) ?_
        refine g_iastN (pc := 15) (f := (fillF nms (-5) i)) (ws' := (rW cI cC q0 q1 q2 q3 q4 q5 q6 q7 q8 q9 q10 q11 th ss asd sts sm snp hx tx lgt can szs ptn (upd (fillF nms (-5) i) i ((-5))) pth att isw rdd rmy)) C 9 rfl (by omega) (by decide) dX6_plans_15 rfl ?_
        refine g_iinc (pc := 16) (lv' := [(1, .int (nI (i + 1))), (0, .ref q0)]) C dX6_plans_16 1 rfl (nI_add i 1) (by decide) rfl ?_
        refine g_goto (pc := 19) C 2 dX6_plans_19 (by decide) ?_
        refine g_ws (ws' := (rW cI cC q0 q1 q2 q3 q4 q5 q6 q7 q8 q9 q10 q11 th ss asd sts sm snp hx tx lgt can szs ptn (fillF nms (-5) (i + 1)) pth att isw rdd rmy)) (by rw [fillF_s]) ?_
        refine g_lvp (lv' := [(0, .ref q0), (1, .int (nI (i + 1)))]) [1, 0] rfl ?_
        exact ih2 (i + 1) (by omega) (by first | assumption | omega)
  refine g_lvp (lv' := [(0, .ref q0), (1, .int (nI 0))]) [1, 0] rfl ?_
  exact L2 _ 0 (Nat.lt_succ_self _) (by first | assumption | omega)

abbrev rm_X6_planned : Room := { frames := 4, cells := 0, slots := 0, locals := 90 }
theorem yd_X6_planned : yX6_planned.cls = RX6 ∧ yX6_planned.cls ≠ "java/lang/invoke/MethodHandle" ∧ yX6_planned.cls ≠ "java/lang/invoke/VarHandle" ∧ (parseMethodDescriptor yX6_planned.desc).map (fun d => d.parameters.length) = some 2 := by decide +kernel
theorem in_X6_planned_X6 : ∀ w ∈ u_ws RX6 TX6 18, w ∈ wsX6_planned := by decide +kernel
theorem fl_X6_planned_34 : Cond.fieldLink RX6 34 "FenceHandshakesModel" "numbers" "[I" ∈ wsX6_planned := by decide +kernel
theorem fl_X6_planned_43 : Cond.fieldLink RX6 43 "FenceHandshakesModel" "thrown" "I" ∈ wsX6_planned := by decide +kernel
set_option maxHeartbeats 4000000 in
set_option maxRecDepth 100000 in
theorem m_X6_planned (l : Launch) (D : va_G) (cI cC : ClassId) (q0 q1 q2 q3 q4 q5 q6 q7 q8 q9 q10 q11 : Nat) (th : Int32) (ss : Nat → Int32) (asd : Nat → Int32) (sts : Nat → Int32) (sm : Int32) (snp : Nat → Int32) (hx : Int32) (tx : Nat → Int32) (lgt : Int32) (can : Nat → Int32) (szs : Nat → Int32) (ptn : Nat → Int32) (nms : Nat → Int32) (pth : Nat → Int32) (att : Int32) (isw : Int32) (rdd : Nat → Int32) (rmy : Int32) (c : Nat → Int32) (x : Int32) (y : Int32) (hS : SR c ss) : g_M l yX6_planned wsX6_planned rm_X6_planned D cI cC [.ref q0, .int x, .int y] (rW cI cC q0 q1 q2 q3 q4 q5 q6 q7 q8 q9 q10 q11 th ss asd sts sm snp hx tx lgt can szs ptn nms pth att isw rdd rmy) (fun vv ww => ∃ (nms2 : Nat → Int32) (pth2 : Nat → Int32), vv = some (.int (plV c x y)) ∧ ww = (rW cI cC q0 q1 q2 q3 q4 q5 q6 q7 q8 q9 q10 q11 (nI 0) ss asd sts sm snp hx tx lgt can szs ptn nms2 pth2 att isw rdd rmy)) := by
  refine g_entry (lv := [(0, .ref q0), (1, .int x), (2, .int y)]) (own := RX6) (by decide) rfl rfl (Nat.le_of_ble_eq_true rfl) rfl ?_
  intro p e s m args below meth co A Q C hr hQ
  refine g_aload_n (pc := 0) C dX6_planned_0 0 rfl rfl ?_
  refine g_iconst (pc := 1) (v := nI 0) C dX6_planned_1 (by decide) ?_
  refine g_put (pc := 2) (ci := 6) (T := TX6) (N := 18) (ws' := (rW cI cC q0 q1 q2 q3 q4 q5 q6 q7 q8 q9 q10 q11 (nI 0) ss asd sts sm snp hx tx lgt can szs ptn nms pth att isw rdd rmy)) (ty := .int) (v := .int (nI 0)) C in_X6_planned_X6 tyX6 tyX6_ok nmX6 0 rfl rfl 0 (by decide) fl_X6_planned_43 rfl rfl (by decide +kernel) rfl rfl (Nat.le_of_ble_eq_true rfl) dX6_planned_2 rfl ?_
  refine g_iload_n (pc := 5) C dX6_planned_5 1 rfl rfl ?_
  refine g_iload_n (pc := 6) C dX6_planned_6 2 rfl rfl ?_
  refine g_callS (pc := 7) (st := []) (As := [.int x, .int y]) (nn := 2) C (m_X6_isPair l D cI cC x y) gX6_planned_X6_isPair rfl rfl rfl yd_X6_isPair.2 ⟨Nat.le_of_ble_eq_true rfl, Nat.le_of_ble_eq_true rfl⟩ rfl [] rfl rfl rfl (Nat.le_of_ble_eq_true rfl) ⟨Nat.le_of_ble_eq_true rfl, Nat.le_of_ble_eq_true rfl⟩ dX6_planned_7 ?_
  rintro _ _ ⟨rfl, rfl⟩
  refine g_eq (ws' := (rW cI cC q0 q1 q2 q3 q4 q5 q6 q7 q8 q9 q10 q11 (nI 0) ss asd sts sm snp hx tx lgt can szs ptn nms pth att isw rdd rmy)) (st' := [.int (bI (two x y))]) rfl rfl ?_
  refine g_if_neB (pc := 10) C 15 dX6_planned_10 (by decide) (fun c10 => ?_) (fun c10 => ?_)
  · obtain ⟨a, b, ha, hb, ex, ey, px, py⟩ := two_ex c10
    refine g_lveq (lv' := [(0, .ref q0), (1, .int (nI a)), (2, .int y)]) (by rw [ex]) ?_
    refine g_lveq (lv' := [(0, .ref q0), (1, .int (nI a)), (2, .int (nI b))]) (by rw [ey]) ?_
    refine g_aload_n (pc := 15) C dX6_planned_15 0 rfl rfl ?_
    refine g_callV (pc := 16) (st := []) (As := []) (nn := 0) (ci := 6) (q0 := 0) C (m_X6_plans l D cI cC q0 q1 q2 q3 q4 q5 q6 q7 q8 q9 q10 q11 (nI 0) ss asd sts sm snp hx tx lgt can szs ptn nms pth att isw rdd rmy c (by first | assumption | omega)) gX6_planned_X6_plans rfl rfl rfl yd_X6_plans ⟨Nat.le_of_ble_eq_true rfl, Nat.le_of_ble_eq_true rfl⟩ rfl [0, 1, 2, 3, 4, 5, 6, 7, 8, 9, 10, 11] rfl rfl rfl rfl rfl (Nat.le_of_ble_eq_true rfl) ⟨Nat.le_of_ble_eq_true rfl, Nat.le_of_ble_eq_true rfl⟩ dX6_planned_16 ?_
    rintro _ _ ⟨nms3, pth3, rfl, rfl, v1⟩
    refine g_eq (ws' := (rW cI cC q0 q1 q2 q3 q4 q5 q6 q7 q8 q9 q10 q11 (nI 0) ss asd sts sm snp hx tx lgt can szs ptn nms3 pth3 att isw rdd rmy)) (st' := []) rfl rfl ?_
    refine g_aload_n (pc := 19) C dX6_planned_19 0 rfl rfl ?_
    refine g_get (pc := 20) (ci := 6) (T := TX6) (N := 18) (v := .ref q9) C in_X6_planned_X6 0 rfl rfl 12 (by decide) fl_X6_planned_34 rfl rfl dX6_planned_20 ?_
    refine g_bipush (pc := 23) (v := nI 8) C dX6_planned_23 (by decide) ?_
    refine g_iload_n (pc := 25) C dX6_planned_25 1 rfl rfl ?_
    refine g_imulN (pc := 26) C dX6_planned_26 ?_
    refine g_iload_n (pc := 27) C dX6_planned_27 2 rfl rfl ?_
    refine g_iaddN (pc := 28) C dX6_planned_28 ?_
    refine g_ialdN (pc := 29) (f := nms3) C 9 rfl (by omega) (by decide) dX6_planned_29 ?_
    refine g_top (y := (plV c x y)) (by rw [plV, c10, px, py]; exact v1 _ (by omega)) ?_
    exact g_iret C hr hQ dX6_planned_30 rfl ⟨_, _, rfl, rfl⟩
  · refine g_iconst (pc := 13) (v := (-1)) C dX6_planned_13 (by decide) ?_
    refine g_top (y := (plV c x y)) (by rw [plV, c10]; rfl) ?_
    exact g_iret C hr hQ dX6_planned_14 rfl ⟨_, _, rfl, rfl⟩
