def ap (nb : Nat → Int32) (N : Nat → Option Nat) : Prop := ∀ k, k < 64 → nb k = pI (N k)
theorem ap_upd {nb : Nat → Int32} {N : Nat → Option Nat} {k : Nat} {v : Option Nat} {x : Int32} (h : ap nb N) (hx : x = pI v) : ap (upd nb k x) (oset N k v) := by
  intro a ha
  by_cases q : a = k
  · subst q; rw [upd_eq, oset_eq]; exact hx
  · rw [upd_ne q, oset_ne q]; exact h a ha
def b8 (N : Nat → Option Nat) : Prop := ∀ w c, w < 64 → N w = some c → c < 8
theorem fnd_at {N : Nat → Option Nat} {f : Nat → Nat} {c i : Nat} (hi : i < 8) (h : N (f i) = some c) (hf : ∀ j, j < i → N (f j) ≠ some c) : fnd N f c = some i := (fstU_some _ 8 i).mpr ⟨hi, decide_eq_true h, fun j hj => decide_eq_false (hf j hj)⟩
theorem fnd_no {N : Nat → Option Nat} {f : Nat → Nat} {c : Nat} (hf : ∀ j, j < 8 → N (f j) ≠ some c) : fnd N f c = none := (fstU_none _ 8).mpr (fun j hj => decide_eq_false (hf j hj))
theorem fnd_cong {N M : Nat → Option Nat} {f : Nat → Nat} {c : Nat} (h : ∀ o, o < 8 → N (f o) = M (f o)) : fnd N f c = fnd M f c := fstU_cong 8 (fun k hk => by rw [h k hk])
theorem FLn_b8 {N : Nat → Option Nat} {a b r m : Nat} (hN : b8 N) (ha : a < 8) (hb : b < 8) : b8 (FLn N a b r m) := by
  intro w c hw e
  by_cases q : ∃ n, n < m ∧ pe N a b r n = some w
  · obtain ⟨n, h1, h2⟩ := q
    rw [FLn_in h1 h2] at e
    split at e <;> cases e <;> assumption
  · rw [FLn_out (fun n h1 h2 => q ⟨n, h1, h2⟩)] at e
    exact hN w c hw e
theorem FLn_row {N : Nat → Option Nat} {a b r s x y o : Nat} (hN : PR N) (hr : r < 8) (hab : a ≠ b) (hb : ∀ w, w < 64 → w % 8 = r → N w ≠ some b) (hx : x < 8) (hy : y < 8) (h : pe N a b r (2 * s) = some (8 * x + y)) (ho : o < 8) : FLn N a b r (2 * s) (8 * x + o) = N (8 * x + o) := by
  refine FLn_out (fun n hn e => ?_)
  obtain ⟨g1, g2⟩ := pe_prop hr _ _ h
  rw [pcol, if_pos (by omega)] at g2
  obtain ⟨g3, g4⟩ := pe_prop hr _ _ e
  by_cases p : n % 2 = 0
  · rw [pcol, if_pos p] at g4
    have := hN.2 _ _ a g1 g3 g2 g4 (Or.inl (by omega))
    rw [← this] at e
    exact pe_inj hN hr hab hb n (2 * s) _ hn e h
  · obtain ⟨m, rfl⟩ : ∃ m, n = m + 1 := ⟨n - 1, by omega⟩
    obtain ⟨w0, q1, q2, q3⟩ := pe_prev hr e
    obtain ⟨k1, k2⟩ := pe_prop hr m w0 q1
    rw [pcol, if_pos (by omega)] at k2
    have := q2 (by omega)
    have := hN.2 _ _ a g1 k1 g2 k2 (Or.inl (by omega))
    rw [← this] at q1
    exact pe_inj hN hr hab hb m (2 * s) _ (by omega) q1 h
theorem FLn_col {N : Nat → Option Nat} {a b r s x y o : Nat} (hN : PR N) (hr : r < 8) (hab : a ≠ b) (hb : ∀ w, w < 64 → w % 8 = r → N w ≠ some b) (hx : x < 8) (hy : y < 8) (h : pe N a b r (2 * s + 1) = some (8 * x + y)) (ho : o < 8) : FLn N a b r (2 * s + 1) (8 * o + y) = N (8 * o + y) := by
  refine FLn_out (fun n hn e => ?_)
  obtain ⟨g1, g2⟩ := pe_prop hr _ _ h
  rw [pcol, if_neg (by omega)] at g2
  obtain ⟨g3, g4⟩ := pe_prop hr _ _ e
  by_cases p : n % 2 = 0
  · cases n with
    | zero =>
      have := pe_0 hr e
      exact hb _ g1 (by omega) g2
    | succ m =>
      obtain ⟨w0, q1, q2, q3⟩ := pe_prev hr e
      obtain ⟨k1, k2⟩ := pe_prop hr m w0 q1
      rw [pcol, if_neg (by omega)] at k2
      have := q3 (by omega)
      have := hN.2 _ _ b g1 k1 g2 k2 (Or.inr (by omega))
      rw [← this] at q1
      exact pe_inj hN hr hab hb m (2 * s + 1) _ (by omega) q1 h
  · rw [pcol, if_neg p] at g4
    have := hN.2 _ _ b g1 g3 g2 g4 (Or.inr (by omega))
    rw [← this] at e
    exact pe_inj hN hr hab hb n (2 * s + 1) _ hn e h
theorem pe_odd {N : Nat → Option Nat} {a b r s x y : Nat} (hx : x < 8) (hy : y < 8) (h : pe N a b r (2 * s) = some (8 * x + y)) : pe N a b r (2 * s + 1) = (fnd N (rwf x) b).map (rwf x) := by
  simp only [pe, h]
  rw [if_pos (by omega), show (8 * x + y) / 8 = x by omega]
theorem pe_succ (N : Nat → Option Nat) (a b r n : Nat) : pe N a b r (n + 1) = match pe N a b r n with | none => none | some w => if n % 2 = 0 then (fnd N (rwf (w / 8)) b).map (rwf (w / 8)) else (fnd N (clf (w % 8)) a).map (clf (w % 8)) := rfl
theorem pe_even {N : Nat → Option Nat} {a b r s x y : Nat} (hx : x < 8) (hy : y < 8) (h : pe N a b r (2 * s + 1) = some (8 * x + y)) : pe N a b r (2 * (s + 1)) = (fnd N (clf y) a).map (clf y) := by
  rw [show 2 * (s + 1) = (2 * s + 1) + 1 by omega, pe_succ, h]
  show (if (2 * s + 1) % 2 = 0 then _ else _) = _
  rw [if_neg (by omega), show (8 * x + y) % 8 = y by omega]
theorem ap_flip1 {nb : Nat → Int32} {N : Nat → Option Nat} {a b r s w : Nat} (hr : r < 8) (hA : ap nb (FLn N a b r (2 * s))) (h : pe N a b r (2 * s) = some w) : ap (upd nb w (nI b)) (FLn N a b r (2 * s + 1)) := by
  rw [FLn_s h]
  have := (pe_prop hr _ _ h).2
  rw [pcol, if_pos (by omega)] at this
  exact ap_upd hA (by rw [if_pos this]; rfl)
theorem ap_flip2 {nb : Nat → Int32} {N : Nat → Option Nat} {a b r s w : Nat} (hr : r < 8) (hab : a ≠ b) (hA : ap nb (FLn N a b r (2 * s + 1))) (h : pe N a b r (2 * s + 1) = some w) : ap (upd nb w (nI a)) (FLn N a b r (2 * (s + 1))) := by
  rw [show 2 * (s + 1) = 2 * s + 1 + 1 by omega, FLn_s h]
  have := (pe_prop hr _ _ h).2
  rw [pcol, if_neg (by omega)] at this
  exact ap_upd hA (by rw [if_neg (fun e => by rw [this] at e; exact hab (Option.some.inj e).symm)]; rfl)
theorem PLn_s {E : Nat → Nat → Bool} {i j : Nat} (hi : i < 8) (hj : j < 8) : PLn E (8 * i + (j + 1)) = if E i j then stp (PLn E (8 * i + j)) i j else PLn E (8 * i + j) := by
  rw [show 8 * i + (j + 1) = (8 * i + j) + 1 by omega]
  simp only [PLn]
  rw [show (8 * i + j) / 8 = i by omega, show (8 * i + j) % 8 = j by omega]
theorem stp_s {N : Nat → Option Nat} {x y z : Nat} (h : fnd N (clf y) (lfr N (rwf x)) = some z) : stp N x y = oset (FL N (lfr N (rwf x)) (lfr N (clf y)) y) (8 * x + y) (some (lfr N (rwf x))) := by
  unfold stp; rw [h]; rfl
theorem stp_n {N : Nat → Option Nat} {x y : Nat} (h : fnd N (clf y) (lfr N (rwf x)) = none) : stp N x y = oset N (8 * x + y) (some (lfr N (rwf x))) := by
  unfold stp; rw [h]; rfl
theorem fnd_b {N : Nat → Option Nat} {f : Nat → Nat} {c : Nat} : ∀ r, fnd N f c = some r → r < 8 := fun _ h => (fnd_some h).1
abbrev plW (cI cC : ClassId) (h0 h1 : Nat) (nb : Nat → Int32) : va_W := [(h0, .inr (3, [.ref h1])), (h1, .inl (cI, 64, .inl nb))]
abbrev plcW (cI cC : ClassId) (h0 h1 k0 k1 : Nat) (nb : Nat → Int32) (c : Nat → Int32) : va_W := [(h0, .inr (3, [.ref h1])), (h1, .inl (cI, 64, .inl nb)), (k0, .inr (0, [.ref k1])), (k1, .inl (cI, 154, .inl c))]
abbrev rm_X3_numberOf : Room := { frames := 0, cells := 0, slots := 0, locals := 0 }
theorem yd_X3_numberOf : yX3_numberOf.cls = RX3 ∧ yX3_numberOf.cls ≠ "java/lang/invoke/MethodHandle" ∧ yX3_numberOf.cls ≠ "java/lang/invoke/VarHandle" ∧ (parseMethodDescriptor yX3_numberOf.desc).map (fun d => d.parameters.length) = some 2 := by decide +kernel
theorem in_X3_numberOf_X3 : ∀ w ∈ u_ws RX3 TX3 1, w ∈ wsX3_numberOf := by decide +kernel
theorem fl_X3_numberOf_9 : Cond.fieldLink RX3 9 "FenceHandshakes$Plan" "numbers" "[I" ∈ wsX3_numberOf := by decide +kernel
set_option maxHeartbeats 4000000 in
set_option maxRecDepth 100000 in
theorem m_X3_numberOf (l : Launch) (D : va_G) (cI cC : ClassId) (h0 h1 : Nat) (nb : Nat → Int32) (a : Nat) (b : Nat) (ha : a < 8) (hb : b < 8) : g_M l yX3_numberOf wsX3_numberOf rm_X3_numberOf D cI cC [.ref h0, .int (nI a), .int (nI b)] (plW cI cC h0 h1 nb) (fun vv ww => vv = some (.int (nb (8 * a + b))) ∧ ww = (plW cI cC h0 h1 nb)) := by
  refine g_entry (lv := [(0, .ref h0), (1, .int (nI a)), (2, .int (nI b))]) (own := RX3) (by decide) rfl rfl (Nat.le_of_ble_eq_true rfl) rfl ?_
  intro p e s m args below meth co A Q C hr hQ
  refine g_aload_n (pc := 0) C dX3_numberOf_0 0 rfl rfl ?_
  refine g_get (pc := 1) (ci := 3) (T := TX3) (N := 1) (v := .ref h1) C in_X3_numberOf_X3 0 rfl rfl 0 (by decide) fl_X3_numberOf_9 rfl rfl dX3_numberOf_1 ?_
  refine g_bipush (pc := 4) (v := nI 8) C dX3_numberOf_4 (by decide) ?_
  refine g_iload_n (pc := 6) C dX3_numberOf_6 1 rfl rfl ?_
  refine g_imulN (pc := 7) C dX3_numberOf_7 ?_
  refine g_iload_n (pc := 8) C dX3_numberOf_8 2 rfl rfl ?_
  refine g_iaddN (pc := 9) C dX3_numberOf_9 ?_
  refine g_ialdN (pc := 10) (f := nb) C 1 rfl (by omega) (by decide) dX3_numberOf_10 ?_
  refine g_top (y := (nb (8 * a + b))) (rfl) ?_
  exact g_iret C hr hQ dX3_numberOf_11 rfl ⟨rfl, rfl⟩

abbrev rm_X3_setNumber : Room := { frames := 0, cells := 0, slots := 0, locals := 0 }
theorem yd_X3_setNumber : yX3_setNumber.cls = RX3 ∧ yX3_setNumber.cls ≠ "java/lang/invoke/MethodHandle" ∧ yX3_setNumber.cls ≠ "java/lang/invoke/VarHandle" ∧ (parseMethodDescriptor yX3_setNumber.desc).map (fun d => d.parameters.length) = some 3 := by decide +kernel
theorem in_X3_setNumber_X3 : ∀ w ∈ u_ws RX3 TX3 1, w ∈ wsX3_setNumber := by decide +kernel
theorem fl_X3_setNumber_9 : Cond.fieldLink RX3 9 "FenceHandshakes$Plan" "numbers" "[I" ∈ wsX3_setNumber := by decide +kernel
set_option maxHeartbeats 4000000 in
set_option maxRecDepth 100000 in
theorem m_X3_setNumber (l : Launch) (D : va_G) (cI cC : ClassId) (h0 h1 : Nat) (nb : Nat → Int32) (a : Nat) (b : Nat) (x : Int32) (ha : a < 8) (hb : b < 8) : g_M l yX3_setNumber wsX3_setNumber rm_X3_setNumber D cI cC [.ref h0, .int (nI a), .int (nI b), .int x] (plW cI cC h0 h1 nb) (fun vv ww => vv = none ∧ ww = (plW cI cC h0 h1 (upd nb (8 * a + b) x))) := by
  refine g_entry (lv := [(0, .ref h0), (1, .int (nI a)), (2, .int (nI b)), (3, .int x)]) (own := RX3) (by decide) rfl rfl (Nat.le_of_ble_eq_true rfl) rfl ?_
  intro p e s m args below meth co A Q C hr hQ
  refine g_aload_n (pc := 0) C dX3_setNumber_0 0 rfl rfl ?_
  refine g_get (pc := 1) (ci := 3) (T := TX3) (N := 1) (v := .ref h1) C in_X3_setNumber_X3 0 rfl rfl 0 (by decide) fl_X3_setNumber_9 rfl rfl dX3_setNumber_1 ?_
  refine g_bipush (pc := 4) (v := nI 8) C dX3_setNumber_4 (by decide) ?_
  refine g_iload_n (pc := 6) C dX3_setNumber_6 1 rfl rfl ?_
  refine g_imulN (pc := 7) C dX3_setNumber_7 ?_
  refine g_iload_n (pc := 8) C dX3_setNumber_8 2 rfl rfl ?_
  refine g_iaddN (pc := 9) C dX3_setNumber_9 ?_
  refine g_iload_n (pc := 10) C dX3_setNumber_10 3 rfl rfl ?_
  refine g_iastN (pc := 11) (f := nb) (ws' := (plW cI cC h0 h1 (upd nb ((8 * a) + b) (x)))) C 1 rfl (by omega) (by decide) dX3_setNumber_11 rfl ?_
  exact g_vret C hr hQ dX3_setNumber_12 rfl ⟨rfl, rfl⟩

abbrev rm_X3_rightWith : Room := { frames := 1, cells := 0, slots := 0, locals := 22 }
theorem yd_X3_rightWith : yX3_rightWith.cls = RX3 ∧ yX3_rightWith.cls ≠ "java/lang/invoke/MethodHandle" ∧ yX3_rightWith.cls ≠ "java/lang/invoke/VarHandle" ∧ (parseMethodDescriptor yX3_rightWith.desc).map (fun d => d.parameters.length) = some 2 := by decide +kernel
set_option maxHeartbeats 4000000 in
set_option maxRecDepth 100000 in
theorem m_X3_rightWith (l : Launch) (D : va_G) (cI cC : ClassId) (h0 h1 : Nat) (nb : Nat → Int32) (N : Nat → Option Nat) (x : Nat) (c : Nat) (hA : ap nb N) (hB : b8 N) (hx : x < 8) (hc : c < 8) : g_M l yX3_rightWith wsX3_rightWith rm_X3_rightWith D cI cC [.ref h0, .int (nI x), .int (nI c)] (plW cI cC h0 h1 nb) (fun vv ww => vv = some (.int (pI (fnd N (rwf x) c))) ∧ ww = (plW cI cC h0 h1 nb)) := by
  refine g_entry (lv := [(0, .ref h0), (1, .int (nI x)), (2, .int (nI c))]) (own := RX3) (by decide) rfl rfl (Nat.le_of_ble_eq_true rfl) rfl ?_
  intro p e s m args below meth co A Q C hr hQ
  refine g_iconst (pc := 0) (v := nI 0) C dX3_rightWith_0 (by decide) ?_
  refine g_istore_n (pc := 1) (lv' := [(3, .int (nI 0)), (0, .ref h0), (1, .int (nI x)), (2, .int (nI c))]) C dX3_rightWith_1 rfl (by decide) rfl ?_
  have L2 : ∀ (NZ : Nat) (i : Nat), 8 - i < NZ → (i ≤ 8) → (∀ j, j < i → N (rwf x j) ≠ some c) → g_J p l e rm_X3_rightWith s m args below meth co Q D A 4 0 0 (plW cI cC h0 h1 nb) 2 [(0, .ref h0), (1, .int (nI x)), (2, .int (nI c)), (3, .int (nI i))] [] := by
    intro NZ
    induction NZ with
    | zero => intro i hN; exact absurd hN (Nat.not_lt_zero _)
    | succ NZ ih2 =>
      intro i hN2 hi hf
      refine g_iload_n (pc := 2) C dX3_rightWith_2 3 rfl rfl ?_
      refine g_bipush (pc := 3) (v := nI 8) C dX3_rightWith_3 (by decide) ?_
      refine g_icmp_geN (pc := 5) C 26 (by omega) (by omega) dX3_rightWith_5 (by decide) (fun c5 => ?_) (fun c5 => ?_)
      · refine g_bipush (pc := 26) (v := (-5)) C dX3_rightWith_26 (by decide) ?_
        refine g_top (y := (pI (fnd N (rwf x) c))) (by rw [fnd_no (fun j hj => hf j (by omega))]; rfl) ?_
        exact g_iret C hr hQ dX3_rightWith_28 rfl ⟨rfl, rfl⟩
      · refine g_aload_n (pc := 8) C dX3_rightWith_8 0 rfl rfl ?_
        refine g_iload_n (pc := 9) C dX3_rightWith_9 1 rfl rfl ?_
        refine g_iload_n (pc := 10) C dX3_rightWith_10 3 rfl rfl ?_
        refine g_callV (pc := 11) (st := []) (As := [.int (nI x), .int (nI i)]) (nn := 2) (ci := 3) (q0 := 0) C (m_X3_numberOf l D cI cC h0 h1 nb x i (by first | assumption | omega) (by first | assumption | omega)) gX3_rightWith_X3_numberOf rfl rfl rfl yd_X3_numberOf ⟨Nat.le_of_ble_eq_true rfl, Nat.le_of_ble_eq_true rfl⟩ rfl [0, 1] rfl rfl rfl rfl rfl (Nat.le_of_ble_eq_true rfl) ⟨Nat.le_of_ble_eq_true rfl, Nat.le_of_ble_eq_true rfl⟩ dX3_rightWith_11 ?_
        rintro _ _ ⟨rfl, rfl⟩
        refine g_eq (ws' := (plW cI cC h0 h1 nb)) (st' := [.int (nb (8 * x + i))]) rfl rfl ?_
        refine g_top (y := (pI (N (8 * x + i)))) (hA _ (by omega)) ?_
        refine g_iload_n (pc := 14) C dX3_rightWith_14 2 rfl rfl ?_
        refine g_icmp_ne (pc := 15) C 20 dX3_rightWith_15 (by decide) (fun c15 => ?_) (fun c15 => ?_)
        · refine g_iinc (pc := 20) (lv' := [(3, .int (nI (i + 1))), (0, .ref h0), (1, .int (nI x)), (2, .int (nI c))]) C dX3_rightWith_20 3 rfl (nI_add i 1) (by decide) rfl ?_
          refine g_goto (pc := 23) C 2 dX3_rightWith_23 (by decide) ?_
          refine g_lvp (lv' := [(0, .ref h0), (1, .int (nI x)), (2, .int (nI c)), (3, .int (nI (i + 1)))]) [1, 2, 3, 0] rfl ?_
          exact ih2 (i + 1) (by omega) (by first | assumption | omega) (fun j h => (Nat.lt_succ_iff_lt_or_eq.mp h).elim (hf j) (fun e => by subst e; exact fun e => c15 (congrArg pI e)))
        · refine g_iload_n (pc := 18) C dX3_rightWith_18 3 rfl rfl ?_
          refine g_top (y := (pI (fnd N (rwf x) c))) (by rw [fnd_at (f := rwf x) (i := i) (by omega) (pI_inj (fun r hr => hB (8 * x + i) r (by omega) hr) hc c15) hf]; rfl) ?_
          exact g_iret C hr hQ dX3_rightWith_19 rfl ⟨rfl, rfl⟩
  refine g_lvp (lv' := [(0, .ref h0), (1, .int (nI x)), (2, .int (nI c)), (3, .int (nI 0))]) [1, 2, 3, 0] rfl ?_
  exact L2 _ 0 (Nat.lt_succ_self _) (by first | assumption | omega) (fun j h => absurd h (Nat.not_lt_zero _))

abbrev rm_X3_leftWith : Room := { frames := 1, cells := 0, slots := 0, locals := 22 }
theorem yd_X3_leftWith : yX3_leftWith.cls = RX3 ∧ yX3_leftWith.cls ≠ "java/lang/invoke/MethodHandle" ∧ yX3_leftWith.cls ≠ "java/lang/invoke/VarHandle" ∧ (parseMethodDescriptor yX3_leftWith.desc).map (fun d => d.parameters.length) = some 2 := by decide +kernel
set_option maxHeartbeats 4000000 in
set_option maxRecDepth 100000 in
theorem m_X3_leftWith (l : Launch) (D : va_G) (cI cC : ClassId) (h0 h1 : Nat) (nb : Nat → Int32) (N : Nat → Option Nat) (x : Nat) (c : Nat) (hA : ap nb N) (hB : b8 N) (hx : x < 8) (hc : c < 8) : g_M l yX3_leftWith wsX3_leftWith rm_X3_leftWith D cI cC [.ref h0, .int (nI x), .int (nI c)] (plW cI cC h0 h1 nb) (fun vv ww => vv = some (.int (pI (fnd N (clf x) c))) ∧ ww = (plW cI cC h0 h1 nb)) := by
  refine g_entry (lv := [(0, .ref h0), (1, .int (nI x)), (2, .int (nI c))]) (own := RX3) (by decide) rfl rfl (Nat.le_of_ble_eq_true rfl) rfl ?_
  intro p e s m args below meth co A Q C hr hQ
  refine g_iconst (pc := 0) (v := nI 0) C dX3_leftWith_0 (by decide) ?_
  refine g_istore_n (pc := 1) (lv' := [(3, .int (nI 0)), (0, .ref h0), (1, .int (nI x)), (2, .int (nI c))]) C dX3_leftWith_1 rfl (by decide) rfl ?_
  have L2 : ∀ (NZ : Nat) (i : Nat), 8 - i < NZ → (i ≤ 8) → (∀ j, j < i → N (clf x j) ≠ some c) → g_J p l e rm_X3_leftWith s m args below meth co Q D A 4 0 0 (plW cI cC h0 h1 nb) 2 [(0, .ref h0), (1, .int (nI x)), (2, .int (nI c)), (3, .int (nI i))] [] := by
    intro NZ
    induction NZ with
    | zero => intro i hN; exact absurd hN (Nat.not_lt_zero _)
    | succ NZ ih2 =>
      intro i hN2 hi hf
      refine g_iload_n (pc := 2) C dX3_leftWith_2 3 rfl rfl ?_
      refine g_bipush (pc := 3) (v := nI 8) C dX3_leftWith_3 (by decide) ?_
      refine g_icmp_geN (pc := 5) C 26 (by omega) (by omega) dX3_leftWith_5 (by decide) (fun c5 => ?_) (fun c5 => ?_)
      · refine g_bipush (pc := 26) (v := (-5)) C dX3_leftWith_26 (by decide) ?_
        refine g_top (y := (pI (fnd N (clf x) c))) (by rw [fnd_no (fun j hj => hf j (by omega))]; rfl) ?_
        exact g_iret C hr hQ dX3_leftWith_28 rfl ⟨rfl, rfl⟩
      · refine g_aload_n (pc := 8) C dX3_leftWith_8 0 rfl rfl ?_
        refine g_iload_n (pc := 9) C dX3_leftWith_9 3 rfl rfl ?_
        refine g_iload_n (pc := 10) C dX3_leftWith_10 1 rfl rfl ?_
        refine g_callV (pc := 11) (st := []) (As := [.int (nI i), .int (nI x)]) (nn := 2) (ci := 3) (q0 := 0) C (m_X3_numberOf l D cI cC h0 h1 nb i x (by first | assumption | omega) (by first | assumption | omega)) gX3_leftWith_X3_numberOf rfl rfl rfl yd_X3_numberOf ⟨Nat.le_of_ble_eq_true rfl, Nat.le_of_ble_eq_true rfl⟩ rfl [0, 1] rfl rfl rfl rfl rfl (Nat.le_of_ble_eq_true rfl) ⟨Nat.le_of_ble_eq_true rfl, Nat.le_of_ble_eq_true rfl⟩ dX3_leftWith_11 ?_
        rintro _ _ ⟨rfl, rfl⟩
        refine g_eq (ws' := (plW cI cC h0 h1 nb)) (st' := [.int (nb (8 * i + x))]) rfl rfl ?_
        refine g_top (y := (pI (N (8 * i + x)))) (hA _ (by omega)) ?_
        refine g_iload_n (pc := 14) C dX3_leftWith_14 2 rfl rfl ?_
        refine g_icmp_ne (pc := 15) C 20 dX3_leftWith_15 (by decide) (fun c15 => ?_) (fun c15 => ?_)
        · refine g_iinc (pc := 20) (lv' := [(3, .int (nI (i + 1))), (0, .ref h0), (1, .int (nI x)), (2, .int (nI c))]) C dX3_leftWith_20 3 rfl (nI_add i 1) (by decide) rfl ?_
          refine g_goto (pc := 23) C 2 dX3_leftWith_23 (by decide) ?_
          refine g_lvp (lv' := [(0, .ref h0), (1, .int (nI x)), (2, .int (nI c)), (3, .int (nI (i + 1)))]) [1, 2, 3, 0] rfl ?_
          exact ih2 (i + 1) (by omega) (by first | assumption | omega) (fun j h => (Nat.lt_succ_iff_lt_or_eq.mp h).elim (hf j) (fun e => by subst e; exact fun e => c15 (congrArg pI e)))
        · refine g_iload_n (pc := 18) C dX3_leftWith_18 3 rfl rfl ?_
          refine g_top (y := (pI (fnd N (clf x) c))) (by rw [fnd_at (f := clf x) (i := i) (by omega) (pI_inj (fun r hr => hB (8 * i + x) r (by omega) hr) hc c15) hf]; rfl) ?_
          exact g_iret C hr hQ dX3_leftWith_19 rfl ⟨rfl, rfl⟩
  refine g_lvp (lv' := [(0, .ref h0), (1, .int (nI x)), (2, .int (nI c)), (3, .int (nI 0))]) [1, 2, 3, 0] rfl ?_
  exact L2 _ 0 (Nat.lt_succ_self _) (by first | assumption | omega) (fun j h => absurd h (Nat.not_lt_zero _))

abbrev rm_X3_leastNumberWithout : Room := { frames := 1, cells := 0, slots := 0, locals := 22 }
theorem yd_X3_leastNumberWithout : yX3_leastNumberWithout.cls = RX3 ∧ yX3_leastNumberWithout.cls ≠ "java/lang/invoke/MethodHandle" ∧ yX3_leastNumberWithout.cls ≠ "java/lang/invoke/VarHandle" ∧ (parseMethodDescriptor yX3_leastNumberWithout.desc).map (fun d => d.parameters.length) = some 2 := by decide +kernel
set_option maxHeartbeats 4000000 in
set_option maxRecDepth 100000 in
theorem m_X3_leastNumberWithout (l : Launch) (D : va_G) (cI cC : ClassId) (h0 h1 : Nat) (nb : Nat → Int32) (N : Nat → Option Nat) (q : Bool) (x : Nat) (hA : ap nb N) (hB : b8 N) (hx : x < 8) : g_M l yX3_leastNumberWithout wsX3_leastNumberWithout rm_X3_leastNumberWithout D cI cC [.ref h0, .int (bI q), .int (nI x)] (plW cI cC h0 h1 nb) (fun vv ww => vv = some (.int (nI (lfr N (if q then rwf x else clf x)))) ∧ ww = (plW cI cC h0 h1 nb)) := by
  refine g_entry (lv := [(0, .ref h0), (1, .int (bI q)), (2, .int (nI x))]) (own := RX3) (by decide) rfl rfl (Nat.le_of_ble_eq_true rfl) rfl ?_
  intro p e s m args below meth co A Q C hr hQ
  have hF : ∀ o, o < 8 → (if q then rwf x else clf x) o < 64 := by
    intro o ho
    cases q
    · show 8 * o + x < 64; omega
    · show 8 * x + o < 64; omega
  refine g_iconst (pc := 0) (v := nI 0) C dX3_leastNumberWithout_0 (by decide) ?_
  refine g_istore_n (pc := 1) (lv' := [(3, .int (nI 0)), (0, .ref h0), (1, .int (bI q)), (2, .int (nI x))]) C dX3_leastNumberWithout_1 rfl (by decide) rfl ?_
  refine g_iconst (pc := 2) (v := nI 0) C dX3_leastNumberWithout_2 (by decide) ?_
  refine g_istore (pc := 3) (lv' := [(4, .int (nI 0)), (3, .int (nI 0)), (0, .ref h0), (1, .int (bI q)), (2, .int (nI x))]) C dX3_leastNumberWithout_3 (by decide) rfl ?_
  have L5 : ∀ (NZ : Nat) (i : Nat) (u : Nat), 8 - i < NZ → (i ≤ 8) → (u < 256) → (∀ d, d < 8 → (u.testBit d = true ↔ ∃ o, o < i ∧ N ((if q then rwf x else clf x) o) = some d)) → g_J p l e rm_X3_leastNumberWithout s m args below meth co Q D A 6 0 0 (plW cI cC h0 h1 nb) 5 [(0, .ref h0), (1, .int (bI q)), (2, .int (nI x)), (3, .int (nI u)), (4, .int (nI i))] [] := by
    intro NZ
    induction NZ with
    | zero => intro i u hN; exact absurd hN (Nat.not_lt_zero _)
    | succ NZ ih5 =>
      intro i u hN5 hi hu8 hu
      refine g_iload (pc := 5) C dX3_leastNumberWithout_5 4 rfl ?_
      refine g_bipush (pc := 7) (v := nI 8) C dX3_leastNumberWithout_7 (by decide) ?_
      refine g_icmp_geN (pc := 9) C 55 (by omega) (by omega) dX3_leastNumberWithout_9 (by decide) (fun c9 => ?_) (fun c9 => ?_)
      · have hu9 : ∀ d, d < 8 → (u.testBit d = true ↔ (fnd N (if q then rwf x else clf x) d).isSome = true) := fun d hd => by
          rw [hu d hd, show i = 8 by omega]
          constructor
          · rintro ⟨o, h1, h2⟩
            cases hq : fnd N (if q then rwf x else clf x) d with
            | none => exact absurd h2 (fnd_none hq h1)
            | some z => rfl
          · intro h
            cases hq : fnd N (if q then rwf x else clf x) d with
            | none => rw [hq] at h; cases h
            | some z => exact ⟨z, fnd_some hq⟩
        refine g_iconst (pc := 55) (v := nI 0) C dX3_leastNumberWithout_55 (by decide) ?_
        refine g_istore (pc := 56) (lv' := [(4, .int (nI 0)), (0, .ref h0), (1, .int (bI q)), (2, .int (nI x)), (3, .int (nI u))]) C dX3_leastNumberWithout_56 (by decide) rfl ?_
        have L58 : ∀ (NZ : Nat) (n : Nat), 8 - n < NZ → (n ≤ 8) → (∀ d, d < n → u.testBit d = true) → g_J p l e rm_X3_leastNumberWithout s m args below meth co Q D A 6 0 0 (plW cI cC h0 h1 nb) 58 [(0, .ref h0), (1, .int (bI q)), (2, .int (nI x)), (3, .int (nI u)), (4, .int (nI n))] [] := by
          intro NZ
          induction NZ with
          | zero => intro n hN; exact absurd hN (Nat.not_lt_zero _)
          | succ NZ ih58 =>
            intro n hN58 hn hd
            refine g_iload (pc := 58) C dX3_leastNumberWithout_58 4 rfl ?_
            refine g_bipush (pc := 60) (v := nI 8) C dX3_leastNumberWithout_60 (by decide) ?_
            refine g_icmp_geN (pc := 62) C 80 (by omega) (by omega) dX3_leastNumberWithout_62 (by decide) (fun c62 => ?_) (fun c62 => ?_)
            · refine g_iload (pc := 80) C dX3_leastNumberWithout_80 4 rfl ?_
              refine g_top (y := nI (lfr N (if q then rwf x else clf x))) (by rw [lfr_eq (c := n) (fun d hd2 => (hu9 d (by omega)).mp (hd d hd2)) (Or.inl (by omega))]) ?_
              exact g_iret C hr hQ dX3_leastNumberWithout_82 rfl ⟨rfl, rfl⟩
            · refine g_iload_n (pc := 65) C dX3_leastNumberWithout_65 3 rfl rfl ?_
              refine g_iload (pc := 66) C dX3_leastNumberWithout_66 4 rfl ?_
              refine g_callSN (pc := 68) (st := []) (As := [.int (nI u), .int (nI n)]) (nn := 2) (host := "FenceHandshakes") C (m_X5_hasBit l D cI cC u n (Nat.lt_trans hu8 (by decide)) (by first | assumption | omega)) gX3_leastNumberWithout_X5_hasBit_n49 rfl rfl rfl (by decide +kernel) (by decide +kernel) (by decide +kernel) yd_X5_hasBit.2 ⟨Nat.le_of_ble_eq_true rfl, Nat.le_of_ble_eq_true rfl⟩ rfl [] rfl rfl rfl (Nat.le_of_ble_eq_true rfl) ⟨Nat.le_of_ble_eq_true rfl, Nat.le_of_ble_eq_true rfl⟩ dX3_leastNumberWithout_68 ?_
              rintro _ _ ⟨rfl, rfl⟩
              refine g_eq (ws' := (plW cI cC h0 h1 nb)) (st' := [.int (bI (u.testBit n))]) rfl rfl ?_
              refine g_if_eqB (pc := 71) C 80 dX3_leastNumberWithout_71 (by decide) (fun c71 => ?_) (fun c71 => ?_)
              · refine g_iload (pc := 80) C dX3_leastNumberWithout_80 4 rfl ?_
                refine g_top (y := nI (lfr N (if q then rwf x else clf x))) (by rw [lfr_eq (c := n) (fun d hd2 => (hu9 d (by omega)).mp (hd d hd2)) (Or.inr ⟨by omega, by cases hq : fnd N (if q then rwf x else clf x) n with | none => rfl | some z => (have h9 := (hu9 n (by omega)).mpr (by rw [hq]; rfl); rw [c71] at h9; cases h9)⟩)]) ?_
                exact g_iret C hr hQ dX3_leastNumberWithout_82 rfl ⟨rfl, rfl⟩
              · refine g_iinc (pc := 74) (lv' := [(4, .int (nI (n + 1))), (0, .ref h0), (1, .int (bI q)), (2, .int (nI x)), (3, .int (nI u))]) C dX3_leastNumberWithout_74 4 rfl (nI_add n 1) (by decide) rfl ?_
                refine g_goto (pc := 77) C 58 dX3_leastNumberWithout_77 (by decide) ?_
                refine g_lvp (lv' := [(0, .ref h0), (1, .int (bI q)), (2, .int (nI x)), (3, .int (nI u)), (4, .int (nI (n + 1)))]) [1, 2, 3, 4, 0] rfl ?_
                exact ih58 (n + 1) (by omega) (by first | assumption | omega) (fun d h => (Nat.lt_succ_iff_lt_or_eq.mp h).elim (hd d) (fun e => by subst e; exact c71))
        refine g_lvp (lv' := [(0, .ref h0), (1, .int (bI q)), (2, .int (nI x)), (3, .int (nI u)), (4, .int (nI 0))]) [1, 2, 3, 4, 0] rfl ?_
        exact L58 _ 0 (Nat.lt_succ_self _) (by first | assumption | omega) (fun d h => absurd h (Nat.not_lt_zero _))
      · refine g_iload_n (pc := 12) C dX3_leastNumberWithout_12 1 rfl rfl ?_
        refine g_if_eqB (pc := 13) C 26 dX3_leastNumberWithout_13 (by decide) (fun c13 => ?_) (fun c13 => ?_)
        · refine g_aload_n (pc := 26) C dX3_leastNumberWithout_26 0 rfl rfl ?_
          refine g_iload (pc := 27) C dX3_leastNumberWithout_27 4 rfl ?_
          refine g_iload_n (pc := 29) C dX3_leastNumberWithout_29 2 rfl rfl ?_
          refine g_callV (pc := 30) (st := []) (As := [.int (nI i), .int (nI x)]) (nn := 2) (ci := 3) (q0 := 0) C (m_X3_numberOf l D cI cC h0 h1 nb i x (by first | assumption | omega) (by first | assumption | omega)) gX3_leastNumberWithout_X3_numberOf rfl rfl rfl yd_X3_numberOf ⟨Nat.le_of_ble_eq_true rfl, Nat.le_of_ble_eq_true rfl⟩ rfl [0, 1] rfl rfl rfl rfl rfl (Nat.le_of_ble_eq_true rfl) ⟨Nat.le_of_ble_eq_true rfl, Nat.le_of_ble_eq_true rfl⟩ dX3_leastNumberWithout_30 ?_
          rintro _ _ ⟨rfl, rfl⟩
          refine g_eq (ws' := (plW cI cC h0 h1 nb)) (st' := [.int (nb (8 * i + x))]) rfl rfl ?_
          refine g_top (y := (pI (N ((if q then rwf x else clf x) i)))) (by rw [c13]; exact hA _ (by omega)) ?_
          refine g_istore (pc := 33) (lv' := [(5, .int (pI (N ((if q then rwf x else clf x) i)))), (0, .ref h0), (1, .int (bI q)), (2, .int (nI x)), (3, .int (nI u)), (4, .int (nI i))]) C dX3_leastNumberWithout_33 (by decide) rfl ?_
          refine g_iload (pc := 35) C dX3_leastNumberWithout_35 0 rfl ?_
          refine g_bipush (pc := 37) (v := (-5)) C dX3_leastNumberWithout_37 (by decide) ?_
          refine g_icmp_eq (pc := 39) C 49 dX3_leastNumberWithout_39 (by decide) (fun c39 => ?_) (fun c39 => ?_)
          · have ec1 : N ((if q then rwf x else clf x) i) = none := pI_none (fun r hr => hB _ r (hF i (by omega)) hr) c39
            refine g_iinc (pc := 49) (lv' := [(4, .int (nI (i + 1))), (5, .int (pI (N ((if q then rwf x else clf x) i)))), (0, .ref h0), (1, .int (bI q)), (2, .int (nI x)), (3, .int (nI u))]) C dX3_leastNumberWithout_49 5 rfl (nI_add i 1) (by decide) rfl ?_
            refine g_goto (pc := 52) C 5 dX3_leastNumberWithout_52 (by decide) ?_
            refine g_lvp (lv' := [(0, .ref h0), (1, .int (bI q)), (2, .int (nI x)), (3, .int (nI u)), (4, .int (nI (i + 1)))]) [2, 3, 4, 5, 0] rfl ?_
            exact ih5 (i + 1) u (by omega) (by first | assumption | omega) (by first | assumption | omega) (fun d hd => ⟨fun h => by obtain ⟨o, q1, q2⟩ := (hu d hd).mp h; exact ⟨o, by omega, q2⟩, fun ⟨o, q1, q2⟩ => (hu d hd).mpr ⟨o, Nat.lt_of_le_of_ne (by omega) (fun e => by rw [e, ec1] at q2; cases q2), q2⟩⟩)
          · obtain ⟨c0, ec0⟩ : ∃ z, N ((if q then rwf x else clf x) i) = some z := by cases hq : N ((if q then rwf x else clf x) i) with | none => (rw [hq] at c39; exact absurd rfl c39) | some z => exact ⟨z, rfl⟩
            have hc0 : c0 < 8 := hB _ c0 (hF i (by omega)) ec0
            refine g_lveq (lv' := [(5, .int (nI c0)), (0, .ref h0), (1, .int (bI q)), (2, .int (nI x)), (3, .int (nI u)), (4, .int (nI i))]) (by rw [ec0]; rfl) ?_
            refine g_iload_n (pc := 42) C dX3_leastNumberWithout_42 4 rfl rfl ?_
            refine g_iconst (pc := 43) (v := nI 1) C dX3_leastNumberWithout_43 (by decide) ?_
            refine g_iload (pc := 44) C dX3_leastNumberWithout_44 0 rfl ?_
            refine g_ishlN (pc := 46) C (by omega) dX3_leastNumberWithout_46 ?_
            refine g_iorN (pc := 47) C dX3_leastNumberWithout_47 ?_
            refine g_istore_n (pc := 48) (lv' := [(3, .int (nI (u ||| (1 <<< c0)))), (5, .int (nI c0)), (0, .ref h0), (1, .int (bI q)), (2, .int (nI x)), (4, .int (nI i))]) C dX3_leastNumberWithout_48 rfl (by decide) rfl ?_
            refine g_iinc (pc := 49) (lv' := [(4, .int (nI (i + 1))), (3, .int (nI (u ||| (1 <<< c0)))), (5, .int (nI c0)), (0, .ref h0), (1, .int (bI q)), (2, .int (nI x))]) C dX3_leastNumberWithout_49 5 rfl (nI_add i 1) (by decide) rfl ?_
            refine g_goto (pc := 52) C 5 dX3_leastNumberWithout_52 (by decide) ?_
            refine g_lvp (lv' := [(0, .ref h0), (1, .int (bI q)), (2, .int (nI x)), (3, .int (nI (u ||| (1 <<< c0)))), (4, .int (nI (i + 1)))]) [3, 4, 5, 1, 0] rfl ?_
            exact ih5 (i + 1) (u ||| (1 <<< c0)) (by omega) (by first | assumption | omega) (or_lt hu8 (sh_lt hc0)) (fun d hd => by
      rw [or_bit, Bool.or_eq_true, hu d hd]
      constructor
      · rintro (⟨o, q1, q2⟩ | q)
        · exact ⟨o, by omega, q2⟩
        · exact ⟨i, by omega, by rw [ec0, of_decide_eq_true q]⟩
      · rintro ⟨o, q1, q2⟩
        by_cases z : o = i
        · subst z
          rw [ec0] at q2
          exact Or.inr (decide_eq_true (Option.some.inj q2))
        · exact Or.inl ⟨o, by omega, q2⟩)
        · refine g_aload_n (pc := 16) C dX3_leastNumberWithout_16 0 rfl rfl ?_
          refine g_iload_n (pc := 17) C dX3_leastNumberWithout_17 2 rfl rfl ?_
          refine g_iload (pc := 18) C dX3_leastNumberWithout_18 4 rfl ?_
          refine g_callV (pc := 20) (st := []) (As := [.int (nI x), .int (nI i)]) (nn := 2) (ci := 3) (q0 := 0) C (m_X3_numberOf l D cI cC h0 h1 nb x i (by first | assumption | omega) (by first | assumption | omega)) gX3_leastNumberWithout_X3_numberOf rfl rfl rfl yd_X3_numberOf ⟨Nat.le_of_ble_eq_true rfl, Nat.le_of_ble_eq_true rfl⟩ rfl [0, 1] rfl rfl rfl rfl rfl (Nat.le_of_ble_eq_true rfl) ⟨Nat.le_of_ble_eq_true rfl, Nat.le_of_ble_eq_true rfl⟩ dX3_leastNumberWithout_20 ?_
          rintro _ _ ⟨rfl, rfl⟩
          refine g_eq (ws' := (plW cI cC h0 h1 nb)) (st' := [.int (nb (8 * x + i))]) rfl rfl ?_
          refine g_goto (pc := 23) C 33 dX3_leastNumberWithout_23 (by decide) ?_
          refine g_top (y := (pI (N ((if q then rwf x else clf x) i)))) (by rw [c13]; exact hA _ (by omega)) ?_
          refine g_istore (pc := 33) (lv' := [(5, .int (pI (N ((if q then rwf x else clf x) i)))), (0, .ref h0), (1, .int (bI q)), (2, .int (nI x)), (3, .int (nI u)), (4, .int (nI i))]) C dX3_leastNumberWithout_33 (by decide) rfl ?_
          refine g_iload (pc := 35) C dX3_leastNumberWithout_35 0 rfl ?_
          refine g_bipush (pc := 37) (v := (-5)) C dX3_leastNumberWithout_37 (by decide) ?_
          refine g_icmp_eq (pc := 39) C 49 dX3_leastNumberWithout_39 (by decide) (fun c39 => ?_) (fun c39 => ?_)
          · have ec1 : N ((if q then rwf x else clf x) i) = none := pI_none (fun r hr => hB _ r (hF i (by omega)) hr) c39
            refine g_iinc (pc := 49) (lv' := [(4, .int (nI (i + 1))), (5, .int (pI (N ((if q then rwf x else clf x) i)))), (0, .ref h0), (1, .int (bI q)), (2, .int (nI x)), (3, .int (nI u))]) C dX3_leastNumberWithout_49 5 rfl (nI_add i 1) (by decide) rfl ?_
            refine g_goto (pc := 52) C 5 dX3_leastNumberWithout_52 (by decide) ?_
            refine g_lvp (lv' := [(0, .ref h0), (1, .int (bI q)), (2, .int (nI x)), (3, .int (nI u)), (4, .int (nI (i + 1)))]) [2, 3, 4, 5, 0] rfl ?_
            exact ih5 (i + 1) u (by omega) (by first | assumption | omega) (by first | assumption | omega) (fun d hd => ⟨fun h => by obtain ⟨o, q1, q2⟩ := (hu d hd).mp h; exact ⟨o, by omega, q2⟩, fun ⟨o, q1, q2⟩ => (hu d hd).mpr ⟨o, Nat.lt_of_le_of_ne (by omega) (fun e => by rw [e, ec1] at q2; cases q2), q2⟩⟩)
          · obtain ⟨c0, ec0⟩ : ∃ z, N ((if q then rwf x else clf x) i) = some z := by cases hq : N ((if q then rwf x else clf x) i) with | none => (rw [hq] at c39; exact absurd rfl c39) | some z => exact ⟨z, rfl⟩
            have hc0 : c0 < 8 := hB _ c0 (hF i (by omega)) ec0
            refine g_lveq (lv' := [(5, .int (nI c0)), (0, .ref h0), (1, .int (bI q)), (2, .int (nI x)), (3, .int (nI u)), (4, .int (nI i))]) (by rw [ec0]; rfl) ?_
            refine g_iload_n (pc := 42) C dX3_leastNumberWithout_42 4 rfl rfl ?_
            refine g_iconst (pc := 43) (v := nI 1) C dX3_leastNumberWithout_43 (by decide) ?_
            refine g_iload (pc := 44) C dX3_leastNumberWithout_44 0 rfl ?_
            refine g_ishlN (pc := 46) C (by omega) dX3_leastNumberWithout_46 ?_
            refine g_iorN (pc := 47) C dX3_leastNumberWithout_47 ?_
            refine g_istore_n (pc := 48) (lv' := [(3, .int (nI (u ||| (1 <<< c0)))), (5, .int (nI c0)), (0, .ref h0), (1, .int (bI q)), (2, .int (nI x)), (4, .int (nI i))]) C dX3_leastNumberWithout_48 rfl (by decide) rfl ?_
            refine g_iinc (pc := 49) (lv' := [(4, .int (nI (i + 1))), (3, .int (nI (u ||| (1 <<< c0)))), (5, .int (nI c0)), (0, .ref h0), (1, .int (bI q)), (2, .int (nI x))]) C dX3_leastNumberWithout_49 5 rfl (nI_add i 1) (by decide) rfl ?_
            refine g_goto (pc := 52) C 5 dX3_leastNumberWithout_52 (by decide) ?_
            refine g_lvp (lv' := [(0, .ref h0), (1, .int (bI q)), (2, .int (nI x)), (3, .int (nI (u ||| (1 <<< c0)))), (4, .int (nI (i + 1)))]) [3, 4, 5, 1, 0] rfl ?_
            exact ih5 (i + 1) (u ||| (1 <<< c0)) (by omega) (by first | assumption | omega) (or_lt hu8 (sh_lt hc0)) (fun d hd => by
      rw [or_bit, Bool.or_eq_true, hu d hd]
      constructor
      · rintro (⟨o, q1, q2⟩ | q)
        · exact ⟨o, by omega, q2⟩
        · exact ⟨i, by omega, by rw [ec0, of_decide_eq_true q]⟩
      · rintro ⟨o, q1, q2⟩
        by_cases z : o = i
        · subst z
          rw [ec0] at q2
          exact Or.inr (decide_eq_true (Option.some.inj q2))
        · exact Or.inl ⟨o, by omega, q2⟩)
  refine g_lvp (lv' := [(0, .ref h0), (1, .int (bI q)), (2, .int (nI x)), (3, .int (nI 0)), (4, .int (nI 0))]) [2, 3, 4, 1, 0] rfl ?_
  exact L5 _ 0 0 (Nat.lt_succ_self _) (by first | assumption | omega) (by decide) (fun d _ => ⟨fun h => (by rw [Nat.zero_testBit] at h; cases h), fun ⟨o, h, _⟩ => absurd h (Nat.not_lt_zero _)⟩)

abbrev rm_X3_exchangeAlongPath : Room := { frames := 2, cells := 0, slots := 0, locals := 45 }
theorem yd_X3_exchangeAlongPath : yX3_exchangeAlongPath.cls = RX3 ∧ yX3_exchangeAlongPath.cls ≠ "java/lang/invoke/MethodHandle" ∧ yX3_exchangeAlongPath.cls ≠ "java/lang/invoke/VarHandle" ∧ (parseMethodDescriptor yX3_exchangeAlongPath.desc).map (fun d => d.parameters.length) = some 3 := by decide +kernel
set_option maxHeartbeats 4000000 in
set_option maxRecDepth 100000 in
theorem m_X3_exchangeAlongPath (l : Launch) (D : va_G) (cI cC : ClassId) (h0 h1 : Nat) (nb : Nat → Int32) (N : Nat → Option Nat) (r : Nat) (a : Nat) (b : Nat) (hA : ap nb N) (hN : PR N) (hr8 : r < 8) (ha : a < 8) (hb8 : b < 8) (hab : a ≠ b) (hb : ∀ w, w < 64 → w % 8 = r → N w ≠ some b) : g_M l yX3_exchangeAlongPath wsX3_exchangeAlongPath rm_X3_exchangeAlongPath D cI cC [.ref h0, .int (nI r), .int (nI a), .int (nI b)] (plW cI cC h0 h1 nb) (fun vv ww => ∃ (nb2 : Nat → Int32), vv = none ∧ ww = (plW cI cC h0 h1 nb2) ∧ ap nb2 (FL N a b r)) := by
  refine g_entry (lv := [(0, .ref h0), (1, .int (nI r)), (2, .int (nI a)), (3, .int (nI b))]) (own := RX3) (by decide) rfl rfl (Nat.le_of_ble_eq_true rfl) rfl ?_
  intro p e s m args below meth co A Q C hr hQ
  refine g_iload_n (pc := 0) C dX3_exchangeAlongPath_0 1 rfl rfl ?_
  refine g_istore (pc := 1) (lv' := [(4, .int (nI r)), (0, .ref h0), (1, .int (nI r)), (2, .int (nI a)), (3, .int (nI b))]) C dX3_exchangeAlongPath_1 (by decide) rfl ?_
  refine g_aload_n (pc := 3) C dX3_exchangeAlongPath_3 1 rfl rfl ?_
  refine g_iload (pc := 4) C dX3_exchangeAlongPath_4 0 rfl ?_
  refine g_iload_n (pc := 6) C dX3_exchangeAlongPath_6 3 rfl rfl ?_
  refine g_callV (pc := 7) (st := []) (As := [.int (nI r), .int (nI a)]) (nn := 2) (ci := 3) (q0 := 0) C (m_X3_leftWith l D cI cC h0 h1 nb N r a (by first | assumption | omega) (hN.1) (by first | assumption | omega) (by first | assumption | omega)) gX3_exchangeAlongPath_X3_leftWith rfl rfl rfl yd_X3_leftWith ⟨Nat.le_of_ble_eq_true rfl, Nat.le_of_ble_eq_true rfl⟩ rfl [0, 1] rfl rfl rfl rfl rfl (Nat.le_of_ble_eq_true rfl) ⟨Nat.le_of_ble_eq_true rfl, Nat.le_of_ble_eq_true rfl⟩ dX3_exchangeAlongPath_7 ?_
  rintro _ _ ⟨rfl, rfl⟩
  refine g_eq (ws' := (plW cI cC h0 h1 nb)) (st' := [.int (pI (fnd N (clf r) a))]) rfl rfl ?_
  refine g_istore (pc := 10) (lv' := [(5, .int (pI (fnd N (clf r) a))), (4, .int (nI r)), (0, .ref h0), (1, .int (nI r)), (2, .int (nI a)), (3, .int (nI b))]) C dX3_exchangeAlongPath_10 (by decide) rfl ?_
  refine g_iconst (pc := 12) (v := nI 0) C dX3_exchangeAlongPath_12 (by decide) ?_
  refine g_istore (pc := 13) (lv' := [(6, .int (nI 0)), (5, .int (pI (fnd N (clf r) a))), (4, .int (nI r)), (0, .ref h0), (1, .int (nI r)), (2, .int (nI a)), (3, .int (nI b))]) C dX3_exchangeAlongPath_13 (by decide) rfl ?_
  have L15 : ∀ (NZ : Nat) (kk : Nat) (y : Nat) (x : Int32) (nb1 : Nat → Int32) (o : Option Nat), 8 - kk < NZ → (kk ≤ 8) → (x = pI o) → (y < 8) → (ap nb1 (FLn N a b r (2 * kk))) → (o = none → pe N a b r (2 * kk) = none) → (∀ l, o = some l → l < 8 ∧ pe N a b r (2 * kk) = some (8 * l + y)) → g_J p l e rm_X3_exchangeAlongPath s m args below meth co Q D A 9 0 0 (plW cI cC h0 h1 nb1) 15 [(0, .ref h0), (1, .int (nI r)), (2, .int (nI a)), (3, .int (nI b)), (4, .int (nI y)), (5, .int x), (6, .int (nI kk))] [] := by
    intro NZ
    induction NZ with
    | zero => intro kk y x nb1 o hN; exact absurd hN (Nat.not_lt_zero _)
    | succ NZ ih15 =>
      intro kk y x nb1 o hN15 hs hx hy hA1 hP1 hP2
      refine g_iload (pc := 15) C dX3_exchangeAlongPath_15 6 rfl ?_
      refine g_bipush (pc := 17) (v := nI 8) C dX3_exchangeAlongPath_17 (by decide) ?_
      refine g_icmp_geN (pc := 19) C 89 (by omega) (by omega) dX3_exchangeAlongPath_19 (by decide) (fun c19 => ?_) (fun c19 => ?_)
      · have on : o = none := by cases hq : o with | none => rfl | some z => exact absurd (pe_16 hN hr8 hab hb (hP2 z hq).2) (by omega)
        exact g_vret C hr hQ dX3_exchangeAlongPath_89 rfl ⟨_, rfl, rfl, by rw [← FL_of hr8 (hP1 on) (by omega)]; exact hA1⟩
      · refine g_iload (pc := 22) C dX3_exchangeAlongPath_22 5 rfl ?_
        refine g_callSN (pc := 24) (st := []) (As := [.int x]) (nn := 1) (host := "FenceHandshakes") C (m_X5_isPerson l D cI cC x) gX3_exchangeAlongPath_X5_isPerson_n52 rfl rfl rfl (by decide +kernel) (by decide +kernel) (by decide +kernel) yd_X5_isPerson.2 ⟨Nat.le_of_ble_eq_true rfl, Nat.le_of_ble_eq_true rfl⟩ rfl [] rfl rfl rfl (Nat.le_of_ble_eq_true rfl) ⟨Nat.le_of_ble_eq_true rfl, Nat.le_of_ble_eq_true rfl⟩ dX3_exchangeAlongPath_24 ?_
        rintro _ _ ⟨rfl, rfl⟩
        refine g_eq (ws' := (plW cI cC h0 h1 nb1)) (st' := [.int (bI (isP x))]) rfl rfl ?_
        refine g_if_eqB (pc := 27) C 89 dX3_exchangeAlongPath_27 (by decide) (fun c27 => ?_) (fun c27 => ?_)
        · have on : o = none := by cases hq : o with | none => rfl | some z => (rw [hx, hq, show isP (pI (some z)) = true from isP_nI (hP2 z hq).1] at c27; cases c27)
          exact g_vret C hr hQ dX3_exchangeAlongPath_89 rfl ⟨_, rfl, rfl, by rw [← FL_of hr8 (hP1 on) (by omega)]; exact hA1⟩
        · obtain ⟨x1, ex1⟩ : ∃ z, o = some z := by cases hq : o with | none => (rw [hx, hq] at c27; exact absurd c27 (by decide)) | some z => exact ⟨z, rfl⟩
          obtain ⟨hx1, pe1⟩ := hP2 x1 ex1
          refine g_lveq (lv' := [(0, .ref h0), (1, .int (nI r)), (2, .int (nI a)), (3, .int (nI b)), (4, .int (nI y)), (5, .int (nI x1)), (6, .int (nI kk))]) (by rw [hx, ex1]; rfl) ?_
          refine g_aload_n (pc := 30) C dX3_exchangeAlongPath_30 0 rfl rfl ?_
          refine g_iload (pc := 31) C dX3_exchangeAlongPath_31 5 rfl ?_
          refine g_iload_n (pc := 33) C dX3_exchangeAlongPath_33 3 rfl rfl ?_
          refine g_callV (pc := 34) (st := []) (As := [.int (nI x1), .int (nI b)]) (nn := 2) (ci := 3) (q0 := 0) C (m_X3_rightWith l D cI cC h0 h1 nb1 (FLn N a b r (2 * kk)) x1 b (hA1) (FLn_b8 hN.1 ha hb8) (by first | assumption | omega) (by first | assumption | omega)) gX3_exchangeAlongPath_X3_rightWith rfl rfl rfl yd_X3_rightWith ⟨Nat.le_of_ble_eq_true rfl, Nat.le_of_ble_eq_true rfl⟩ rfl [0, 1] rfl rfl rfl rfl rfl (Nat.le_of_ble_eq_true rfl) ⟨Nat.le_of_ble_eq_true rfl, Nat.le_of_ble_eq_true rfl⟩ dX3_exchangeAlongPath_34 ?_
          rintro _ _ ⟨rfl, rfl⟩
          refine g_eq (ws' := (plW cI cC h0 h1 nb1)) (st' := [.int (pI (fnd (FLn N a b r (2 * kk)) (rwf x1) b))]) rfl rfl ?_
          refine g_top (y := (pI (fnd N (rwf x1) b))) (by rw [fnd_cong (f := rwf x1) (fun o ho => FLn_row hN hr8 hab hb hx1 hy pe1 ho)]) ?_
          refine g_istore (pc := 37) (lv' := [(7, .int (pI (fnd N (rwf x1) b))), (0, .ref h0), (1, .int (nI r)), (2, .int (nI a)), (3, .int (nI b)), (4, .int (nI y)), (5, .int (nI x1)), (6, .int (nI kk))]) C dX3_exchangeAlongPath_37 (by decide) rfl ?_
          refine g_aload_n (pc := 39) C dX3_exchangeAlongPath_39 1 rfl rfl ?_
          refine g_iload (pc := 40) C dX3_exchangeAlongPath_40 6 rfl ?_
          refine g_iload (pc := 42) C dX3_exchangeAlongPath_42 5 rfl ?_
          refine g_iload_n (pc := 44) C dX3_exchangeAlongPath_44 4 rfl rfl ?_
          refine g_callV (pc := 45) (st := []) (As := [.int (nI x1), .int (nI y), .int (nI b)]) (nn := 3) (ci := 3) (q0 := 0) C (m_X3_setNumber l D cI cC h0 h1 nb1 x1 y (nI b) (by first | assumption | omega) (by first | assumption | omega)) gX3_exchangeAlongPath_X3_setNumber rfl rfl rfl yd_X3_setNumber ⟨Nat.le_of_ble_eq_true rfl, Nat.le_of_ble_eq_true rfl⟩ rfl [0, 1] rfl rfl rfl rfl rfl (Nat.le_of_ble_eq_true rfl) ⟨Nat.le_of_ble_eq_true rfl, Nat.le_of_ble_eq_true rfl⟩ dX3_exchangeAlongPath_45 ?_
          rintro _ _ ⟨rfl, rfl⟩
          refine g_eq (ws' := (plW cI cC h0 h1 (upd nb1 (8 * x1 + y) (nI b)))) (st' := []) rfl rfl ?_
          refine g_iload (pc := 48) C dX3_exchangeAlongPath_48 0 rfl ?_
          refine g_callSN (pc := 50) (st := []) (As := [.int (pI (fnd N (rwf x1) b))]) (nn := 1) (host := "FenceHandshakes") C (m_X5_isPerson l D cI cC (pI (fnd N (rwf x1) b))) gX3_exchangeAlongPath_X5_isPerson_n52 rfl rfl rfl (by decide +kernel) (by decide +kernel) (by decide +kernel) yd_X5_isPerson.2 ⟨Nat.le_of_ble_eq_true rfl, Nat.le_of_ble_eq_true rfl⟩ rfl [] rfl rfl rfl (Nat.le_of_ble_eq_true rfl) ⟨Nat.le_of_ble_eq_true rfl, Nat.le_of_ble_eq_true rfl⟩ dX3_exchangeAlongPath_50 ?_
          rintro _ _ ⟨rfl, rfl⟩
          refine g_eq (ws' := (plW cI cC h0 h1 (upd nb1 (8 * x1 + y) (nI b)))) (st' := [.int (bI (isP (pI (fnd N (rwf x1) b))))]) rfl rfl ?_
          refine g_if_neB (pc := 53) C 57 dX3_exchangeAlongPath_53 (by decide) (fun c53 => ?_) (fun c53 => ?_)
          · obtain ⟨y2, ey2⟩ : ∃ z, fnd N (rwf x1) b = some z := by cases hq : fnd N (rwf x1) b with | none => (rw [hq] at c53; exact absurd c53 (by decide)) | some z => exact ⟨z, rfl⟩
            have hy2 : y2 < 8 := fnd_b _ ey2
            have pe2 : pe N a b r (2 * kk + 1) = some (8 * x1 + y2) := by rw [pe_odd hx1 hy pe1, ey2]; rfl
            refine g_lveq (lv' := [(7, .int (nI y2)), (0, .ref h0), (1, .int (nI r)), (2, .int (nI a)), (3, .int (nI b)), (4, .int (nI y)), (5, .int (nI x1)), (6, .int (nI kk))]) (by rw [ey2]; rfl) ?_
            refine g_aload_n (pc := 57) C dX3_exchangeAlongPath_57 1 rfl rfl ?_
            refine g_iload (pc := 58) C dX3_exchangeAlongPath_58 0 rfl ?_
            refine g_iload_n (pc := 60) C dX3_exchangeAlongPath_60 3 rfl rfl ?_
            refine g_callV (pc := 61) (st := []) (As := [.int (nI y2), .int (nI a)]) (nn := 2) (ci := 3) (q0 := 0) C (m_X3_leftWith l D cI cC h0 h1 (upd nb1 (8 * x1 + y) (nI b)) (FLn N a b r (2 * kk + 1)) y2 a (ap_flip1 hr8 hA1 pe1) (FLn_b8 hN.1 ha hb8) (by first | assumption | omega) (by first | assumption | omega)) gX3_exchangeAlongPath_X3_leftWith rfl rfl rfl yd_X3_leftWith ⟨Nat.le_of_ble_eq_true rfl, Nat.le_of_ble_eq_true rfl⟩ rfl [0, 1] rfl rfl rfl rfl rfl (Nat.le_of_ble_eq_true rfl) ⟨Nat.le_of_ble_eq_true rfl, Nat.le_of_ble_eq_true rfl⟩ dX3_exchangeAlongPath_61 ?_
            rintro _ _ ⟨rfl, rfl⟩
            refine g_eq (ws' := (plW cI cC h0 h1 (upd nb1 (8 * x1 + y) (nI b)))) (st' := [.int (pI (fnd (FLn N a b r (2 * kk + 1)) (clf y2) a))]) rfl rfl ?_
            refine g_top (y := (pI (fnd N (clf y2) a))) (by rw [fnd_cong (f := clf y2) (fun o ho => FLn_col hN hr8 hab hb hx1 hy2 pe2 ho)]) ?_
            refine g_istore (pc := 64) (lv' := [(8, .int (pI (fnd N (clf y2) a))), (7, .int (nI y2)), (0, .ref h0), (1, .int (nI r)), (2, .int (nI a)), (3, .int (nI b)), (4, .int (nI y)), (5, .int (nI x1)), (6, .int (nI kk))]) C dX3_exchangeAlongPath_64 (by decide) rfl ?_
            refine g_aload_n (pc := 66) C dX3_exchangeAlongPath_66 2 rfl rfl ?_
            refine g_iload (pc := 67) C dX3_exchangeAlongPath_67 7 rfl ?_
            refine g_iload (pc := 69) C dX3_exchangeAlongPath_69 1 rfl ?_
            refine g_iload_n (pc := 71) C dX3_exchangeAlongPath_71 4 rfl rfl ?_
            refine g_callV (pc := 72) (st := []) (As := [.int (nI x1), .int (nI y2), .int (nI a)]) (nn := 3) (ci := 3) (q0 := 0) C (m_X3_setNumber l D cI cC h0 h1 (upd nb1 (8 * x1 + y) (nI b)) x1 y2 (nI a) (by first | assumption | omega) (by first | assumption | omega)) gX3_exchangeAlongPath_X3_setNumber rfl rfl rfl yd_X3_setNumber ⟨Nat.le_of_ble_eq_true rfl, Nat.le_of_ble_eq_true rfl⟩ rfl [0, 1] rfl rfl rfl rfl rfl (Nat.le_of_ble_eq_true rfl) ⟨Nat.le_of_ble_eq_true rfl, Nat.le_of_ble_eq_true rfl⟩ dX3_exchangeAlongPath_72 ?_
            rintro _ _ ⟨rfl, rfl⟩
            refine g_eq (ws' := (plW cI cC h0 h1 (upd (upd nb1 (8 * x1 + y) (nI b)) (8 * x1 + y2) (nI a)))) (st' := []) rfl rfl ?_
            refine g_iload (pc := 75) C dX3_exchangeAlongPath_75 1 rfl ?_
            refine g_istore (pc := 77) (lv' := [(4, .int (nI y2)), (8, .int (pI (fnd N (clf y2) a))), (7, .int (nI y2)), (0, .ref h0), (1, .int (nI r)), (2, .int (nI a)), (3, .int (nI b)), (5, .int (nI x1)), (6, .int (nI kk))]) C dX3_exchangeAlongPath_77 (by decide) rfl ?_
            refine g_iload (pc := 79) C dX3_exchangeAlongPath_79 1 rfl ?_
            refine g_istore (pc := 81) (lv' := [(5, .int (pI (fnd N (clf y2) a))), (4, .int (nI y2)), (8, .int (pI (fnd N (clf y2) a))), (7, .int (nI y2)), (0, .ref h0), (1, .int (nI r)), (2, .int (nI a)), (3, .int (nI b)), (6, .int (nI kk))]) C dX3_exchangeAlongPath_81 (by decide) rfl ?_
            refine g_iinc (pc := 83) (lv' := [(6, .int (nI (kk + 1))), (5, .int (pI (fnd N (clf y2) a))), (4, .int (nI y2)), (8, .int (pI (fnd N (clf y2) a))), (7, .int (nI y2)), (0, .ref h0), (1, .int (nI r)), (2, .int (nI a)), (3, .int (nI b))]) C dX3_exchangeAlongPath_83 8 rfl (nI_add kk 1) (by decide) rfl ?_
            refine g_goto (pc := 86) C 15 dX3_exchangeAlongPath_86 (by decide) ?_
            refine g_lvp (lv' := [(0, .ref h0), (1, .int (nI r)), (2, .int (nI a)), (3, .int (nI b)), (4, .int (nI y2)), (5, .int (pI (fnd N (clf y2) a))), (6, .int (nI (kk + 1)))]) [5, 6, 7, 8, 2, 1, 0] rfl ?_
            exact ih15 (kk + 1) y2 (pI (fnd N (clf y2) a)) (upd (upd nb1 (8 * x1 + y) (nI b)) (8 * x1 + y2) (nI a)) (fnd N (clf y2) a) (by omega) (by first | assumption | omega) (rfl) (by first | assumption | omega) (ap_flip2 hr8 hab (ap_flip1 hr8 hA1 pe1) pe2) (fun e => by rw [pe_even hx1 hy2 pe2, e]; rfl) (fun l e => ⟨fnd_b _ e, by rw [pe_even hx1 hy2 pe2, e]; rfl⟩)
          · have pe2 : pe N a b r (2 * kk + 1) = none := by rw [pe_odd hx1 hy pe1]; cases hq : fnd N (rwf x1) b with | none => rfl | some z => (rw [hq, show isP (pI (some z)) = true from isP_nI (fnd_b _ hq)] at c53; cases c53)
            exact g_vret C hr hQ dX3_exchangeAlongPath_56 rfl ⟨_, rfl, rfl, by rw [← FL_of hr8 pe2 (by omega)]; exact ap_flip1 hr8 hA1 pe1⟩
  refine g_lvp (lv' := [(0, .ref h0), (1, .int (nI r)), (2, .int (nI a)), (3, .int (nI b)), (4, .int (nI r)), (5, .int (pI (fnd N (clf r) a))), (6, .int (nI 0))]) [3, 4, 5, 6, 2, 1, 0] rfl ?_
  exact L15 _ 0 r (pI (fnd N (clf r) a)) nb (fnd N (clf r) a) (Nat.lt_succ_self _) (by first | assumption | omega) (rfl) (by first | assumption | omega) (by rw [FLn_0]; exact hA) (fun e => by show (fnd N (clf r) a).map (clf r) = none; rw [e]; rfl) (fun l e => ⟨fnd_b _ e, by show (fnd N (clf r) a).map (clf r) = _; rw [e]; rfl⟩)

abbrev rm_X3_addWish : Room := { frames := 3, cells := 0, slots := 0, locals := 73 }
theorem yd_X3_addWish : yX3_addWish.cls = RX3 ∧ yX3_addWish.cls ≠ "java/lang/invoke/MethodHandle" ∧ yX3_addWish.cls ≠ "java/lang/invoke/VarHandle" ∧ (parseMethodDescriptor yX3_addWish.desc).map (fun d => d.parameters.length) = some 2 := by decide +kernel
set_option maxHeartbeats 4000000 in
set_option maxRecDepth 100000 in
theorem m_X3_addWish (l : Launch) (D : va_G) (cI cC : ClassId) (h0 h1 : Nat) (nb : Nat → Int32) (N : Nat → Option Nat) (x : Nat) (y : Nat) (hA : ap nb N) (hN : PR N) (hx : x < 8) (hy : y < 8) (hn : N (8 * x + y) = none) : g_M l yX3_addWish wsX3_addWish rm_X3_addWish D cI cC [.ref h0, .int (nI x), .int (nI y)] (plW cI cC h0 h1 nb) (fun vv ww => ∃ (nb2 : Nat → Int32), vv = none ∧ ww = (plW cI cC h0 h1 nb2) ∧ ap nb2 (stp N x y)) := by
  refine g_entry (lv := [(0, .ref h0), (1, .int (nI x)), (2, .int (nI y))]) (own := RX3) (by decide) rfl rfl (Nat.le_of_ble_eq_true rfl) rfl ?_
  intro p e s m args below meth co A Q C hr hQ
  have ha8 : lfr N (rwf x) < 8 := lfr_lt (z := y) hy hn
  have hb8 : lfr N (clf y) < 8 := lfr_lt (z := x) hx hn
  have fb := lfr_free (N := N) (f := clf y) (fun o c ho e => hN.1 _ c (by simp only [clf]; omega) e)
  refine g_aload_n (pc := 0) C dX3_addWish_0 0 rfl rfl ?_
  refine g_iconst (pc := 1) (v := nI 1) C dX3_addWish_1 (by decide) ?_
  refine g_iload_n (pc := 2) C dX3_addWish_2 1 rfl rfl ?_
  refine g_callV (pc := 3) (st := []) (As := [.int (bI true), .int (nI x)]) (nn := 2) (ci := 3) (q0 := 0) C (m_X3_leastNumberWithout l D cI cC h0 h1 nb N true x (by first | assumption | omega) (hN.1) (by first | assumption | omega)) gX3_addWish_X3_leastNumberWithout rfl rfl rfl yd_X3_leastNumberWithout ⟨Nat.le_of_ble_eq_true rfl, Nat.le_of_ble_eq_true rfl⟩ rfl [0, 1] rfl rfl rfl rfl rfl (Nat.le_of_ble_eq_true rfl) ⟨Nat.le_of_ble_eq_true rfl, Nat.le_of_ble_eq_true rfl⟩ dX3_addWish_3 ?_
  rintro _ _ ⟨rfl, rfl⟩
  refine g_eq (ws' := (plW cI cC h0 h1 nb)) (st' := [.int (nI (lfr N (if true then rwf x else clf x)))]) rfl rfl ?_
  refine g_top (y := nI (lfr N (rwf x))) (rfl) ?_
  refine g_istore_n (pc := 6) (lv' := [(3, .int (nI (lfr N (rwf x)))), (0, .ref h0), (1, .int (nI x)), (2, .int (nI y))]) C dX3_addWish_6 rfl (by decide) rfl ?_
  refine g_aload_n (pc := 7) C dX3_addWish_7 1 rfl rfl ?_
  refine g_iconst (pc := 8) (v := nI 0) C dX3_addWish_8 (by decide) ?_
  refine g_iload_n (pc := 9) C dX3_addWish_9 3 rfl rfl ?_
  refine g_callV (pc := 10) (st := []) (As := [.int (bI false), .int (nI y)]) (nn := 2) (ci := 3) (q0 := 0) C (m_X3_leastNumberWithout l D cI cC h0 h1 nb N false y (by first | assumption | omega) (hN.1) (by first | assumption | omega)) gX3_addWish_X3_leastNumberWithout rfl rfl rfl yd_X3_leastNumberWithout ⟨Nat.le_of_ble_eq_true rfl, Nat.le_of_ble_eq_true rfl⟩ rfl [0, 1] rfl rfl rfl rfl rfl (Nat.le_of_ble_eq_true rfl) ⟨Nat.le_of_ble_eq_true rfl, Nat.le_of_ble_eq_true rfl⟩ dX3_addWish_10 ?_
  rintro _ _ ⟨rfl, rfl⟩
  refine g_eq (ws' := (plW cI cC h0 h1 nb)) (st' := [.int (nI (lfr N (if false then rwf y else clf y)))]) rfl rfl ?_
  refine g_top (y := nI (lfr N (clf y))) (rfl) ?_
  refine g_istore (pc := 13) (lv' := [(4, .int (nI (lfr N (clf y)))), (3, .int (nI (lfr N (rwf x)))), (0, .ref h0), (1, .int (nI x)), (2, .int (nI y))]) C dX3_addWish_13 (by decide) rfl ?_
  refine g_aload_n (pc := 15) C dX3_addWish_15 2 rfl rfl ?_
  refine g_iload_n (pc := 16) C dX3_addWish_16 4 rfl rfl ?_
  refine g_iload_n (pc := 17) C dX3_addWish_17 1 rfl rfl ?_
  refine g_callV (pc := 18) (st := []) (As := [.int (nI y), .int (nI (lfr N (rwf x)))]) (nn := 2) (ci := 3) (q0 := 0) C (m_X3_leftWith l D cI cC h0 h1 nb N y (lfr N (rwf x)) (by first | assumption | omega) (hN.1) (by first | assumption | omega) (by first | assumption | omega)) gX3_addWish_X3_leftWith rfl rfl rfl yd_X3_leftWith ⟨Nat.le_of_ble_eq_true rfl, Nat.le_of_ble_eq_true rfl⟩ rfl [0, 1] rfl rfl rfl rfl rfl (Nat.le_of_ble_eq_true rfl) ⟨Nat.le_of_ble_eq_true rfl, Nat.le_of_ble_eq_true rfl⟩ dX3_addWish_18 ?_
  rintro _ _ ⟨rfl, rfl⟩
  refine g_eq (ws' := (plW cI cC h0 h1 nb)) (st' := [.int (pI (fnd N (clf y) (lfr N (rwf x))))]) rfl rfl ?_
  refine g_bipush (pc := 21) (v := (-5)) C dX3_addWish_21 (by decide) ?_
  refine g_icmp_eq (pc := 23) C 34 dX3_addWish_23 (by decide) (fun c23 => ?_) (fun c23 => ?_)
  · have fn := pI_none fnd_b c23
    refine g_aload_n (pc := 34) C dX3_addWish_34 2 rfl rfl ?_
    refine g_iload_n (pc := 35) C dX3_addWish_35 3 rfl rfl ?_
    refine g_iload_n (pc := 36) C dX3_addWish_36 4 rfl rfl ?_
    refine g_iload_n (pc := 37) C dX3_addWish_37 1 rfl rfl ?_
    refine g_callV (pc := 38) (st := []) (As := [.int (nI x), .int (nI y), .int (nI (lfr N (rwf x)))]) (nn := 3) (ci := 3) (q0 := 0) C (m_X3_setNumber l D cI cC h0 h1 nb x y (nI (lfr N (rwf x))) (by first | assumption | omega) (by first | assumption | omega)) gX3_addWish_X3_setNumber rfl rfl rfl yd_X3_setNumber ⟨Nat.le_of_ble_eq_true rfl, Nat.le_of_ble_eq_true rfl⟩ rfl [0, 1] rfl rfl rfl rfl rfl (Nat.le_of_ble_eq_true rfl) ⟨Nat.le_of_ble_eq_true rfl, Nat.le_of_ble_eq_true rfl⟩ dX3_addWish_38 ?_
    rintro _ _ ⟨rfl, rfl⟩
    refine g_eq (ws' := (plW cI cC h0 h1 (upd nb (8 * x + y) (nI (lfr N (rwf x)))))) (st' := []) rfl rfl ?_
    exact g_vret C hr hQ dX3_addWish_41 rfl ⟨_, rfl, rfl, by rw [stp_n fn]; exact ap_upd hA rfl⟩
  · obtain ⟨z, ez⟩ : ∃ z, fnd N (clf y) (lfr N (rwf x)) = some z := by cases hq : fnd N (clf y) (lfr N (rwf x)) with | none => (rw [hq] at c23; exact absurd rfl c23) | some z => exact ⟨z, rfl⟩
    refine g_aload_n (pc := 26) C dX3_addWish_26 2 rfl rfl ?_
    refine g_iload_n (pc := 27) C dX3_addWish_27 4 rfl rfl ?_
    refine g_iload_n (pc := 28) C dX3_addWish_28 1 rfl rfl ?_
    refine g_iload (pc := 29) C dX3_addWish_29 0 rfl ?_
    refine g_callV (pc := 31) (st := []) (As := [.int (nI y), .int (nI (lfr N (rwf x))), .int (nI (lfr N (clf y)))]) (nn := 3) (ci := 3) (q0 := 0) C (m_X3_exchangeAlongPath l D cI cC h0 h1 nb N y (lfr N (rwf x)) (lfr N (clf y)) (by first | assumption | omega) (by first | assumption | omega) (by first | assumption | omega) (by first | assumption | omega) (by first | assumption | omega) (fun e => by rw [e] at c23; rw [fb] at c23; exact c23 rfl) (fun w hw hw2 e => by have h9 := fnd_none fb (o := w / 8) (by omega); simp only [clf] at h9; rw [show 8 * (w / 8) + y = w by omega] at h9; exact h9 e)) gX3_addWish_X3_exchangeAlongPath rfl rfl rfl yd_X3_exchangeAlongPath ⟨Nat.le_of_ble_eq_true rfl, Nat.le_of_ble_eq_true rfl⟩ rfl [0, 1] rfl rfl rfl rfl rfl (Nat.le_of_ble_eq_true rfl) ⟨Nat.le_of_ble_eq_true rfl, Nat.le_of_ble_eq_true rfl⟩ dX3_addWish_31 ?_
    rintro _ _ ⟨nb3, rfl, rfl, g1⟩
    refine g_eq (ws' := (plW cI cC h0 h1 nb3)) (st' := []) rfl rfl ?_
    refine g_aload_n (pc := 34) C dX3_addWish_34 2 rfl rfl ?_
    refine g_iload_n (pc := 35) C dX3_addWish_35 3 rfl rfl ?_
    refine g_iload_n (pc := 36) C dX3_addWish_36 4 rfl rfl ?_
    refine g_iload_n (pc := 37) C dX3_addWish_37 1 rfl rfl ?_
    refine g_callV (pc := 38) (st := []) (As := [.int (nI x), .int (nI y), .int (nI (lfr N (rwf x)))]) (nn := 3) (ci := 3) (q0 := 0) C (m_X3_setNumber l D cI cC h0 h1 nb3 x y (nI (lfr N (rwf x))) (by first | assumption | omega) (by first | assumption | omega)) gX3_addWish_X3_setNumber rfl rfl rfl yd_X3_setNumber ⟨Nat.le_of_ble_eq_true rfl, Nat.le_of_ble_eq_true rfl⟩ rfl [0, 1] rfl rfl rfl rfl rfl (Nat.le_of_ble_eq_true rfl) ⟨Nat.le_of_ble_eq_true rfl, Nat.le_of_ble_eq_true rfl⟩ dX3_addWish_38 ?_
    rintro _ _ ⟨rfl, rfl⟩
    refine g_eq (ws' := (plW cI cC h0 h1 (upd nb3 (8 * x + y) (nI (lfr N (rwf x)))))) (st' := []) rfl rfl ?_
    exact g_vret C hr hQ dX3_addWish_41 rfl ⟨_, rfl, rfl, by rw [stp_s ez]; exact ap_upd g1 rfl⟩

abbrev rm_X3_make : Room := { frames := 4, cells := 0, slots := 0, locals := 97 }
theorem yd_X3_make : yX3_make.cls = RX3 ∧ yX3_make.cls ≠ "java/lang/invoke/MethodHandle" ∧ yX3_make.cls ≠ "java/lang/invoke/VarHandle" ∧ (parseMethodDescriptor yX3_make.desc).map (fun d => d.parameters.length) = some 1 := by decide +kernel
theorem in_X3_make_X3 : ∀ w ∈ u_ws RX3 TX3 1, w ∈ wsX3_make := by decide +kernel
theorem fl_X3_make_9 : Cond.fieldLink RX3 9 "FenceHandshakes$Plan" "numbers" "[I" ∈ wsX3_make := by decide +kernel
set_option maxHeartbeats 4000000 in
set_option maxRecDepth 100000 in
theorem m_X3_make (l : Launch) (D : va_G) (cI cC : ClassId) (h0 h1 k0 k1 : Nat) (nb : Nat → Int32) (c : Nat → Int32) (hc : cOK c) : g_M l yX3_make wsX3_make rm_X3_make D cI cC [.ref h0, .ref k0] (plcW cI cC h0 h1 k0 k1 nb c) (fun vv ww => ∃ (nb2 : Nat → Int32), vv = none ∧ ww = (plcW cI cC h0 h1 k0 k1 nb2 c) ∧ ap nb2 (PLn (poC c) 64)) := by
  refine g_entry (lv := [(0, .ref h0), (1, .ref k0)]) (own := RX3) (by decide) rfl rfl (Nat.le_of_ble_eq_true rfl) rfl ?_
  intro p e s m args below meth co A Q C hr hQ
  refine g_aload_n (pc := 0) C dX3_make_0 0 rfl rfl ?_
  refine g_get (pc := 1) (ci := 3) (T := TX3) (N := 1) (v := .ref h1) C in_X3_make_X3 0 rfl rfl 0 (by decide) fl_X3_make_9 rfl rfl dX3_make_1 ?_
  refine g_bipush (pc := 4) (v := (-5)) C dX3_make_4 (by decide) ?_
  refine g_callS (pc := 6) (st := []) (As := [.ref h1, .int (-5)]) (nn := 2) C (m_J7_fill_53178 l D cI cC h1 64 nb (-5) (by first | assumption | omega)) gX3_make_J7_fill_53178 rfl rfl rfl yd_J7_fill_53178.2 ⟨Nat.le_of_ble_eq_true rfl, Nat.le_of_ble_eq_true rfl⟩ rfl [1] rfl rfl rfl (Nat.le_of_ble_eq_true rfl) ⟨Nat.le_of_ble_eq_true rfl, Nat.le_of_ble_eq_true rfl⟩ dX3_make_6 ?_
  rintro _ _ ⟨rfl, rfl⟩
  refine g_eq (ws' := (plcW cI cC h0 h1 k0 k1 (fillF nb (-5) 64) c)) (st' := []) rfl rfl ?_
  refine g_iconst (pc := 9) (v := nI 0) C dX3_make_9 (by decide) ?_
  refine g_istore_n (pc := 10) (lv' := [(2, .int (nI 0)), (0, .ref h0), (1, .ref k0)]) C dX3_make_10 rfl (by decide) rfl ?_
  have L11 : ∀ (NZ : Nat) (i : Nat) (nb1 : Nat → Int32), 8 - i < NZ → (i ≤ 8) → (ap nb1 (PLn (poC c) (8 * i + 0))) → g_J p l e rm_X3_make s m args below meth co Q D A 4 0 0 (plcW cI cC h0 h1 k0 k1 nb1 c) 11 [(0, .ref h0), (1, .ref k0), (2, .int (nI i))] [] := by
    intro NZ
    induction NZ with
    | zero => intro i nb1 hN; exact absurd hN (Nat.not_lt_zero _)
    | succ NZ ih11 =>
      intro i nb1 hN11 hi hA1
      refine g_iload_n (pc := 11) C dX3_make_11 2 rfl rfl ?_
      refine g_bipush (pc := 12) (v := nI 8) C dX3_make_12 (by decide) ?_
      refine g_icmp_geN (pc := 14) C 52 (by omega) (by omega) dX3_make_14 (by decide) (fun c14 => ?_) (fun c14 => ?_)
      · exact g_vret C hr hQ dX3_make_52 rfl ⟨_, rfl, rfl, by rw [show 8 * i + 0 = 64 by omega] at hA1; exact hA1⟩
      · refine g_iconst (pc := 17) (v := nI 0) C dX3_make_17 (by decide) ?_
        refine g_istore_n (pc := 18) (lv' := [(3, .int (nI 0)), (0, .ref h0), (1, .ref k0), (2, .int (nI i))]) C dX3_make_18 rfl (by decide) rfl ?_
        have L19 : ∀ (NZ : Nat) (j : Nat) (nb1 : Nat → Int32), 8 - j < NZ → (j ≤ 8) → (ap nb1 (PLn (poC c) (8 * i + j))) → g_J p l e rm_X3_make s m args below meth co Q D A 4 0 0 (plcW cI cC h0 h1 k0 k1 nb1 c) 19 [(0, .ref h0), (1, .ref k0), (2, .int (nI i)), (3, .int (nI j))] [] := by
          intro NZ
          induction NZ with
          | zero => intro j nb1 hN; exact absurd hN (Nat.not_lt_zero _)
          | succ NZ ih19 =>
            intro j nb1 hN19 hj hA1
            refine g_iload_n (pc := 19) C dX3_make_19 3 rfl rfl ?_
            refine g_bipush (pc := 20) (v := nI 8) C dX3_make_20 (by decide) ?_
            refine g_icmp_geN (pc := 22) C 46 (by omega) (by omega) dX3_make_22 (by decide) (fun c22 => ?_) (fun c22 => ?_)
            · refine g_iinc (pc := 46) (lv' := [(2, .int (nI (i + 1))), (0, .ref h0), (1, .ref k0), (3, .int (nI j))]) C dX3_make_46 2 rfl (nI_add i 1) (by decide) rfl ?_
              refine g_goto (pc := 49) C 11 dX3_make_49 (by decide) ?_
              refine g_lvp (lv' := [(0, .ref h0), (1, .ref k0), (2, .int (nI (i + 1)))]) [1, 2, 0] rfl ?_
              exact ih11 (i + 1) nb1 (by omega) (by first | assumption | omega) (by rw [show 8 * (i + 1) + 0 = 8 * i + j by omega]; exact hA1)
            · refine g_aload_n (pc := 25) C dX3_make_25 1 rfl rfl ?_
              refine g_iload_n (pc := 26) C dX3_make_26 2 rfl rfl ?_
              refine g_iload_n (pc := 27) C dX3_make_27 3 rfl rfl ?_
              refine g_callV (pc := 28) (st := []) (As := [.int (nI i), .int (nI j)]) (nn := 2) (ci := 0) (q0 := 0) C (m_X0_isPossible l D cI cC k0 k1 c i j (by first | assumption | omega) (by first | assumption | omega) (by first | assumption | omega)) gX3_make_X0_isPossible rfl rfl rfl yd_X0_isPossible ⟨Nat.le_of_ble_eq_true rfl, Nat.le_of_ble_eq_true rfl⟩ rfl [2, 3] rfl rfl rfl rfl rfl (Nat.le_of_ble_eq_true rfl) ⟨Nat.le_of_ble_eq_true rfl, Nat.le_of_ble_eq_true rfl⟩ dX3_make_28 ?_
              rintro _ _ ⟨rfl, rfl⟩
              refine g_eq (ws' := (plcW cI cC h0 h1 k0 k1 nb1 c)) (st' := [.int (bI (poC c i j))]) rfl rfl ?_
              refine g_if_eqB (pc := 31) C 40 dX3_make_31 (by decide) (fun c31 => ?_) (fun c31 => ?_)
              · refine g_iinc (pc := 40) (lv' := [(3, .int (nI (j + 1))), (0, .ref h0), (1, .ref k0), (2, .int (nI i))]) C dX3_make_40 3 rfl (nI_add j 1) (by decide) rfl ?_
                refine g_goto (pc := 43) C 19 dX3_make_43 (by decide) ?_
                refine g_lvp (lv' := [(0, .ref h0), (1, .ref k0), (2, .int (nI i)), (3, .int (nI (j + 1)))]) [1, 2, 3, 0] rfl ?_
                exact ih19 (j + 1) nb1 (by omega) (by first | assumption | omega) (by rw [PLn_s (by omega) (by omega), if_neg (by rw [c31]; decide)]; exact hA1)
              · refine g_aload_n (pc := 34) C dX3_make_34 0 rfl rfl ?_
                refine g_iload_n (pc := 35) C dX3_make_35 2 rfl rfl ?_
                refine g_iload_n (pc := 36) C dX3_make_36 3 rfl rfl ?_
                refine g_callV (pc := 37) (st := []) (As := [.int (nI i), .int (nI j)]) (nn := 2) (ci := 3) (q0 := 0) C (m_X3_addWish l D cI cC h0 h1 nb1 (PLn (poC c) (8 * i + j)) i j (hA1) ((PLn_ok _ _ (by omega)).1) (by first | assumption | omega) (by first | assumption | omega) ((PLn_ok _ _ (by omega)).2 _ (by omega) (by omega))) gX3_make_X3_addWish rfl rfl rfl yd_X3_addWish ⟨Nat.le_of_ble_eq_true rfl, Nat.le_of_ble_eq_true rfl⟩ rfl [0, 1] rfl rfl rfl rfl rfl (Nat.le_of_ble_eq_true rfl) ⟨Nat.le_of_ble_eq_true rfl, Nat.le_of_ble_eq_true rfl⟩ dX3_make_37 ?_
                rintro _ _ ⟨nb3, rfl, rfl, g1⟩
                refine g_eq (ws' := (plcW cI cC h0 h1 k0 k1 nb3 c)) (st' := []) rfl rfl ?_
                refine g_iinc (pc := 40) (lv' := [(3, .int (nI (j + 1))), (0, .ref h0), (1, .ref k0), (2, .int (nI i))]) C dX3_make_40 3 rfl (nI_add j 1) (by decide) rfl ?_
                refine g_goto (pc := 43) C 19 dX3_make_43 (by decide) ?_
                refine g_lvp (lv' := [(0, .ref h0), (1, .ref k0), (2, .int (nI i)), (3, .int (nI (j + 1)))]) [1, 2, 3, 0] rfl ?_
                exact ih19 (j + 1) nb3 (by omega) (by first | assumption | omega) (by rw [PLn_s (by omega) (by omega), if_pos c31]; exact g1)
        refine g_lvp (lv' := [(0, .ref h0), (1, .ref k0), (2, .int (nI i)), (3, .int (nI 0))]) [1, 2, 3, 0] rfl ?_
        exact L19 _ 0 nb1 (Nat.lt_succ_self _) (by first | assumption | omega) (by first | assumption | omega)
  refine g_lvp (lv' := [(0, .ref h0), (1, .ref k0), (2, .int (nI 0))]) [1, 2, 0] rfl ?_
  exact L11 _ 0 (fillF nb (-5) 64) (Nat.lt_succ_self _) (by first | assumption | omega) (fun k hk => fillF_in hk)
