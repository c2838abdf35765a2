/-! pure: history, text -/
def kpO (od z : Nat) : Nat := if z = 5 then (od + 1) % 5 else od
def kpS (z : Nat) : Nat := if z = 5 then 5 else z + 1
theorem kpO_lt {od z : Nat} (h : od < 5) : kpO od z < 5 := by unfold kpO; split <;> omega
theorem kpS_le {z : Nat} (h : z ≤ 5) : kpS z ≤ 5 := by unfold kpS; split <;> omega
theorem g_narC {x : Nat} (h : x < 65536) : vp_nar .char (nI x) = nI x := by
  rw [vp_nar, (pk_charN h).1]
theorem sh_lt {d : Nat} (h : d < 8) : 1 <<< d < 256 := by
  rw [Nat.shiftLeft_eq, Nat.one_mul]
  calc 2 ^ d ≤ 2 ^ 7 := Nat.pow_le_pow_right (by decide) (by omega)
    _ < 256 := by decide
theorem or_lt {a b : Nat} (h : a < 256) (h2 : b < 256) : a ||| b < 256 := Nat.or_lt_two_pow (n := 8) h h2
def egF (r : Nat → Int32) (lf rg i : Nat) : Nat → Int32 := fun k => if k < i ∧ lf.testBit k = true then r k ||| nI rg else r k
theorem egF_0 (r : Nat → Int32) (lf rg : Nat) : egF r lf rg 0 = r := by funext k; exact if_neg (fun h => absurd h.1 (Nat.not_lt_zero _))
theorem egF_at (r : Nat → Int32) (lf rg i : Nat) : egF r lf rg i i = r i := if_neg (fun h => absurd h.1 (Nat.lt_irrefl _))
theorem egF_t (r : Nat → Int32) (lf rg : Nat) {i : Nat} (h : lf.testBit i = true) : upd (egF r lf rg i) i (egF r lf rg i i ||| nI rg) = egF r lf rg (i + 1) := by
  funext k
  rw [egF_at]
  simp only [upd, egF]
  by_cases e : k = i
  · subst e; rw [if_pos rfl, if_pos ⟨by omega, h⟩]
  · rw [if_neg e]
    by_cases h2 : k < i ∧ lf.testBit k = true
    · rw [if_pos h2, if_pos ⟨by omega, h2.2⟩]
    · rw [if_neg h2, if_neg (fun z => h2 ⟨by omega, z.2⟩)]
theorem egF_f (r : Nat → Int32) (lf rg : Nat) {i : Nat} (h : lf.testBit i = false) : egF r lf rg i = egF r lf rg (i + 1) := by
  funext k
  simp only [egF]
  by_cases e : k = i
  · subst e; rw [if_neg (fun z => by rw [h] at z; cases z.2), if_neg (fun z => by rw [h] at z; cases z.2)]
  · by_cases h2 : k < i ∧ lf.testBit k = true
    · rw [if_pos h2, if_pos ⟨by omega, h2.2⟩]
    · rw [if_neg h2, if_neg (fun z => h2 ⟨by omega, z.2⟩)]
/-- the reader's state: the left people, the right people, whether the dash has come, the rows so far -/
abbrev PS : Type := Nat × Nat × Bool × (Nat → Int32)
def tpOk (lf rg : Nat) (bd : Bool) (y : Nat) : Bool := decide ((if bd then rg else lf) < y)
def tpL (lf : Nat) (bd : Bool) (y : Nat) : Nat := if bd then lf else if lf < y then lf ||| y else lf
def tpR (rg : Nat) (bd : Bool) (y : Nat) : Nat := if bd then (if rg < y then rg ||| y else rg) else rg
def pok (x : Nat) (q : PS) : Bool := if 48 ≤ x ∧ x < 56 then tpOk q.1 q.2.1 q.2.2.1 (1 <<< (x - 48)) else if x = 45 ∧ q.1 ≠ 0 ∧ q.2.2.1 = false then true else decide (x = 44 ∧ q.2.1 ≠ 0)
def pst (x : Nat) (q : PS) : PS := if 48 ≤ x ∧ x < 56 then (tpL q.1 q.2.2.1 (1 <<< (x - 48)), tpR q.2.1 q.2.2.1 (1 <<< (x - 48)), q.2.2.1, q.2.2.2) else if x = 45 ∧ q.1 ≠ 0 ∧ q.2.2.1 = false then (q.1, q.2.1, true, q.2.2.2) else if x = 44 ∧ q.2.1 ≠ 0 then (0, 0, false, egF q.2.2.2 q.1 q.2.1 8) else q
theorem tpL_lt {lf y : Nat} {bd : Bool} (h : lf < 256) (h2 : y < 256) : tpL lf bd y < 256 := by
  unfold tpL; split
  · exact h
  · split
    · exact or_lt h h2
    · exact h
theorem tpR_lt {rg y : Nat} {bd : Bool} (h : rg < 256) (h2 : y < 256) : tpR rg bd y < 256 := by
  unfold tpR; split
  · split
    · exact or_lt h h2
    · exact h
  · exact h
theorem pst_lt {x : Nat} {q : PS} (h : q.1 < 256 ∧ q.2.1 < 256) : (pst x q).1 < 256 ∧ (pst x q).2.1 < 256 := by
  unfold pst
  split
  · next hx => exact ⟨tpL_lt h.1 (sh_lt (by omega)), tpR_lt h.2 (sh_lt (by omega))⟩
  · split
    · exact h
    · split
      · exact ⟨show 0 < 256 by decide, show 0 < 256 by decide⟩
      · exact h
def prun (sg : Nat → Int32) (r0 : Nat → Int32) : Nat → PS
  | 0 => (0, 0, false, r0)
  | n + 1 => pst (cN sg n) (prun sg r0 n)
theorem prun_lt (sg r0 : Nat → Int32) : ∀ n, (prun sg r0 n).1 < 256 ∧ (prun sg r0 n).2.1 < 256
  | 0 => ⟨show 0 < 256 by decide, show 0 < 256 by decide⟩
  | n + 1 => pst_lt (prun_lt sg r0 n)
/-- the fault, and the rows -/
def pres (sg r0 : Nat → Int32) (n : Nat) : Int32 := match fstU (fun i => !pok (cN sg i) (prun sg r0 i)) n with
  | some i => nI i
  | none => if (prun sg r0 n).2.1 = 0 then nI n else -5
def prow (sg r0 : Nat → Int32) (n : Nat) : Nat → Int32 := egF (prun sg r0 n).2.2.2 (prun sg r0 n).1 (prun sg r0 n).2.1 8
theorem nI_m5 {n : Nat} (h : n < 2 ^ 31) : ¬ nI n = -5 := fun e => by
  have := nI_pos h
  rw [e] at this
  exact this (by decide)
theorem pres_at {sg r0 : Nat → Int32} {i n : Nat} (hf : ∀ j, j < i → pok (cN sg j) (prun sg r0 j) = true) (h : pok (cN sg i) (prun sg r0 i) = false) (hi : i < n) : pres sg r0 n = nI i := by
  have e : fstU (fun i => !pok (cN sg i) (prun sg r0 i)) n = some i := (fstU_some _ n i).mpr ⟨hi, by simp only [h, Bool.not_false], fun j hj => by simp only [hf j hj, Bool.not_true]⟩
  rw [pres, e]
theorem pres_end {sg r0 : Nat → Int32} {i n : Nat} (hf : ∀ j, j < i → pok (cN sg j) (prun sg r0 j) = true) (hi : n ≤ i) : pres sg r0 n = if (prun sg r0 n).2.1 = 0 then nI n else -5 := by
  have e : fstU (fun i => !pok (cN sg i) (prun sg r0 i)) n = none := (fstU_none _ n).mpr (fun j hj => by simp only [hf j (by omega), Bool.not_true])
  rw [pres, e]
abbrev hiW (cI cC : ClassId) (h0 h1 : Nat) (r : Nat → Int32) (od : Int32) (z : Int32) : va_W := [(h0, .inr (1, [.ref h1, .int od, .int z])), (h1, .inl (cI, 770, .inl r))]
abbrev hpW (cI cC : ClassId) (h0 h1 k0 k1 : Nat) (r : Nat → Int32) (od : Int32) (z : Int32) (c : Nat → Int32) : va_W := [(h0, .inr (1, [.ref h1, .int od, .int z])), (h1, .inl (cI, 770, .inl r)), (k0, .inr (0, [.ref k1])), (k1, .inl (cI, 154, .inl c))]
abbrev txW (cI cC : ClassId) (h0 h1 h2 : Nat) (sg : Nat → Int32) (ln : Int32) (r : Nat → Int32) (lf : Int32) (rg : Int32) (bd : Int32) : va_W := [(h0, .inr (4, [.ref h1, .int ln, .ref h2, .int lf, .int rg, .int bd])), (h1, .inl (cC, 80, .inl sg)), (h2, .inl (cI, 8, .inl r))]
abbrev rm_X1_size : Room := { frames := 0, cells := 0, slots := 0, locals := 0 }
theorem yd_X1_size : yX1_size.cls = RX1 ∧ yX1_size.cls ≠ "java/lang/invoke/MethodHandle" ∧ yX1_size.cls ≠ "java/lang/invoke/VarHandle" ∧ (parseMethodDescriptor yX1_size.desc).map (fun d => d.parameters.length) = some 0 := by decide +kernel
theorem in_X1_size_X1 : ∀ w ∈ u_ws RX1 TX1 3, w ∈ wsX1_size := by decide +kernel
theorem fl_X1_size_17 : Cond.fieldLink RX1 17 "FenceHandshakes$History" "size" "I" ∈ wsX1_size := by decide +kernel
set_option maxHeartbeats 4000000 in
set_option maxRecDepth 100000 in
theorem m_X1_size (l : Launch) (D : va_G) (cI cC : ClassId) (h0 h1 : Nat) (r : Nat → Int32) (od : Nat) (z : Nat) : g_M l yX1_size wsX1_size rm_X1_size D cI cC [.ref h0] (hiW cI cC h0 h1 r (nI od) (nI z)) (fun vv ww => vv = some (.int (nI z)) ∧ ww = (hiW cI cC h0 h1 r (nI od) (nI z))) := by
  refine g_entry (lv := [(0, .ref h0)]) (own := RX1) (by decide) rfl rfl (Nat.le_of_ble_eq_true rfl) rfl ?_
  intro p e s m args below meth co A Q C hr hQ
  refine g_aload_n (pc := 0) C dX1_size_0 0 rfl rfl ?_
  refine g_get (pc := 1) (ci := 1) (T := TX1) (N := 3) (v := .int (nI z)) C in_X1_size_X1 0 rfl rfl 2 (by decide) fl_X1_size_17 rfl rfl dX1_size_1 ?_
  exact g_iret C hr hQ dX1_size_4 rfl ⟨rfl, rfl⟩

abbrev rm_X1_startOfRow : Room := { frames := 0, cells := 0, slots := 0, locals := 0 }
theorem yd_X1_startOfRow : yX1_startOfRow.cls = RX1 ∧ yX1_startOfRow.cls ≠ "java/lang/invoke/MethodHandle" ∧ yX1_startOfRow.cls ≠ "java/lang/invoke/VarHandle" ∧ (parseMethodDescriptor yX1_startOfRow.desc).map (fun d => d.parameters.length) = some 1 := by decide +kernel
theorem in_X1_startOfRow_X1 : ∀ w ∈ u_ws RX1 TX1 3, w ∈ wsX1_startOfRow := by decide +kernel
theorem fl_X1_startOfRow_21 : Cond.fieldLink RX1 21 "FenceHandshakes$History" "oldest" "I" ∈ wsX1_startOfRow := by decide +kernel
set_option maxHeartbeats 4000000 in
set_option maxRecDepth 100000 in
theorem m_X1_startOfRow (l : Launch) (D : va_G) (cI cC : ClassId) (h0 h1 : Nat) (r : Nat → Int32) (od : Nat) (z : Nat) (g : Nat) (ho : od < 5) (hg : g ≤ 5) : g_M l yX1_startOfRow wsX1_startOfRow rm_X1_startOfRow D cI cC [.ref h0, .int (nI g)] (hiW cI cC h0 h1 r (nI od) (nI z)) (fun vv ww => vv = some (.int (nI ((od + g) % 5 * 154))) ∧ ww = (hiW cI cC h0 h1 r (nI od) (nI z))) := by
  refine g_entry (lv := [(0, .ref h0), (1, .int (nI g))]) (own := RX1) (by decide) rfl rfl (Nat.le_of_ble_eq_true rfl) rfl ?_
  intro p e s m args below meth co A Q C hr hQ
  refine g_aload_n (pc := 0) C dX1_startOfRow_0 0 rfl rfl ?_
  refine g_get (pc := 1) (ci := 1) (T := TX1) (N := 3) (v := .int (nI od)) C in_X1_startOfRow_X1 0 rfl rfl 1 (by decide) fl_X1_startOfRow_21 rfl rfl dX1_startOfRow_1 ?_
  refine g_iload_n (pc := 4) C dX1_startOfRow_4 1 rfl rfl ?_
  refine g_iaddN (pc := 5) C dX1_startOfRow_5 ?_
  refine g_iconst (pc := 6) (v := nI 5) C dX1_startOfRow_6 (by decide) ?_
  refine g_iremN (pc := 7) C dX1_startOfRow_7 (by omega) (by omega) (by omega) ?_
  refine g_sipush (pc := 8) (v := nI 154) C dX1_startOfRow_8 (by decide) ?_
  refine g_imulN (pc := 11) C dX1_startOfRow_11 ?_
  refine g_top (y := nI ((od + g) % 5 * 154)) (rfl) ?_
  exact g_iret C hr hQ dX1_startOfRow_12 rfl ⟨rfl, rfl⟩

abbrev rm_X1_keep : Room := { frames := 1, cells := 0, slots := 0, locals := 26 }
theorem yd_X1_keep : yX1_keep.cls = RX1 ∧ yX1_keep.cls ≠ "java/lang/invoke/MethodHandle" ∧ yX1_keep.cls ≠ "java/lang/invoke/VarHandle" ∧ (parseMethodDescriptor yX1_keep.desc).map (fun d => d.parameters.length) = some 1 := by decide +kernel
theorem in_X1_keep_X0 : ∀ w ∈ u_ws RX0 TX0 1, w ∈ wsX1_keep := by decide +kernel
theorem in_X1_keep_X1 : ∀ w ∈ u_ws RX1 TX1 3, w ∈ wsX1_keep := by decide +kernel
theorem fl_X1_keep_11 : Cond.fieldLink RX1 11 "FenceHandshakes$History" "rows" "[I" ∈ wsX1_keep := by decide +kernel
theorem fl_X1_keep_17 : Cond.fieldLink RX1 17 "FenceHandshakes$History" "size" "I" ∈ wsX1_keep := by decide +kernel
theorem fl_X1_keep_21 : Cond.fieldLink RX1 21 "FenceHandshakes$History" "oldest" "I" ∈ wsX1_keep := by decide +kernel
set_option maxHeartbeats 4000000 in
set_option maxRecDepth 100000 in
theorem m_X1_keep (l : Launch) (D : va_G) (cI cC : ClassId) (h0 h1 k0 k1 : Nat) (r : Nat → Int32) (c : Nat → Int32) (od : Nat) (z : Nat) (ho : od < 5) (hz : z ≤ 5) : g_M l yX1_keep wsX1_keep rm_X1_keep D cI cC [.ref h0, .ref k0] (hpW cI cC h0 h1 k0 k1 r (nI od) (nI z) c) (fun vv ww => vv = none ∧ ww = (hpW cI cC h0 h1 k0 k1 (va_cpy c r 0 ((kpO od z + (kpS z - 1)) % 5 * 154) 154) (nI (kpO od z)) (nI (kpS z)) c)) := by
  refine g_entry (lv := [(0, .ref h0), (1, .ref k0)]) (own := RX1) (by decide) rfl rfl (Nat.le_of_ble_eq_true rfl) rfl ?_
  intro p e s m args below meth co A Q C hr hQ
  refine g_aload_n (pc := 0) C dX1_keep_0 0 rfl rfl ?_
  refine g_get (pc := 1) (ci := 1) (T := TX1) (N := 3) (v := .int (nI z)) C in_X1_keep_X1 0 rfl rfl 2 (by decide) fl_X1_keep_17 rfl rfl dX1_keep_1 ?_
  refine g_iconst (pc := 4) (v := nI 5) C dX1_keep_4 (by decide) ?_
  refine g_icmp_neN (pc := 5) C 30 (by omega) (by omega) dX1_keep_5 (by decide) (fun c5 => ?_) (fun c5 => ?_)
  · refine g_aload_n (pc := 30) C dX1_keep_30 1 rfl rfl ?_
    refine g_getN (pc := 31) (ci := 0) (T := TX0) (N := 1) (host := "FenceHandshakes") (v := .ref k1) C in_X1_keep_X0 2 rfl rfl 0 (by decide) (by decide +kernel) rfl rfl dX1_keep_31 ?_
    refine g_iconst (pc := 34) (v := nI 0) C dX1_keep_34 (by decide) ?_
    refine g_aload_n (pc := 35) C dX1_keep_35 0 rfl rfl ?_
    refine g_get (pc := 36) (ci := 1) (T := TX1) (N := 3) (v := .ref h1) C in_X1_keep_X1 0 rfl rfl 0 (by decide) fl_X1_keep_11 rfl rfl dX1_keep_36 ?_
    refine g_aload_n (pc := 39) C dX1_keep_39 0 rfl rfl ?_
    refine g_aload_n (pc := 40) C dX1_keep_40 0 rfl rfl ?_
    refine g_get (pc := 41) (ci := 1) (T := TX1) (N := 3) (v := .int (nI z)) C in_X1_keep_X1 0 rfl rfl 2 (by decide) fl_X1_keep_17 rfl rfl dX1_keep_41 ?_
    refine g_callV (pc := 44) (st := [.ref h1, .int (nI 0), .ref k1]) (As := [.int (nI z)]) (nn := 1) (ci := 1) (q0 := 0) C (m_X1_startOfRow l D cI cC h0 h1 r od z z (by first | assumption | omega) (by first | assumption | omega)) gX1_keep_X1_startOfRow rfl rfl rfl yd_X1_startOfRow ⟨Nat.le_of_ble_eq_true rfl, Nat.le_of_ble_eq_true rfl⟩ rfl [0, 1] rfl rfl rfl rfl rfl (Nat.le_of_ble_eq_true rfl) ⟨Nat.le_of_ble_eq_true rfl, Nat.le_of_ble_eq_true rfl⟩ dX1_keep_44 ?_
    rintro _ _ ⟨rfl, rfl⟩
    refine g_eq (ws' := (hpW cI cC h0 h1 k0 k1 r (nI od) (nI z) c)) (st' := [.int (nI ((od + z) % 5 * 154)), .ref h1, .int (nI 0), .ref k1]) rfl rfl ?_
    refine g_sipush (pc := 47) (v := nI 154) C dX1_keep_47 (by decide) ?_
    refine g_copyi (pc := 50) (f := c) (g := r) (ws' := (hpW cI cC h0 h1 k0 k1 (va_cpy c r 0 ((od + z) % 5 * 154) 154) (nI od) (nI z) c)) C (by decide +kernel) (by decide +kernel) (by decide +kernel) (by decide +kernel) 3 1 rfl rfl (by omega) (by omega) (by decide) (by decide) (by decide) (Nat.le_of_ble_eq_true rfl) dX1_keep_50 rfl ?_
    refine g_aload_n (pc := 53) C dX1_keep_53 0 rfl rfl ?_
    refine g_dup (pc := 54) C dX1_keep_54 rfl ?_
    refine g_get (pc := 55) (ci := 1) (T := TX1) (N := 3) (v := .int (nI z)) C in_X1_keep_X1 0 rfl rfl 2 (by decide) fl_X1_keep_17 rfl rfl dX1_keep_55 ?_
    refine g_iconst (pc := 58) (v := nI 1) C dX1_keep_58 (by decide) ?_
    refine g_iaddN (pc := 59) C dX1_keep_59 ?_
    refine g_put (pc := 60) (ci := 1) (T := TX1) (N := 3) (ws' := (hpW cI cC h0 h1 k0 k1 (va_cpy c r 0 ((od + z) % 5 * 154) 154) (nI od) (nI (z + 1)) c)) (ty := .int) (v := .int (nI (z + 1))) C in_X1_keep_X1 tyX1 tyX1_ok nmX1 0 rfl rfl 2 (by decide) fl_X1_keep_17 rfl rfl (by decide +kernel) rfl rfl (Nat.le_of_ble_eq_true rfl) dX1_keep_60 rfl ?_
    refine g_ws (ws' := (hpW cI cC h0 h1 k0 k1 (va_cpy c r 0 ((kpO od z + (kpS z - 1)) % 5 * 154) 154) (nI od) (nI (z + 1)) c)) (by first | rw [kpO, kpS, if_pos c5, if_pos c5, c5] | (rw [kpO, kpS, if_neg c5, if_neg c5]; rfl)) ?_
    refine g_ws (ws' := (hpW cI cC h0 h1 k0 k1 (va_cpy c r 0 ((kpO od z + (kpS z - 1)) % 5 * 154) 154) (nI (kpO od z)) (nI (z + 1)) c)) (by first | rw [kpO, if_pos c5] | rw [kpO, if_neg c5]) ?_
    refine g_ws (ws' := (hpW cI cC h0 h1 k0 k1 (va_cpy c r 0 ((kpO od z + (kpS z - 1)) % 5 * 154) 154) (nI (kpO od z)) (nI (kpS z)) c)) (by first | rw [kpS, if_pos c5, c5] | rw [kpS, if_neg c5]) ?_
    exact g_vret C hr hQ dX1_keep_63 rfl ⟨rfl, rfl⟩
  · refine g_aload_n (pc := 8) C dX1_keep_8 0 rfl rfl ?_
    refine g_aload_n (pc := 9) C dX1_keep_9 0 rfl rfl ?_
    refine g_get (pc := 10) (ci := 1) (T := TX1) (N := 3) (v := .int (nI od)) C in_X1_keep_X1 0 rfl rfl 1 (by decide) fl_X1_keep_21 rfl rfl dX1_keep_10 ?_
    refine g_iconst (pc := 13) (v := nI 1) C dX1_keep_13 (by decide) ?_
    refine g_iaddN (pc := 14) C dX1_keep_14 ?_
    refine g_iconst (pc := 15) (v := nI 5) C dX1_keep_15 (by decide) ?_
    refine g_iremN (pc := 16) C dX1_keep_16 (by omega) (by omega) (by omega) ?_
    refine g_put (pc := 17) (ci := 1) (T := TX1) (N := 3) (ws' := (hpW cI cC h0 h1 k0 k1 r (nI ((od + 1) % 5)) (nI z) c)) (ty := .int) (v := .int (nI ((od + 1) % 5))) C in_X1_keep_X1 tyX1 tyX1_ok nmX1 0 rfl rfl 1 (by decide) fl_X1_keep_21 rfl rfl (by decide +kernel) rfl rfl (Nat.le_of_ble_eq_true rfl) dX1_keep_17 rfl ?_
    refine g_aload_n (pc := 20) C dX1_keep_20 0 rfl rfl ?_
    refine g_dup (pc := 21) C dX1_keep_21 rfl ?_
    refine g_get (pc := 22) (ci := 1) (T := TX1) (N := 3) (v := .int (nI z)) C in_X1_keep_X1 0 rfl rfl 2 (by decide) fl_X1_keep_17 rfl rfl dX1_keep_22 ?_
    refine g_iconst (pc := 25) (v := nI 1) C dX1_keep_25 (by decide) ?_
    refine g_isubN (pc := 26) C dX1_keep_26 (by omega) ?_
    refine g_put (pc := 27) (ci := 1) (T := TX1) (N := 3) (ws' := (hpW cI cC h0 h1 k0 k1 r (nI ((od + 1) % 5)) (nI (z - 1)) c)) (ty := .int) (v := .int (nI (z - 1))) C in_X1_keep_X1 tyX1 tyX1_ok nmX1 0 rfl rfl 2 (by decide) fl_X1_keep_17 rfl rfl (by decide +kernel) rfl rfl (Nat.le_of_ble_eq_true rfl) dX1_keep_27 rfl ?_
    refine g_aload_n (pc := 30) C dX1_keep_30 1 rfl rfl ?_
    refine g_getN (pc := 31) (ci := 0) (T := TX0) (N := 1) (host := "FenceHandshakes") (v := .ref k1) C in_X1_keep_X0 2 rfl rfl 0 (by decide) (by decide +kernel) rfl rfl dX1_keep_31 ?_
    refine g_iconst (pc := 34) (v := nI 0) C dX1_keep_34 (by decide) ?_
    refine g_aload_n (pc := 35) C dX1_keep_35 0 rfl rfl ?_
    refine g_get (pc := 36) (ci := 1) (T := TX1) (N := 3) (v := .ref h1) C in_X1_keep_X1 0 rfl rfl 0 (by decide) fl_X1_keep_11 rfl rfl dX1_keep_36 ?_
    refine g_aload_n (pc := 39) C dX1_keep_39 0 rfl rfl ?_
    refine g_aload_n (pc := 40) C dX1_keep_40 0 rfl rfl ?_
    refine g_get (pc := 41) (ci := 1) (T := TX1) (N := 3) (v := .int (nI (z - 1))) C in_X1_keep_X1 0 rfl rfl 2 (by decide) fl_X1_keep_17 rfl rfl dX1_keep_41 ?_
    refine g_callV (pc := 44) (st := [.ref h1, .int (nI 0), .ref k1]) (As := [.int (nI (z - 1))]) (nn := 1) (ci := 1) (q0 := 0) C (m_X1_startOfRow l D cI cC h0 h1 r ((od + 1) % 5) (z - 1) (z - 1) (by first | assumption | omega) (by first | assumption | omega)) gX1_keep_X1_startOfRow rfl rfl rfl yd_X1_startOfRow ⟨Nat.le_of_ble_eq_true rfl, Nat.le_of_ble_eq_true rfl⟩ rfl [0, 1] rfl rfl rfl rfl rfl (Nat.le_of_ble_eq_true rfl) ⟨Nat.le_of_ble_eq_true rfl, Nat.le_of_ble_eq_true rfl⟩ dX1_keep_44 ?_
    rintro _ _ ⟨rfl, rfl⟩
    refine g_eq (ws' := (hpW cI cC h0 h1 k0 k1 r (nI ((od + 1) % 5)) (nI (z - 1)) c)) (st' := [.int (nI ((((od + 1) % 5) + (z - 1)) % 5 * 154)), .ref h1, .int (nI 0), .ref k1]) rfl rfl ?_
    refine g_sipush (pc := 47) (v := nI 154) C dX1_keep_47 (by decide) ?_
    refine g_copyi (pc := 50) (f := c) (g := r) (ws' := (hpW cI cC h0 h1 k0 k1 (va_cpy c r 0 ((((od + 1) % 5) + (z - 1)) % 5 * 154) 154) (nI ((od + 1) % 5)) (nI (z - 1)) c)) C (by decide +kernel) (by decide +kernel) (by decide +kernel) (by decide +kernel) 3 1 rfl rfl (by omega) (by omega) (by decide) (by decide) (by decide) (Nat.le_of_ble_eq_true rfl) dX1_keep_50 rfl ?_
    refine g_aload_n (pc := 53) C dX1_keep_53 0 rfl rfl ?_
    refine g_dup (pc := 54) C dX1_keep_54 rfl ?_
    refine g_get (pc := 55) (ci := 1) (T := TX1) (N := 3) (v := .int (nI (z - 1))) C in_X1_keep_X1 0 rfl rfl 2 (by decide) fl_X1_keep_17 rfl rfl dX1_keep_55 ?_
    refine g_iconst (pc := 58) (v := nI 1) C dX1_keep_58 (by decide) ?_
    refine g_iaddN (pc := 59) C dX1_keep_59 ?_
    refine g_put (pc := 60) (ci := 1) (T := TX1) (N := 3) (ws' := (hpW cI cC h0 h1 k0 k1 (va_cpy c r 0 ((((od + 1) % 5) + (z - 1)) % 5 * 154) 154) (nI ((od + 1) % 5)) (nI ((z - 1) + 1)) c)) (ty := .int) (v := .int (nI ((z - 1) + 1))) C in_X1_keep_X1 tyX1 tyX1_ok nmX1 0 rfl rfl 2 (by decide) fl_X1_keep_17 rfl rfl (by decide +kernel) rfl rfl (Nat.le_of_ble_eq_true rfl) dX1_keep_60 rfl ?_
    refine g_ws (ws' := (hpW cI cC h0 h1 k0 k1 (va_cpy c r 0 ((kpO od z + (kpS z - 1)) % 5 * 154) 154) (nI ((od + 1) % 5)) (nI ((z - 1) + 1)) c)) (by first | rw [kpO, kpS, if_pos c5, if_pos c5, c5] | (rw [kpO, kpS, if_neg c5, if_neg c5]; rfl)) ?_
    refine g_ws (ws' := (hpW cI cC h0 h1 k0 k1 (va_cpy c r 0 ((kpO od z + (kpS z - 1)) % 5 * 154) 154) (nI (kpO od z)) (nI ((z - 1) + 1)) c)) (by first | rw [kpO, if_pos c5] | rw [kpO, if_neg c5]) ?_
    refine g_ws (ws' := (hpW cI cC h0 h1 k0 k1 (va_cpy c r 0 ((kpO od z + (kpS z - 1)) % 5 * 154) 154) (nI (kpO od z)) (nI (kpS z)) c)) (by first | rw [kpS, if_pos c5, c5] | rw [kpS, if_neg c5]) ?_
    exact g_vret C hr hQ dX1_keep_63 rfl ⟨rfl, rfl⟩

abbrev rm_X1_takeLatest : Room := { frames := 1, cells := 0, slots := 0, locals := 26 }
theorem yd_X1_takeLatest : yX1_takeLatest.cls = RX1 ∧ yX1_takeLatest.cls ≠ "java/lang/invoke/MethodHandle" ∧ yX1_takeLatest.cls ≠ "java/lang/invoke/VarHandle" ∧ (parseMethodDescriptor yX1_takeLatest.desc).map (fun d => d.parameters.length) = some 1 := by decide +kernel
theorem in_X1_takeLatest_X0 : ∀ w ∈ u_ws RX0 TX0 1, w ∈ wsX1_takeLatest := by decide +kernel
theorem in_X1_takeLatest_X1 : ∀ w ∈ u_ws RX1 TX1 3, w ∈ wsX1_takeLatest := by decide +kernel
theorem fl_X1_takeLatest_11 : Cond.fieldLink RX1 11 "FenceHandshakes$History" "rows" "[I" ∈ wsX1_takeLatest := by decide +kernel
theorem fl_X1_takeLatest_17 : Cond.fieldLink RX1 17 "FenceHandshakes$History" "size" "I" ∈ wsX1_takeLatest := by decide +kernel
set_option maxHeartbeats 4000000 in
set_option maxRecDepth 100000 in
theorem m_X1_takeLatest (l : Launch) (D : va_G) (cI cC : ClassId) (h0 h1 k0 k1 : Nat) (r : Nat → Int32) (c : Nat → Int32) (od : Nat) (z : Nat) (ho : od < 5) (hz : z ≤ 5) (hp : z ≠ 0) : g_M l yX1_takeLatest wsX1_takeLatest rm_X1_takeLatest D cI cC [.ref h0, .ref k0] (hpW cI cC h0 h1 k0 k1 r (nI od) (nI z) c) (fun vv ww => vv = none ∧ ww = (hpW cI cC h0 h1 k0 k1 r (nI od) (nI (z - 1)) (va_cpy r c ((od + (z - 1)) % 5 * 154) 0 154))) := by
  refine g_entry (lv := [(0, .ref h0), (1, .ref k0)]) (own := RX1) (by decide) rfl rfl (Nat.le_of_ble_eq_true rfl) rfl ?_
  intro p e s m args below meth co A Q C hr hQ
  refine g_aload_n (pc := 0) C dX1_takeLatest_0 0 rfl rfl ?_
  refine g_get (pc := 1) (ci := 1) (T := TX1) (N := 3) (v := .int (nI z)) C in_X1_takeLatest_X1 0 rfl rfl 2 (by decide) fl_X1_takeLatest_17 rfl rfl dX1_takeLatest_1 ?_
  refine g_if_neN (pc := 4) C 8 (by omega) dX1_takeLatest_4 (by decide) (fun c4 => ?_) (fun c4 => ?_)
  · refine g_aload_n (pc := 8) C dX1_takeLatest_8 0 rfl rfl ?_
    refine g_dup (pc := 9) C dX1_takeLatest_9 rfl ?_
    refine g_get (pc := 10) (ci := 1) (T := TX1) (N := 3) (v := .int (nI z)) C in_X1_takeLatest_X1 0 rfl rfl 2 (by decide) fl_X1_takeLatest_17 rfl rfl dX1_takeLatest_10 ?_
    refine g_iconst (pc := 13) (v := nI 1) C dX1_takeLatest_13 (by decide) ?_
    refine g_isubN (pc := 14) C dX1_takeLatest_14 (by omega) ?_
    refine g_put (pc := 15) (ci := 1) (T := TX1) (N := 3) (ws' := (hpW cI cC h0 h1 k0 k1 r (nI od) (nI (z - 1)) c)) (ty := .int) (v := .int (nI (z - 1))) C in_X1_takeLatest_X1 tyX1 tyX1_ok nmX1 0 rfl rfl 2 (by decide) fl_X1_takeLatest_17 rfl rfl (by decide +kernel) rfl rfl (Nat.le_of_ble_eq_true rfl) dX1_takeLatest_15 rfl ?_
    refine g_aload_n (pc := 18) C dX1_takeLatest_18 0 rfl rfl ?_
    refine g_get (pc := 19) (ci := 1) (T := TX1) (N := 3) (v := .ref h1) C in_X1_takeLatest_X1 0 rfl rfl 0 (by decide) fl_X1_takeLatest_11 rfl rfl dX1_takeLatest_19 ?_
    refine g_aload_n (pc := 22) C dX1_takeLatest_22 0 rfl rfl ?_
    refine g_aload_n (pc := 23) C dX1_takeLatest_23 0 rfl rfl ?_
    refine g_get (pc := 24) (ci := 1) (T := TX1) (N := 3) (v := .int (nI (z - 1))) C in_X1_takeLatest_X1 0 rfl rfl 2 (by decide) fl_X1_takeLatest_17 rfl rfl dX1_takeLatest_24 ?_
    refine g_callV (pc := 27) (st := [.ref h1]) (As := [.int (nI (z - 1))]) (nn := 1) (ci := 1) (q0 := 0) C (m_X1_startOfRow l D cI cC h0 h1 r od (z - 1) (z - 1) (by first | assumption | omega) (by first | assumption | omega)) gX1_takeLatest_X1_startOfRow rfl rfl rfl yd_X1_startOfRow ⟨Nat.le_of_ble_eq_true rfl, Nat.le_of_ble_eq_true rfl⟩ rfl [0, 1] rfl rfl rfl rfl rfl (Nat.le_of_ble_eq_true rfl) ⟨Nat.le_of_ble_eq_true rfl, Nat.le_of_ble_eq_true rfl⟩ dX1_takeLatest_27 ?_
    rintro _ _ ⟨rfl, rfl⟩
    refine g_eq (ws' := (hpW cI cC h0 h1 k0 k1 r (nI od) (nI (z - 1)) c)) (st' := [.int (nI ((od + (z - 1)) % 5 * 154)), .ref h1]) rfl rfl ?_
    refine g_aload_n (pc := 30) C dX1_takeLatest_30 1 rfl rfl ?_
    refine g_getN (pc := 31) (ci := 0) (T := TX0) (N := 1) (host := "FenceHandshakes") (v := .ref k1) C in_X1_takeLatest_X0 2 rfl rfl 0 (by decide) (by decide +kernel) rfl rfl dX1_takeLatest_31 ?_
    refine g_iconst (pc := 34) (v := nI 0) C dX1_takeLatest_34 (by decide) ?_
    refine g_sipush (pc := 35) (v := nI 154) C dX1_takeLatest_35 (by decide) ?_
    refine g_copyi (pc := 38) (f := r) (g := c) (ws' := (hpW cI cC h0 h1 k0 k1 r (nI od) (nI (z - 1)) (va_cpy r c ((od + (z - 1)) % 5 * 154) 0 154))) C (by decide +kernel) (by decide +kernel) (by decide +kernel) (by decide +kernel) 1 3 rfl rfl (by omega) (by omega) (by decide) (by decide) (by decide) (Nat.le_of_ble_eq_true rfl) dX1_takeLatest_38 rfl ?_
    exact g_vret C hr hQ dX1_takeLatest_41 rfl ⟨rfl, rfl⟩
  · exact absurd c4 hp

abbrev rm_X4_length : Room := { frames := 0, cells := 0, slots := 0, locals := 0 }
theorem yd_X4_length : yX4_length.cls = RX4 ∧ yX4_length.cls ≠ "java/lang/invoke/MethodHandle" ∧ yX4_length.cls ≠ "java/lang/invoke/VarHandle" ∧ (parseMethodDescriptor yX4_length.desc).map (fun d => d.parameters.length) = some 0 := by decide +kernel
theorem in_X4_length_X4 : ∀ w ∈ u_ws RX4 TX4 6, w ∈ wsX4_length := by decide +kernel
theorem fl_X4_length_19 : Cond.fieldLink RX4 19 "FenceHandshakes$WishText" "length" "I" ∈ wsX4_length := by decide +kernel
set_option maxHeartbeats 4000000 in
set_option maxRecDepth 100000 in
theorem m_X4_length (l : Launch) (D : va_G) (cI cC : ClassId) (h0 h1 h2 : Nat) (sg : Nat → Int32) (r : Nat → Int32) (ln : Nat) (lf : Nat) (rg : Nat) (bd : Bool) : g_M l yX4_length wsX4_length rm_X4_length D cI cC [.ref h0] (txW cI cC h0 h1 h2 sg (nI ln) r (nI lf) (nI rg) (bI bd)) (fun vv ww => vv = some (.int (nI ln)) ∧ ww = (txW cI cC h0 h1 h2 sg (nI ln) r (nI lf) (nI rg) (bI bd))) := by
  refine g_entry (lv := [(0, .ref h0)]) (own := RX4) (by decide) rfl rfl (Nat.le_of_ble_eq_true rfl) rfl ?_
  intro p e s m args below meth co A Q C hr hQ
  refine g_aload_n (pc := 0) C dX4_length_0 0 rfl rfl ?_
  refine g_get (pc := 1) (ci := 4) (T := TX4) (N := 6) (v := .int (nI ln)) C in_X4_length_X4 0 rfl rfl 1 (by decide) fl_X4_length_19 rfl rfl dX4_length_1 ?_
  exact g_iret C hr hQ dX4_length_4 rfl ⟨rfl, rfl⟩
