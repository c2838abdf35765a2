/-! pure: history, text -/
def kpO (od z : Nat) : Nat := if z = 5 then (od + 1) % 5 else od
def kpS (z : Nat) : Nat := if z = 5 then 5 else z + 1
theorem kpO_lt {od z : Nat} (h : od < 5) : kpO od z < 5 := by unfold kpO; split <;> omega
theorem kpS_le {z : Nat} (h : z ≤ 5) : kpS z ≤ 5 := by unfold kpS; split <;> omega
theorem g_narC {x : Nat} (h : x < 65536) : vp_nar .char (nI x) = nI x := by
  rw [vp_nar, (pk_charN h).1]
theorem sh_lt {d : Nat} (h : d < 8) : 1 <<< d < 256 := by
  rw [Nat.shiftLeft_eq, Nat.one_mul]
  calc 2 ^ d ≤ 2 ^ 7 := Nat.pow_le_pow_right (by decide) (by omega)
    _ < 256 := by decide
theorem or_lt {a b : Nat} (h : a < 256) (h2 : b < 256) : a ||| b < 256 := Nat.or_lt_two_pow (n := 8) h h2
def egF (r : Nat → Int32) (lf rg i : Nat) : Nat → Int32 := fun k => if k < i ∧ lf.testBit k = true then r k ||| nI rg else r k
theorem egF_0 (r : Nat → Int32) (lf rg : Nat) : egF r lf rg 0 = r := by funext k; exact if_neg (fun h => absurd h.1 (Nat.not_lt_zero _))
theorem egF_at (r : Nat → Int32) (lf rg i : Nat) : egF r lf rg i i = r i := if_neg (fun h => absurd h.1 (Nat.lt_irrefl _))
theorem egF_t (r : Nat → Int32) (lf rg : Nat) {i : Nat} (h : lf.testBit i = true) : upd (egF r lf rg i) i (egF r lf rg i i ||| nI rg) = egF r lf rg (i + 1) := by
  funext k
  rw [egF_at]
  simp only [upd, egF]
  by_cases e : k = i
  · subst e; rw [if_pos rfl, if_pos ⟨by omega, h⟩]
  · rw [if_neg e]
    by_cases h2 : k < i ∧ lf.testBit k = true
    · rw [if_pos h2, if_pos ⟨by omega, h2.2⟩]
    · rw [if_neg h2, if_neg (fun z => h2 ⟨by omega, z.2⟩)]
theorem egF_f (r : Nat → Int32) (lf rg : Nat) {i : Nat} (h : lf.testBit i = false) : egF r lf rg i = egF r lf rg (i + 1) := by
  funext k
  simp only [egF]
  by_cases e : k = i
  · subst e; rw [if_neg (fun z => by rw [h] at z; cases z.2), if_neg (fun z => by rw [h] at z; cases z.2)]
  · by_cases h2 : k < i ∧ lf.testBit k = true
    · rw [if_pos h2, if_pos ⟨by omega, h2.2⟩]
    · rw [if_neg h2, if_neg (fun z => h2 ⟨by omega, z.2⟩)]
/-- the reader's state: the left people, the right people, whether the dash has come, the rows so far -/
abbrev PS : Type := Nat × Nat × Bool × (Nat → Int32)
def tpOk (lf rg : Nat) (bd : Bool) (y : Nat) : Bool := decide ((if bd then rg else lf) < y)
def tpL (lf : Nat) (bd : Bool) (y : Nat) : Nat := if bd then lf else if lf < y then lf ||| y else lf
def tpR (rg : Nat) (bd : Bool) (y : Nat) : Nat := if bd then (if rg < y then rg ||| y else rg) else rg
def pok (x : Nat) (q : PS) : Bool := if 48 ≤ x ∧ x < 56 then tpOk q.1 q.2.1 q.2.2.1 (1 <<< (x - 48)) else if x = 45 ∧ q.1 ≠ 0 ∧ q.2.2.1 = false then true else decide (x = 44 ∧ q.2.1 ≠ 0)
def pst (x : Nat) (q : PS) : PS := if 48 ≤ x ∧ x < 56 then (tpL q.1 q.2.2.1 (1 <<< (x - 48)), tpR q.2.1 q.2.2.1 (1 <<< (x - 48)), q.2.2.1, q.2.2.2) else if x = 45 ∧ q.1 ≠ 0 ∧ q.2.2.1 = false then (q.1, q.2.1, true, q.2.2.2) else if x = 44 ∧ q.2.1 ≠ 0 then (0, 0, false, egF q.2.2.2 q.1 q.2.1 8) else q
theorem tpL_lt {lf y : Nat} {bd : Bool} (h : lf < 256) (h2 : y < 256) : tpL lf bd y < 256 := by
  unfold tpL; split
  · exact h
  · split
    · exact or_lt h h2
    · exact h
theorem tpR_lt {rg y : Nat} {bd : Bool} (h : rg < 256) (h2 : y < 256) : tpR rg bd y < 256 := by
  unfold tpR; split
  · split
    · exact or_lt h h2
    · exact h
  · exact h
theorem pst_lt {x : Nat} {q : PS} (h : q.1 < 256 ∧ q.2.1 < 256) : (pst x q).1 < 256 ∧ (pst x q).2.1 < 256 := by
  unfold pst
  split
  · next hx => exact ⟨tpL_lt h.1 (sh_lt (by omega)), tpR_lt h.2 (sh_lt (by omega))⟩
  · split
    · exact h
    · split
      · exact ⟨show 0 < 256 by decide, show 0 < 256 by decide⟩
      · exact h
def prun (sg : Nat → Int32) (r0 : Nat → Int32) : Nat → PS
  | 0 => (0, 0, false, r0)
  | n + 1 => pst (cN sg n) (prun sg r0 n)
theorem prun_lt (sg r0 : Nat → Int32) : ∀ n, (prun sg r0 n).1 < 256 ∧ (prun sg r0 n).2.1 < 256
  | 0 => ⟨show 0 < 256 by decide, show 0 < 256 by decide⟩
  | n + 1 => pst_lt (prun_lt sg r0 n)
/-- the fault, and the rows -/
def pres (sg r0 : Nat → Int32) (n : Nat) : Int32 := match fstU (fun i => !pok (cN sg i) (prun sg r0 i)) n with
  | some i => nI i
  | none => if (prun sg r0 n).2.1 = 0 then nI n else -5
def prow (sg r0 : Nat → Int32) (n : Nat) : Nat → Int32 := egF (prun sg r0 n).2.2.2 (prun sg r0 n).1 (prun sg r0 n).2.1 8
theorem nI_m5 {n : Nat} (h : n < 2 ^ 31) : ¬ nI n = -5 := fun e => by
  have := nI_pos h
  rw [e] at this
  exact this (by decide)
theorem pres_at {sg r0 : Nat → Int32} {i n : Nat} (hf : ∀ j, j < i → pok (cN sg j) (prun sg r0 j) = true) (h : pok (cN sg i) (prun sg r0 i) = false) (hi : i < n) : pres sg r0 n = nI i := by
  have e : fstU (fun i => !pok (cN sg i) (prun sg r0 i)) n = some i := (fstU_some _ n i).mpr ⟨hi, by simp only [h, Bool.not_false], fun j hj => by simp only [hf j hj, Bool.not_true]⟩
  rw [pres, e]
theorem pres_end {sg r0 : Nat → Int32} {i n : Nat} (hf : ∀ j, j < i → pok (cN sg j) (prun sg r0 j) = true) (hi : n ≤ i) : pres sg r0 n = if (prun sg r0 n).2.1 = 0 then nI n else -5 := by
  have e : fstU (fun i => !pok (cN sg i) (prun sg r0 i)) n = none := (fstU_none _ n).mpr (fun j hj => by simp only [hf j (by omega), Bool.not_true])
  rw [pres, e]
abbrev hiW (cI cC : ClassId) (h0 h1 : Nat) (r : Nat → Int32) (od : Int32) (z : Int32) : va_W := [(h0, .inr (1, [.ref h1, .int od, .int z])), (h1, .inl (cI, 770, .inl r))]
abbrev hpW (cI cC : ClassId) (h0 h1 k0 k1 : Nat) (r : Nat → Int32) (od : Int32) (z : Int32) (c : Nat → Int32) : va_W := [(h0, .inr (1, [.ref h1, .int od, .int z])), (h1, .inl (cI, 770, .inl r)), (k0, .inr (0, [.ref k1])), (k1, .inl (cI, 154, .inl c))]
abbrev txW (cI cC : ClassId) (h0 h1 h2 : Nat) (sg : Nat → Int32) (ln : Int32) (r : Nat → Int32) (lf : Int32) (rg : Int32) (bd : Int32) : va_W := [(h0, .inr (4, [.ref h1, .int ln, .ref h2, .int lf, .int rg, .int bd])), (h1, .inl (cC, 80, .inl sg)), (h2, .inl (cI, 8, .inl r))]
abbrev rm_X1_size : Room := { frames := 0, cells := 0, slots := 0, locals := 0 }
theorem yd_X1_size : yX1_size.cls = RX1 ∧ yX1_size.cls ≠ "java/lang/invoke/MethodHandle" ∧ yX1_size.cls ≠ "java/lang/invoke/VarHandle" ∧ (parseMethodDescriptor yX1_size.desc).map (fun d => d.parameters.length) = some 0 := by decide +kernel
theorem in_X1_size_X1 : ∀ w ∈ u_ws RX1 TX1 3, w ∈ wsX1_size := by decide +kernel
theorem fl_X1_size_17 : Cond.fieldLink RX1 17 "FenceHandshakes$History" "size" "I" ∈ wsX1_size := by decide +kernel
set_option maxHeartbeats 4000000 in
set_option maxRecDepth 100000 in
theorem m_X1_size (l : Launch) (D : va_G) (cI cC : ClassId) (h0 h1 : Nat) (r : Nat → Int32) (od : Nat) (z : Nat) : g_M l yX1_size wsX1_size rm_X1_size D cI cC [.ref h0] (hiW cI cC h0 h1 r (nI od) (nI z)) (fun vv ww => vv = some (.int (nI z)) ∧ ww = (hiW cI cC h0 h1 r (nI od) (nI z))) := by
  refine g_entry (lv := [(0, .ref h0)]) (own := RX1) (by decide) rfl rfl (Nat.le_of_ble_eq_true rfl) rfl ?_
  intro p e s m args below meth co A Q C hr hQ
  refine g_aload_n (pc := 0) C dX1_size_0 0 rfl rfl ?_
  refine g_get (pc := 1) (ci := 1) (T := TX1) (N := 3) (v := .int (nI z)) C in_X1_size_X1 0 rfl rfl 2 (by decide) fl_X1_size_17 rfl rfl dX1_size_1 ?_
  exact g_iret C hr hQ dX1_size_4 rfl ⟨rfl, rfl⟩

abbrev rm_X1_startOfRow : Room := { frames := 0, cells := 0, slots := 0, locals := 0 }
theorem yd_X1_startOfRow : yX1_startOfRow.cls = RX1 ∧ yX1_startOfRow.cls ≠ "java/lang/invoke/MethodHandle" ∧ yX1_startOfRow.cls ≠ "java/lang/invoke/VarHandle" ∧ (parseMethodDescriptor yX1_startOfRow.desc).map (fun d => d.parameters.length) = some 1 := by decide +kernel
theorem in_X1_startOfRow_X1 : ∀ w ∈ u_ws RX1 TX1 3, w ∈ wsX1_startOfRow := by decide +kernel
theorem fl_X1_startOfRow_21 : Cond.fieldLink RX1 21 "FenceHandshakes$History" "oldest" "I" ∈ wsX1_startOfRow := by decide +kernel
set_option maxHeartbeats 4000000 in
set_option maxRecDepth 100000 in
theorem m_X1_startOfRow (l : Launch) (D : va_G) (cI cC : ClassId) (h0 h1 : Nat) (r : Nat → Int32) (od : Nat) (z : Nat) (g : Nat) (ho : od < 5) (hg : g ≤ 5) : g_M l yX1_startOfRow wsX1_startOfRow rm_X1_startOfRow D cI cC [.ref h0, .int (nI g)] (hiW cI cC h0 h1 r (nI od) (nI z)) (fun vv ww => vv = some (.int (nI ((od + g) % 5 * 154))) ∧ ww = (hiW cI cC h0 h1 r (nI od) (nI z))) := by
  refine g_entry (lv := [(0, .ref h0), (1, .int (nI g))]) (own := RX1) (by decide) rfl rfl (Nat.le_of_ble_eq_true rfl) rfl ?_
  intro p e s m args below meth co A Q C hr hQ
  refine g_aload_n (pc := 0) C dX1_startOfRow_0 0 rfl rfl ?_
  refine g_get (pc := 1) (ci := 1) (T := TX1) (N := 3) (v := .int (nI od)) C in_X1_startOfRow_X1 0 rfl rfl 1 (by decide) fl_X1_startOfRow_21 rfl rfl dX1_startOfRow_1 ?_
  refine g_iload_n (pc := 4) C dX1_startOfRow_4 1 rfl rfl ?_
  refine g_iaddN (pc := 5) C dX1_startOfRow_5 ?_
  refine g_iconst (pc := 6) (v := nI 5) C dX1_startOfRow_6 (by decide) ?_
  refine g_iremN (pc := 7) C dX1_startOfRow_7 (by omega) (by omega) (by omega) ?_
  refine g_sipush (pc := 8) (v := nI 154) C dX1_startOfRow_8 (by decide) ?_
  refine g_imulN (pc := 11) C dX1_startOfRow_11 ?_
  refine g_top (y := nI ((od + g) % 5 * 154)) (rfl) ?_
  exact g_iret C hr hQ dX1_startOfRow_12 rfl ⟨rfl, rfl⟩

abbrev rm_X1_keep : Room := { frames := 1, cells := 0, slots := 0, locals := 26 }
theorem yd_X1_keep : yX1_keep.cls = RX1 ∧ yX1_keep.cls ≠ "java/lang/invoke/MethodHandle" ∧ yX1_keep.cls ≠ "java/lang/invoke/VarHandle" ∧ (parseMethodDescriptor yX1_keep.desc).map (fun d => d.parameters.length) = some 1 := by decide +kernel
theorem in_X1_keep_X0 : ∀ w ∈ u_ws RX0 TX0 1, w ∈ wsX1_keep := by decide +kernel
theorem in_X1_keep_X1 : ∀ w ∈ u_ws RX1 TX1 3, w ∈ wsX1_keep := by decide +kernel
theorem fl_X1_keep_11 : Cond.fieldLink RX1 11 "FenceHandshakes$History" "rows" "[I" ∈ wsX1_keep := by decide +kernel
theorem fl_X1_keep_17 : Cond.fieldLink RX1 17 "FenceHandshakes$History" "size" "I" ∈ wsX1_keep := by decide +kernel
theorem fl_X1_keep_21 : Cond.fieldLink RX1 21 "FenceHandshakes$History" "oldest" "I" ∈ wsX1_keep := by decide +kernel
set_option maxHeartbeats 4000000 in
set_option maxRecDepth 100000 in
theorem m_X1_keep (l : Launch) (D : va_G) (cI cC : ClassId) (h0 h1 k0 k1 : Nat) (r : Nat → Int32) (c : Nat → Int32) (od : Nat) (z : Nat) (ho : od < 5) (hz : z ≤ 5) : g_M l yX1_keep wsX1_keep rm_X1_keep D cI cC [.ref h0, .ref k0] (hpW cI cC h0 h1 k0 k1 r (nI od) (nI z) c) (fun vv ww => vv = none ∧ ww = (hpW cI cC h0 h1 k0 k1 (va_cpy c r 0 ((kpO od z + (kpS z - 1)) % 5 * 154) 154) (nI (kpO od z)) (nI (kpS z)) c)) := by
  refine g_entry (lv := [(0, .ref h0), (1, .ref k0)]) (own := RX1) (by decide) rfl rfl (Nat.le_of_ble_eq_true rfl) rfl ?_
  intro p e s m args below meth co A Q C hr hQ
  refine g_aload_n (pc := 0) C dX1_keep_0 0 rfl rfl ?_
  refine g_get (pc := 1) (ci := 1) (T := TX1) (N := 3) (v := .int (nI z)) C in_X1_keep_X1 0 rfl rfl 2 (by decide) fl_X1_keep_17 rfl rfl dX1_keep_1 ?_
  refine g_iconst (pc := 4) (v := nI 5) C dX1_keep_4 (by decide) ?_
  refine g_icmp_neN (pc := 5) C 30 (by omega) (by omega) dX1_keep_5 (by decide) (fun c5 => ?_) (fun c5 => ?_)
  · refine g_aload_n (pc := 30) C dX1_keep_30 1 rfl rfl ?_
    refine g_getN (pc := 31) (ci := 0) (T := TX0) (N := 1) (host := "FenceHandshakes") (v := .ref k1) C in_X1_keep_X0 2 rfl rfl 0 (by decide) (by decide +kernel) rfl rfl dX1_keep_31 ?_
    refine g_iconst (pc := 34) (v := nI 0) C dX1_keep_34 (by decide) ?_
    refine g_aload_n (pc := 35) C dX1_keep_35 0 rfl rfl ?_
    refine g_get (pc := 36) (ci := 1) (T := TX1) (N := 3) (v := .ref h1) C in_X1_keep_X1 0 rfl rfl 0 (by decide) fl_X1_keep_11 rfl rfl dX1_keep_36 ?_
    refine g_aload_n (pc := 39) C dX1_keep_39 0 rfl rfl ?_
    refine g_aload_n (pc := 40) C dX1_keep_40 0 rfl rfl ?_
    refine g_get (pc := 41) (ci := 1) (T := TX1) (N := 3) (v := .int (nI z)) C in_X1_keep_X1 0 rfl rfl 2 (by decide) fl_X1_keep_17 rfl rfl dX1_keep_41 ?_
    refine g_callV (pc := 44) (st := [.ref h1, .int (nI 0), .ref k1]) (As := [.int (nI z)]) (nn := 1) (ci := 1) (q0 := 0) C (m_X1_startOfRow l D cI cC h0 h1 r od z z (by first | assumption | omega) (by first | assumption | omega)) gX1_keep_X1_startOfRow rfl rfl rfl yd_X1_startOfRow ⟨Nat.le_of_ble_eq_true rfl, Nat.le_of_ble_eq_true rfl⟩ rfl [0, 1] rfl rfl rfl rfl rfl (Nat.le_of_ble_eq_true rfl) ⟨Nat.le_of_ble_eq_true rfl, Nat.le_of_ble_eq_true rfl⟩ dX1_keep_44 ?_
    rintro _ _ ⟨rfl, rfl⟩
    refine g_eq (ws' := (hpW cI cC h0 h1 k0 k1 r (nI od) (nI z) c)) (st' := [.int (nI ((od + z) % 5 * 154)), .ref h1, .int (nI 0), .ref k1]) rfl rfl ?_
    refine g_sipush (pc := 47) (v := nI 154) C dX1_keep_47 (by decide) ?_
    refine g_copyi (pc := 50) (f := c) (g := r) (ws' := (hpW cI cC h0 h1 k0 k1 (va_cpy c r 0 ((od + z) % 5 * 154) 154) (nI od) (nI z) c)) C (by decide +kernel) (by decide +kernel) (by decide +kernel) (by decide +kernel) 3 1 rfl rfl (by omega) (by omega) (by decide) (by decide) (by decide) (Nat.le_of_ble_eq_true rfl) dX1_keep_50 rfl ?_
    refine g_aload_n (pc := 53) C dX1_keep_53 0 rfl rfl ?_
    refine g_dup (pc := 54) C dX1_keep_54 rfl ?_
    refine g_get (pc := 55) (ci := 1) (T := TX1) (N := 3) (v := .int (nI z)) C in_X1_keep_X1 0 rfl rfl 2 (by decide) fl_X1_keep_17 rfl rfl dX1_keep_55 ?_
    refine g_iconst (pc := 58) (v := nI 1) C dX1_keep_58 (by decide) ?_
    refine g_iaddN (pc := 59) C dX1_keep_59 ?_
    refine g_put (pc := 60) (ci := 1) (T := TX1) (N := 3) (ws' := (hpW cI cC h0 h1 k0 k1 (va_cpy c r 0 ((od + z) % 5 * 154) 154) (nI od) (nI (z + 1)) c)) (ty := .int) (v := .int (nI (z + 1))) C in_X1_keep_X1 tyX1 tyX1_ok nmX1 0 rfl rfl 2 (by decide) fl_X1_keep_17 rfl rfl (by decide +kernel) rfl rfl (Nat.le_of_ble_eq_true rfl) dX1_keep_60 rfl ?_
    refine g_ws (ws' := (hpW cI cC h0 h1 k0 k1 (va_cpy c r 0 ((kpO od z + (kpS z - 1)) % 5 * 154) 154) (nI od) (nI (z + 1)) c)) (by first | rw [kpO, kpS, if_pos c5, if_pos c5, c5] | (rw [kpO, kpS, if_neg c5, if_neg c5]; rfl)) ?_
    refine g_ws (ws' := (hpW cI cC h0 h1 k0 k1 (va_cpy c r 0 ((kpO od z + (kpS z - 1)) % 5 * 154) 154) (nI (kpO od z)) (nI (z + 1)) c)) (by first | rw [kpO, if_pos c5] | rw [kpO, if_neg c5]) ?_
    refine g_ws (ws' := (hpW cI cC h0 h1 k0 k1 (va_cpy c r 0 ((kpO od z + (kpS z - 1)) % 5 * 154) 154) (nI (kpO od z)) (nI (kpS z)) c)) (by first | rw [kpS, if_pos c5, c5] | rw [kpS, if_neg c5]) ?_
    exact g_vret C hr hQ dX1_keep_63 rfl ⟨rfl, rfl⟩
  · refine g_aload_n (pc := 8) C dX1_keep_8 0 rfl rfl ?_
    refine g_aload_n (pc := 9) C dX1_keep_9 0 rfl rfl ?_
    refine g_get (pc := 10) (ci := 1) (T := TX1) (N := 3) (v := .int (nI od)) C in_X1_keep_X1 0 rfl rfl 1 (by decide) fl_X1_keep_21 rfl rfl dX1_keep_10 ?_
    refine g_iconst (pc := 13) (v := nI 1) C dX1_keep_13 (by decide) ?_
    refine g_iaddN (pc := 14) C dX1_keep_14 ?_
    refine g_iconst (pc := 15) (v := nI 5) C dX1_keep_15 (by decide) ?_
    refine g_iremN (pc := 16) C dX1_keep_16 (by omega) (by omega) (by omega) ?_
    refine g_put (pc := 17) (ci := 1) (T := TX1) (N := 3) (ws' := (hpW cI cC h0 h1 k0 k1 r (nI ((od + 1) % 5)) (nI z) c)) (ty := .int) (v := .int (nI ((od + 1) % 5))) C in_X1_keep_X1 tyX1 tyX1_ok nmX1 0 rfl rfl 1 (by decide) fl_X1_keep_21 rfl rfl (by decide +kernel) rfl rfl (Nat.le_of_ble_eq_true rfl) dX1_keep_17 rfl ?_
    refine g_aload_n (pc := 20) C dX1_keep_20 0 rfl rfl ?_
    refine g_dup (pc := 21) C dX1_keep_21 rfl ?_
    refine g_get (pc := 22) (ci := 1) (T := TX1) (N := 3) (v := .int (nI z)) C in_X1_keep_X1 0 rfl rfl 2 (by decide) fl_X1_keep_17 rfl rfl dX1_keep_22 ?_
    refine g_iconst (pc := 25) (v := nI 1) C dX1_keep_25 (by decide) ?_
    refine g_isubN (pc := 26) C dX1_keep_26 (by omega) ?_
    refine g_put (pc := 27) (ci := 1) (T := TX1) (N := 3) (ws' := (hpW cI cC h0 h1 k0 k1 r (nI ((od + 1) % 5)) (nI (z - 1)) c)) (ty := .int) (v := .int (nI (z - 1))) C in_X1_keep_X1 tyX1 tyX1_ok nmX1 0 rfl rfl 2 (by decide) fl_X1_keep_17 rfl rfl (by decide +kernel) rfl rfl (Nat.le_of_ble_eq_true rfl) dX1_keep_27 rfl ?_
    refine g_aload_n (pc := 30) C dX1_keep_30 1 rfl rfl ?_
    refine g_getN (pc := 31) (ci := 0) (T := TX0) (N := 1) (host := "FenceHandshakes") (v := .ref k1) C in_X1_keep_X0 2 rfl rfl 0 (by decide) (by decide +kernel) rfl rfl dX1_keep_31 ?_
    refine g_iconst (pc := 34) (v := nI 0) C dX1_keep_34 (by decide) ?_
    refine g_aload_n (pc := 35) C dX1_keep_35 0 rfl rfl ?_
    refine g_get (pc := 36) (ci := 1) (T := TX1) (N := 3) (v := .ref h1) C in_X1_keep_X1 0 rfl rfl 0 (by decide) fl_X1_keep_11 rfl rfl dX1_keep_36 ?_
    refine g_aload_n (pc := 39) C dX1_keep_39 0 rfl rfl ?_
    refine g_aload_n (pc := 40) C dX1_keep_40 0 rfl rfl ?_
    refine g_get (pc := 41) (ci := 1) (T := TX1) (N := 3) (v := .int (nI (z - 1))) C in_X1_keep_X1 0 rfl rfl 2 (by decide) fl_X1_keep_17 rfl rfl dX1_keep_41 ?_
    refine g_callV (pc := 44) (st := [.ref h1, .int (nI 0), .ref k1]) (As := [.int (nI (z - 1))]) (nn := 1) (ci := 1) (q0 := 0) C (m_X1_startOfRow l D cI cC h0 h1 r ((od + 1) % 5) (z - 1) (z - 1) (by first | assumption | omega) (by first | assumption | omega)) gX1_keep_X1_startOfRow rfl rfl rfl yd_X1_startOfRow ⟨Nat.le_of_ble_eq_true rfl, Nat.le_of_ble_eq_true rfl⟩ rfl [0, 1] rfl rfl rfl rfl rfl (Nat.le_of_ble_eq_true rfl) ⟨Nat.le_of_ble_eq_true rfl, Nat.le_of_ble_eq_true rfl⟩ dX1_keep_44 ?_
    rintro _ _ ⟨rfl, rfl⟩
    refine g_eq (ws' := (hpW cI cC h0 h1 k0 k1 r (nI ((od + 1) % 5)) (nI (z - 1)) c)) (st' := [.int (nI ((((od + 1) % 5) + (z - 1)) % 5 * 154)), .ref h1, .int (nI 0), .ref k1]) rfl rfl ?_
    refine g_sipush (pc := 47) (v := nI 154) C dX1_keep_47 (by decide) ?_
    refine g_copyi (pc := 50) (f := c) (g := r) (ws' := (hpW cI cC h0 h1 k0 k1 (va_cpy c r 0 ((((od + 1) % 5) + (z - 1)) % 5 * 154) 154) (nI ((od + 1) % 5)) (nI (z - 1)) c)) C (by decide +kernel) (by decide +kernel) (by decide +kernel) (by decide +kernel) 3 1 rfl rfl (by omega) (by omega) (by decide) (by decide) (by decide) (Nat.le_of_ble_eq_true rfl) dX1_keep_50 rfl ?_
    refine g_aload_n (pc := 53) C dX1_keep_53 0 rfl rfl ?_
    refine g_dup (pc := 54) C dX1_keep_54 rfl ?_
    refine g_get (pc := 55) (ci := 1) (T := TX1) (N := 3) (v := .int (nI (z - 1))) C in_X1_keep_X1 0 rfl rfl 2 (by decide) fl_X1_keep_17 rfl rfl dX1_keep_55 ?_
    refine g_iconst (pc := 58) (v := nI 1) C dX1_keep_58 (by decide) ?_
    refine g_iaddN (pc := 59) C dX1_keep_59 ?_
    refine g_put (pc := 60) (ci := 1) (T := TX1) (N := 3) (ws' := (hpW cI cC h0 h1 k0 k1 (va_cpy c r 0 ((((od + 1) % 5) + (z - 1)) % 5 * 154) 154) (nI ((od + 1) % 5)) (nI ((z - 1) + 1)) c)) (ty := .int) (v := .int (nI ((z - 1) + 1))) C in_X1_keep_X1 tyX1 tyX1_ok nmX1 0 rfl rfl 2 (by decide) fl_X1_keep_17 rfl rfl (by decide +kernel) rfl rfl (Nat.le_of_ble_eq_true rfl) dX1_keep_60 rfl ?_
    refine g_ws (ws' := (hpW cI cC h0 h1 k0 k1 (va_cpy c r 0 ((kpO od z + (kpS z - 1)) % 5 * 154) 154) (nI ((od + 1) % 5)) (nI ((z - 1) + 1)) c)) (by first | rw [kpO, kpS, if_pos c5, if_pos c5, c5] | (rw [kpO, kpS, if_neg c5, if_neg c5]; rfl)) ?_
    refine g_ws (ws' := (hpW cI cC h0 h1 k0 k1 (va_cpy c r 0 ((kpO od z + (kpS z - 1)) % 5 * 154) 154) (nI (kpO od z)) (nI ((z - 1) + 1)) c)) (by first | rw [kpO, if_pos c5] | rw [kpO, if_neg c5]) ?_
    refine g_ws (ws' := (hpW cI cC h0 h1 k0 k1 (va_cpy c r 0 ((kpO od z + (kpS z - 1)) % 5 * 154) 154) (nI (kpO od z)) (nI (kpS z)) c)) (by first | rw [kpS, if_pos c5, c5] | rw [kpS, if_neg c5]) ?_
    exact g_vret C hr hQ dX1_keep_63 rfl ⟨rfl, rfl⟩

abbrev rm_X1_takeLatest : Room := { frames := 1, cells := 0, slots := 0, locals := 26 }
theorem yd_X1_takeLatest : yX1_takeLatest.cls = RX1 ∧ yX1_takeLatest.cls ≠ "java/lang/invoke/MethodHandle" ∧ yX1_takeLatest.cls ≠ "java/lang/invoke/VarHandle" ∧ (parseMethodDescriptor yX1_takeLatest.desc).map (fun d => d.parameters.length) = some 1 := by decide +kernel
theorem in_X1_takeLatest_X0 : ∀ w ∈ u_ws RX0 TX0 1, w ∈ wsX1_takeLatest := by decide +kernel
theorem in_X1_takeLatest_X1 : ∀ w ∈ u_ws RX1 TX1 3, w ∈ wsX1_takeLatest := by decide +kernel
theorem fl_X1_takeLatest_11 : Cond.fieldLink RX1 11 "FenceHandshakes$History" "rows" "[I" ∈ wsX1_takeLatest := by decide +kernel
theorem fl_X1_takeLatest_17 : Cond.fieldLink RX1 17 "FenceHandshakes$History" "size" "I" ∈ wsX1_takeLatest := by decide +kernel
set_option maxHeartbeats 4000000 in
set_option maxRecDepth 100000 in
theorem m_X1_takeLatest (l : Launch) (D : va_G) (cI cC : ClassId) (h0 h1 k0 k1 : Nat) (r : Nat → Int32) (c : Nat → Int32) (od : Nat) (z : Nat) (ho : od < 5) (hz : z ≤ 5) (hp : z ≠ 0) : g_M l yX1_takeLatest wsX1_takeLatest rm_X1_takeLatest D cI cC [.ref h0, .ref k0] (hpW cI cC h0 h1 k0 k1 r (nI od) (nI z) c) (fun vv ww => vv = none ∧ ww = (hpW cI cC h0 h1 k0 k1 r (nI od) (nI (z - 1)) (va_cpy r c ((od + (z - 1)) % 5 * 154) 0 154))) := by
  refine g_entry (lv := [(0, .ref h0), (1, .ref k0)]) (own := RX1) (by decide) rfl rfl (Nat.le_of_ble_eq_true rfl) rfl ?_
  intro p e s m args below meth co A Q C hr hQ
  refine g_aload_n (pc := 0) C dX1_takeLatest_0 0 rfl rfl ?_
  refine g_get (pc := 1) (ci := 1) (T := TX1) (N := 3) (v := .int (nI z)) C in_X1_takeLatest_X1 0 rfl rfl 2 (by decide) fl_X1_takeLatest_17 rfl rfl dX1_takeLatest_1 ?_
  refine g_if_neN (pc := 4) C 8 (by omega) dX1_takeLatest_4 (by decide) (fun c4 => ?_) (fun c4 => ?_)
  · refine g_aload_n (pc := 8) C dX1_takeLatest_8 0 rfl rfl ?_
    refine g_dup (pc := 9) C dX1_takeLatest_9 rfl ?_
    refine g_get (pc := 10) (ci := 1) (T := TX1) (N := 3) (v := .int (nI z)) C in_X1_takeLatest_X1 0 rfl rfl 2 (by decide) fl_X1_takeLatest_17 rfl rfl dX1_takeLatest_10 ?_
    refine g_iconst (pc := 13) (v := nI 1) C dX1_takeLatest_13 (by decide) ?_
    refine g_isubN (pc := 14) C dX1_takeLatest_14 (by omega) ?_
    refine g_put (pc := 15) (ci := 1) (T := TX1) (N := 3) (ws' := (hpW cI cC h0 h1 k0 k1 r (nI od) (nI (z - 1)) c)) (ty := .int) (v := .int (nI (z - 1))) C in_X1_takeLatest_X1 tyX1 tyX1_ok nmX1 0 rfl rfl 2 (by decide) fl_X1_takeLatest_17 rfl rfl (by decide +kernel) rfl rfl (Nat.le_of_ble_eq_true rfl) dX1_takeLatest_15 rfl ?_
    refine g_aload_n (pc := 18) C dX1_takeLatest_18 0 rfl rfl ?_
    refine g_get (pc := 19) (ci := 1) (T := TX1) (N := 3) (v := .ref h1) C in_X1_takeLatest_X1 0 rfl rfl 0 (by decide) fl_X1_takeLatest_11 rfl rfl dX1_takeLatest_19 ?_
    refine g_aload_n (pc := 22) C dX1_takeLatest_22 0 rfl rfl ?_
    refine g_aload_n (pc := 23) C dX1_takeLatest_23 0 rfl rfl ?_
    refine g_get (pc := 24) (ci := 1) (T := TX1) (N := 3) (v := .int (nI (z - 1))) C in_X1_takeLatest_X1 0 rfl rfl 2 (by decide) fl_X1_takeLatest_17 rfl rfl dX1_takeLatest_24 ?_
    refine g_callV (pc := 27) (st := [.ref h1]) (As := [.int (nI (z - 1))]) (nn := 1) (ci := 1) (q0 := 0) C (m_X1_startOfRow l D cI cC h0 h1 r od (z - 1) (z - 1) (by first | assumption | omega) (by first | assumption | omega)) gX1_takeLatest_X1_startOfRow rfl rfl rfl yd_X1_startOfRow ⟨Nat.le_of_ble_eq_true rfl, Nat.le_of_ble_eq_true rfl⟩ rfl [0, 1] rfl rfl rfl rfl rfl (Nat.le_of_ble_eq_true rfl) ⟨Nat.le_of_ble_eq_true rfl, Nat.le_of_ble_eq_true rfl⟩ dX1_takeLatest_27 ?_
    rintro _ _ ⟨rfl, rfl⟩
    refine g_eq (ws' := (hpW cI cC h0 h1 k0 k1 r (nI od) (nI (z - 1)) c)) (st' := [.int (nI ((od + (z - 1)) % 5 * 154)), .ref h1]) rfl rfl ?_
    refine g_aload_n (pc := 30) C dX1_takeLatest_30 1 rfl rfl ?_
    refine g_getN (pc := 31) (ci := 0) (T := TX0) (N := 1) (host := "FenceHandshakes") (v := .ref k1) C in_X1_takeLatest_X0 2 rfl rfl 0 (by decide) (by decide +kernel) rfl rfl dX1_takeLatest_31 ?_
    refine g_iconst (pc := 34) (v := nI 0) C dX1_takeLatest_34 (by decide) ?_
    refine g_sipush (pc := 35) (v := nI 154) C dX1_takeLatest_35 (by decide) ?_
    refine g_copyi (pc := 38) (f := r) (g := c) (ws' := (hpW cI cC h0 h1 k0 k1 r (nI od) (nI (z - 1)) (va_cpy r c ((od + (z - 1)) % 5 * 154) 0 154))) C (by decide +kernel) (by decide +kernel) (by decide +kernel) (by decide +kernel) 1 3 rfl rfl (by omega) (by omega) (by decide) (by decide) (by decide) (Nat.le_of_ble_eq_true rfl) dX1_takeLatest_38 rfl ?_
    exact g_vret C hr hQ dX1_takeLatest_41 rfl ⟨rfl, rfl⟩
  · exact absurd c4 hp

abbrev rm_X4_length : Room := { frames := 0, cells := 0, slots := 0, locals := 0 }
theorem yd_X4_length : yX4_length.cls = RX4 ∧ yX4_length.cls ≠ "java/lang/invoke/MethodHandle" ∧ yX4_length.cls ≠ "java/lang/invoke/VarHandle" ∧ (parseMethodDescriptor yX4_length.desc).map (fun d => d.parameters.length) = some 0 := by decide +kernel
theorem in_X4_length_X4 : ∀ w ∈ u_ws RX4 TX4 6, w ∈ wsX4_length := by decide +kernel
theorem fl_X4_length_19 : Cond.fieldLink RX4 19 "FenceHandshakes$WishText" "length" "I" ∈ wsX4_length := by decide +kernel
set_option maxHeartbeats 4000000 in
set_option maxRecDepth 100000 in
theorem m_X4_length (l : Launch) (D : va_G) (cI cC : ClassId) (h0 h1 h2 : Nat) (sg : Nat → Int32) (r : Nat → Int32) (ln : Nat) (lf : Nat) (rg : Nat) (bd : Bool) : g_M l yX4_length wsX4_length rm_X4_length D cI cC [.ref h0] (txW cI cC h0 h1 h2 sg (nI ln) r (nI lf) (nI rg) (bI bd)) (fun vv ww => vv = some (.int (nI ln)) ∧ ww = (txW cI cC h0 h1 h2 sg (nI ln) r (nI lf) (nI rg) (bI bd))) := by
  refine g_entry (lv := [(0, .ref h0)]) (own := RX4) (by decide) rfl rfl (Nat.le_of_ble_eq_true rfl) rfl ?_
  intro p e s m args below meth co A Q C hr hQ
  refine g_aload_n (pc := 0) C dX4_length_0 0 rfl rfl ?_
  refine g_get (pc := 1) (ci := 4) (T := TX4) (N := 6) (v := .int (nI ln)) C in_X4_length_X4 0 rfl rfl 1 (by decide) fl_X4_length_19 rfl rfl dX4_length_1 ?_
  exact g_iret C hr hQ dX4_length_4 rfl ⟨rfl, rfl⟩

abbrev rm_X4_hasRoom : Room := { frames := 0, cells := 0, slots := 0, locals := 0 }
theorem yd_X4_hasRoom : yX4_hasRoom.cls = RX4 ∧ yX4_hasRoom.cls ≠ "java/lang/invoke/MethodHandle" ∧ yX4_hasRoom.cls ≠ "java/lang/invoke/VarHandle" ∧ (parseMethodDescriptor yX4_hasRoom.desc).map (fun d => d.parameters.length) = some 0 := by decide +kernel
theorem in_X4_hasRoom_X4 : ∀ w ∈ u_ws RX4 TX4 6, w ∈ wsX4_hasRoom := by decide +kernel
theorem fl_X4_hasRoom_19 : Cond.fieldLink RX4 19 "FenceHandshakes$WishText" "length" "I" ∈ wsX4_hasRoom := by decide +kernel
set_option maxHeartbeats 4000000 in
set_option maxRecDepth 100000 in
theorem m_X4_hasRoom (l : Launch) (D : va_G) (cI cC : ClassId) (h0 h1 h2 : Nat) (sg : Nat → Int32) (r : Nat → Int32) (ln : Nat) (lf : Nat) (rg : Nat) (bd : Bool) (hn : ln ≤ 80) : g_M l yX4_hasRoom wsX4_hasRoom rm_X4_hasRoom D cI cC [.ref h0] (txW cI cC h0 h1 h2 sg (nI ln) r (nI lf) (nI rg) (bI bd)) (fun vv ww => vv = some (.int (bI (decide (ln < 80)))) ∧ ww = (txW cI cC h0 h1 h2 sg (nI ln) r (nI lf) (nI rg) (bI bd))) := by
  refine g_entry (lv := [(0, .ref h0)]) (own := RX4) (by decide) rfl rfl (Nat.le_of_ble_eq_true rfl) rfl ?_
  intro p e s m args below meth co A Q C hr hQ
  refine g_aload_n (pc := 0) C dX4_hasRoom_0 0 rfl rfl ?_
  refine g_get (pc := 1) (ci := 4) (T := TX4) (N := 6) (v := .int (nI ln)) C in_X4_hasRoom_X4 0 rfl rfl 1 (by decide) fl_X4_hasRoom_19 rfl rfl dX4_hasRoom_1 ?_
  refine g_bipush (pc := 4) (v := nI 80) C dX4_hasRoom_4 (by decide) ?_
  refine g_icmp_geN (pc := 6) C 13 (by omega) (by omega) dX4_hasRoom_6 (by decide) (fun c6 => ?_) (fun c6 => ?_)
  · refine g_iconst (pc := 13) (v := nI 0) C dX4_hasRoom_13 (by decide) ?_
    refine g_top (y := bI (decide (ln < 80))) (by first | (rw [decide_eq_true c6]; rfl) | (rw [decide_eq_false (Nat.not_lt.mpr c6)]; rfl)) ?_
    exact g_zret C hr hQ dX4_hasRoom_14 rfl ⟨rfl, rfl⟩
  · refine g_iconst (pc := 9) (v := nI 1) C dX4_hasRoom_9 (by decide) ?_
    refine g_goto (pc := 10) C 14 dX4_hasRoom_10 (by decide) ?_
    refine g_top (y := bI (decide (ln < 80))) (by first | (rw [decide_eq_true c6]; rfl) | (rw [decide_eq_false (Nat.not_lt.mpr c6)]; rfl)) ?_
    exact g_zret C hr hQ dX4_hasRoom_14 rfl ⟨rfl, rfl⟩

abbrev rm_X4_add : Room := { frames := 1, cells := 0, slots := 0, locals := 20 }
theorem yd_X4_add : yX4_add.cls = RX4 ∧ yX4_add.cls ≠ "java/lang/invoke/MethodHandle" ∧ yX4_add.cls ≠ "java/lang/invoke/VarHandle" ∧ (parseMethodDescriptor yX4_add.desc).map (fun d => d.parameters.length) = some 1 := by decide +kernel
theorem in_X4_add_X4 : ∀ w ∈ u_ws RX4 TX4 6, w ∈ wsX4_add := by decide +kernel
theorem fl_X4_add_9 : Cond.fieldLink RX4 9 "FenceHandshakes$WishText" "signs" "[C" ∈ wsX4_add := by decide +kernel
theorem fl_X4_add_19 : Cond.fieldLink RX4 19 "FenceHandshakes$WishText" "length" "I" ∈ wsX4_add := by decide +kernel
set_option maxHeartbeats 4000000 in
set_option maxRecDepth 100000 in
theorem m_X4_add (l : Launch) (D : va_G) (cI cC : ClassId) (h0 h1 h2 : Nat) (sg : Nat → Int32) (r : Nat → Int32) (ln : Nat) (lf : Nat) (rg : Nat) (bd : Bool) (x : Nat) (hn : ln < 80) (hx : x < 65536) : g_M l yX4_add wsX4_add rm_X4_add D cI cC [.ref h0, .int (nI x)] (txW cI cC h0 h1 h2 sg (nI ln) r (nI lf) (nI rg) (bI bd)) (fun vv ww => vv = none ∧ ww = (txW cI cC h0 h1 h2 (upd sg ln (nI x)) (nI (ln + 1)) r (nI lf) (nI rg) (bI bd))) := by
  refine g_entry (lv := [(0, .ref h0), (1, .int (nI x))]) (own := RX4) (by decide) rfl rfl (Nat.le_of_ble_eq_true rfl) rfl ?_
  intro p e s m args below meth co A Q C hr hQ
  refine g_aload_n (pc := 0) C dX4_add_0 0 rfl rfl ?_
  refine g_callV (pc := 1) (st := []) (As := []) (nn := 0) (ci := 4) (q0 := 0) C (m_X4_hasRoom l D cI cC h0 h1 h2 sg r ln lf rg bd (by first | assumption | omega)) gX4_add_X4_hasRoom rfl rfl rfl yd_X4_hasRoom ⟨Nat.le_of_ble_eq_true rfl, Nat.le_of_ble_eq_true rfl⟩ rfl [0, 1, 2] rfl rfl rfl rfl rfl (Nat.le_of_ble_eq_true rfl) ⟨Nat.le_of_ble_eq_true rfl, Nat.le_of_ble_eq_true rfl⟩ dX4_add_1 ?_
  rintro _ _ ⟨rfl, rfl⟩
  refine g_eq (ws' := (txW cI cC h0 h1 h2 sg (nI ln) r (nI lf) (nI rg) (bI bd))) (st' := [.int (bI (decide (ln < 80)))]) rfl rfl ?_
  refine g_if_eqB (pc := 4) C 28 dX4_add_4 (by decide) (fun c4 => ?_) (fun c4 => ?_)
  · exact absurd (of_decide_eq_false c4) (by omega)
  · refine g_aload_n (pc := 7) C dX4_add_7 0 rfl rfl ?_
    refine g_get (pc := 8) (ci := 4) (T := TX4) (N := 6) (v := .ref h1) C in_X4_add_X4 0 rfl rfl 0 (by decide) fl_X4_add_9 rfl rfl dX4_add_8 ?_
    refine g_aload_n (pc := 11) C dX4_add_11 0 rfl rfl ?_
    refine g_get (pc := 12) (ci := 4) (T := TX4) (N := 6) (v := .int (nI ln)) C in_X4_add_X4 0 rfl rfl 1 (by decide) fl_X4_add_19 rfl rfl dX4_add_12 ?_
    refine g_iload_n (pc := 15) C dX4_add_15 1 rfl rfl ?_
    refine g_i2c (pc := 16) (v := nI x) C dX4_add_16 (g_i2cN (by omega)) ?_
    refine g_castN (pc := 17) (f := sg) (ws' := (txW cI cC h0 h1 h2 (upd sg ln (vp_nar .char (nI x))) (nI ln) r (nI lf) (nI rg) (bI bd))) C 1 rfl (by omega) (by decide) dX4_add_17 rfl ?_
    refine g_ws (ws' := (txW cI cC h0 h1 h2 (upd sg ln (nI x)) (nI ln) r (nI lf) (nI rg) (bI bd))) (by rw [g_narC hx]) ?_
    refine g_aload_n (pc := 18) C dX4_add_18 0 rfl rfl ?_
    refine g_dup (pc := 19) C dX4_add_19 rfl ?_
    refine g_get (pc := 20) (ci := 4) (T := TX4) (N := 6) (v := .int (nI ln)) C in_X4_add_X4 0 rfl rfl 1 (by decide) fl_X4_add_19 rfl rfl dX4_add_20 ?_
    refine g_iconst (pc := 23) (v := nI 1) C dX4_add_23 (by decide) ?_
    refine g_iaddN (pc := 24) C dX4_add_24 ?_
    refine g_put (pc := 25) (ci := 4) (T := TX4) (N := 6) (ws' := (txW cI cC h0 h1 h2 (upd sg ln (nI x)) (nI (ln + 1)) r (nI lf) (nI rg) (bI bd))) (ty := .int) (v := .int (nI (ln + 1))) C in_X4_add_X4 tyX4 tyX4_ok nmX4 0 rfl rfl 1 (by decide) fl_X4_add_19 rfl rfl (by decide +kernel) rfl rfl (Nat.le_of_ble_eq_true rfl) dX4_add_25 rfl ?_
    exact g_vret C hr hQ dX4_add_28 rfl ⟨rfl, rfl⟩

abbrev rm_X4_empty : Room := { frames := 0, cells := 0, slots := 0, locals := 0 }
theorem yd_X4_empty : yX4_empty.cls = RX4 ∧ yX4_empty.cls ≠ "java/lang/invoke/MethodHandle" ∧ yX4_empty.cls ≠ "java/lang/invoke/VarHandle" ∧ (parseMethodDescriptor yX4_empty.desc).map (fun d => d.parameters.length) = some 0 := by decide +kernel
theorem in_X4_empty_X4 : ∀ w ∈ u_ws RX4 TX4 6, w ∈ wsX4_empty := by decide +kernel
theorem fl_X4_empty_19 : Cond.fieldLink RX4 19 "FenceHandshakes$WishText" "length" "I" ∈ wsX4_empty := by decide +kernel
set_option maxHeartbeats 4000000 in
set_option maxRecDepth 100000 in
theorem m_X4_empty (l : Launch) (D : va_G) (cI cC : ClassId) (h0 h1 h2 : Nat) (sg : Nat → Int32) (r : Nat → Int32) (ln : Nat) (lf : Nat) (rg : Nat) (bd : Bool) : g_M l yX4_empty wsX4_empty rm_X4_empty D cI cC [.ref h0] (txW cI cC h0 h1 h2 sg (nI ln) r (nI lf) (nI rg) (bI bd)) (fun vv ww => vv = none ∧ ww = (txW cI cC h0 h1 h2 sg (nI 0) r (nI lf) (nI rg) (bI bd))) := by
  refine g_entry (lv := [(0, .ref h0)]) (own := RX4) (by decide) rfl rfl (Nat.le_of_ble_eq_true rfl) rfl ?_
  intro p e s m args below meth co A Q C hr hQ
  refine g_aload_n (pc := 0) C dX4_empty_0 0 rfl rfl ?_
  refine g_iconst (pc := 1) (v := nI 0) C dX4_empty_1 (by decide) ?_
  refine g_put (pc := 2) (ci := 4) (T := TX4) (N := 6) (ws' := (txW cI cC h0 h1 h2 sg (nI 0) r (nI lf) (nI rg) (bI bd))) (ty := .int) (v := .int (nI 0)) C in_X4_empty_X4 tyX4 tyX4_ok nmX4 0 rfl rfl 1 (by decide) fl_X4_empty_19 rfl rfl (by decide +kernel) rfl rfl (Nat.le_of_ble_eq_true rfl) dX4_empty_2 rfl ?_
  exact g_vret C hr hQ dX4_empty_5 rfl ⟨rfl, rfl⟩

abbrev rm_X4_rightsFor : Room := { frames := 0, cells := 0, slots := 0, locals := 0 }
theorem yd_X4_rightsFor : yX4_rightsFor.cls = RX4 ∧ yX4_rightsFor.cls ≠ "java/lang/invoke/MethodHandle" ∧ yX4_rightsFor.cls ≠ "java/lang/invoke/VarHandle" ∧ (parseMethodDescriptor yX4_rightsFor.desc).map (fun d => d.parameters.length) = some 1 := by decide +kernel
theorem in_X4_rightsFor_X4 : ∀ w ∈ u_ws RX4 TX4 6, w ∈ wsX4_rightsFor := by decide +kernel
theorem fl_X4_rightsFor_15 : Cond.fieldLink RX4 15 "FenceHandshakes$WishText" "rows" "[I" ∈ wsX4_rightsFor := by decide +kernel
set_option maxHeartbeats 4000000 in
set_option maxRecDepth 100000 in
theorem m_X4_rightsFor (l : Launch) (D : va_G) (cI cC : ClassId) (h0 h1 h2 : Nat) (sg : Nat → Int32) (r : Nat → Int32) (ln : Nat) (lf : Nat) (rg : Nat) (bd : Bool) (a : Nat) (ha : a < 8) : g_M l yX4_rightsFor wsX4_rightsFor rm_X4_rightsFor D cI cC [.ref h0, .int (nI a)] (txW cI cC h0 h1 h2 sg (nI ln) r (nI lf) (nI rg) (bI bd)) (fun vv ww => vv = some (.int (r a)) ∧ ww = (txW cI cC h0 h1 h2 sg (nI ln) r (nI lf) (nI rg) (bI bd))) := by
  refine g_entry (lv := [(0, .ref h0), (1, .int (nI a))]) (own := RX4) (by decide) rfl rfl (Nat.le_of_ble_eq_true rfl) rfl ?_
  intro p e s m args below meth co A Q C hr hQ
  refine g_aload_n (pc := 0) C dX4_rightsFor_0 0 rfl rfl ?_
  refine g_get (pc := 1) (ci := 4) (T := TX4) (N := 6) (v := .ref h2) C in_X4_rightsFor_X4 0 rfl rfl 2 (by decide) fl_X4_rightsFor_15 rfl rfl dX4_rightsFor_1 ?_
  refine g_iload_n (pc := 4) C dX4_rightsFor_4 1 rfl rfl ?_
  refine g_ialdN (pc := 5) (f := r) C 2 rfl (by omega) (by decide) dX4_rightsFor_5 ?_
  exact g_iret C hr hQ dX4_rightsFor_6 rfl ⟨rfl, rfl⟩

abbrev rm_X4_beginGroup : Room := { frames := 0, cells := 0, slots := 0, locals := 0 }
theorem yd_X4_beginGroup : yX4_beginGroup.cls = RX4 ∧ yX4_beginGroup.cls ≠ "java/lang/invoke/MethodHandle" ∧ yX4_beginGroup.cls ≠ "java/lang/invoke/VarHandle" ∧ (parseMethodDescriptor yX4_beginGroup.desc).map (fun d => d.parameters.length) = some 0 := by decide +kernel
theorem in_X4_beginGroup_X4 : ∀ w ∈ u_ws RX4 TX4 6, w ∈ wsX4_beginGroup := by decide +kernel
theorem fl_X4_beginGroup_40 : Cond.fieldLink RX4 40 "FenceHandshakes$WishText" "rights" "I" ∈ wsX4_beginGroup := by decide +kernel
theorem fl_X4_beginGroup_46 : Cond.fieldLink RX4 46 "FenceHandshakes$WishText" "lefts" "I" ∈ wsX4_beginGroup := by decide +kernel
theorem fl_X4_beginGroup_49 : Cond.fieldLink RX4 49 "FenceHandshakes$WishText" "isBehindDash" "Z" ∈ wsX4_beginGroup := by decide +kernel
set_option maxHeartbeats 4000000 in
set_option maxRecDepth 100000 in
theorem m_X4_beginGroup (l : Launch) (D : va_G) (cI cC : ClassId) (h0 h1 h2 : Nat) (sg : Nat → Int32) (r : Nat → Int32) (ln : Nat) (lf : Nat) (rg : Nat) (bd : Bool) : g_M l yX4_beginGroup wsX4_beginGroup rm_X4_beginGroup D cI cC [.ref h0] (txW cI cC h0 h1 h2 sg (nI ln) r (nI lf) (nI rg) (bI bd)) (fun vv ww => vv = none ∧ ww = (txW cI cC h0 h1 h2 sg (nI ln) r (nI 0) (nI 0) (bI false))) := by
  refine g_entry (lv := [(0, .ref h0)]) (own := RX4) (by decide) rfl rfl (Nat.le_of_ble_eq_true rfl) rfl ?_
  intro p e s m args below meth co A Q C hr hQ
  refine g_aload_n (pc := 0) C dX4_beginGroup_0 0 rfl rfl ?_
  refine g_iconst (pc := 1) (v := nI 0) C dX4_beginGroup_1 (by decide) ?_
  refine g_put (pc := 2) (ci := 4) (T := TX4) (N := 6) (ws' := (txW cI cC h0 h1 h2 sg (nI ln) r (nI 0) (nI rg) (bI bd))) (ty := .int) (v := .int (nI 0)) C in_X4_beginGroup_X4 tyX4 tyX4_ok nmX4 0 rfl rfl 3 (by decide) fl_X4_beginGroup_46 rfl rfl (by decide +kernel) rfl rfl (Nat.le_of_ble_eq_true rfl) dX4_beginGroup_2 rfl ?_
  refine g_aload_n (pc := 5) C dX4_beginGroup_5 0 rfl rfl ?_
  refine g_iconst (pc := 6) (v := nI 0) C dX4_beginGroup_6 (by decide) ?_
  refine g_put (pc := 7) (ci := 4) (T := TX4) (N := 6) (ws' := (txW cI cC h0 h1 h2 sg (nI ln) r (nI 0) (nI 0) (bI bd))) (ty := .int) (v := .int (nI 0)) C in_X4_beginGroup_X4 tyX4 tyX4_ok nmX4 0 rfl rfl 4 (by decide) fl_X4_beginGroup_40 rfl rfl (by decide +kernel) rfl rfl (Nat.le_of_ble_eq_true rfl) dX4_beginGroup_7 rfl ?_
  refine g_aload_n (pc := 10) C dX4_beginGroup_10 0 rfl rfl ?_
  refine g_iconst (pc := 11) (v := nI 0) C dX4_beginGroup_11 (by decide) ?_
  refine g_top (y := bI false) rfl ?_
  refine g_put (pc := 12) (ci := 4) (T := TX4) (N := 6) (ws' := (txW cI cC h0 h1 h2 sg (nI ln) r (nI 0) (nI 0) (bI false))) (ty := .boolean) (v := .int (bI false)) C in_X4_beginGroup_X4 tyX4 tyX4_ok nmX4 0 rfl rfl 5 (by decide) fl_X4_beginGroup_49 rfl rfl (by decide +kernel) (g_nar _) (g_fit _) (Nat.le_of_ble_eq_true rfl) dX4_beginGroup_12 rfl ?_
  refine g_ws (ws' := (txW cI cC h0 h1 h2 sg (nI ln) r (nI 0) (nI 0) (bI false))) (rfl) ?_
  exact g_vret C hr hQ dX4_beginGroup_15 rfl ⟨rfl, rfl⟩

abbrev rm_X4_endGroup : Room := { frames := 1, cells := 0, slots := 0, locals := 21 }
theorem yd_X4_endGroup : yX4_endGroup.cls = RX4 ∧ yX4_endGroup.cls ≠ "java/lang/invoke/MethodHandle" ∧ yX4_endGroup.cls ≠ "java/lang/invoke/VarHandle" ∧ (parseMethodDescriptor yX4_endGroup.desc).map (fun d => d.parameters.length) = some 0 := by decide +kernel
theorem in_X4_endGroup_X4 : ∀ w ∈ u_ws RX4 TX4 6, w ∈ wsX4_endGroup := by decide +kernel
theorem fl_X4_endGroup_15 : Cond.fieldLink RX4 15 "FenceHandshakes$WishText" "rows" "[I" ∈ wsX4_endGroup := by decide +kernel
theorem fl_X4_endGroup_40 : Cond.fieldLink RX4 40 "FenceHandshakes$WishText" "rights" "I" ∈ wsX4_endGroup := by decide +kernel
theorem fl_X4_endGroup_46 : Cond.fieldLink RX4 46 "FenceHandshakes$WishText" "lefts" "I" ∈ wsX4_endGroup := by decide +kernel
set_option maxHeartbeats 4000000 in
set_option maxRecDepth 100000 in
theorem m_X4_endGroup (l : Launch) (D : va_G) (cI cC : ClassId) (h0 h1 h2 : Nat) (sg : Nat → Int32) (r : Nat → Int32) (ln : Nat) (lf : Nat) (rg : Nat) (bd : Bool) (hlf : lf < 256) (hrg : rg < 256) : g_M l yX4_endGroup wsX4_endGroup rm_X4_endGroup D cI cC [.ref h0] (txW cI cC h0 h1 h2 sg (nI ln) r (nI lf) (nI rg) (bI bd)) (fun vv ww => vv = none ∧ ww = (txW cI cC h0 h1 h2 sg (nI ln) (egF r lf rg 8) (nI lf) (nI rg) (bI bd))) := by
  refine g_entry (lv := [(0, .ref h0)]) (own := RX4) (by decide) rfl rfl (Nat.le_of_ble_eq_true rfl) rfl ?_
  intro p e s m args below meth co A Q C hr hQ
  refine g_iconst (pc := 0) (v := nI 0) C dX4_endGroup_0 (by decide) ?_
  refine g_istore_n (pc := 1) (lv' := [(1, .int (nI 0)), (0, .ref h0)]) C dX4_endGroup_1 rfl (by decide) rfl ?_
  have L2 : ∀ (N : Nat) (i : Nat), 8 - i < N → (i ≤ 8) → g_J p l e rm_X4_endGroup s m args below meth co Q D A 2 0 0 (txW cI cC h0 h1 h2 sg (nI ln) (egF r lf rg i) (nI lf) (nI rg) (bI bd)) 2 [(0, .ref h0), (1, .int (nI i))] [] := by
    intro N
    induction N with
    | zero => intro i hN; exact absurd hN (Nat.not_lt_zero _)
    | succ N ih2 =>
      intro i hN2 hi
      refine g_iload_n (pc := 2) C dX4_endGroup_2 1 rfl rfl ?_
      refine g_bipush (pc := 3) (v := nI 8) C dX4_endGroup_3 (by decide) ?_
      refine g_icmp_geN (pc := 5) C 38 (by omega) (by omega) dX4_endGroup_5 (by decide) (fun c5 => ?_) (fun c5 => ?_)
      · refine g_ws (ws' := (txW cI cC h0 h1 h2 sg (nI ln) (egF r lf rg 8) (nI lf) (nI rg) (bI bd))) (by rw [show i = 8 by omega]) ?_
        exact g_vret C hr hQ dX4_endGroup_38 rfl ⟨rfl, rfl⟩
      · refine g_aload_n (pc := 8) C dX4_endGroup_8 0 rfl rfl ?_
        refine g_get (pc := 9) (ci := 4) (T := TX4) (N := 6) (v := .int (nI lf)) C in_X4_endGroup_X4 0 rfl rfl 3 (by decide) fl_X4_endGroup_46 rfl rfl dX4_endGroup_9 ?_
        refine g_iload_n (pc := 12) C dX4_endGroup_12 1 rfl rfl ?_
        refine g_callSN (pc := 13) (st := []) (As := [.int (nI lf), .int (nI i)]) (nn := 2) (host := "FenceHandshakes") C (m_X5_hasBit l D cI cC lf i (by first | assumption | omega) (by first | assumption | omega)) gX4_endGroup_X5_hasBit_n53 rfl rfl rfl (by decide +kernel) (by decide +kernel) (by decide +kernel) yd_X5_hasBit.2 ⟨Nat.le_of_ble_eq_true rfl, Nat.le_of_ble_eq_true rfl⟩ rfl [] rfl rfl rfl (Nat.le_of_ble_eq_true rfl) ⟨Nat.le_of_ble_eq_true rfl, Nat.le_of_ble_eq_true rfl⟩ dX4_endGroup_13 ?_
        rintro _ _ ⟨rfl, rfl⟩
        refine g_eq (ws' := (txW cI cC h0 h1 h2 sg (nI ln) (egF r lf rg i) (nI lf) (nI rg) (bI bd))) (st' := [.int (bI (lf.testBit i))]) rfl rfl ?_
        refine g_if_eqB (pc := 16) C 32 dX4_endGroup_16 (by decide) (fun c16 => ?_) (fun c16 => ?_)
        · refine g_iinc (pc := 32) (lv' := [(1, .int (nI (i + 1))), (0, .ref h0)]) C dX4_endGroup_32 1 rfl (nI_add i 1) (by decide) rfl ?_
          refine g_goto (pc := 35) C 2 dX4_endGroup_35 (by decide) ?_
          refine g_ws (ws' := (txW cI cC h0 h1 h2 sg (nI ln) (egF r lf rg (i + 1)) (nI lf) (nI rg) (bI bd))) (by rw [egF_f _ _ _ c16]) ?_
          refine g_lvp (lv' := [(0, .ref h0), (1, .int (nI (i + 1)))]) [1, 0] rfl ?_
          exact ih2 (i + 1) (by omega) (by first | assumption | omega)
        · refine g_aload_n (pc := 19) C dX4_endGroup_19 0 rfl rfl ?_
          refine g_get (pc := 20) (ci := 4) (T := TX4) (N := 6) (v := .ref h2) C in_X4_endGroup_X4 0 rfl rfl 2 (by decide) fl_X4_endGroup_15 rfl rfl dX4_endGroup_20 ?_
          refine g_iload_n (pc := 23) C dX4_endGroup_23 1 rfl rfl ?_
          refine g_dup2 (pc := 24) C dX4_endGroup_24 rfl rfl ?_
          refine g_ialdN (pc := 25) (f := (egF r lf rg i)) C 2 rfl (by omega) (by decide) dX4_endGroup_25 ?_
          refine g_aload_n (pc := 26) C dX4_endGroup_26 0 rfl rfl ?_
          refine g_get (pc := 27) (ci := 4) (T := TX4) (N := 6) (v := .int (nI rg)) C in_X4_endGroup_X4 0 rfl rfl 4 (by decide) fl_X4_endGroup_40 rfl rfl dX4_endGroup_27 ?_
          refine g_ior (pc := 30) C dX4_endGroup_30 ?_
          refine g_iastN (pc := 31) (f := (egF r lf rg i)) (ws' := (txW cI cC h0 h1 h2 sg (nI ln) (upd (egF r lf rg i) i ((((egF r lf rg i) i) ||| (nI rg)))) (nI lf) (nI rg) (bI bd))) C 2 rfl (by omega) (by decide) dX4_endGroup_31 rfl ?_
          refine g_iinc (pc := 32) (lv' := [(1, .int (nI (i + 1))), (0, .ref h0)]) C dX4_endGroup_32 1 rfl (nI_add i 1) (by decide) rfl ?_
          refine g_goto (pc := 35) C 2 dX4_endGroup_35 (by decide) ?_
          refine g_ws (ws' := (txW cI cC h0 h1 h2 sg (nI ln) (egF r lf rg (i + 1)) (nI lf) (nI rg) (bI bd))) (by rw [egF_t _ _ _ c16]) ?_
          refine g_lvp (lv' := [(0, .ref h0), (1, .int (nI (i + 1)))]) [1, 0] rfl ?_
          exact ih2 (i + 1) (by omega) (by first | assumption | omega)
  refine g_ws (ws' := txW cI cC h0 h1 h2 sg (nI ln) (egF r lf rg 0) (nI lf) (nI rg) (bI bd)) (by rw [egF_0]) ?_
  refine g_lvp (lv' := [(0, .ref h0), (1, .int (nI 0))]) [1, 0] rfl ?_
  exact L2 _ 0 (Nat.lt_succ_self _) (by first | assumption | omega)

abbrev rm_X4_takesPerson : Room := { frames := 0, cells := 0, slots := 0, locals := 0 }
theorem yd_X4_takesPerson : yX4_takesPerson.cls = RX4 ∧ yX4_takesPerson.cls ≠ "java/lang/invoke/MethodHandle" ∧ yX4_takesPerson.cls ≠ "java/lang/invoke/VarHandle" ∧ (parseMethodDescriptor yX4_takesPerson.desc).map (fun d => d.parameters.length) = some 1 := by decide +kernel
theorem in_X4_takesPerson_X4 : ∀ w ∈ u_ws RX4 TX4 6, w ∈ wsX4_takesPerson := by decide +kernel
theorem fl_X4_takesPerson_40 : Cond.fieldLink RX4 40 "FenceHandshakes$WishText" "rights" "I" ∈ wsX4_takesPerson := by decide +kernel
theorem fl_X4_takesPerson_46 : Cond.fieldLink RX4 46 "FenceHandshakes$WishText" "lefts" "I" ∈ wsX4_takesPerson := by decide +kernel
theorem fl_X4_takesPerson_49 : Cond.fieldLink RX4 49 "FenceHandshakes$WishText" "isBehindDash" "Z" ∈ wsX4_takesPerson := by decide +kernel
set_option maxHeartbeats 4000000 in
set_option maxRecDepth 100000 in
theorem m_X4_takesPerson (l : Launch) (D : va_G) (cI cC : ClassId) (h0 h1 h2 : Nat) (sg : Nat → Int32) (r : Nat → Int32) (ln : Nat) (lf : Nat) (rg : Nat) (bd : Bool) (y : Nat) (hlf : lf < 256) (hrg : rg < 256) (hy : y < 256) : g_M l yX4_takesPerson wsX4_takesPerson rm_X4_takesPerson D cI cC [.ref h0, .int (nI y)] (txW cI cC h0 h1 h2 sg (nI ln) r (nI lf) (nI rg) (bI bd)) (fun vv ww => vv = some (.int (bI (tpOk lf rg bd y))) ∧ ww = (txW cI cC h0 h1 h2 sg (nI ln) r (nI (tpL lf bd y)) (nI (tpR rg bd y)) (bI bd))) := by
  refine g_entry (lv := [(0, .ref h0), (1, .int (nI y))]) (own := RX4) (by decide) rfl rfl (Nat.le_of_ble_eq_true rfl) rfl ?_
  intro p e s m args below meth co A Q C hr hQ
  refine g_aload_n (pc := 0) C dX4_takesPerson_0 0 rfl rfl ?_
  refine g_get (pc := 1) (ci := 4) (T := TX4) (N := 6) (v := .int (bI bd)) C in_X4_takesPerson_X4 0 rfl rfl 5 (by decide) fl_X4_takesPerson_49 rfl rfl dX4_takesPerson_1 ?_
  refine g_if_eqB (pc := 4) C 14 dX4_takesPerson_4 (by decide) (fun c4 => ?_) (fun c4 => ?_)
  · refine g_aload_n (pc := 14) C dX4_takesPerson_14 0 rfl rfl ?_
    refine g_get (pc := 15) (ci := 4) (T := TX4) (N := 6) (v := .int (nI lf)) C in_X4_takesPerson_X4 0 rfl rfl 3 (by decide) fl_X4_takesPerson_46 rfl rfl dX4_takesPerson_15 ?_
    refine g_iload_n (pc := 18) C dX4_takesPerson_18 1 rfl rfl ?_
    refine g_icmp_ltN (pc := 19) C 24 (by omega) (by omega) dX4_takesPerson_19 (by decide) (fun c19 => ?_) (fun c19 => ?_)
    · refine g_aload_n (pc := 24) C dX4_takesPerson_24 0 rfl rfl ?_
      refine g_get (pc := 25) (ci := 4) (T := TX4) (N := 6) (v := .int (bI bd)) C in_X4_takesPerson_X4 0 rfl rfl 5 (by decide) fl_X4_takesPerson_49 rfl rfl dX4_takesPerson_25 ?_
      refine g_if_eqB (pc := 28) C 44 dX4_takesPerson_28 (by decide) (fun c28 => ?_) (fun c28 => ?_)
      · refine g_aload_n (pc := 44) C dX4_takesPerson_44 0 rfl rfl ?_
        refine g_dup (pc := 45) C dX4_takesPerson_45 rfl ?_
        refine g_get (pc := 46) (ci := 4) (T := TX4) (N := 6) (v := .int (nI lf)) C in_X4_takesPerson_X4 0 rfl rfl 3 (by decide) fl_X4_takesPerson_46 rfl rfl dX4_takesPerson_46 ?_
        refine g_iload_n (pc := 49) C dX4_takesPerson_49 1 rfl rfl ?_
        refine g_iorN (pc := 50) C dX4_takesPerson_50 ?_
        refine g_put (pc := 51) (ci := 4) (T := TX4) (N := 6) (ws' := (txW cI cC h0 h1 h2 sg (nI ln) r (nI (lf ||| y)) (nI rg) (bI bd))) (ty := .int) (v := .int (nI (lf ||| y))) C in_X4_takesPerson_X4 tyX4 tyX4_ok nmX4 0 rfl rfl 3 (by decide) fl_X4_takesPerson_46 rfl rfl (by decide +kernel) rfl rfl (Nat.le_of_ble_eq_true rfl) dX4_takesPerson_51 rfl ?_
        refine g_iconst (pc := 54) (v := nI 1) C dX4_takesPerson_54 (by decide) ?_
        refine g_ws (ws' := (txW cI cC h0 h1 h2 sg (nI ln) r (nI (tpL lf bd y)) (nI rg) (bI bd))) (by first | (rw [tpL, c4]; rfl) | (rw [tpL, c4, if_neg (by decide), if_pos c19]) | (rw [tpL, c4, if_neg (by decide), if_neg (Nat.not_lt.mpr c19)])) ?_
        refine g_ws (ws' := (txW cI cC h0 h1 h2 sg (nI ln) r (nI (tpL lf bd y)) (nI (tpR rg bd y)) (bI bd))) (by first | (rw [tpR, c4, if_neg (by decide)]) | (rw [tpR, c4, if_pos rfl, if_pos c19]) | (rw [tpR, c4, if_pos rfl, if_neg (Nat.not_lt.mpr c19)])) ?_
        refine g_top (y := bI (tpOk lf rg bd y)) (by rw [tpOk, c4]; first | (rw [if_pos rfl, decide_eq_true c19]; rfl) | (rw [if_neg (by decide), decide_eq_true c19]; rfl)) ?_
        exact g_zret C hr hQ dX4_takesPerson_55 rfl ⟨rfl, rfl⟩
      · rw [c4] at c28; cases c28
    · refine g_iconst (pc := 22) (v := nI 0) C dX4_takesPerson_22 (by decide) ?_
      refine g_ws (ws' := (txW cI cC h0 h1 h2 sg (nI ln) r (nI (tpL lf bd y)) (nI rg) (bI bd))) (by first | (rw [tpL, c4]; rfl) | (rw [tpL, c4, if_neg (by decide), if_pos c19]) | (rw [tpL, c4, if_neg (by decide), if_neg (Nat.not_lt.mpr c19)])) ?_
      refine g_ws (ws' := (txW cI cC h0 h1 h2 sg (nI ln) r (nI (tpL lf bd y)) (nI (tpR rg bd y)) (bI bd))) (by first | (rw [tpR, c4, if_neg (by decide)]) | (rw [tpR, c4, if_pos rfl, if_pos c19]) | (rw [tpR, c4, if_pos rfl, if_neg (Nat.not_lt.mpr c19)])) ?_
      refine g_top (y := bI (tpOk lf rg bd y)) (by rw [tpOk, c4]; first | (rw [if_pos rfl, decide_eq_false (Nat.not_lt.mpr c19)]; rfl) | (rw [if_neg (by decide), decide_eq_false (Nat.not_lt.mpr c19)]; rfl)) ?_
      exact g_zret C hr hQ dX4_takesPerson_23 rfl ⟨rfl, rfl⟩
  · refine g_aload_n (pc := 7) C dX4_takesPerson_7 0 rfl rfl ?_
    refine g_get (pc := 8) (ci := 4) (T := TX4) (N := 6) (v := .int (nI rg)) C in_X4_takesPerson_X4 0 rfl rfl 4 (by decide) fl_X4_takesPerson_40 rfl rfl dX4_takesPerson_8 ?_
    refine g_goto (pc := 11) C 18 dX4_takesPerson_11 (by decide) ?_
    refine g_iload_n (pc := 18) C dX4_takesPerson_18 1 rfl rfl ?_
    refine g_icmp_ltN (pc := 19) C 24 (by omega) (by omega) dX4_takesPerson_19 (by decide) (fun c19 => ?_) (fun c19 => ?_)
    · refine g_aload_n (pc := 24) C dX4_takesPerson_24 0 rfl rfl ?_
      refine g_get (pc := 25) (ci := 4) (T := TX4) (N := 6) (v := .int (bI bd)) C in_X4_takesPerson_X4 0 rfl rfl 5 (by decide) fl_X4_takesPerson_49 rfl rfl dX4_takesPerson_25 ?_
      refine g_if_eqB (pc := 28) C 44 dX4_takesPerson_28 (by decide) (fun c28 => ?_) (fun c28 => ?_)
      · rw [c4] at c28; cases c28
      · refine g_aload_n (pc := 31) C dX4_takesPerson_31 0 rfl rfl ?_
        refine g_dup (pc := 32) C dX4_takesPerson_32 rfl ?_
        refine g_get (pc := 33) (ci := 4) (T := TX4) (N := 6) (v := .int (nI rg)) C in_X4_takesPerson_X4 0 rfl rfl 4 (by decide) fl_X4_takesPerson_40 rfl rfl dX4_takesPerson_33 ?_
        refine g_iload_n (pc := 36) C dX4_takesPerson_36 1 rfl rfl ?_
        refine g_iorN (pc := 37) C dX4_takesPerson_37 ?_
        refine g_put (pc := 38) (ci := 4) (T := TX4) (N := 6) (ws' := (txW cI cC h0 h1 h2 sg (nI ln) r (nI lf) (nI (rg ||| y)) (bI bd))) (ty := .int) (v := .int (nI (rg ||| y))) C in_X4_takesPerson_X4 tyX4 tyX4_ok nmX4 0 rfl rfl 4 (by decide) fl_X4_takesPerson_40 rfl rfl (by decide +kernel) rfl rfl (Nat.le_of_ble_eq_true rfl) dX4_takesPerson_38 rfl ?_
        refine g_goto (pc := 41) C 54 dX4_takesPerson_41 (by decide) ?_
        refine g_iconst (pc := 54) (v := nI 1) C dX4_takesPerson_54 (by decide) ?_
        refine g_ws (ws' := (txW cI cC h0 h1 h2 sg (nI ln) r (nI (tpL lf bd y)) (nI (rg ||| y)) (bI bd))) (by first | (rw [tpL, c4]; rfl) | (rw [tpL, c4, if_neg (by decide), if_pos c19]) | (rw [tpL, c4, if_neg (by decide), if_neg (Nat.not_lt.mpr c19)])) ?_
        refine g_ws (ws' := (txW cI cC h0 h1 h2 sg (nI ln) r (nI (tpL lf bd y)) (nI (tpR rg bd y)) (bI bd))) (by first | (rw [tpR, c4, if_neg (by decide)]) | (rw [tpR, c4, if_pos rfl, if_pos c19]) | (rw [tpR, c4, if_pos rfl, if_neg (Nat.not_lt.mpr c19)])) ?_
        refine g_top (y := bI (tpOk lf rg bd y)) (by rw [tpOk, c4]; first | (rw [if_pos rfl, decide_eq_true c19]; rfl) | (rw [if_neg (by decide), decide_eq_true c19]; rfl)) ?_
        exact g_zret C hr hQ dX4_takesPerson_55 rfl ⟨rfl, rfl⟩
    · refine g_iconst (pc := 22) (v := nI 0) C dX4_takesPerson_22 (by decide) ?_
      refine g_ws (ws' := (txW cI cC h0 h1 h2 sg (nI ln) r (nI (tpL lf bd y)) (nI rg) (bI bd))) (by first | (rw [tpL, c4]; rfl) | (rw [tpL, c4, if_neg (by decide), if_pos c19]) | (rw [tpL, c4, if_neg (by decide), if_neg (Nat.not_lt.mpr c19)])) ?_
      refine g_ws (ws' := (txW cI cC h0 h1 h2 sg (nI ln) r (nI (tpL lf bd y)) (nI (tpR rg bd y)) (bI bd))) (by first | (rw [tpR, c4, if_neg (by decide)]) | (rw [tpR, c4, if_pos rfl, if_pos c19]) | (rw [tpR, c4, if_pos rfl, if_neg (Nat.not_lt.mpr c19)])) ?_
      refine g_top (y := bI (tpOk lf rg bd y)) (by rw [tpOk, c4]; first | (rw [if_pos rfl, decide_eq_false (Nat.not_lt.mpr c19)]; rfl) | (rw [if_neg (by decide), decide_eq_false (Nat.not_lt.mpr c19)]; rfl)) ?_
      exact g_zret C hr hQ dX4_takesPerson_23 rfl ⟨rfl, rfl⟩

abbrev rm_X4_takesSign : Room := { frames := 2, cells := 0, slots := 0, locals := 42 }
theorem yd_X4_takesSign : yX4_takesSign.cls = RX4 ∧ yX4_takesSign.cls ≠ "java/lang/invoke/MethodHandle" ∧ yX4_takesSign.cls ≠ "java/lang/invoke/VarHandle" ∧ (parseMethodDescriptor yX4_takesSign.desc).map (fun d => d.parameters.length) = some 1 := by decide +kernel
theorem in_X4_takesSign_X4 : ∀ w ∈ u_ws RX4 TX4 6, w ∈ wsX4_takesSign := by decide +kernel
theorem fl_X4_takesSign_40 : Cond.fieldLink RX4 40 "FenceHandshakes$WishText" "rights" "I" ∈ wsX4_takesSign := by decide +kernel
theorem fl_X4_takesSign_46 : Cond.fieldLink RX4 46 "FenceHandshakes$WishText" "lefts" "I" ∈ wsX4_takesSign := by decide +kernel
theorem fl_X4_takesSign_49 : Cond.fieldLink RX4 49 "FenceHandshakes$WishText" "isBehindDash" "Z" ∈ wsX4_takesSign := by decide +kernel
set_option maxHeartbeats 4000000 in
set_option maxRecDepth 100000 in
theorem m_X4_takesSign (l : Launch) (D : va_G) (cI cC : ClassId) (h0 h1 h2 : Nat) (sg : Nat → Int32) (r : Nat → Int32) (ln : Nat) (lf : Nat) (rg : Nat) (bd : Bool) (x : Nat) (hlf : lf < 256) (hrg : rg < 256) (hx : x < 65536) : g_M l yX4_takesSign wsX4_takesSign rm_X4_takesSign D cI cC [.ref h0, .int (nI x)] (txW cI cC h0 h1 h2 sg (nI ln) r (nI lf) (nI rg) (bI bd)) (fun vv ww => vv = some (.int (bI (pok x (lf, rg, bd, r)))) ∧ ww = (txW cI cC h0 h1 h2 sg (nI ln) ((pst x (lf, rg, bd, r)).2.2.2) (nI (pst x (lf, rg, bd, r)).1) (nI (pst x (lf, rg, bd, r)).2.1) (bI (pst x (lf, rg, bd, r)).2.2.1))) := by
  refine g_entry (lv := [(0, .ref h0), (1, .int (nI x))]) (own := RX4) (by decide) rfl rfl (Nat.le_of_ble_eq_true rfl) rfl ?_
  intro p e s m args below meth co A Q C hr hQ
  refine g_iload_n (pc := 0) C dX4_takesSign_0 1 rfl rfl ?_
  refine g_bipush (pc := 1) (v := nI 48) C dX4_takesSign_1 (by decide) ?_
  refine g_icmp_ltN (pc := 3) C 23 (by omega) (by omega) dX4_takesSign_3 (by decide) (fun c3 => ?_) (fun c3 => ?_)
  · refine g_iload_n (pc := 23) C dX4_takesSign_23 1 rfl rfl ?_
    refine g_bipush (pc := 24) (v := nI 45) C dX4_takesSign_24 (by decide) ?_
    refine g_icmp_neN (pc := 26) C 50 (by omega) (by omega) dX4_takesSign_26 (by decide) (fun c26 => ?_) (fun c26 => ?_)
    · refine g_iload_n (pc := 50) C dX4_takesSign_50 1 rfl rfl ?_
      refine g_bipush (pc := 51) (v := nI 44) C dX4_takesSign_51 (by decide) ?_
      refine g_icmp_neN (pc := 53) C 73 (by omega) (by omega) dX4_takesSign_53 (by decide) (fun c53 => ?_) (fun c53 => ?_)
      · refine g_iconst (pc := 73) (v := nI 0) C dX4_takesSign_73 (by decide) ?_
        refine g_ws (ws' := (txW cI cC h0 h1 h2 sg (nI ln) ((pst x (lf, rg, bd, r)).2.2.2) (nI lf) (nI rg) (bI bd))) (by rw [pst, if_neg (show ¬ (48 ≤ x ∧ x < 56) by omega), if_neg (by rintro ⟨h1, h2, h3⟩; exact absurd h1 c26), if_neg (fun h => absurd h.1 c53)]) ?_
        refine g_ws (ws' := (txW cI cC h0 h1 h2 sg (nI ln) ((pst x (lf, rg, bd, r)).2.2.2) (nI (pst x (lf, rg, bd, r)).1) (nI rg) (bI bd))) (by rw [pst, if_neg (show ¬ (48 ≤ x ∧ x < 56) by omega), if_neg (by rintro ⟨h1, h2, h3⟩; exact absurd h1 c26), if_neg (fun h => absurd h.1 c53)]) ?_
        refine g_ws (ws' := (txW cI cC h0 h1 h2 sg (nI ln) ((pst x (lf, rg, bd, r)).2.2.2) (nI (pst x (lf, rg, bd, r)).1) (nI (pst x (lf, rg, bd, r)).2.1) (bI bd))) (by rw [pst, if_neg (show ¬ (48 ≤ x ∧ x < 56) by omega), if_neg (by rintro ⟨h1, h2, h3⟩; exact absurd h1 c26), if_neg (fun h => absurd h.1 c53)]) ?_
        refine g_ws (ws' := (txW cI cC h0 h1 h2 sg (nI ln) ((pst x (lf, rg, bd, r)).2.2.2) (nI (pst x (lf, rg, bd, r)).1) (nI (pst x (lf, rg, bd, r)).2.1) (bI (pst x (lf, rg, bd, r)).2.2.1))) (by rw [pst, if_neg (show ¬ (48 ≤ x ∧ x < 56) by omega), if_neg (by rintro ⟨h1, h2, h3⟩; exact absurd h1 c26), if_neg (fun h => absurd h.1 c53)]) ?_
        refine g_top (y := bI (pok x (lf, rg, bd, r))) (by rw [pok, if_neg (show ¬ (48 ≤ x ∧ x < 56) by omega), if_neg (by rintro ⟨h1, h2, h3⟩; exact absurd h1 c26), decide_eq_false (fun h => absurd h.1 c53)]; rfl) ?_
        exact g_zret C hr hQ dX4_takesSign_74 rfl ⟨rfl, rfl⟩
      · refine g_aload_n (pc := 56) C dX4_takesSign_56 0 rfl rfl ?_
        refine g_get (pc := 57) (ci := 4) (T := TX4) (N := 6) (v := .int (nI rg)) C in_X4_takesSign_X4 0 rfl rfl 4 (by decide) fl_X4_takesSign_40 rfl rfl dX4_takesSign_57 ?_
        refine g_if_eqN (pc := 60) C 73 (by omega) dX4_takesSign_60 (by decide) (fun c60 => ?_) (fun c60 => ?_)
        · refine g_iconst (pc := 73) (v := nI 0) C dX4_takesSign_73 (by decide) ?_
          refine g_ws (ws' := (txW cI cC h0 h1 h2 sg (nI ln) ((pst x (lf, rg, bd, r)).2.2.2) (nI lf) (nI rg) (bI bd))) (by rw [pst, if_neg (show ¬ (48 ≤ x ∧ x < 56) by omega), if_neg (by rintro ⟨h1, h2, h3⟩; exact absurd h1 c26), if_neg (fun h => absurd c60 h.2)]) ?_
          refine g_ws (ws' := (txW cI cC h0 h1 h2 sg (nI ln) ((pst x (lf, rg, bd, r)).2.2.2) (nI (pst x (lf, rg, bd, r)).1) (nI rg) (bI bd))) (by rw [pst, if_neg (show ¬ (48 ≤ x ∧ x < 56) by omega), if_neg (by rintro ⟨h1, h2, h3⟩; exact absurd h1 c26), if_neg (fun h => absurd c60 h.2)]) ?_
          refine g_ws (ws' := (txW cI cC h0 h1 h2 sg (nI ln) ((pst x (lf, rg, bd, r)).2.2.2) (nI (pst x (lf, rg, bd, r)).1) (nI (pst x (lf, rg, bd, r)).2.1) (bI bd))) (by rw [pst, if_neg (show ¬ (48 ≤ x ∧ x < 56) by omega), if_neg (by rintro ⟨h1, h2, h3⟩; exact absurd h1 c26), if_neg (fun h => absurd c60 h.2)]) ?_
          refine g_ws (ws' := (txW cI cC h0 h1 h2 sg (nI ln) ((pst x (lf, rg, bd, r)).2.2.2) (nI (pst x (lf, rg, bd, r)).1) (nI (pst x (lf, rg, bd, r)).2.1) (bI (pst x (lf, rg, bd, r)).2.2.1))) (by rw [pst, if_neg (show ¬ (48 ≤ x ∧ x < 56) by omega), if_neg (by rintro ⟨h1, h2, h3⟩; exact absurd h1 c26), if_neg (fun h => absurd c60 h.2)]) ?_
          refine g_top (y := bI (pok x (lf, rg, bd, r))) (by rw [pok, if_neg (show ¬ (48 ≤ x ∧ x < 56) by omega), if_neg (by rintro ⟨h1, h2, h3⟩; exact absurd h1 c26), decide_eq_false (fun h => absurd c60 h.2)]; rfl) ?_
          exact g_zret C hr hQ dX4_takesSign_74 rfl ⟨rfl, rfl⟩
        · refine g_aload_n (pc := 63) C dX4_takesSign_63 0 rfl rfl ?_
          refine g_callV (pc := 64) (st := []) (As := []) (nn := 0) (ci := 4) (q0 := 0) C (m_X4_endGroup l D cI cC h0 h1 h2 sg r ln lf rg bd (by first | assumption | omega) (by first | assumption | omega)) gX4_takesSign_X4_endGroup rfl rfl rfl yd_X4_endGroup ⟨Nat.le_of_ble_eq_true rfl, Nat.le_of_ble_eq_true rfl⟩ rfl [0, 1, 2] rfl rfl rfl rfl rfl (Nat.le_of_ble_eq_true rfl) ⟨Nat.le_of_ble_eq_true rfl, Nat.le_of_ble_eq_true rfl⟩ dX4_takesSign_64 ?_
          rintro _ _ ⟨rfl, rfl⟩
          refine g_eq (ws' := (txW cI cC h0 h1 h2 sg (nI ln) (egF r lf rg 8) (nI lf) (nI rg) (bI bd))) (st' := []) rfl rfl ?_
          refine g_aload_n (pc := 67) C dX4_takesSign_67 0 rfl rfl ?_
          refine g_callV (pc := 68) (st := []) (As := []) (nn := 0) (ci := 4) (q0 := 0) C (m_X4_beginGroup l D cI cC h0 h1 h2 sg (egF r lf rg 8) ln lf rg bd) gX4_takesSign_X4_beginGroup rfl rfl rfl yd_X4_beginGroup ⟨Nat.le_of_ble_eq_true rfl, Nat.le_of_ble_eq_true rfl⟩ rfl [0, 1, 2] rfl rfl rfl rfl rfl (Nat.le_of_ble_eq_true rfl) ⟨Nat.le_of_ble_eq_true rfl, Nat.le_of_ble_eq_true rfl⟩ dX4_takesSign_68 ?_
          rintro _ _ ⟨rfl, rfl⟩
          refine g_eq (ws' := (txW cI cC h0 h1 h2 sg (nI ln) (egF r lf rg 8) (nI 0) (nI 0) (bI false))) (st' := []) rfl rfl ?_
          refine g_iconst (pc := 71) (v := nI 1) C dX4_takesSign_71 (by decide) ?_
          refine g_ws (ws' := (txW cI cC h0 h1 h2 sg (nI ln) ((pst x (lf, rg, bd, r)).2.2.2) (nI 0) (nI 0) (bI false))) (by rw [pst, if_neg (show ¬ (48 ≤ x ∧ x < 56) by omega), if_neg (by rintro ⟨h1, h2, h3⟩; exact absurd h1 c26), if_pos ⟨c53, c60⟩]) ?_
          refine g_ws (ws' := (txW cI cC h0 h1 h2 sg (nI ln) ((pst x (lf, rg, bd, r)).2.2.2) (nI (pst x (lf, rg, bd, r)).1) (nI 0) (bI false))) (by rw [pst, if_neg (show ¬ (48 ≤ x ∧ x < 56) by omega), if_neg (by rintro ⟨h1, h2, h3⟩; exact absurd h1 c26), if_pos ⟨c53, c60⟩]) ?_
          refine g_ws (ws' := (txW cI cC h0 h1 h2 sg (nI ln) ((pst x (lf, rg, bd, r)).2.2.2) (nI (pst x (lf, rg, bd, r)).1) (nI (pst x (lf, rg, bd, r)).2.1) (bI false))) (by rw [pst, if_neg (show ¬ (48 ≤ x ∧ x < 56) by omega), if_neg (by rintro ⟨h1, h2, h3⟩; exact absurd h1 c26), if_pos ⟨c53, c60⟩]) ?_
          refine g_ws (ws' := (txW cI cC h0 h1 h2 sg (nI ln) ((pst x (lf, rg, bd, r)).2.2.2) (nI (pst x (lf, rg, bd, r)).1) (nI (pst x (lf, rg, bd, r)).2.1) (bI (pst x (lf, rg, bd, r)).2.2.1))) (by rw [pst, if_neg (show ¬ (48 ≤ x ∧ x < 56) by omega), if_neg (by rintro ⟨h1, h2, h3⟩; exact absurd h1 c26), if_pos ⟨c53, c60⟩]) ?_
          refine g_top (y := bI (pok x (lf, rg, bd, r))) (by rw [pok, if_neg (show ¬ (48 ≤ x ∧ x < 56) by omega), if_neg (by rintro ⟨h1, h2, h3⟩; exact absurd h1 c26), decide_eq_true ⟨c53, c60⟩]; rfl) ?_
          exact g_zret C hr hQ dX4_takesSign_72 rfl ⟨rfl, rfl⟩
    · refine g_aload_n (pc := 29) C dX4_takesSign_29 0 rfl rfl ?_
      refine g_get (pc := 30) (ci := 4) (T := TX4) (N := 6) (v := .int (nI lf)) C in_X4_takesSign_X4 0 rfl rfl 3 (by decide) fl_X4_takesSign_46 rfl rfl dX4_takesSign_30 ?_
      refine g_if_eqN (pc := 33) C 50 (by omega) dX4_takesSign_33 (by decide) (fun c33 => ?_) (fun c33 => ?_)
      · refine g_iload_n (pc := 50) C dX4_takesSign_50 1 rfl rfl ?_
        refine g_bipush (pc := 51) (v := nI 44) C dX4_takesSign_51 (by decide) ?_
        refine g_icmp_neN (pc := 53) C 73 (by omega) (by omega) dX4_takesSign_53 (by decide) (fun c53 => ?_) (fun c53 => ?_)
        · refine g_iconst (pc := 73) (v := nI 0) C dX4_takesSign_73 (by decide) ?_
          refine g_ws (ws' := (txW cI cC h0 h1 h2 sg (nI ln) ((pst x (lf, rg, bd, r)).2.2.2) (nI lf) (nI rg) (bI bd))) (by rw [pst, if_neg (show ¬ (48 ≤ x ∧ x < 56) by omega), if_neg (by rintro ⟨h1, h2, h3⟩; exact absurd c33 h2), if_neg (fun h => absurd h.1 c53)]) ?_
          refine g_ws (ws' := (txW cI cC h0 h1 h2 sg (nI ln) ((pst x (lf, rg, bd, r)).2.2.2) (nI (pst x (lf, rg, bd, r)).1) (nI rg) (bI bd))) (by rw [pst, if_neg (show ¬ (48 ≤ x ∧ x < 56) by omega), if_neg (by rintro ⟨h1, h2, h3⟩; exact absurd c33 h2), if_neg (fun h => absurd h.1 c53)]) ?_
          refine g_ws (ws' := (txW cI cC h0 h1 h2 sg (nI ln) ((pst x (lf, rg, bd, r)).2.2.2) (nI (pst x (lf, rg, bd, r)).1) (nI (pst x (lf, rg, bd, r)).2.1) (bI bd))) (by rw [pst, if_neg (show ¬ (48 ≤ x ∧ x < 56) by omega), if_neg (by rintro ⟨h1, h2, h3⟩; exact absurd c33 h2), if_neg (fun h => absurd h.1 c53)]) ?_
          refine g_ws (ws' := (txW cI cC h0 h1 h2 sg (nI ln) ((pst x (lf, rg, bd, r)).2.2.2) (nI (pst x (lf, rg, bd, r)).1) (nI (pst x (lf, rg, bd, r)).2.1) (bI (pst x (lf, rg, bd, r)).2.2.1))) (by rw [pst, if_neg (show ¬ (48 ≤ x ∧ x < 56) by omega), if_neg (by rintro ⟨h1, h2, h3⟩; exact absurd c33 h2), if_neg (fun h => absurd h.1 c53)]) ?_
          refine g_top (y := bI (pok x (lf, rg, bd, r))) (by rw [pok, if_neg (show ¬ (48 ≤ x ∧ x < 56) by omega), if_neg (by rintro ⟨h1, h2, h3⟩; exact absurd c33 h2), decide_eq_false (fun h => absurd h.1 c53)]; rfl) ?_
          exact g_zret C hr hQ dX4_takesSign_74 rfl ⟨rfl, rfl⟩
        · refine g_aload_n (pc := 56) C dX4_takesSign_56 0 rfl rfl ?_
          refine g_get (pc := 57) (ci := 4) (T := TX4) (N := 6) (v := .int (nI rg)) C in_X4_takesSign_X4 0 rfl rfl 4 (by decide) fl_X4_takesSign_40 rfl rfl dX4_takesSign_57 ?_
          refine g_if_eqN (pc := 60) C 73 (by omega) dX4_takesSign_60 (by decide) (fun c60 => ?_) (fun c60 => ?_)
          · refine g_iconst (pc := 73) (v := nI 0) C dX4_takesSign_73 (by decide) ?_
            refine g_ws (ws' := (txW cI cC h0 h1 h2 sg (nI ln) ((pst x (lf, rg, bd, r)).2.2.2) (nI lf) (nI rg) (bI bd))) (by rw [pst, if_neg (show ¬ (48 ≤ x ∧ x < 56) by omega), if_neg (by rintro ⟨h1, h2, h3⟩; exact absurd c33 h2), if_neg (fun h => absurd c60 h.2)]) ?_
            refine g_ws (ws' := (txW cI cC h0 h1 h2 sg (nI ln) ((pst x (lf, rg, bd, r)).2.2.2) (nI (pst x (lf, rg, bd, r)).1) (nI rg) (bI bd))) (by rw [pst, if_neg (show ¬ (48 ≤ x ∧ x < 56) by omega), if_neg (by rintro ⟨h1, h2, h3⟩; exact absurd c33 h2), if_neg (fun h => absurd c60 h.2)]) ?_
            refine g_ws (ws' := (txW cI cC h0 h1 h2 sg (nI ln) ((pst x (lf, rg, bd, r)).2.2.2) (nI (pst x (lf, rg, bd, r)).1) (nI (pst x (lf, rg, bd, r)).2.1) (bI bd))) (by rw [pst, if_neg (show ¬ (48 ≤ x ∧ x < 56) by omega), if_neg (by rintro ⟨h1, h2, h3⟩; exact absurd c33 h2), if_neg (fun h => absurd c60 h.2)]) ?_
            refine g_ws (ws' := (txW cI cC h0 h1 h2 sg (nI ln) ((pst x (lf, rg, bd, r)).2.2.2) (nI (pst x (lf, rg, bd, r)).1) (nI (pst x (lf, rg, bd, r)).2.1) (bI (pst x (lf, rg, bd, r)).2.2.1))) (by rw [pst, if_neg (show ¬ (48 ≤ x ∧ x < 56) by omega), if_neg (by rintro ⟨h1, h2, h3⟩; exact absurd c33 h2), if_neg (fun h => absurd c60 h.2)]) ?_
            refine g_top (y := bI (pok x (lf, rg, bd, r))) (by rw [pok, if_neg (show ¬ (48 ≤ x ∧ x < 56) by omega), if_neg (by rintro ⟨h1, h2, h3⟩; exact absurd c33 h2), decide_eq_false (fun h => absurd c60 h.2)]; rfl) ?_
            exact g_zret C hr hQ dX4_takesSign_74 rfl ⟨rfl, rfl⟩
          · refine g_aload_n (pc := 63) C dX4_takesSign_63 0 rfl rfl ?_
            refine g_callV (pc := 64) (st := []) (As := []) (nn := 0) (ci := 4) (q0 := 0) C (m_X4_endGroup l D cI cC h0 h1 h2 sg r ln lf rg bd (by first | assumption | omega) (by first | assumption | omega)) gX4_takesSign_X4_endGroup rfl rfl rfl yd_X4_endGroup ⟨Nat.le_of_ble_eq_true rfl, Nat.le_of_ble_eq_true rfl⟩ rfl [0, 1, 2] rfl rfl rfl rfl rfl (Nat.le_of_ble_eq_true rfl) ⟨Nat.le_of_ble_eq_true rfl, Nat.le_of_ble_eq_true rfl⟩ dX4_takesSign_64 ?_
            rintro _ _ ⟨rfl, rfl⟩
            refine g_eq (ws' := (txW cI cC h0 h1 h2 sg (nI ln) (egF r lf rg 8) (nI lf) (nI rg) (bI bd))) (st' := []) rfl rfl ?_
            refine g_aload_n (pc := 67) C dX4_takesSign_67 0 rfl rfl ?_
            refine g_callV (pc := 68) (st := []) (As := []) (nn := 0) (ci := 4) (q0 := 0) C (m_X4_beginGroup l D cI cC h0 h1 h2 sg (egF r lf rg 8) ln lf rg bd) gX4_takesSign_X4_beginGroup rfl rfl rfl yd_X4_beginGroup ⟨Nat.le_of_ble_eq_true rfl, Nat.le_of_ble_eq_true rfl⟩ rfl [0, 1, 2] rfl rfl rfl rfl rfl (Nat.le_of_ble_eq_true rfl) ⟨Nat.le_of_ble_eq_true rfl, Nat.le_of_ble_eq_true rfl⟩ dX4_takesSign_68 ?_
            rintro _ _ ⟨rfl, rfl⟩
            refine g_eq (ws' := (txW cI cC h0 h1 h2 sg (nI ln) (egF r lf rg 8) (nI 0) (nI 0) (bI false))) (st' := []) rfl rfl ?_
            refine g_iconst (pc := 71) (v := nI 1) C dX4_takesSign_71 (by decide) ?_
            refine g_ws (ws' := (txW cI cC h0 h1 h2 sg (nI ln) ((pst x (lf, rg, bd, r)).2.2.2) (nI 0) (nI 0) (bI false))) (by rw [pst, if_neg (show ¬ (48 ≤ x ∧ x < 56) by omega), if_neg (by rintro ⟨h1, h2, h3⟩; exact absurd c33 h2), if_pos ⟨c53, c60⟩]) ?_
            refine g_ws (ws' := (txW cI cC h0 h1 h2 sg (nI ln) ((pst x (lf, rg, bd, r)).2.2.2) (nI (pst x (lf, rg, bd, r)).1) (nI 0) (bI false))) (by rw [pst, if_neg (show ¬ (48 ≤ x ∧ x < 56) by omega), if_neg (by rintro ⟨h1, h2, h3⟩; exact absurd c33 h2), if_pos ⟨c53, c60⟩]) ?_
            refine g_ws (ws' := (txW cI cC h0 h1 h2 sg (nI ln) ((pst x (lf, rg, bd, r)).2.2.2) (nI (pst x (lf, rg, bd, r)).1) (nI (pst x (lf, rg, bd, r)).2.1) (bI false))) (by rw [pst, if_neg (show ¬ (48 ≤ x ∧ x < 56) by omega), if_neg (by rintro ⟨h1, h2, h3⟩; exact absurd c33 h2), if_pos ⟨c53, c60⟩]) ?_
            refine g_ws (ws' := (txW cI cC h0 h1 h2 sg (nI ln) ((pst x (lf, rg, bd, r)).2.2.2) (nI (pst x (lf, rg, bd, r)).1) (nI (pst x (lf, rg, bd, r)).2.1) (bI (pst x (lf, rg, bd, r)).2.2.1))) (by rw [pst, if_neg (show ¬ (48 ≤ x ∧ x < 56) by omega), if_neg (by rintro ⟨h1, h2, h3⟩; exact absurd c33 h2), if_pos ⟨c53, c60⟩]) ?_
            refine g_top (y := bI (pok x (lf, rg, bd, r))) (by rw [pok, if_neg (show ¬ (48 ≤ x ∧ x < 56) by omega), if_neg (by rintro ⟨h1, h2, h3⟩; exact absurd c33 h2), decide_eq_true ⟨c53, c60⟩]; rfl) ?_
            exact g_zret C hr hQ dX4_takesSign_72 rfl ⟨rfl, rfl⟩
      · refine g_aload_n (pc := 36) C dX4_takesSign_36 0 rfl rfl ?_
        refine g_get (pc := 37) (ci := 4) (T := TX4) (N := 6) (v := .int (bI bd)) C in_X4_takesSign_X4 0 rfl rfl 5 (by decide) fl_X4_takesSign_49 rfl rfl dX4_takesSign_37 ?_
        refine g_if_neB (pc := 40) C 50 dX4_takesSign_40 (by decide) (fun c40 => ?_) (fun c40 => ?_)
        · refine g_iload_n (pc := 50) C dX4_takesSign_50 1 rfl rfl ?_
          refine g_bipush (pc := 51) (v := nI 44) C dX4_takesSign_51 (by decide) ?_
          refine g_icmp_neN (pc := 53) C 73 (by omega) (by omega) dX4_takesSign_53 (by decide) (fun c53 => ?_) (fun c53 => ?_)
          · refine g_iconst (pc := 73) (v := nI 0) C dX4_takesSign_73 (by decide) ?_
            refine g_ws (ws' := (txW cI cC h0 h1 h2 sg (nI ln) ((pst x (lf, rg, bd, r)).2.2.2) (nI lf) (nI rg) (bI bd))) (by rw [pst, if_neg (show ¬ (48 ≤ x ∧ x < 56) by omega), if_neg (by rintro ⟨h1, h2, h3⟩; exact absurd (h3.symm.trans c40) (by decide)), if_neg (fun h => absurd h.1 c53)]) ?_
            refine g_ws (ws' := (txW cI cC h0 h1 h2 sg (nI ln) ((pst x (lf, rg, bd, r)).2.2.2) (nI (pst x (lf, rg, bd, r)).1) (nI rg) (bI bd))) (by rw [pst, if_neg (show ¬ (48 ≤ x ∧ x < 56) by omega), if_neg (by rintro ⟨h1, h2, h3⟩; exact absurd (h3.symm.trans c40) (by decide)), if_neg (fun h => absurd h.1 c53)]) ?_
            refine g_ws (ws' := (txW cI cC h0 h1 h2 sg (nI ln) ((pst x (lf, rg, bd, r)).2.2.2) (nI (pst x (lf, rg, bd, r)).1) (nI (pst x (lf, rg, bd, r)).2.1) (bI bd))) (by rw [pst, if_neg (show ¬ (48 ≤ x ∧ x < 56) by omega), if_neg (by rintro ⟨h1, h2, h3⟩; exact absurd (h3.symm.trans c40) (by decide)), if_neg (fun h => absurd h.1 c53)]) ?_
            refine g_ws (ws' := (txW cI cC h0 h1 h2 sg (nI ln) ((pst x (lf, rg, bd, r)).2.2.2) (nI (pst x (lf, rg, bd, r)).1) (nI (pst x (lf, rg, bd, r)).2.1) (bI (pst x (lf, rg, bd, r)).2.2.1))) (by rw [pst, if_neg (show ¬ (48 ≤ x ∧ x < 56) by omega), if_neg (by rintro ⟨h1, h2, h3⟩; exact absurd (h3.symm.trans c40) (by decide)), if_neg (fun h => absurd h.1 c53)]) ?_
            refine g_top (y := bI (pok x (lf, rg, bd, r))) (by rw [pok, if_neg (show ¬ (48 ≤ x ∧ x < 56) by omega), if_neg (by rintro ⟨h1, h2, h3⟩; exact absurd (h3.symm.trans c40) (by decide)), decide_eq_false (fun h => absurd h.1 c53)]; rfl) ?_
            exact g_zret C hr hQ dX4_takesSign_74 rfl ⟨rfl, rfl⟩
          · refine g_aload_n (pc := 56) C dX4_takesSign_56 0 rfl rfl ?_
            refine g_get (pc := 57) (ci := 4) (T := TX4) (N := 6) (v := .int (nI rg)) C in_X4_takesSign_X4 0 rfl rfl 4 (by decide) fl_X4_takesSign_40 rfl rfl dX4_takesSign_57 ?_
            refine g_if_eqN (pc := 60) C 73 (by omega) dX4_takesSign_60 (by decide) (fun c60 => ?_) (fun c60 => ?_)
            · refine g_iconst (pc := 73) (v := nI 0) C dX4_takesSign_73 (by decide) ?_
              refine g_ws (ws' := (txW cI cC h0 h1 h2 sg (nI ln) ((pst x (lf, rg, bd, r)).2.2.2) (nI lf) (nI rg) (bI bd))) (by rw [pst, if_neg (show ¬ (48 ≤ x ∧ x < 56) by omega), if_neg (by rintro ⟨h1, h2, h3⟩; exact absurd (h3.symm.trans c40) (by decide)), if_neg (fun h => absurd c60 h.2)]) ?_
              refine g_ws (ws' := (txW cI cC h0 h1 h2 sg (nI ln) ((pst x (lf, rg, bd, r)).2.2.2) (nI (pst x (lf, rg, bd, r)).1) (nI rg) (bI bd))) (by rw [pst, if_neg (show ¬ (48 ≤ x ∧ x < 56) by omega), if_neg (by rintro ⟨h1, h2, h3⟩; exact absurd (h3.symm.trans c40) (by decide)), if_neg (fun h => absurd c60 h.2)]) ?_
              refine g_ws (ws' := (txW cI cC h0 h1 h2 sg (nI ln) ((pst x (lf, rg, bd, r)).2.2.2) (nI (pst x (lf, rg, bd, r)).1) (nI (pst x (lf, rg, bd, r)).2.1) (bI bd))) (by rw [pst, if_neg (show ¬ (48 ≤ x ∧ x < 56) by omega), if_neg (by rintro ⟨h1, h2, h3⟩; exact absurd (h3.symm.trans c40) (by decide)), if_neg (fun h => absurd c60 h.2)]) ?_
              refine g_ws (ws' := (txW cI cC h0 h1 h2 sg (nI ln) ((pst x (lf, rg, bd, r)).2.2.2) (nI (pst x (lf, rg, bd, r)).1) (nI (pst x (lf, rg, bd, r)).2.1) (bI (pst x (lf, rg, bd, r)).2.2.1))) (by rw [pst, if_neg (show ¬ (48 ≤ x ∧ x < 56) by omega), if_neg (by rintro ⟨h1, h2, h3⟩; exact absurd (h3.symm.trans c40) (by decide)), if_neg (fun h => absurd c60 h.2)]) ?_
              refine g_top (y := bI (pok x (lf, rg, bd, r))) (by rw [pok, if_neg (show ¬ (48 ≤ x ∧ x < 56) by omega), if_neg (by rintro ⟨h1, h2, h3⟩; exact absurd (h3.symm.trans c40) (by decide)), decide_eq_false (fun h => absurd c60 h.2)]; rfl) ?_
              exact g_zret C hr hQ dX4_takesSign_74 rfl ⟨rfl, rfl⟩
            · refine g_aload_n (pc := 63) C dX4_takesSign_63 0 rfl rfl ?_
              refine g_callV (pc := 64) (st := []) (As := []) (nn := 0) (ci := 4) (q0 := 0) C (m_X4_endGroup l D cI cC h0 h1 h2 sg r ln lf rg bd (by first | assumption | omega) (by first | assumption | omega)) gX4_takesSign_X4_endGroup rfl rfl rfl yd_X4_endGroup ⟨Nat.le_of_ble_eq_true rfl, Nat.le_of_ble_eq_true rfl⟩ rfl [0, 1, 2] rfl rfl rfl rfl rfl (Nat.le_of_ble_eq_true rfl) ⟨Nat.le_of_ble_eq_true rfl, Nat.le_of_ble_eq_true rfl⟩ dX4_takesSign_64 ?_
              rintro _ _ ⟨rfl, rfl⟩
              refine g_eq (ws' := (txW cI cC h0 h1 h2 sg (nI ln) (egF r lf rg 8) (nI lf) (nI rg) (bI bd))) (st' := []) rfl rfl ?_
              refine g_aload_n (pc := 67) C dX4_takesSign_67 0 rfl rfl ?_
              refine g_callV (pc := 68) (st := []) (As := []) (nn := 0) (ci := 4) (q0 := 0) C (m_X4_beginGroup l D cI cC h0 h1 h2 sg (egF r lf rg 8) ln lf rg bd) gX4_takesSign_X4_beginGroup rfl rfl rfl yd_X4_beginGroup ⟨Nat.le_of_ble_eq_true rfl, Nat.le_of_ble_eq_true rfl⟩ rfl [0, 1, 2] rfl rfl rfl rfl rfl (Nat.le_of_ble_eq_true rfl) ⟨Nat.le_of_ble_eq_true rfl, Nat.le_of_ble_eq_true rfl⟩ dX4_takesSign_68 ?_
              rintro _ _ ⟨rfl, rfl⟩
              refine g_eq (ws' := (txW cI cC h0 h1 h2 sg (nI ln) (egF r lf rg 8) (nI 0) (nI 0) (bI false))) (st' := []) rfl rfl ?_
              refine g_iconst (pc := 71) (v := nI 1) C dX4_takesSign_71 (by decide) ?_
              refine g_ws (ws' := (txW cI cC h0 h1 h2 sg (nI ln) ((pst x (lf, rg, bd, r)).2.2.2) (nI 0) (nI 0) (bI false))) (by rw [pst, if_neg (show ¬ (48 ≤ x ∧ x < 56) by omega), if_neg (by rintro ⟨h1, h2, h3⟩; exact absurd (h3.symm.trans c40) (by decide)), if_pos ⟨c53, c60⟩]) ?_
              refine g_ws (ws' := (txW cI cC h0 h1 h2 sg (nI ln) ((pst x (lf, rg, bd, r)).2.2.2) (nI (pst x (lf, rg, bd, r)).1) (nI 0) (bI false))) (by rw [pst, if_neg (show ¬ (48 ≤ x ∧ x < 56) by omega), if_neg (by rintro ⟨h1, h2, h3⟩; exact absurd (h3.symm.trans c40) (by decide)), if_pos ⟨c53, c60⟩]) ?_
              refine g_ws (ws' := (txW cI cC h0 h1 h2 sg (nI ln) ((pst x (lf, rg, bd, r)).2.2.2) (nI (pst x (lf, rg, bd, r)).1) (nI (pst x (lf, rg, bd, r)).2.1) (bI false))) (by rw [pst, if_neg (show ¬ (48 ≤ x ∧ x < 56) by omega), if_neg (by rintro ⟨h1, h2, h3⟩; exact absurd (h3.symm.trans c40) (by decide)), if_pos ⟨c53, c60⟩]) ?_
              refine g_ws (ws' := (txW cI cC h0 h1 h2 sg (nI ln) ((pst x (lf, rg, bd, r)).2.2.2) (nI (pst x (lf, rg, bd, r)).1) (nI (pst x (lf, rg, bd, r)).2.1) (bI (pst x (lf, rg, bd, r)).2.2.1))) (by rw [pst, if_neg (show ¬ (48 ≤ x ∧ x < 56) by omega), if_neg (by rintro ⟨h1, h2, h3⟩; exact absurd (h3.symm.trans c40) (by decide)), if_pos ⟨c53, c60⟩]) ?_
              refine g_top (y := bI (pok x (lf, rg, bd, r))) (by rw [pok, if_neg (show ¬ (48 ≤ x ∧ x < 56) by omega), if_neg (by rintro ⟨h1, h2, h3⟩; exact absurd (h3.symm.trans c40) (by decide)), decide_eq_true ⟨c53, c60⟩]; rfl) ?_
              exact g_zret C hr hQ dX4_takesSign_72 rfl ⟨rfl, rfl⟩
        · refine g_aload_n (pc := 43) C dX4_takesSign_43 0 rfl rfl ?_
          refine g_iconst (pc := 44) (v := nI 1) C dX4_takesSign_44 (by decide) ?_
          refine g_top (y := bI true) rfl ?_
          refine g_put (pc := 45) (ci := 4) (T := TX4) (N := 6) (ws' := (txW cI cC h0 h1 h2 sg (nI ln) r (nI lf) (nI rg) (bI true))) (ty := .boolean) (v := .int (bI true)) C in_X4_takesSign_X4 tyX4 tyX4_ok nmX4 0 rfl rfl 5 (by decide) fl_X4_takesSign_49 rfl rfl (by decide +kernel) (g_nar _) (g_fit _) (Nat.le_of_ble_eq_true rfl) dX4_takesSign_45 rfl ?_
          refine g_iconst (pc := 48) (v := nI 1) C dX4_takesSign_48 (by decide) ?_
          refine g_ws (ws' := (txW cI cC h0 h1 h2 sg (nI ln) ((pst x (lf, rg, bd, r)).2.2.2) (nI lf) (nI rg) (bI true))) (by rw [pst, if_neg (show ¬ (48 ≤ x ∧ x < 56) by omega), if_pos ⟨c26, c33, c40⟩]) ?_
          refine g_ws (ws' := (txW cI cC h0 h1 h2 sg (nI ln) ((pst x (lf, rg, bd, r)).2.2.2) (nI (pst x (lf, rg, bd, r)).1) (nI rg) (bI true))) (by rw [pst, if_neg (show ¬ (48 ≤ x ∧ x < 56) by omega), if_pos ⟨c26, c33, c40⟩]) ?_
          refine g_ws (ws' := (txW cI cC h0 h1 h2 sg (nI ln) ((pst x (lf, rg, bd, r)).2.2.2) (nI (pst x (lf, rg, bd, r)).1) (nI (pst x (lf, rg, bd, r)).2.1) (bI true))) (by rw [pst, if_neg (show ¬ (48 ≤ x ∧ x < 56) by omega), if_pos ⟨c26, c33, c40⟩]) ?_
          refine g_ws (ws' := (txW cI cC h0 h1 h2 sg (nI ln) ((pst x (lf, rg, bd, r)).2.2.2) (nI (pst x (lf, rg, bd, r)).1) (nI (pst x (lf, rg, bd, r)).2.1) (bI (pst x (lf, rg, bd, r)).2.2.1))) (by rw [pst, if_neg (show ¬ (48 ≤ x ∧ x < 56) by omega), if_pos ⟨c26, c33, c40⟩]) ?_
          refine g_top (y := bI (pok x (lf, rg, bd, r))) (by rw [pok, if_neg (show ¬ (48 ≤ x ∧ x < 56) by omega), if_pos ⟨c26, c33, c40⟩]; rfl) ?_
          exact g_zret C hr hQ dX4_takesSign_49 rfl ⟨rfl, rfl⟩
  · refine g_iload_n (pc := 6) C dX4_takesSign_6 1 rfl rfl ?_
    refine g_bipush (pc := 7) (v := nI 56) C dX4_takesSign_7 (by decide) ?_
    refine g_icmp_geN (pc := 9) C 23 (by omega) (by omega) dX4_takesSign_9 (by decide) (fun c9 => ?_) (fun c9 => ?_)
    · refine g_iload_n (pc := 23) C dX4_takesSign_23 1 rfl rfl ?_
      refine g_bipush (pc := 24) (v := nI 45) C dX4_takesSign_24 (by decide) ?_
      refine g_icmp_neN (pc := 26) C 50 (by omega) (by omega) dX4_takesSign_26 (by decide) (fun c26 => ?_) (fun c26 => ?_)
      · refine g_iload_n (pc := 50) C dX4_takesSign_50 1 rfl rfl ?_
        refine g_bipush (pc := 51) (v := nI 44) C dX4_takesSign_51 (by decide) ?_
        refine g_icmp_neN (pc := 53) C 73 (by omega) (by omega) dX4_takesSign_53 (by decide) (fun c53 => ?_) (fun c53 => ?_)
        · refine g_iconst (pc := 73) (v := nI 0) C dX4_takesSign_73 (by decide) ?_
          refine g_ws (ws' := (txW cI cC h0 h1 h2 sg (nI ln) ((pst x (lf, rg, bd, r)).2.2.2) (nI lf) (nI rg) (bI bd))) (by rw [pst, if_neg (show ¬ (48 ≤ x ∧ x < 56) by omega), if_neg (by rintro ⟨h1, h2, h3⟩; exact absurd h1 c26), if_neg (fun h => absurd h.1 c53)]) ?_
          refine g_ws (ws' := (txW cI cC h0 h1 h2 sg (nI ln) ((pst x (lf, rg, bd, r)).2.2.2) (nI (pst x (lf, rg, bd, r)).1) (nI rg) (bI bd))) (by rw [pst, if_neg (show ¬ (48 ≤ x ∧ x < 56) by omega), if_neg (by rintro ⟨h1, h2, h3⟩; exact absurd h1 c26), if_neg (fun h => absurd h.1 c53)]) ?_
          refine g_ws (ws' := (txW cI cC h0 h1 h2 sg (nI ln) ((pst x (lf, rg, bd, r)).2.2.2) (nI (pst x (lf, rg, bd, r)).1) (nI (pst x (lf, rg, bd, r)).2.1) (bI bd))) (by rw [pst, if_neg (show ¬ (48 ≤ x ∧ x < 56) by omega), if_neg (by rintro ⟨h1, h2, h3⟩; exact absurd h1 c26), if_neg (fun h => absurd h.1 c53)]) ?_
          refine g_ws (ws' := (txW cI cC h0 h1 h2 sg (nI ln) ((pst x (lf, rg, bd, r)).2.2.2) (nI (pst x (lf, rg, bd, r)).1) (nI (pst x (lf, rg, bd, r)).2.1) (bI (pst x (lf, rg, bd, r)).2.2.1))) (by rw [pst, if_neg (show ¬ (48 ≤ x ∧ x < 56) by omega), if_neg (by rintro ⟨h1, h2, h3⟩; exact absurd h1 c26), if_neg (fun h => absurd h.1 c53)]) ?_
          refine g_top (y := bI (pok x (lf, rg, bd, r))) (by rw [pok, if_neg (show ¬ (48 ≤ x ∧ x < 56) by omega), if_neg (by rintro ⟨h1, h2, h3⟩; exact absurd h1 c26), decide_eq_false (fun h => absurd h.1 c53)]; rfl) ?_
          exact g_zret C hr hQ dX4_takesSign_74 rfl ⟨rfl, rfl⟩
        · refine g_aload_n (pc := 56) C dX4_takesSign_56 0 rfl rfl ?_
          refine g_get (pc := 57) (ci := 4) (T := TX4) (N := 6) (v := .int (nI rg)) C in_X4_takesSign_X4 0 rfl rfl 4 (by decide) fl_X4_takesSign_40 rfl rfl dX4_takesSign_57 ?_
          refine g_if_eqN (pc := 60) C 73 (by omega) dX4_takesSign_60 (by decide) (fun c60 => ?_) (fun c60 => ?_)
          · refine g_iconst (pc := 73) (v := nI 0) C dX4_takesSign_73 (by decide) ?_
            refine g_ws (ws' := (txW cI cC h0 h1 h2 sg (nI ln) ((pst x (lf, rg, bd, r)).2.2.2) (nI lf) (nI rg) (bI bd))) (by rw [pst, if_neg (show ¬ (48 ≤ x ∧ x < 56) by omega), if_neg (by rintro ⟨h1, h2, h3⟩; exact absurd h1 c26), if_neg (fun h => absurd c60 h.2)]) ?_
            refine g_ws (ws' := (txW cI cC h0 h1 h2 sg (nI ln) ((pst x (lf, rg, bd, r)).2.2.2) (nI (pst x (lf, rg, bd, r)).1) (nI rg) (bI bd))) (by rw [pst, if_neg (show ¬ (48 ≤ x ∧ x < 56) by omega), if_neg (by rintro ⟨h1, h2, h3⟩; exact absurd h1 c26), if_neg (fun h => absurd c60 h.2)]) ?_
            refine g_ws (ws' := (txW cI cC h0 h1 h2 sg (nI ln) ((pst x (lf, rg, bd, r)).2.2.2) (nI (pst x (lf, rg, bd, r)).1) (nI (pst x (lf, rg, bd, r)).2.1) (bI bd))) (by rw [pst, if_neg (show ¬ (48 ≤ x ∧ x < 56) by omega), if_neg (by rintro ⟨h1, h2, h3⟩; exact absurd h1 c26), if_neg (fun h => absurd c60 h.2)]) ?_
            refine g_ws (ws' := (txW cI cC h0 h1 h2 sg (nI ln) ((pst x (lf, rg, bd, r)).2.2.2) (nI (pst x (lf, rg, bd, r)).1) (nI (pst x (lf, rg, bd, r)).2.1) (bI (pst x (lf, rg, bd, r)).2.2.1))) (by rw [pst, if_neg (show ¬ (48 ≤ x ∧ x < 56) by omega), if_neg (by rintro ⟨h1, h2, h3⟩; exact absurd h1 c26), if_neg (fun h => absurd c60 h.2)]) ?_
            refine g_top (y := bI (pok x (lf, rg, bd, r))) (by rw [pok, if_neg (show ¬ (48 ≤ x ∧ x < 56) by omega), if_neg (by rintro ⟨h1, h2, h3⟩; exact absurd h1 c26), decide_eq_false (fun h => absurd c60 h.2)]; rfl) ?_
            exact g_zret C hr hQ dX4_takesSign_74 rfl ⟨rfl, rfl⟩
          · refine g_aload_n (pc := 63) C dX4_takesSign_63 0 rfl rfl ?_
            refine g_callV (pc := 64) (st := []) (As := []) (nn := 0) (ci := 4) (q0 := 0) C (m_X4_endGroup l D cI cC h0 h1 h2 sg r ln lf rg bd (by first | assumption | omega) (by first | assumption | omega)) gX4_takesSign_X4_endGroup rfl rfl rfl yd_X4_endGroup ⟨Nat.le_of_ble_eq_true rfl, Nat.le_of_ble_eq_true rfl⟩ rfl [0, 1, 2] rfl rfl rfl rfl rfl (Nat.le_of_ble_eq_true rfl) ⟨Nat.le_of_ble_eq_true rfl, Nat.le_of_ble_eq_true rfl⟩ dX4_takesSign_64 ?_
            rintro _ _ ⟨rfl, rfl⟩
            refine g_eq (ws' := (txW cI cC h0 h1 h2 sg (nI ln) (egF r lf rg 8) (nI lf) (nI rg) (bI bd))) (st' := []) rfl rfl ?_
            refine g_aload_n (pc := 67) C dX4_takesSign_67 0 rfl rfl ?_
            refine g_callV (pc := 68) (st := []) (As := []) (nn := 0) (ci := 4) (q0 := 0) C (m_X4_beginGroup l D cI cC h0 h1 h2 sg (egF r lf rg 8) ln lf rg bd) gX4_takesSign_X4_beginGroup rfl rfl rfl yd_X4_beginGroup ⟨Nat.le_of_ble_eq_true rfl, Nat.le_of_ble_eq_true rfl⟩ rfl [0, 1, 2] rfl rfl rfl rfl rfl (Nat.le_of_ble_eq_true rfl) ⟨Nat.le_of_ble_eq_true rfl, Nat.le_of_ble_eq_true rfl⟩ dX4_takesSign_68 ?_
            rintro _ _ ⟨rfl, rfl⟩
            refine g_eq (ws' := (txW cI cC h0 h1 h2 sg (nI ln) (egF r lf rg 8) (nI 0) (nI 0) (bI false))) (st' := []) rfl rfl ?_
            refine g_iconst (pc := 71) (v := nI 1) C dX4_takesSign_71 (by decide) ?_
            refine g_ws (ws' := (txW cI cC h0 h1 h2 sg (nI ln) ((pst x (lf, rg, bd, r)).2.2.2) (nI 0) (nI 0) (bI false))) (by rw [pst, if_neg (show ¬ (48 ≤ x ∧ x < 56) by omega), if_neg (by rintro ⟨h1, h2, h3⟩; exact absurd h1 c26), if_pos ⟨c53, c60⟩]) ?_
            refine g_ws (ws' := (txW cI cC h0 h1 h2 sg (nI ln) ((pst x (lf, rg, bd, r)).2.2.2) (nI (pst x (lf, rg, bd, r)).1) (nI 0) (bI false))) (by rw [pst, if_neg (show ¬ (48 ≤ x ∧ x < 56) by omega), if_neg (by rintro ⟨h1, h2, h3⟩; exact absurd h1 c26), if_pos ⟨c53, c60⟩]) ?_
            refine g_ws (ws' := (txW cI cC h0 h1 h2 sg (nI ln) ((pst x (lf, rg, bd, r)).2.2.2) (nI (pst x (lf, rg, bd, r)).1) (nI (pst x (lf, rg, bd, r)).2.1) (bI false))) (by rw [pst, if_neg (show ¬ (48 ≤ x ∧ x < 56) by omega), if_neg (by rintro ⟨h1, h2, h3⟩; exact absurd h1 c26), if_pos ⟨c53, c60⟩]) ?_
            refine g_ws (ws' := (txW cI cC h0 h1 h2 sg (nI ln) ((pst x (lf, rg, bd, r)).2.2.2) (nI (pst x (lf, rg, bd, r)).1) (nI (pst x (lf, rg, bd, r)).2.1) (bI (pst x (lf, rg, bd, r)).2.2.1))) (by rw [pst, if_neg (show ¬ (48 ≤ x ∧ x < 56) by omega), if_neg (by rintro ⟨h1, h2, h3⟩; exact absurd h1 c26), if_pos ⟨c53, c60⟩]) ?_
            refine g_top (y := bI (pok x (lf, rg, bd, r))) (by rw [pok, if_neg (show ¬ (48 ≤ x ∧ x < 56) by omega), if_neg (by rintro ⟨h1, h2, h3⟩; exact absurd h1 c26), decide_eq_true ⟨c53, c60⟩]; rfl) ?_
            exact g_zret C hr hQ dX4_takesSign_72 rfl ⟨rfl, rfl⟩
      · refine g_aload_n (pc := 29) C dX4_takesSign_29 0 rfl rfl ?_
        refine g_get (pc := 30) (ci := 4) (T := TX4) (N := 6) (v := .int (nI lf)) C in_X4_takesSign_X4 0 rfl rfl 3 (by decide) fl_X4_takesSign_46 rfl rfl dX4_takesSign_30 ?_
        refine g_if_eqN (pc := 33) C 50 (by omega) dX4_takesSign_33 (by decide) (fun c33 => ?_) (fun c33 => ?_)
        · refine g_iload_n (pc := 50) C dX4_takesSign_50 1 rfl rfl ?_
          refine g_bipush (pc := 51) (v := nI 44) C dX4_takesSign_51 (by decide) ?_
          refine g_icmp_neN (pc := 53) C 73 (by omega) (by omega) dX4_takesSign_53 (by decide) (fun c53 => ?_) (fun c53 => ?_)
          · refine g_iconst (pc := 73) (v := nI 0) C dX4_takesSign_73 (by decide) ?_
            refine g_ws (ws' := (txW cI cC h0 h1 h2 sg (nI ln) ((pst x (lf, rg, bd, r)).2.2.2) (nI lf) (nI rg) (bI bd))) (by rw [pst, if_neg (show ¬ (48 ≤ x ∧ x < 56) by omega), if_neg (by rintro ⟨h1, h2, h3⟩; exact absurd c33 h2), if_neg (fun h => absurd h.1 c53)]) ?_
            refine g_ws (ws' := (txW cI cC h0 h1 h2 sg (nI ln) ((pst x (lf, rg, bd, r)).2.2.2) (nI (pst x (lf, rg, bd, r)).1) (nI rg) (bI bd))) (by rw [pst, if_neg (show ¬ (48 ≤ x ∧ x < 56) by omega), if_neg (by rintro ⟨h1, h2, h3⟩; exact absurd c33 h2), if_neg (fun h => absurd h.1 c53)]) ?_
            refine g_ws (ws' := (txW cI cC h0 h1 h2 sg (nI ln) ((pst x (lf, rg, bd, r)).2.2.2) (nI (pst x (lf, rg, bd, r)).1) (nI (pst x (lf, rg, bd, r)).2.1) (bI bd))) (by rw [pst, if_neg (show ¬ (48 ≤ x ∧ x < 56) by omega), if_neg (by rintro ⟨h1, h2, h3⟩; exact absurd c33 h2), if_neg (fun h => absurd h.1 c53)]) ?_
            refine g_ws (ws' := (txW cI cC h0 h1 h2 sg (nI ln) ((pst x (lf, rg, bd, r)).2.2.2) (nI (pst x (lf, rg, bd, r)).1) (nI (pst x (lf, rg, bd, r)).2.1) (bI (pst x (lf, rg, bd, r)).2.2.1))) (by rw [pst, if_neg (show ¬ (48 ≤ x ∧ x < 56) by omega), if_neg (by rintro ⟨h1, h2, h3⟩; exact absurd c33 h2), if_neg (fun h => absurd h.1 c53)]) ?_
            refine g_top (y := bI (pok x (lf, rg, bd, r))) (by rw [pok, if_neg (show ¬ (48 ≤ x ∧ x < 56) by omega), if_neg (by rintro ⟨h1, h2, h3⟩; exact absurd c33 h2), decide_eq_false (fun h => absurd h.1 c53)]; rfl) ?_
            exact g_zret C hr hQ dX4_takesSign_74 rfl ⟨rfl, rfl⟩
          · refine g_aload_n (pc := 56) C dX4_takesSign_56 0 rfl rfl ?_
            refine g_get (pc := 57) (ci := 4) (T := TX4) (N := 6) (v := .int (nI rg)) C in_X4_takesSign_X4 0 rfl rfl 4 (by decide) fl_X4_takesSign_40 rfl rfl dX4_takesSign_57 ?_
            refine g_if_eqN (pc := 60) C 73 (by omega) dX4_takesSign_60 (by decide) (fun c60 => ?_) (fun c60 => ?_)
            · refine g_iconst (pc := 73) (v := nI 0) C dX4_takesSign_73 (by decide) ?_
              refine g_ws (ws' := (txW cI cC h0 h1 h2 sg (nI ln) ((pst x (lf, rg, bd, r)).2.2.2) (nI lf) (nI rg) (bI bd))) (by rw [pst, if_neg (show ¬ (48 ≤ x ∧ x < 56) by omega), if_neg (by rintro ⟨h1, h2, h3⟩; exact absurd c33 h2), if_neg (fun h => absurd c60 h.2)]) ?_
              refine g_ws (ws' := (txW cI cC h0 h1 h2 sg (nI ln) ((pst x (lf, rg, bd, r)).2.2.2) (nI (pst x (lf, rg, bd, r)).1) (nI rg) (bI bd))) (by rw [pst, if_neg (show ¬ (48 ≤ x ∧ x < 56) by omega), if_neg (by rintro ⟨h1, h2, h3⟩; exact absurd c33 h2), if_neg (fun h => absurd c60 h.2)]) ?_
              refine g_ws (ws' := (txW cI cC h0 h1 h2 sg (nI ln) ((pst x (lf, rg, bd, r)).2.2.2) (nI (pst x (lf, rg, bd, r)).1) (nI (pst x (lf, rg, bd, r)).2.1) (bI bd))) (by rw [pst, if_neg (show ¬ (48 ≤ x ∧ x < 56) by omega), if_neg (by rintro ⟨h1, h2, h3⟩; exact absurd c33 h2), if_neg (fun h => absurd c60 h.2)]) ?_
              refine g_ws (ws' := (txW cI cC h0 h1 h2 sg (nI ln) ((pst x (lf, rg, bd, r)).2.2.2) (nI (pst x (lf, rg, bd, r)).1) (nI (pst x (lf, rg, bd, r)).2.1) (bI (pst x (lf, rg, bd, r)).2.2.1))) (by rw [pst, if_neg (show ¬ (48 ≤ x ∧ x < 56) by omega), if_neg (by rintro ⟨h1, h2, h3⟩; exact absurd c33 h2), if_neg (fun h => absurd c60 h.2)]) ?_
              refine g_top (y := bI (pok x (lf, rg, bd, r))) (by rw [pok, if_neg (show ¬ (48 ≤ x ∧ x < 56) by omega), if_neg (by rintro ⟨h1, h2, h3⟩; exact absurd c33 h2), decide_eq_false (fun h => absurd c60 h.2)]; rfl) ?_
              exact g_zret C hr hQ dX4_takesSign_74 rfl ⟨rfl, rfl⟩
            · refine g_aload_n (pc := 63) C dX4_takesSign_63 0 rfl rfl ?_
              refine g_callV (pc := 64) (st := []) (As := []) (nn := 0) (ci := 4) (q0 := 0) C (m_X4_endGroup l D cI cC h0 h1 h2 sg r ln lf rg bd (by first | assumption | omega) (by first | assumption | omega)) gX4_takesSign_X4_endGroup rfl rfl rfl yd_X4_endGroup ⟨Nat.le_of_ble_eq_true rfl, Nat.le_of_ble_eq_true rfl⟩ rfl [0, 1, 2] rfl rfl rfl rfl rfl (Nat.le_of_ble_eq_true rfl) ⟨Nat.le_of_ble_eq_true rfl, Nat.le_of_ble_eq_true rfl⟩ dX4_takesSign_64 ?_
              rintro _ _ ⟨rfl, rfl⟩
              refine g_eq (ws' := (txW cI cC h0 h1 h2 sg (nI ln) (egF r lf rg 8) (nI lf) (nI rg) (bI bd))) (st' := []) rfl rfl ?_
              refine g_aload_n (pc := 67) C dX4_takesSign_67 0 rfl rfl ?_
              refine g_callV (pc := 68) (st := []) (As := []) (nn := 0) (ci := 4) (q0 := 0) C (m_X4_beginGroup l D cI cC h0 h1 h2 sg (egF r lf rg 8) ln lf rg bd) gX4_takesSign_X4_beginGroup rfl rfl rfl yd_X4_beginGroup ⟨Nat.le_of_ble_eq_true rfl, Nat.le_of_ble_eq_true rfl⟩ rfl [0, 1, 2] rfl rfl rfl rfl rfl (Nat.le_of_ble_eq_true rfl) ⟨Nat.le_of_ble_eq_true rfl, Nat.le_of_ble_eq_true rfl⟩ dX4_takesSign_68 ?_
              rintro _ _ ⟨rfl, rfl⟩
              refine g_eq (ws' := (txW cI cC h0 h1 h2 sg (nI ln) (egF r lf rg 8) (nI 0) (nI 0) (bI false))) (st' := []) rfl rfl ?_
              refine g_iconst (pc := 71) (v := nI 1) C dX4_takesSign_71 (by decide) ?_
              refine g_ws (ws' := (txW cI cC h0 h1 h2 sg (nI ln) ((pst x (lf, rg, bd, r)).2.2.2) (nI 0) (nI 0) (bI false))) (by rw [pst, if_neg (show ¬ (48 ≤ x ∧ x < 56) by omega), if_neg (by rintro ⟨h1, h2, h3⟩; exact absurd c33 h2), if_pos ⟨c53, c60⟩]) ?_
              refine g_ws (ws' := (txW cI cC h0 h1 h2 sg (nI ln) ((pst x (lf, rg, bd, r)).2.2.2) (nI (pst x (lf, rg, bd, r)).1) (nI 0) (bI false))) (by rw [pst, if_neg (show ¬ (48 ≤ x ∧ x < 56) by omega), if_neg (by rintro ⟨h1, h2, h3⟩; exact absurd c33 h2), if_pos ⟨c53, c60⟩]) ?_
              refine g_ws (ws' := (txW cI cC h0 h1 h2 sg (nI ln) ((pst x (lf, rg, bd, r)).2.2.2) (nI (pst x (lf, rg, bd, r)).1) (nI (pst x (lf, rg, bd, r)).2.1) (bI false))) (by rw [pst, if_neg (show ¬ (48 ≤ x ∧ x < 56) by omega), if_neg (by rintro ⟨h1, h2, h3⟩; exact absurd c33 h2), if_pos ⟨c53, c60⟩]) ?_
              refine g_ws (ws' := (txW cI cC h0 h1 h2 sg (nI ln) ((pst x (lf, rg, bd, r)).2.2.2) (nI (pst x (lf, rg, bd, r)).1) (nI (pst x (lf, rg, bd, r)).2.1) (bI (pst x (lf, rg, bd, r)).2.2.1))) (by rw [pst, if_neg (show ¬ (48 ≤ x ∧ x < 56) by omega), if_neg (by rintro ⟨h1, h2, h3⟩; exact absurd c33 h2), if_pos ⟨c53, c60⟩]) ?_
              refine g_top (y := bI (pok x (lf, rg, bd, r))) (by rw [pok, if_neg (show ¬ (48 ≤ x ∧ x < 56) by omega), if_neg (by rintro ⟨h1, h2, h3⟩; exact absurd c33 h2), decide_eq_true ⟨c53, c60⟩]; rfl) ?_
              exact g_zret C hr hQ dX4_takesSign_72 rfl ⟨rfl, rfl⟩
        · refine g_aload_n (pc := 36) C dX4_takesSign_36 0 rfl rfl ?_
          refine g_get (pc := 37) (ci := 4) (T := TX4) (N := 6) (v := .int (bI bd)) C in_X4_takesSign_X4 0 rfl rfl 5 (by decide) fl_X4_takesSign_49 rfl rfl dX4_takesSign_37 ?_
          refine g_if_neB (pc := 40) C 50 dX4_takesSign_40 (by decide) (fun c40 => ?_) (fun c40 => ?_)
          · refine g_iload_n (pc := 50) C dX4_takesSign_50 1 rfl rfl ?_
            refine g_bipush (pc := 51) (v := nI 44) C dX4_takesSign_51 (by decide) ?_
            refine g_icmp_neN (pc := 53) C 73 (by omega) (by omega) dX4_takesSign_53 (by decide) (fun c53 => ?_) (fun c53 => ?_)
            · refine g_iconst (pc := 73) (v := nI 0) C dX4_takesSign_73 (by decide) ?_
              refine g_ws (ws' := (txW cI cC h0 h1 h2 sg (nI ln) ((pst x (lf, rg, bd, r)).2.2.2) (nI lf) (nI rg) (bI bd))) (by rw [pst, if_neg (show ¬ (48 ≤ x ∧ x < 56) by omega), if_neg (by rintro ⟨h1, h2, h3⟩; exact absurd (h3.symm.trans c40) (by decide)), if_neg (fun h => absurd h.1 c53)]) ?_
              refine g_ws (ws' := (txW cI cC h0 h1 h2 sg (nI ln) ((pst x (lf, rg, bd, r)).2.2.2) (nI (pst x (lf, rg, bd, r)).1) (nI rg) (bI bd))) (by rw [pst, if_neg (show ¬ (48 ≤ x ∧ x < 56) by omega), if_neg (by rintro ⟨h1, h2, h3⟩; exact absurd (h3.symm.trans c40) (by decide)), if_neg (fun h => absurd h.1 c53)]) ?_
              refine g_ws (ws' := (txW cI cC h0 h1 h2 sg (nI ln) ((pst x (lf, rg, bd, r)).2.2.2) (nI (pst x (lf, rg, bd, r)).1) (nI (pst x (lf, rg, bd, r)).2.1) (bI bd))) (by rw [pst, if_neg (show ¬ (48 ≤ x ∧ x < 56) by omega), if_neg (by rintro ⟨h1, h2, h3⟩; exact absurd (h3.symm.trans c40) (by decide)), if_neg (fun h => absurd h.1 c53)]) ?_
              refine g_ws (ws' := (txW cI cC h0 h1 h2 sg (nI ln) ((pst x (lf, rg, bd, r)).2.2.2) (nI (pst x (lf, rg, bd, r)).1) (nI (pst x (lf, rg, bd, r)).2.1) (bI (pst x (lf, rg, bd, r)).2.2.1))) (by rw [pst, if_neg (show ¬ (48 ≤ x ∧ x < 56) by omega), if_neg (by rintro ⟨h1, h2, h3⟩; exact absurd (h3.symm.trans c40) (by decide)), if_neg (fun h => absurd h.1 c53)]) ?_
              refine g_top (y := bI (pok x (lf, rg, bd, r))) (by rw [pok, if_neg (show ¬ (48 ≤ x ∧ x < 56) by omega), if_neg (by rintro ⟨h1, h2, h3⟩; exact absurd (h3.symm.trans c40) (by decide)), decide_eq_false (fun h => absurd h.1 c53)]; rfl) ?_
              exact g_zret C hr hQ dX4_takesSign_74 rfl ⟨rfl, rfl⟩
            · refine g_aload_n (pc := 56) C dX4_takesSign_56 0 rfl rfl ?_
              refine g_get (pc := 57) (ci := 4) (T := TX4) (N := 6) (v := .int (nI rg)) C in_X4_takesSign_X4 0 rfl rfl 4 (by decide) fl_X4_takesSign_40 rfl rfl dX4_takesSign_57 ?_
              refine g_if_eqN (pc := 60) C 73 (by omega) dX4_takesSign_60 (by decide) (fun c60 => ?_) (fun c60 => ?_)
              · refine g_iconst (pc := 73) (v := nI 0) C dX4_takesSign_73 (by decide) ?_
                refine g_ws (ws' := (txW cI cC h0 h1 h2 sg (nI ln) ((pst x (lf, rg, bd, r)).2.2.2) (nI lf) (nI rg) (bI bd))) (by rw [pst, if_neg (show ¬ (48 ≤ x ∧ x < 56) by omega), if_neg (by rintro ⟨h1, h2, h3⟩; exact absurd (h3.symm.trans c40) (by decide)), if_neg (fun h => absurd c60 h.2)]) ?_
                refine g_ws (ws' := (txW cI cC h0 h1 h2 sg (nI ln) ((pst x (lf, rg, bd, r)).2.2.2) (nI (pst x (lf, rg, bd, r)).1) (nI rg) (bI bd))) (by rw [pst, if_neg (show ¬ (48 ≤ x ∧ x < 56) by omega), if_neg (by rintro ⟨h1, h2, h3⟩; exact absurd (h3.symm.trans c40) (by decide)), if_neg (fun h => absurd c60 h.2)]) ?_
                refine g_ws (ws' := (txW cI cC h0 h1 h2 sg (nI ln) ((pst x (lf, rg, bd, r)).2.2.2) (nI (pst x (lf, rg, bd, r)).1) (nI (pst x (lf, rg, bd, r)).2.1) (bI bd))) (by rw [pst, if_neg (show ¬ (48 ≤ x ∧ x < 56) by omega), if_neg (by rintro ⟨h1, h2, h3⟩; exact absurd (h3.symm.trans c40) (by decide)), if_neg (fun h => absurd c60 h.2)]) ?_
                refine g_ws (ws' := (txW cI cC h0 h1 h2 sg (nI ln) ((pst x (lf, rg, bd, r)).2.2.2) (nI (pst x (lf, rg, bd, r)).1) (nI (pst x (lf, rg, bd, r)).2.1) (bI (pst x (lf, rg, bd, r)).2.2.1))) (by rw [pst, if_neg (show ¬ (48 ≤ x ∧ x < 56) by omega), if_neg (by rintro ⟨h1, h2, h3⟩; exact absurd (h3.symm.trans c40) (by decide)), if_neg (fun h => absurd c60 h.2)]) ?_
                refine g_top (y := bI (pok x (lf, rg, bd, r))) (by rw [pok, if_neg (show ¬ (48 ≤ x ∧ x < 56) by omega), if_neg (by rintro ⟨h1, h2, h3⟩; exact absurd (h3.symm.trans c40) (by decide)), decide_eq_false (fun h => absurd c60 h.2)]; rfl) ?_
                exact g_zret C hr hQ dX4_takesSign_74 rfl ⟨rfl, rfl⟩
              · refine g_aload_n (pc := 63) C dX4_takesSign_63 0 rfl rfl ?_
                refine g_callV (pc := 64) (st := []) (As := []) (nn := 0) (ci := 4) (q0 := 0) C (m_X4_endGroup l D cI cC h0 h1 h2 sg r ln lf rg bd (by first | assumption | omega) (by first | assumption | omega)) gX4_takesSign_X4_endGroup rfl rfl rfl yd_X4_endGroup ⟨Nat.le_of_ble_eq_true rfl, Nat.le_of_ble_eq_true rfl⟩ rfl [0, 1, 2] rfl rfl rfl rfl rfl (Nat.le_of_ble_eq_true rfl) ⟨Nat.le_of_ble_eq_true rfl, Nat.le_of_ble_eq_true rfl⟩ dX4_takesSign_64 ?_
                rintro _ _ ⟨rfl, rfl⟩
                refine g_eq (ws' := (txW cI cC h0 h1 h2 sg (nI ln) (egF r lf rg 8) (nI lf) (nI rg) (bI bd))) (st' := []) rfl rfl ?_
                refine g_aload_n (pc := 67) C dX4_takesSign_67 0 rfl rfl ?_
                refine g_callV (pc := 68) (st := []) (As := []) (nn := 0) (ci := 4) (q0 := 0) C (m_X4_beginGroup l D cI cC h0 h1 h2 sg (egF r lf rg 8) ln lf rg bd) gX4_takesSign_X4_beginGroup rfl rfl rfl yd_X4_beginGroup ⟨Nat.le_of_ble_eq_true rfl, Nat.le_of_ble_eq_true rfl⟩ rfl [0, 1, 2] rfl rfl rfl rfl rfl (Nat.le_of_ble_eq_true rfl) ⟨Nat.le_of_ble_eq_true rfl, Nat.le_of_ble_eq_true rfl⟩ dX4_takesSign_68 ?_
                rintro _ _ ⟨rfl, rfl⟩
                refine g_eq (ws' := (txW cI cC h0 h1 h2 sg (nI ln) (egF r lf rg 8) (nI 0) (nI 0) (bI false))) (st' := []) rfl rfl ?_
                refine g_iconst (pc := 71) (v := nI 1) C dX4_takesSign_71 (by decide) ?_
                refine g_ws (ws' := (txW cI cC h0 h1 h2 sg (nI ln) ((pst x (lf, rg, bd, r)).2.2.2) (nI 0) (nI 0) (bI false))) (by rw [pst, if_neg (show ¬ (48 ≤ x ∧ x < 56) by omega), if_neg (by rintro ⟨h1, h2, h3⟩; exact absurd (h3.symm.trans c40) (by decide)), if_pos ⟨c53, c60⟩]) ?_
                refine g_ws (ws' := (txW cI cC h0 h1 h2 sg (nI ln) ((pst x (lf, rg, bd, r)).2.2.2) (nI (pst x (lf, rg, bd, r)).1) (nI 0) (bI false))) (by rw [pst, if_neg (show ¬ (48 ≤ x ∧ x < 56) by omega), if_neg (by rintro ⟨h1, h2, h3⟩; exact absurd (h3.symm.trans c40) (by decide)), if_pos ⟨c53, c60⟩]) ?_
                refine g_ws (ws' := (txW cI cC h0 h1 h2 sg (nI ln) ((pst x (lf, rg, bd, r)).2.2.2) (nI (pst x (lf, rg, bd, r)).1) (nI (pst x (lf, rg, bd, r)).2.1) (bI false))) (by rw [pst, if_neg (show ¬ (48 ≤ x ∧ x < 56) by omega), if_neg (by rintro ⟨h1, h2, h3⟩; exact absurd (h3.symm.trans c40) (by decide)), if_pos ⟨c53, c60⟩]) ?_
                refine g_ws (ws' := (txW cI cC h0 h1 h2 sg (nI ln) ((pst x (lf, rg, bd, r)).2.2.2) (nI (pst x (lf, rg, bd, r)).1) (nI (pst x (lf, rg, bd, r)).2.1) (bI (pst x (lf, rg, bd, r)).2.2.1))) (by rw [pst, if_neg (show ¬ (48 ≤ x ∧ x < 56) by omega), if_neg (by rintro ⟨h1, h2, h3⟩; exact absurd (h3.symm.trans c40) (by decide)), if_pos ⟨c53, c60⟩]) ?_
                refine g_top (y := bI (pok x (lf, rg, bd, r))) (by rw [pok, if_neg (show ¬ (48 ≤ x ∧ x < 56) by omega), if_neg (by rintro ⟨h1, h2, h3⟩; exact absurd (h3.symm.trans c40) (by decide)), decide_eq_true ⟨c53, c60⟩]; rfl) ?_
                exact g_zret C hr hQ dX4_takesSign_72 rfl ⟨rfl, rfl⟩
          · refine g_aload_n (pc := 43) C dX4_takesSign_43 0 rfl rfl ?_
            refine g_iconst (pc := 44) (v := nI 1) C dX4_takesSign_44 (by decide) ?_
            refine g_top (y := bI true) rfl ?_
            refine g_put (pc := 45) (ci := 4) (T := TX4) (N := 6) (ws' := (txW cI cC h0 h1 h2 sg (nI ln) r (nI lf) (nI rg) (bI true))) (ty := .boolean) (v := .int (bI true)) C in_X4_takesSign_X4 tyX4 tyX4_ok nmX4 0 rfl rfl 5 (by decide) fl_X4_takesSign_49 rfl rfl (by decide +kernel) (g_nar _) (g_fit _) (Nat.le_of_ble_eq_true rfl) dX4_takesSign_45 rfl ?_
            refine g_iconst (pc := 48) (v := nI 1) C dX4_takesSign_48 (by decide) ?_
            refine g_ws (ws' := (txW cI cC h0 h1 h2 sg (nI ln) ((pst x (lf, rg, bd, r)).2.2.2) (nI lf) (nI rg) (bI true))) (by rw [pst, if_neg (show ¬ (48 ≤ x ∧ x < 56) by omega), if_pos ⟨c26, c33, c40⟩]) ?_
            refine g_ws (ws' := (txW cI cC h0 h1 h2 sg (nI ln) ((pst x (lf, rg, bd, r)).2.2.2) (nI (pst x (lf, rg, bd, r)).1) (nI rg) (bI true))) (by rw [pst, if_neg (show ¬ (48 ≤ x ∧ x < 56) by omega), if_pos ⟨c26, c33, c40⟩]) ?_
            refine g_ws (ws' := (txW cI cC h0 h1 h2 sg (nI ln) ((pst x (lf, rg, bd, r)).2.2.2) (nI (pst x (lf, rg, bd, r)).1) (nI (pst x (lf, rg, bd, r)).2.1) (bI true))) (by rw [pst, if_neg (show ¬ (48 ≤ x ∧ x < 56) by omega), if_pos ⟨c26, c33, c40⟩]) ?_
            refine g_ws (ws' := (txW cI cC h0 h1 h2 sg (nI ln) ((pst x (lf, rg, bd, r)).2.2.2) (nI (pst x (lf, rg, bd, r)).1) (nI (pst x (lf, rg, bd, r)).2.1) (bI (pst x (lf, rg, bd, r)).2.2.1))) (by rw [pst, if_neg (show ¬ (48 ≤ x ∧ x < 56) by omega), if_pos ⟨c26, c33, c40⟩]) ?_
            refine g_top (y := bI (pok x (lf, rg, bd, r))) (by rw [pok, if_neg (show ¬ (48 ≤ x ∧ x < 56) by omega), if_pos ⟨c26, c33, c40⟩]; rfl) ?_
            exact g_zret C hr hQ dX4_takesSign_49 rfl ⟨rfl, rfl⟩
    · refine g_aload_n (pc := 12) C dX4_takesSign_12 0 rfl rfl ?_
      refine g_iconst (pc := 13) (v := nI 1) C dX4_takesSign_13 (by decide) ?_
      refine g_iload_n (pc := 14) C dX4_takesSign_14 1 rfl rfl ?_
      refine g_bipush (pc := 15) (v := nI 48) C dX4_takesSign_15 (by decide) ?_
      refine g_isubN (pc := 17) C dX4_takesSign_17 (by omega) ?_
      refine g_ishlN (pc := 18) C (by omega) dX4_takesSign_18 ?_
      refine g_callV (pc := 19) (st := []) (As := [.int (nI (1 <<< (x - 48)))]) (nn := 1) (ci := 4) (q0 := 0) C (m_X4_takesPerson l D cI cC h0 h1 h2 sg r ln lf rg bd (1 <<< (x - 48)) (by first | assumption | omega) (by first | assumption | omega) (sh_lt (by omega))) gX4_takesSign_X4_takesPerson rfl rfl rfl yd_X4_takesPerson ⟨Nat.le_of_ble_eq_true rfl, Nat.le_of_ble_eq_true rfl⟩ rfl [0, 1, 2] rfl rfl rfl rfl rfl (Nat.le_of_ble_eq_true rfl) ⟨Nat.le_of_ble_eq_true rfl, Nat.le_of_ble_eq_true rfl⟩ dX4_takesSign_19 ?_
      rintro _ _ ⟨rfl, rfl⟩
      refine g_eq (ws' := (txW cI cC h0 h1 h2 sg (nI ln) r (nI (tpL lf bd (1 <<< (x - 48)))) (nI (tpR rg bd (1 <<< (x - 48)))) (bI bd))) (st' := [.int (bI (tpOk lf rg bd (1 <<< (x - 48))))]) rfl rfl ?_
      refine g_ws (ws' := (txW cI cC h0 h1 h2 sg (nI ln) ((pst x (lf, rg, bd, r)).2.2.2) (nI (tpL lf bd (1 <<< (x - 48)))) (nI (tpR rg bd (1 <<< (x - 48)))) (bI bd))) (by rw [pst, if_pos (show 48 ≤ x ∧ x < 56 by omega)]) ?_
      refine g_ws (ws' := (txW cI cC h0 h1 h2 sg (nI ln) ((pst x (lf, rg, bd, r)).2.2.2) (nI (pst x (lf, rg, bd, r)).1) (nI (tpR rg bd (1 <<< (x - 48)))) (bI bd))) (by rw [pst, if_pos (show 48 ≤ x ∧ x < 56 by omega)]) ?_
      refine g_ws (ws' := (txW cI cC h0 h1 h2 sg (nI ln) ((pst x (lf, rg, bd, r)).2.2.2) (nI (pst x (lf, rg, bd, r)).1) (nI (pst x (lf, rg, bd, r)).2.1) (bI bd))) (by rw [pst, if_pos (show 48 ≤ x ∧ x < 56 by omega)]) ?_
      refine g_ws (ws' := (txW cI cC h0 h1 h2 sg (nI ln) ((pst x (lf, rg, bd, r)).2.2.2) (nI (pst x (lf, rg, bd, r)).1) (nI (pst x (lf, rg, bd, r)).2.1) (bI (pst x (lf, rg, bd, r)).2.2.1))) (by rw [pst, if_pos (show 48 ≤ x ∧ x < 56 by omega)]) ?_
      refine g_top (y := bI (pok x (lf, rg, bd, r))) (by rw [pok, if_pos (show 48 ≤ x ∧ x < 56 by omega)]) ?_
      exact g_zret C hr hQ dX4_takesSign_22 rfl ⟨rfl, rfl⟩

abbrev rm_X4_parse : Room := { frames := 3, cells := 0, slots := 0, locals := 63 }
theorem yd_X4_parse : yX4_parse.cls = RX4 ∧ yX4_parse.cls ≠ "java/lang/invoke/MethodHandle" ∧ yX4_parse.cls ≠ "java/lang/invoke/VarHandle" ∧ (parseMethodDescriptor yX4_parse.desc).map (fun d => d.parameters.length) = some 0 := by decide +kernel
theorem in_X4_parse_X4 : ∀ w ∈ u_ws RX4 TX4 6, w ∈ wsX4_parse := by decide +kernel
theorem fl_X4_parse_9 : Cond.fieldLink RX4 9 "FenceHandshakes$WishText" "signs" "[C" ∈ wsX4_parse := by decide +kernel
theorem fl_X4_parse_15 : Cond.fieldLink RX4 15 "FenceHandshakes$WishText" "rows" "[I" ∈ wsX4_parse := by decide +kernel
theorem fl_X4_parse_19 : Cond.fieldLink RX4 19 "FenceHandshakes$WishText" "length" "I" ∈ wsX4_parse := by decide +kernel
theorem fl_X4_parse_40 : Cond.fieldLink RX4 40 "FenceHandshakes$WishText" "rights" "I" ∈ wsX4_parse := by decide +kernel
set_option maxHeartbeats 4000000 in
set_option maxRecDepth 100000 in
theorem m_X4_parse (l : Launch) (D : va_G) (cI cC : ClassId) (h0 h1 h2 : Nat) (sg : Nat → Int32) (r : Nat → Int32) (ln : Nat) (lf : Nat) (rg : Nat) (bd : Bool) (hn : ln ≤ 80) (hs : ∀ k, k < ln → sg k = nI (cN sg k) ∧ cN sg k < 128) : g_M l yX4_parse wsX4_parse rm_X4_parse D cI cC [.ref h0] (txW cI cC h0 h1 h2 sg (nI ln) r (nI lf) (nI rg) (bI bd)) (fun vv ww => ∃ (lf2 : Nat) (rg2 : Nat) (bd2 : Bool) (r2 : Nat → Int32), vv = some (.int (pres sg (fillF r (nI 0) 8) ln)) ∧ ww = (txW cI cC h0 h1 h2 sg (nI ln) r2 (nI lf2) (nI rg2) (bI bd2)) ∧ (lf2 < 256 ∧ rg2 < 256) ∧ (pres sg (fillF r (nI 0) 8) ln = -5 → r2 = prow sg (fillF r (nI 0) 8) ln)) := by
  refine g_entry (lv := [(0, .ref h0)]) (own := RX4) (by decide) rfl rfl (Nat.le_of_ble_eq_true rfl) rfl ?_
  intro p e s m args below meth co A Q C hr hQ
  refine g_aload_n (pc := 0) C dX4_parse_0 0 rfl rfl ?_
  refine g_get (pc := 1) (ci := 4) (T := TX4) (N := 6) (v := .ref h2) C in_X4_parse_X4 0 rfl rfl 2 (by decide) fl_X4_parse_15 rfl rfl dX4_parse_1 ?_
  refine g_iconst (pc := 4) (v := nI 0) C dX4_parse_4 (by decide) ?_
  refine g_callS (pc := 5) (st := []) (As := [.ref h2, .int (nI 0)]) (nn := 2) C (m_J7_fill_53178 l D cI cC h2 8 r (nI 0) (by decide)) gX4_parse_J7_fill_53178 rfl rfl rfl yd_J7_fill_53178.2 ⟨Nat.le_of_ble_eq_true rfl, Nat.le_of_ble_eq_true rfl⟩ rfl [2] rfl rfl rfl (Nat.le_of_ble_eq_true rfl) ⟨Nat.le_of_ble_eq_true rfl, Nat.le_of_ble_eq_true rfl⟩ dX4_parse_5 ?_
  rintro _ _ ⟨rfl, rfl⟩
  refine g_eq (ws' := (txW cI cC h0 h1 h2 sg (nI ln) (fillF r (nI 0) 8) (nI lf) (nI rg) (bI bd))) (st' := []) rfl rfl ?_
  refine g_aload_n (pc := 8) C dX4_parse_8 0 rfl rfl ?_
  refine g_callV (pc := 9) (st := []) (As := []) (nn := 0) (ci := 4) (q0 := 0) C (m_X4_beginGroup l D cI cC h0 h1 h2 sg (fillF r (nI 0) 8) ln lf rg bd) gX4_parse_X4_beginGroup rfl rfl rfl yd_X4_beginGroup ⟨Nat.le_of_ble_eq_true rfl, Nat.le_of_ble_eq_true rfl⟩ rfl [0, 1, 2] rfl rfl rfl rfl rfl (Nat.le_of_ble_eq_true rfl) ⟨Nat.le_of_ble_eq_true rfl, Nat.le_of_ble_eq_true rfl⟩ dX4_parse_9 ?_
  rintro _ _ ⟨rfl, rfl⟩
  refine g_eq (ws' := (txW cI cC h0 h1 h2 sg (nI ln) (fillF r (nI 0) 8) (nI 0) (nI 0) (bI false))) (st' := []) rfl rfl ?_
  refine g_iconst (pc := 12) (v := nI 0) C dX4_parse_12 (by decide) ?_
  refine g_istore_n (pc := 13) (lv' := [(1, .int (nI 0)), (0, .ref h0)]) C dX4_parse_13 rfl (by decide) rfl ?_
  have L14 : ∀ (N : Nat) (i : Nat), ln - i < N → (i ≤ ln) → (∀ j, j < i → pok (cN sg j) (prun sg (fillF r (nI 0) 8) j) = true) → g_J p l e rm_X4_parse s m args below meth co Q D A 2 0 0 (txW cI cC h0 h1 h2 sg (nI ln) ((prun sg (fillF r (nI 0) 8) i).2.2.2) (nI (prun sg (fillF r (nI 0) 8) i).1) (nI (prun sg (fillF r (nI 0) 8) i).2.1) (bI (prun sg (fillF r (nI 0) 8) i).2.2.1)) 14 [(0, .ref h0), (1, .int (nI i))] [] := by
    intro N
    induction N with
    | zero => intro i hN; exact absurd hN (Nat.not_lt_zero _)
    | succ N ih14 =>
      intro i hN14 hi hf
      refine g_iload_n (pc := 14) C dX4_parse_14 1 rfl rfl ?_
      refine g_aload_n (pc := 15) C dX4_parse_15 0 rfl rfl ?_
      refine g_get (pc := 16) (ci := 4) (T := TX4) (N := 6) (v := .int (nI ln)) C in_X4_parse_X4 0 rfl rfl 1 (by decide) fl_X4_parse_19 rfl rfl dX4_parse_16 ?_
      refine g_icmp_geN (pc := 19) C 49 (by omega) (by omega) dX4_parse_19 (by decide) (fun c19 => ?_) (fun c19 => ?_)
      · refine g_aload_n (pc := 49) C dX4_parse_49 0 rfl rfl ?_
        refine g_get (pc := 50) (ci := 4) (T := TX4) (N := 6) (v := .int (nI (prun sg (fillF r (nI 0) 8) i).2.1)) C in_X4_parse_X4 0 rfl rfl 4 (by decide) fl_X4_parse_40 rfl rfl dX4_parse_50 ?_
        refine g_if_neN (pc := 53) C 61 (Nat.lt_trans (prun_lt _ _ _).2 (by decide)) dX4_parse_53 (by decide) (fun c53 => ?_) (fun c53 => ?_)
        · refine g_aload_n (pc := 61) C dX4_parse_61 0 rfl rfl ?_
          refine g_callV (pc := 62) (st := []) (As := []) (nn := 0) (ci := 4) (q0 := 0) C (m_X4_endGroup l D cI cC h0 h1 h2 sg ((prun sg (fillF r (nI 0) 8) i).2.2.2) ln ((prun sg (fillF r (nI 0) 8) i).1) ((prun sg (fillF r (nI 0) 8) i).2.1) ((prun sg (fillF r (nI 0) 8) i).2.2.1) ((prun_lt _ _ _).1) ((prun_lt _ _ _).2)) gX4_parse_X4_endGroup rfl rfl rfl yd_X4_endGroup ⟨Nat.le_of_ble_eq_true rfl, Nat.le_of_ble_eq_true rfl⟩ rfl [0, 1, 2] rfl rfl rfl rfl rfl (Nat.le_of_ble_eq_true rfl) ⟨Nat.le_of_ble_eq_true rfl, Nat.le_of_ble_eq_true rfl⟩ dX4_parse_62 ?_
          rintro _ _ ⟨rfl, rfl⟩
          refine g_eq (ws' := (txW cI cC h0 h1 h2 sg (nI ln) (egF ((prun sg (fillF r (nI 0) 8) i).2.2.2) ((prun sg (fillF r (nI 0) 8) i).1) ((prun sg (fillF r (nI 0) 8) i).2.1) 8) (nI (prun sg (fillF r (nI 0) 8) i).1) (nI (prun sg (fillF r (nI 0) 8) i).2.1) (bI (prun sg (fillF r (nI 0) 8) i).2.2.1))) (st' := []) rfl rfl ?_
          refine g_bipush (pc := 65) (v := (-5)) C dX4_parse_65 (by decide) ?_
          refine g_top (y := (pres sg (fillF r (nI 0) 8) ln)) (by rw [pres_end hf (by omega), if_neg (by rw [← show i = ln by omega]; exact c53)]) ?_
          exact g_iret C hr hQ dX4_parse_67 rfl ⟨_, _, _, _, rfl, rfl, prun_lt _ _ _, fun _ => by rw [show i = ln by omega]; rfl⟩
        · refine g_aload_n (pc := 56) C dX4_parse_56 0 rfl rfl ?_
          refine g_get (pc := 57) (ci := 4) (T := TX4) (N := 6) (v := .int (nI ln)) C in_X4_parse_X4 0 rfl rfl 1 (by decide) fl_X4_parse_19 rfl rfl dX4_parse_57 ?_
          refine g_top (y := (pres sg (fillF r (nI 0) 8) ln)) (by rw [pres_end hf (by omega), if_pos (by rw [← show i = ln by omega]; exact c53)]) ?_
          exact g_iret C hr hQ dX4_parse_60 rfl ⟨_, _, _, _, rfl, rfl, prun_lt _ _ _, fun h => absurd (by rw [← h, pres_end hf (by omega), if_pos (by rw [← show i = ln by omega]; exact c53)]) (nI_m5 (n := ln) (by omega))⟩
      · refine g_iload_n (pc := 22) C dX4_parse_22 1 rfl rfl ?_
        refine g_bipush (pc := 23) (v := nI 80) C dX4_parse_23 (by decide) ?_
        refine g_icmp_geN (pc := 25) C 49 (by omega) (by omega) dX4_parse_25 (by decide) (fun c25 => ?_) (fun c25 => ?_)
        · exact absurd c25 (by omega)
        · refine g_aload_n (pc := 28) C dX4_parse_28 0 rfl rfl ?_
          refine g_aload_n (pc := 29) C dX4_parse_29 0 rfl rfl ?_
          refine g_get (pc := 30) (ci := 4) (T := TX4) (N := 6) (v := .ref h1) C in_X4_parse_X4 0 rfl rfl 0 (by decide) fl_X4_parse_9 rfl rfl dX4_parse_30 ?_
          refine g_iload_n (pc := 33) C dX4_parse_33 1 rfl rfl ?_
          refine g_caldN (pc := 34) (f := sg) C 1 rfl (by omega) (by decide) dX4_parse_34 ?_
          refine g_top (y := nI (cN sg i)) ((hs i (by omega)).1) ?_
          refine g_callV (pc := 35) (st := []) (As := [.int (nI (cN sg i))]) (nn := 1) (ci := 4) (q0 := 0) C (m_X4_takesSign l D cI cC h0 h1 h2 sg ((prun sg (fillF r (nI 0) 8) i).2.2.2) ln ((prun sg (fillF r (nI 0) 8) i).1) ((prun sg (fillF r (nI 0) 8) i).2.1) ((prun sg (fillF r (nI 0) 8) i).2.2.1) (cN sg i) ((prun_lt _ _ _).1) ((prun_lt _ _ _).2) (Nat.lt_trans (hs i (by omega)).2 (by decide))) gX4_parse_X4_takesSign rfl rfl rfl yd_X4_takesSign ⟨Nat.le_of_ble_eq_true rfl, Nat.le_of_ble_eq_true rfl⟩ rfl [0, 1, 2] rfl rfl rfl rfl rfl (Nat.le_of_ble_eq_true rfl) ⟨Nat.le_of_ble_eq_true rfl, Nat.le_of_ble_eq_true rfl⟩ dX4_parse_35 ?_
          rintro _ _ ⟨rfl, rfl⟩
          refine g_eq (ws' := (txW cI cC h0 h1 h2 sg (nI ln) ((pst (cN sg i) (((prun sg (fillF r (nI 0) 8) i).1), ((prun sg (fillF r (nI 0) 8) i).2.1), ((prun sg (fillF r (nI 0) 8) i).2.2.1), ((prun sg (fillF r (nI 0) 8) i).2.2.2))).2.2.2) (nI (pst (cN sg i) (((prun sg (fillF r (nI 0) 8) i).1), ((prun sg (fillF r (nI 0) 8) i).2.1), ((prun sg (fillF r (nI 0) 8) i).2.2.1), ((prun sg (fillF r (nI 0) 8) i).2.2.2))).1) (nI (pst (cN sg i) (((prun sg (fillF r (nI 0) 8) i).1), ((prun sg (fillF r (nI 0) 8) i).2.1), ((prun sg (fillF r (nI 0) 8) i).2.2.1), ((prun sg (fillF r (nI 0) 8) i).2.2.2))).2.1) (bI (pst (cN sg i) (((prun sg (fillF r (nI 0) 8) i).1), ((prun sg (fillF r (nI 0) 8) i).2.1), ((prun sg (fillF r (nI 0) 8) i).2.2.1), ((prun sg (fillF r (nI 0) 8) i).2.2.2))).2.2.1))) (st' := [.int (bI (pok (cN sg i) (((prun sg (fillF r (nI 0) 8) i).1), ((prun sg (fillF r (nI 0) 8) i).2.1), ((prun sg (fillF r (nI 0) 8) i).2.2.1), ((prun sg (fillF r (nI 0) 8) i).2.2.2))))]) rfl rfl ?_
          refine g_if_neB (pc := 38) C 43 dX4_parse_38 (by decide) (fun c38 => ?_) (fun c38 => ?_)
          · refine g_iinc (pc := 43) (lv' := [(1, .int (nI (i + 1))), (0, .ref h0)]) C dX4_parse_43 1 rfl (nI_add i 1) (by decide) rfl ?_
            refine g_goto (pc := 46) C 14 dX4_parse_46 (by decide) ?_
            refine g_ws (ws' := txW cI cC h0 h1 h2 sg (nI ln) (prun sg (fillF r (nI 0) 8) (i + 1)).2.2.2 (nI (prun sg (fillF r (nI 0) 8) (i + 1)).1) (nI (prun sg (fillF r (nI 0) 8) (i + 1)).2.1) (bI (prun sg (fillF r (nI 0) 8) (i + 1)).2.2.1)) rfl ?_
            refine g_lvp (lv' := [(0, .ref h0), (1, .int (nI (i + 1)))]) [1, 0] rfl ?_
            exact ih14 (i + 1) (by omega) (by first | assumption | omega) (fun j h => (Nat.lt_succ_iff_lt_or_eq.mp h).elim (hf j) (fun e => by subst e; exact c38))
          · refine g_iload_n (pc := 41) C dX4_parse_41 1 rfl rfl ?_
            refine g_top (y := (pres sg (fillF r (nI 0) 8) ln)) ((pres_at hf c38 c19).symm) ?_
            exact g_iret C hr hQ dX4_parse_42 rfl ⟨_, _, _, _, rfl, rfl, pst_lt (prun_lt _ _ _), fun h => absurd ((pres_at hf c38 c19).symm.trans h) (nI_m5 (by omega))⟩
  refine g_ws (ws' := txW cI cC h0 h1 h2 sg (nI ln) (prun sg (fillF r (nI 0) 8) 0).2.2.2 (nI (prun sg (fillF r (nI 0) 8) 0).1) (nI (prun sg (fillF r (nI 0) 8) 0).2.1) (bI (prun sg (fillF r (nI 0) 8) 0).2.2.1)) rfl ?_
  refine g_lvp (lv' := [(0, .ref h0), (1, .int (nI 0))]) [1, 0] rfl ?_
  exact L14 _ 0 (Nat.lt_succ_self _) (by first | assumption | omega) (fun j h => absurd h (Nat.not_lt_zero _))
