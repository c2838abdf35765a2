/-! the law: rows of its own -/
/-- the law's script: its ints stand in one old array -/
def lS (s : State) (A : Nat → Prop) (sb SL : Nat) (xs : Nat → Int32) : Prop := va_X sb SL xs s s.heap ∧ sb < s.heap.size ∧ ¬ A sb
section GLAW
variable {p : Program} {l : Launch} {e : Env} {R : Room} {s : State} {m : MethodId} {args : Array Value} {below : List Frame} {meth : Method} {c : Code} {Q : State → Prop} {D : va_G} {A : Nat → Prop} {nL k n : Nat} {ws : va_W} {pc : Nat} {lv lv' : List (Nat × Value)} {st : List Value}
variable {cc : ByteArray} {own : String} {Ts : List Cond} {cI cC : ClassId} {sb SL : Nat} {xs : Nat → Int32}
theorem g_sld (C : g_C p s m args meth c cc nL own Ts D cI cC A) (S0 : lS s A sb SL xs) {j : Nat} (hj : j < SL) (hL : SL < 2 ^ 31) (hd : decode cc pc = .ok (.iaload, 1)) (K : g_J p l e R s m args below meth c Q D A nL k n ws (pc + 1) lv (.int (xs j) :: st)) : g_J p l e R s m args below meth c Q D A nL k n ws pc lv (.int (nI j) :: .ref sb :: st) := by
  intro H locs ls hP hD hS hl
  have K1 := K H locs ls hP hD hS hl
  rw [← nI_clamp (n := j) (by omega)] at K1
  exact va_sld C.1.1 C.1.2.1 S0.1 S0.2.1 S0.2.2 hS (vp_in_nI hj hL) hd K1
theorem g_slen (C : g_C p s m args meth c cc nL own Ts D cI cC A) (S0 : lS s A sb SL xs) (hd : decode cc pc = .ok (.arraylength, 1)) (K : g_J p l e R s m args below meth c Q D A nL k n ws (pc + 1) lv (.int (nI SL) :: st)) : g_J p l e R s m args below meth c Q D A nL k n ws pc lv (.ref sb :: st) := fun H locs ls hP hD hS hl => va_slen C.1.1 C.1.2.1 S0.1 S0.2.1 S0.2.2 hS hd (K H locs ls hP hD hS hl)
theorem g_ne0 (C : g_C p s m args meth c cc nL own Ts D cI cC A) {x : Int32} (h0 : decode cc pc = .ok (.ifCond .eq 7, 3)) (h3 : decode cc (pc + 3) = .ok (.iconst 1, 1)) (h4 : decode cc (pc + 4) = .ok (.goto 4, 3)) (h7 : decode cc (pc + 7) = .ok (.iconst 0, 1)) (K : g_J p l e R s m args below meth c Q D A nL k n ws (pc + 8) lv (.int (bI (!decide (x = 0))) :: st)) : g_J p l e R s m args below meth c Q D A nL k n ws pc lv (.int x :: st) := by
  refine g_if_eq C (pc + 7) h0 (by omega) (fun hx => ?_) (fun hx => ?_)
  · rw [decide_eq_true hx] at K
    exact g_iconst C h7 (v := 0) (by decide) K
  · rw [decide_eq_false hx] at K
    exact g_iconst C h3 (v := 1) (by decide) (g_goto C (pc + 8) h4 (by omega) K)
theorem g_dstore (C : g_C p s m args meth c cc nL own Ts D cI cC A) {i : Nat} {x : UInt64} (hd : decode cc pc = .ok (.dstore i, 2)) (hn : i + 1 < nL) (hl0 : (i, Value.double x) :: lv.filter (fun q => !(q.1 == i) && (!(q.1 == i + 1) && !(q.1 + 1 == i && q.2.category == 2))) = lv') (K : g_J p l e R s m args below meth c Q D A nL k n ws (pc + 2) lv' st) : g_J p l e R s m args below meth c Q D A nL k n ws pc lv (.double x :: st) := fun H locs ls hP hD hS hl => lv_dstore C.1.1 C.1.2.1 hd hl hn hl0 (fun ls' hl' => K H locs ls' hP hD hS hl')
theorem g_dload (C : g_C p s m args meth c cc nL own Ts D cI cC A) {i : Nat} {x : UInt64} (hd : decode cc pc = .ok (.dload i, 2)) (q : Nat) (hq : lv[q]? = some (i, .double x)) (K : g_J p l e R s m args below meth c Q D A nL k n ws (pc + 2) lv (.double x :: st)) : g_J p l e R s m args below meth c Q D A nL k n ws pc lv st := fun H locs ls hP hD hS hl => lv_dload C.1.1 C.1.2.1 hd (lv_at hl q hq) (K H locs ls hP hD hS hl)
theorem g_dcmp (C : g_C p s m args meth c cc nL own Ts D cI cC A) {x y : UInt64} {op : CmpOp} {v : Int32} (hd : decode cc pc = .ok (.dcmp op, 1)) (hv : Op.cmpValue (FP.dcmp x y) op = v) (K : g_J p l e R s m args below meth c Q D A nL k n ws (pc + 1) lv (.int v :: st)) : g_J p l e R s m args below meth c Q D A nL k n ws pc lv (.double y :: .double x :: st) := fun H locs ls hP hD hS hl => lv_dcmp C.1.1 C.1.2.1 hd (by rw [hv]; exact K H locs ls hP hD hS hl)
end GLAW
/-! the law: pure -/
theorem me_nn (c : Nat → Int32) : FP.Core.dIsNaN (meV c) = false := by
  rw [meV]
  by_cases h : c 153 = 0
  · rw [if_pos h]; decide +kernel
  · rw [if_neg h]; exact g_meanN h
theorem me_self (c : Nat → Int32) : Op.cmpValue (FP.dcmp (meV c) (meV c)) .l = 0 := by
  have h := me_nn c
  have h1 : FP.Core.val64 (meV c) ≠ .nan := of_decide_eq_false h
  have h2 : FP.dcmp (meV c) (meV c) = some .eq := FP.Core.dcmp_self h1
  rw [h2]
  rfl
theorem hd_room {SL i : Nat} (hL : SL ≤ 2048) (hi : i ≤ SL) (h : ¬ (nI SL - nI 4 < nI i)) : i + 4 ≤ SL := by
  by_cases h4 : 4 ≤ SL
  · rw [pk_sub h4] at h
    have h1 := mt (nI_ltI (a := SL - 4) (b := i) (by omega) (by omega)).mpr h
    omega
  · refine absurd ?_ h
    have h1 : SL = 0 ∨ SL = 1 ∨ SL = 2 ∨ SL = 3 := by omega
    have h2 : i = 0 ∨ i = 1 ∨ i = 2 ∨ i = 3 := by omega
    rcases h1 with rfl | rfl | rfl | rfl <;> rcases h2 with rfl | rfl | rfl | rfl <;> decide
theorem ap_y {x : Int32} (h : apx x = true) : ∃ y, x = nI y ∧ y < 127 := by
  simp only [apx, Bool.and_eq_true, Bool.not_eq_true', decide_eq_false_iff_not, decide_eq_true_eq] at h
  have h1 : (32 : Int) ≤ x.toInt := by
    have := Int32.lt_iff_toInt_lt.not.mp h.1
    rw [nI_toInt (by decide)] at this
    omega
  have h2 : x.toInt ≤ 126 := by
    have := Int32.le_iff_toInt_le.mp h.2
    rw [nI_toInt (by decide)] at this
    omega
  refine ⟨x.toInt.toNat, ?_, by omega⟩
  apply Int32.toInt_inj.mp
  rw [nI_toInt (by omega)]
  omega
/-- the text after append, in both -/
theorem APP {sg tx sg2 tx2 : Nat → Int32} {ln l2 l3 : Nat} {x : Int32} (hX : HX sg tx ln) (hT : ∀ k, k < ln → sg k = nI (cN sg k)) (f0 : apQ ln x = true → sg2 = upd sg ln x ∧ l2 = ln + 1) (f1 : apQ ln x = false → sg2 = sg ∧ l2 = ln) (g0 : apQ ln x = true → tx2 = upd tx ln x ∧ l3 = ln + 1) (g1 : apQ ln x = false → tx2 = tx ∧ l3 = ln) : HX sg2 tx2 l2 ∧ (∀ k, k < l2 → sg2 k = nI (cN sg2 k)) ∧ l3 = l2 := by
  cases h : apQ ln x with
  | true =>
    obtain ⟨rfl, rfl⟩ := f0 h
    obtain ⟨rfl, rfl⟩ := g0 h
    rw [apQ, Bool.and_eq_true, decide_eq_true_eq] at h
    obtain ⟨y, rfl, hy⟩ := ap_y h.1
    refine ⟨HX_app hX h.2 hy, fun k hk => ?_, rfl⟩
    by_cases e : k = ln
    · subst e; rw [upd_eq, cN_upd_eq (by omega)]
    · rw [upd_ne e, cN_upd_ne e]; exact hT k (by omega)
  | false =>
    obtain ⟨rfl, rfl⟩ := f1 h
    obtain ⟨rfl, rfl⟩ := g1 h
    exact ⟨hX, hT, rfl⟩
/-- undo, in both -/
theorem UNB {c r ss sts c2 ss2 : Nat → Int32} {od z z2 y2 : Nat} (hS : SR c ss) (hH : HR r sts od z) (hz : z ≤ 5) (f0 : z = 0 → c2 = c ∧ z2 = z) (f1 : z ≠ 0 → c2 = va_cpy r c ((od + (z - 1)) % 5 * 154) 0 154 ∧ z2 = z - 1) (g0 : z = 0 → ss2 = ss ∧ y2 = z) (g1 : z ≠ 0 → ss2 = cpF (fun k => sts (225 * (z - 1) + k)) ss 225 ∧ y2 = z - 1) : SR c2 ss2 ∧ HR r sts od z2 ∧ y2 = z2 ∧ z2 ≤ 5 := by
  by_cases h : z = 0
  · obtain ⟨rfl, rfl⟩ := f0 h
    obtain ⟨rfl, rfl⟩ := g0 h
    exact ⟨hS, hH, rfl, hz⟩
  · obtain ⟨rfl, rfl⟩ := f1 h
    obtain ⟨rfl, rfl⟩ := g1 h
    obtain ⟨h1, h2⟩ := UND (c := c) (ss := ss) hH h
    exact ⟨h1, h2, rfl, by omega⟩
abbrev lW (cI cC : ClassId) (x0 n0 n1 t0 t1 s0 s1 g0 g1 w0 w1 w2 m0 m1 m2 m3 m4 p0 p1 q0 q1 q2 q3 q4 q5 q6 q7 q8 q9 q10 q11 : Nat) (hs : Int32) (c : Nat → Int32) (ct : Nat → Int32) (cs : Nat → Int32) (r : Nat → Int32) (od : Int32) (z : Int32) (sg : Nat → Int32) (ln : Int32) (tr : Nat → Int32) (lf : Int32) (rg : Int32) (bd : Int32) (wi : Nat → Int32) (ol : Nat → Int32) (orr : Nat → Int32) (sf : Nat → Int32) (rl : Int32) (nb : Nat → Int32) (th : Int32) (ss : Nat → Int32) (asd : Nat → Int32) (sts : Nat → Int32) (sm : Int32) (snp : Nat → Int32) (hx : Int32) (tx : Nat → Int32) (lgt : Int32) (can : Nat → Int32) (szs : Nat → Int32) (ptn : Nat → Int32) (nms : Nat → Int32) (pth : Nat → Int32) (att : Int32) (isw : Int32) (rdd : Nat → Int32) (rmy : Int32) : va_W := [(x0, .inr (5, [.ref n0, .ref t0, .ref s0, .int hs, .ref g0, .ref w0, .ref m0, .ref p0])), (n0, .inr (0, [.ref n1])), (n1, .inl (cI, 154, .inl c)), (t0, .inr (0, [.ref t1])), (t1, .inl (cI, 154, .inl ct)), (s0, .inr (0, [.ref s1])), (s1, .inl (cI, 154, .inl cs)), (g0, .inr (1, [.ref g1, .int od, .int z])), (g1, .inl (cI, 770, .inl r)), (w0, .inr (4, [.ref w1, .int ln, .ref w2, .int lf, .int rg, .int bd])), (w1, .inl (cC, 80, .inl sg)), (w2, .inl (cI, 8, .inl tr)), (m0, .inr (2, [.ref m1, .ref m2, .ref m3, .ref m4, .int rl])), (m1, .inl (cI, 8, .inl wi)), (m2, .inl (cI, 8, .inl ol)), (m3, .inl (cI, 8, .inl orr)), (m4, .inl (cI, 8, .inl sf)), (p0, .inr (3, [.ref p1])), (p1, .inl (cI, 64, .inl nb)), (q0, .inr (6, [.int th, .ref q1, .ref q2, .ref q3, .int sm, .ref q4, .int hx, .ref q5, .int lgt, .ref q6, .ref q7, .ref q8, .ref q9, .ref q10, .int att, .int isw, .ref q11, .int rmy])), (q1, .inl (cI, 225, .inl ss)), (q2, .inl (cI, 225, .inl asd)), (q3, .inl (cI, 1125, .inl sts)), (q4, .inl (cI, 225, .inl snp)), (q5, .inl (cI, 80, .inl tx)), (q6, .inl (cI, 8, .inl can)), (q7, .inl (cI, 2304, .inl szs)), (q8, .inl (cI, 8, .inl ptn)), (q9, .inl (cI, 64, .inl nms)), (q10, .inl (cI, 64, .inl pth)), (q11, .inl (cI, 64, .inl rdd))]
def lINV (cI cC : ClassId) (x0 n0 n1 t0 t1 s0 s1 g0 g1 w0 w1 w2 m0 m1 m2 m3 m4 p0 p1 q0 q1 q2 q3 q4 q5 q6 q7 q8 q9 q10 q11 : Nat) (w : va_W) : Prop := ∃ (hs : Bool) (c ct cs r : Nat → Int32) (od z : Nat) (sg : Nat → Int32) (ln : Nat) (tr : Nat → Int32) (lf rg : Nat) (bd : Bool) (wi ol orr sf : Nat → Int32) (rl : Nat) (nb : Nat → Int32) (th : Int32) (ss asd sts snp tx can szs ptn nms pth : Nat → Int32) (att isw : Int32) (rdd : Nat → Int32) (rmy : Int32), w = lW cI cC x0 n0 n1 t0 t1 s0 s1 g0 g1 w0 w1 w2 m0 m1 m2 m3 m4 p0 p1 q0 q1 q2 q3 q4 q5 q6 q7 q8 q9 q10 q11 (bI hs) c ct cs r (nI od) (nI z) sg (nI ln) tr (nI lf) (nI rg) (bI bd) wi ol orr sf (nI rl) nb th ss asd sts (nI z) snp (bI hs) tx (nI ln) can szs ptn nms pth att isw rdd rmy ∧ SR c ss ∧ HR r sts od z ∧ od < 5 ∧ z ≤ 5 ∧ HX sg tx ln ∧ (∀ k, k < ln → sg k = nI (cN sg k)) ∧ (hs = true → SR cs snp) ∧ rl < 256
theorem lINV_mk {cI cC : ClassId} {x0 n0 n1 t0 t1 s0 s1 g0 g1 w0 w1 w2 m0 m1 m2 m3 m4 p0 p1 q0 q1 q2 q3 q4 q5 q6 q7 q8 q9 q10 q11 : Nat} {hs : Bool} {c ct cs r : Nat → Int32} {od z : Nat} {sg : Nat → Int32} {ln : Nat} {tr : Nat → Int32} {lf rg : Nat} {bd : Bool} {wi ol orr sf : Nat → Int32} {rl : Nat} {nb : Nat → Int32} {th : Int32} {ss asd sts snp tx can szs ptn nms pth : Nat → Int32} {att isw : Int32} {rdd : Nat → Int32} {rmy : Int32} (hS : SR c ss) (hH : HR r sts od z) (ho : od < 5) (hz : z ≤ 5) (hX : HX sg tx ln) (hT : ∀ k, k < ln → sg k = nI (cN sg k)) (hN : hs = true → SR cs snp) (hrl : rl < 256) : lINV cI cC x0 n0 n1 t0 t1 s0 s1 g0 g1 w0 w1 w2 m0 m1 m2 m3 m4 p0 p1 q0 q1 q2 q3 q4 q5 q6 q7 q8 q9 q10 q11 (lW cI cC x0 n0 n1 t0 t1 s0 s1 g0 g1 w0 w1 w2 m0 m1 m2 m3 m4 p0 p1 q0 q1 q2 q3 q4 q5 q6 q7 q8 q9 q10 q11 (bI hs) c ct cs r (nI od) (nI z) sg (nI ln) tr (nI lf) (nI rg) (bI bd) wi ol orr sf (nI rl) nb th ss asd sts (nI z) snp (bI hs) tx (nI ln) can szs ptn nms pth att isw rdd rmy) := ⟨_, _, _, _, _, _, _, _, _, _, _, _, _, _, _, _, _, _, _, _, _, _, _, _, _, _, _, _, _, _, _, _, _, _, rfl, hS, hH, ho, hz, hX, hT, hN, hrl⟩
