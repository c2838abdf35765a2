/-! the law: rows of its own -/
/-- the law's script: its ints stand in one old array -/
def lS (s : State) (A : Nat → Prop) (sb SL : Nat) (xs : Nat → Int32) : Prop := va_X sb SL xs s s.heap ∧ sb < s.heap.size ∧ ¬ A sb
section GLAW
variable {p : Program} {l : Launch} {e : Env} {R : Room} {s : State} {m : MethodId} {args : Array Value} {below : List Frame} {meth : Method} {c : Code} {Q : State → Prop} {D : va_G} {A : Nat → Prop} {nL k n : Nat} {ws : va_W} {pc : Nat} {lv lv' : List (Nat × Value)} {st : List Value}
variable {cc : ByteArray} {own : String} {Ts : List Cond} {cI cC : ClassId} {sb SL : Nat} {xs : Nat → Int32}
theorem g_sld (C : g_C p s m args meth c cc nL own Ts D cI cC A) (S0 : lS s A sb SL xs) {j : Nat} (hj : j < SL) (hL : SL < 2 ^ 31) (hd : decode cc pc = .ok (.iaload, 1)) (K : g_J p l e R s m args below meth c Q D A nL k n ws (pc + 1) lv (.int (xs j) :: st)) : g_J p l e R s m args below meth c Q D A nL k n ws pc lv (.int (nI j) :: .ref sb :: st) := by
  intro H locs ls hP hD hS hl
  have K1 := K H locs ls hP hD hS hl
  rw [← nI_clamp (n := j) (by omega)] at K1
  exact va_sld C.1.1 C.1.2.1 S0.1 S0.2.1 S0.2.2 hS (vp_in_nI hj hL) hd K1
theorem g_slen (C : g_C p s m args meth c cc nL own Ts D cI cC A) (S0 : lS s A sb SL xs) (hd : decode cc pc = .ok (.arraylength, 1)) (K : g_J p l e R s m args below meth c Q D A nL k n ws (pc + 1) lv (.int (nI SL) :: st)) : g_J p l e R s m args below meth c Q D A nL k n ws pc lv (.ref sb :: st) := fun H locs ls hP hD hS hl => va_slen C.1.1 C.1.2.1 S0.1 S0.2.1 S0.2.2 hS hd (K H locs ls hP hD hS hl)
theorem g_ne0 (C : g_C p s m args meth c cc nL own Ts D cI cC A) {x : Int32} (h0 : decode cc pc = .ok (.ifCond .eq 7, 3)) (h3 : decode cc (pc + 3) = .ok (.iconst 1, 1)) (h4 : decode cc (pc + 4) = .ok (.goto 4, 3)) (h7 : decode cc (pc + 7) = .ok (.iconst 0, 1)) (K : g_J p l e R s m args below meth c Q D A nL k n ws (pc + 8) lv (.int (bI (!decide (x = 0))) :: st)) : g_J p l e R s m args below meth c Q D A nL k n ws pc lv (.int x :: st) := by
  refine g_if_eq C (pc + 7) h0 (by omega) (fun hx => ?_) (fun hx => ?_)
  · rw [decide_eq_true hx] at K
    exact g_iconst C h7 (v := 0) (by decide) K
  · rw [decide_eq_false hx] at K
    exact g_iconst C h3 (v := 1) (by decide) (g_goto C (pc + 8) h4 (by omega) K)
theorem g_dstore (C : g_C p s m args meth c cc nL own Ts D cI cC A) {i : Nat} {x : UInt64} (hd : decode cc pc = .ok (.dstore i, 2)) (hn : i + 1 < nL) (hl0 : (i, Value.double x) :: lv.filter (fun q => !(q.1 == i) && (!(q.1 == i + 1) && !(q.1 + 1 == i && q.2.category == 2))) = lv') (K : g_J p l e R s m args below meth c Q D A nL k n ws (pc + 2) lv' st) : g_J p l e R s m args below meth c Q D A nL k n ws pc lv (.double x :: st) := fun H locs ls hP hD hS hl => lv_dstore C.1.1 C.1.2.1 hd hl hn hl0 (fun ls' hl' => K H locs ls' hP hD hS hl')
theorem g_dload (C : g_C p s m args meth c cc nL own Ts D cI cC A) {i : Nat} {x : UInt64} (hd : decode cc pc = .ok (.dload i, 2)) (q : Nat) (hq : lv[q]? = some (i, .double x)) (K : g_J p l e R s m args below meth c Q D A nL k n ws (pc + 2) lv (.double x :: st)) : g_J p l e R s m args below meth c Q D A nL k n ws pc lv st := fun H locs ls hP hD hS hl => lv_dload C.1.1 C.1.2.1 hd (lv_at hl q hq) (K H locs ls hP hD hS hl)
theorem g_dcmp (C : g_C p s m args meth c cc nL own Ts D cI cC A) {x y : UInt64} {op : CmpOp} {v : Int32} (hd : decode cc pc = .ok (.dcmp op, 1)) (hv : Op.cmpValue (FP.dcmp x y) op = v) (K : g_J p l e R s m args below meth c Q D A nL k n ws (pc + 1) lv (.int v :: st)) : g_J p l e R s m args below meth c Q D A nL k n ws pc lv (.double y :: .double x :: st) := fun H locs ls hP hD hS hl => lv_dcmp C.1.1 C.1.2.1 hd (by rw [hv]; exact K H locs ls hP hD hS hl)
end GLAW
/-! the law: pure -/
theorem me_nn (c : Nat → Int32) : FP.Core.dIsNaN (meV c) = false := by
  rw [meV]
  by_cases h : c 153 = 0
  · rw [if_pos h]; decide +kernel
  · rw [if_neg h]; exact g_meanN h
theorem me_self (c : Nat → Int32) : Op.cmpValue (FP.dcmp (meV c) (meV c)) .l = 0 := by
  have h := me_nn c
  have h1 : FP.Core.val64 (meV c) ≠ .nan := of_decide_eq_false h
  have h2 : FP.dcmp (meV c) (meV c) = some .eq := FP.Core.dcmp_self h1
  rw [h2]
  rfl
theorem hd_room {SL i : Nat} (hL : SL ≤ 2048) (hi : i ≤ SL) (h : ¬ (nI SL - nI 4 < nI i)) : i + 4 ≤ SL := by
  by_cases h4 : 4 ≤ SL
  · rw [pk_sub h4] at h
    have h1 : ¬ SL - 4 < i := fun z => h ((nI_ltI (by omega) (by omega)).mpr z)
    omega
  · refine absurd ?_ h
    have h1 : SL = 0 ∨ SL = 1 ∨ SL = 2 ∨ SL = 3 := by omega
    have h2 : i = 0 ∨ i = 1 ∨ i = 2 ∨ i = 3 := by omega
    rcases h1 with rfl | rfl | rfl | rfl <;> rcases h2 with rfl | rfl | rfl | rfl <;> decide
theorem ap_y {x : Int32} (h : apx x = true) : ∃ y, x = nI y ∧ y < 127 := by
  simp only [apx, Bool.and_eq_true, Bool.not_eq_true', decide_eq_false_iff_not, decide_eq_true_eq] at h
  have h1 : (32 : Int) ≤ x.toInt := by
    have h3 : ¬ x.toInt < (nI 32).toInt := fun z => h.1 (Int32.lt_iff_toInt_lt.mpr z)
    rw [nI_toInt (by decide)] at h3
    omega
  have h2 : x.toInt ≤ 126 := by
    have := Int32.le_iff_toInt_le.mp h.2
    rw [nI_toInt (by decide)] at this
    omega
  refine ⟨x.toInt.toNat, ?_, by omega⟩
  apply Int32.toInt_inj.mp
  rw [nI_toInt (by omega)]
  omega
/-- the text after append, in both -/
theorem APP {sg tx sg2 tx2 : Nat → Int32} {ln l2 l3 : Nat} {x : Int32} (hX : HX sg tx ln) (hT : ∀ k, k < ln → sg k = nI (cN sg k)) (f0 : apQ ln x = true → sg2 = upd sg ln x ∧ l2 = ln + 1) (f1 : apQ ln x = false → sg2 = sg ∧ l2 = ln) (g0 : apQ ln x = true → tx2 = upd tx ln x ∧ l3 = ln + 1) (g1 : apQ ln x = false → tx2 = tx ∧ l3 = ln) : HX sg2 tx2 l2 ∧ (∀ k, k < l2 → sg2 k = nI (cN sg2 k)) ∧ l3 = l2 := by
  cases h : apQ ln x with
  | true =>
    obtain ⟨rfl, rfl⟩ := f0 h
    obtain ⟨rfl, rfl⟩ := g0 h
    rw [apQ, Bool.and_eq_true, decide_eq_true_eq] at h
    obtain ⟨y, rfl, hy⟩ := ap_y h.1
    refine ⟨HX_app hX h.2 hy, fun k hk => ?_, rfl⟩
    by_cases e : k = ln
    · subst e; rw [upd_eq, cN_upd_eq (by omega)]
    · rw [upd_ne e, cN_upd_ne e]; exact hT k (by omega)
  | false =>
    obtain ⟨rfl, rfl⟩ := f1 h
    obtain ⟨rfl, rfl⟩ := g1 h
    exact ⟨hX, hT, rfl⟩
/-- undo, in both -/
theorem UNB {c r ss sts c2 ss2 : Nat → Int32} {od z z2 y2 : Nat} (hS : SR c ss) (hH : HR r sts od z) (hz : z ≤ 5) (f0 : z = 0 → c2 = c ∧ z2 = z) (f1 : z ≠ 0 → c2 = va_cpy r c ((od + (z - 1)) % 5 * 154) 0 154 ∧ z2 = z - 1) (g0 : z = 0 → ss2 = ss ∧ y2 = z) (g1 : z ≠ 0 → ss2 = cpF (fun k => sts (225 * (z - 1) + k)) ss 225 ∧ y2 = z - 1) : SR c2 ss2 ∧ HR r sts od z2 ∧ y2 = z2 ∧ z2 ≤ 5 := by
  by_cases h : z = 0
  · obtain ⟨rfl, rfl⟩ := f0 h
    obtain ⟨rfl, rfl⟩ := g0 h
    exact ⟨hS, hH, rfl, hz⟩
  · obtain ⟨rfl, rfl⟩ := f1 h
    obtain ⟨rfl, rfl⟩ := g1 h
    obtain ⟨h1, h2⟩ := UND (c := c) (ss := ss) hH h
    exact ⟨h1, h2, rfl, by omega⟩
/-! calls of the two objects that stand side by side: the callee's cells are one block -/
theorem g_pb_mid : ∀ (wa w1 pre wb : va_W), w1.length = wa.length → g_pb (pre ++ (wa ++ wb)) ((List.range wa.length).map (fun i => pre.length + i)) w1 = pre ++ (w1 ++ wb)
  | [], [], pre, wb, _ => rfl
  | [], q :: w1, pre, wb, h => by simp at h
  | a :: wa, [], pre, wb, h => by simp at h
  | a :: wa, q :: w1, pre, wb, h => by
    rw [List.length_cons, List.range_succ_eq_map, List.map_cons, List.map_map]
    show g_pb ((pre ++ (a :: wa ++ wb)).set (pre.length + 0) q) _ w1 = _
    have e1 : (pre ++ (a :: wa ++ wb)).set (pre.length + 0) q = (pre ++ [q]) ++ (wa ++ wb) := by simp [List.set_append]
    have e2 : (fun i => pre.length + i) ∘ Nat.succ = fun i => (pre ++ [q]).length + i := by funext i; simp; omega
    rw [e1, e2, g_pb_mid wa w1 (pre ++ [q]) wb (by simpa using h)]
    simp
theorem g_mid_at (wa pre wb : va_W) : ((List.range wa.length).map (fun i => pre.length + i)).map (fun i => (pre ++ (wa ++ wb))[i]?) = wa.map some := by
  apply List.ext_getElem?
  intro k
  rw [List.map_map, List.getElem?_map, List.getElem?_map]
  by_cases h : k < wa.length
  · rw [List.getElem?_range h]
    show some ((pre ++ (wa ++ wb))[pre.length + k]?) = _
    rw [List.getElem?_append_right (by omega), show pre.length + k - pre.length = k by omega, List.getElem?_append_left h, List.getElem?_eq_getElem h]
    rfl
  · rw [List.getElem?_eq_none (by simp; omega), List.getElem?_eq_none (by omega)]
    rfl
section GMID
variable {p : Program} {l : Launch} {e : Env} {R : Room} {s : State} {m : MethodId} {args : Array Value} {below : List Frame} {meth : Method} {c : Code} {Q : State → Prop} {D : va_G} {A : Nat → Prop} {nL k n : Nat} {pc : Nat} {lv : List (Nat × Value)} {st : List Value}
variable {cc : ByteArray} {own : String} {Ts : List Cond} {cI cC : ClassId}
/-- behind any call, with the addresses kept -/
theorem g_runM {ws : va_W} {wc : va_W} {post : Option Value → va_W → Prop} {a : Array Value} {stk : List Value} {H : Heap} {locs : List Loc} {ls : Array Slot} (C : g_C p s m args meth c cc nL own Ts D cI cC A) (isC : List Nat) (hC : isC.map (fun i => ws[i]?) = wc.map some) (hP : va_P D vwCl ws H) (hD : va_D A ws) (hS : va_S A s.heap H locs) (hl : lv_has ls nL lv)
    (run : va_Run p l e R s m args below meth c H locs k n 0 0 (F0 m pc ls stk) st (g_Q D wc (va_A wc H.size) post a) (va_A wc H.size))
    (K : ∀ (v : Option Value) (w' : va_W), post v w' → w'.map (·.1) = wc.map (·.1) → g_J p l e R s m args below meth c Q D A nL k n (g_pb ws isC w') (pc + 3) lv (v.toList ++ st)) : W p l e R s m args below meth c H locs k n Q (F0 m pc ls stk) := by
  have hFc := va_free (wc := wc) hD hS C.2.2.2.1 isC hC
  intro T hT X
  obtain ⟨v, st₀, t, T', L, h0, X', hL, e1, e2, ⟨⟨v', w', hv, hp, hfst, hPw⟩, hz, hk⟩, stp⟩ := run T hT X
  cases hv
  rw [h0] at hz hk
  have hb := g_back (H1 := T'.heap) hP hD isC hC (fun q h1 h2 => by rw [e1]; exact hk q h1 h2) hfst (by rw [e1]; exact hPw)
  obtain ⟨t2, a1, b1⟩ := K v w' hp hfst T'.heap (locs ++ L) ls hb.1 hb.2 ⟨Nat.le_trans hS.1 (by rw [e1]; exact hz), fun q h1 h2 => by rw [e1, hk q (Nat.lt_of_lt_of_le h1 hS.1) (fun z => h2 (hFc q z))]; exact hS.2.1 q h1 h2, fun q hq => by
      rcases List.mem_append.mp hq with h | h
      · exact hS.2.2 q h
      · exact hFc _ (hL q h)⟩ hl T' rfl X'
  exact ⟨t2, stp t2 a1, b1⟩
theorem g_callM {y : MethodName} {wsc wsc' : List Cond} {rm : Room} {bytes : ByteArray} {maxL index nn ci q0 b : Nat} {ret : Option FieldType} {Cn : String} {T : u_T} {N : Nat} {As stk : List Value} {fs : List Value} {pre wa wb : va_W} {post : Option Value → va_W → Prop} (C : g_C p s m args meth c cc nL own Ts D cI cC A) (hM : g_M l y wsc rm D cI cC (.ref b :: As) wa post) (hG : GoodIn Ts (wsV own index Cn y wsc)) (hw : wsc = Cond.code y bytes maxL ret :: wsc') (hrc : rm.cells = 0) (hrs : rm.slots = 0)
    (hd : y.cls = Cn ∧ y.cls ≠ "java/lang/invoke/MethodHandle" ∧ y.cls ≠ "java/lang/invoke/VarHandle" ∧ (parseMethodDescriptor y.desc).map (fun d => d.parameters.length) = some nn) (hR : rm.frames + 1 ≤ R.frames ∧ 8 + (maxL + 11) + rm.locals ≤ R.locals) (hnn : As.length = nn) (N1 N2 : Nat) (h1 : wa.length = N1) (h2 : pre.length = N2) (hnd : va_nd ((List.range N1).map (fun i => N2 + i)) = true) (hci : vwCl[ci]? = some (Cn, T, N)) (hq : wa[q0]? = some (b, .inr (ci, fs))) (hst : stk = As.reverse ++ .ref b :: st) (hsm : (st.map fun v => v.category).sum ≤ 8) (hf : k ≤ R.cells ∧ n ≤ R.slots) (hdg : decode cc pc = .ok (.invokevirtual index, 3))
    (K : ∀ (v : Option Value) (w' : va_W), post v w' → g_J p l e R s m args below meth c Q D A nL k n (pre ++ (w' ++ wb)) (pc + 3) lv (v.toList ++ st)) : g_J p l e R s m args below meth c Q D A nL k n (pre ++ (wa ++ wb)) pc lv stk := by
  subst h1
  subst h2
  intro H locs ls hP hD hS hl
  subst hst
  have hC := g_mid_at wa pre wb
  refine g_runM C _ hC hP hD hS hl (va_runV (As := As) (rest := st) C.1 (hM H.size) (cwV nn C.1.2.2.2.2 hG hw hrc hrs hd hR) ⟨g_blind, va_recv C.2.1 (g_Psub hP hC) hci hq, g_pre C _ hC hnd hP hD⟩ rfl hnn hl.1 rfl (lv_room hsm) hdg hf) (fun v w' h he => ?_)
  have hlen : w'.length = wa.length := by
    have := congrArg List.length he
    simpa using this
  rw [g_pb_mid wa w' pre wb hlen]
  exact K v w' h
theorem g_callX {y : MethodName} {wsc wsc' : List Cond} {rm : Room} {bytes : ByteArray} {maxL index nn ci b : Nat} {ret : Option FieldType} {Cn : String} {T : u_T} {N : Nat} {As stk : List Value} {fs : List Value} {wa wb : va_W} {post : Option Value → va_W → Prop} (C : g_C p s m args meth c cc nL own Ts D cI cC A) (hM : g_M l y wsc rm D cI cC (.ref b :: As) wa post) (hG : GoodIn Ts (wsV own index Cn y wsc)) (hw : wsc = Cond.code y bytes maxL ret :: wsc') (hrc : rm.cells = 0) (hrs : rm.slots = 0)
    (hd : y.cls = Cn ∧ y.cls ≠ "java/lang/invoke/MethodHandle" ∧ y.cls ≠ "java/lang/invoke/VarHandle" ∧ (parseMethodDescriptor y.desc).map (fun d => d.parameters.length) = some nn) (hR : rm.frames + 1 ≤ R.frames ∧ 8 + (maxL + 11) + rm.locals ≤ R.locals) (hnn : As.length = nn) (N1 : Nat) (h1 : wa.length = N1) (hnd : va_nd ((List.range N1).map (fun i => 0 + i)) = true) (hci : vwCl[ci]? = some (Cn, T, N)) (hq : wa[0]? = some (b, .inr (ci, fs))) (hst : stk = As.reverse ++ .ref b :: st) (hsm : (st.map fun v => v.category).sum ≤ 8) (hf : k ≤ R.cells ∧ n ≤ R.slots) (hdg : decode cc pc = .ok (.invokevirtual index, 3))
    (K : ∀ (v : Option Value) (w' : va_W), post v w' → g_J p l e R s m args below meth c Q D A nL k n (w' ++ wb) (pc + 3) lv (v.toList ++ st)) : g_J p l e R s m args below meth c Q D A nL k n (wa ++ wb) pc lv stk :=
  g_callM (pre := []) (q0 := 0) C hM hG hw hrc hrs hd hR hnn N1 0 h1 rfl hnd hci hq hst hsm hf hdg K
theorem g_callR {y : MethodName} {wsc wsc' : List Cond} {rm : Room} {bytes : ByteArray} {maxL index nn ci b : Nat} {ret : Option FieldType} {Cn : String} {T : u_T} {N : Nat} {As stk : List Value} {fs : List Value} {pre wa : va_W} {post : Option Value → va_W → Prop} (C : g_C p s m args meth c cc nL own Ts D cI cC A) (hM : g_M l y wsc rm D cI cC (.ref b :: As) wa post) (hG : GoodIn Ts (wsV own index Cn y wsc)) (hw : wsc = Cond.code y bytes maxL ret :: wsc') (hrc : rm.cells = 0) (hrs : rm.slots = 0)
    (hd : y.cls = Cn ∧ y.cls ≠ "java/lang/invoke/MethodHandle" ∧ y.cls ≠ "java/lang/invoke/VarHandle" ∧ (parseMethodDescriptor y.desc).map (fun d => d.parameters.length) = some nn) (hR : rm.frames + 1 ≤ R.frames ∧ 8 + (maxL + 11) + rm.locals ≤ R.locals) (hnn : As.length = nn) (N1 N2 : Nat) (h1 : wa.length = N1) (h2 : pre.length = N2) (hnd : va_nd ((List.range N1).map (fun i => N2 + i)) = true) (hci : vwCl[ci]? = some (Cn, T, N)) (hq : wa[0]? = some (b, .inr (ci, fs))) (hst : stk = As.reverse ++ .ref b :: st) (hsm : (st.map fun v => v.category).sum ≤ 8) (hf : k ≤ R.cells ∧ n ≤ R.slots) (hdg : decode cc pc = .ok (.invokevirtual index, 3))
    (K : ∀ (v : Option Value) (w' : va_W), post v w' → g_J p l e R s m args below meth c Q D A nL k n (pre ++ w') (pc + 3) lv (v.toList ++ st)) : g_J p l e R s m args below meth c Q D A nL k n (pre ++ wa) pc lv stk := by
  have h := g_callM (wb := []) (q0 := 0) C hM hG hw hrc hrs hd hR hnn N1 N2 h1 h2 hnd hci hq hst hsm hf hdg (fun v w' h => by rw [List.append_nil]; exact K v w' h)
  rw [List.append_nil] at h
  exact h
end GMID

def lINV (cI cC : ClassId) (x0 n0 n1 t0 t1 s0 s1 g0 g1 w0 w1 w2 m0 m1 m2 m3 m4 p0 p1 q0 q1 q2 q3 q4 q5 q6 q7 q8 q9 q10 q11 : Nat) (w : va_W) : Prop := ∃ (hs : Bool) (c ct cs r : Nat → Int32) (od z : Nat) (sg : Nat → Int32) (ln : Nat) (tr : Nat → Int32) (lf rg : Nat) (bd : Bool) (wi ol orr sf : Nat → Int32) (rl : Nat) (nb : Nat → Int32) (th : Int32) (ss asd sts snp tx can szs ptn nms pth : Nat → Int32) (att isw : Int32) (rdd : Nat → Int32) (rmy : Int32), w = (xW cI cC x0 n0 n1 t0 t1 s0 s1 g0 g1 w0 w1 w2 m0 m1 m2 m3 m4 p0 p1 (bI hs) c ct cs r (nI od) (nI z) sg (nI ln) tr (nI lf) (nI rg) (bI bd) wi ol orr sf (nI rl) nb) ++ (rW cI cC q0 q1 q2 q3 q4 q5 q6 q7 q8 q9 q10 q11 th ss asd sts (nI z) snp (bI hs) tx (nI ln) can szs ptn nms pth att isw rdd rmy) ∧ SR c ss ∧ HR r sts od z ∧ od < 5 ∧ z ≤ 5 ∧ HX sg tx ln ∧ (∀ k, k < ln → sg k = nI (cN sg k)) ∧ (hs = true → SR cs snp) ∧ rl < 256
theorem lINV_mk {cI cC : ClassId} {x0 n0 n1 t0 t1 s0 s1 g0 g1 w0 w1 w2 m0 m1 m2 m3 m4 p0 p1 q0 q1 q2 q3 q4 q5 q6 q7 q8 q9 q10 q11 : Nat} {hs : Bool} {c ct cs r : Nat → Int32} {od z : Nat} {sg : Nat → Int32} {ln : Nat} {tr : Nat → Int32} {lf rg : Nat} {bd : Bool} {wi ol orr sf : Nat → Int32} {rl : Nat} {nb : Nat → Int32} {th : Int32} {ss asd sts snp tx can szs ptn nms pth : Nat → Int32} {att isw : Int32} {rdd : Nat → Int32} {rmy : Int32} (hS : SR c ss) (hH : HR r sts od z) (ho : od < 5) (hz : z ≤ 5) (hX : HX sg tx ln) (hT : ∀ k, k < ln → sg k = nI (cN sg k)) (hN : hs = true → SR cs snp) (hrl : rl < 256) : lINV cI cC x0 n0 n1 t0 t1 s0 s1 g0 g1 w0 w1 w2 m0 m1 m2 m3 m4 p0 p1 q0 q1 q2 q3 q4 q5 q6 q7 q8 q9 q10 q11 ((xW cI cC x0 n0 n1 t0 t1 s0 s1 g0 g1 w0 w1 w2 m0 m1 m2 m3 m4 p0 p1 (bI hs) c ct cs r (nI od) (nI z) sg (nI ln) tr (nI lf) (nI rg) (bI bd) wi ol orr sf (nI rl) nb) ++ (rW cI cC q0 q1 q2 q3 q4 q5 q6 q7 q8 q9 q10 q11 th ss asd sts (nI z) snp (bI hs) tx (nI ln) can szs ptn nms pth att isw rdd rmy)) := ⟨_, _, _, _, _, _, _, _, _, _, _, _, _, _, _, _, _, _, _, _, _, _, _, _, _, _, _, _, _, _, _, _, _, _, rfl, hS, hH, ho, hz, hX, hT, hN, hrl⟩
