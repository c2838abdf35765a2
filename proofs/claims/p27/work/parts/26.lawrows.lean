/-! the law: rows of its own -/
/-- the law's script: its ints stand in one old array -/
def lS (s : State) (A : Nat → Prop) (sb SL : Nat) (xs : Nat → Int32) : Prop := va_X sb SL xs s s.heap ∧ sb < s.heap.size ∧ ¬ A sb
section GLAW
variable {p : Program} {l : Launch} {e : Env} {R : Room} {s : State} {m : MethodId} {args : Array Value} {below : List Frame} {meth : Method} {c : Code} {Q : State → Prop} {D : va_G} {A : Nat → Prop} {nL k n : Nat} {ws : va_W} {pc : Nat} {lv lv' : List (Nat × Value)} {st : List Value}
variable {cc : ByteArray} {own : String} {Ts : List Cond} {cI cC : ClassId} {sb SL : Nat} {xs : Nat → Int32}
theorem g_sld (C : g_C p s m args meth c cc nL own Ts D cI cC A) (S0 : lS s A sb SL xs) {j : Nat} (hj : j < SL) (hL : SL < 2 ^ 31) (hd : decode cc pc = .ok (.iaload, 1)) (K : g_J p l e R s m args below meth c Q D A nL k n ws (pc + 1) lv (.int (xs j) :: st)) : g_J p l e R s m args below meth c Q D A nL k n ws pc lv (.int (nI j) :: .ref sb :: st) := by
  intro H locs ls hP hD hS hl
  have K1 := K H locs ls hP hD hS hl
  rw [← nI_clamp (n := j) (by omega)] at K1
  exact va_sld C.1.1 C.1.2.1 S0.1 S0.2.1 S0.2.2 hS (vp_in_nI hj hL) hd K1
theorem g_slen (C : g_C p s m args meth c cc nL own Ts D cI cC A) (S0 : lS s A sb SL xs) (hd : decode cc pc = .ok (.arraylength, 1)) (K : g_J p l e R s m args below meth c Q D A nL k n ws (pc + 1) lv (.int (nI SL) :: st)) : g_J p l e R s m args below meth c Q D A nL k n ws pc lv (.ref sb :: st) := fun H locs ls hP hD hS hl => va_slen C.1.1 C.1.2.1 S0.1 S0.2.1 S0.2.2 hS hd (K H locs ls hP hD hS hl)
theorem g_ne0 (C : g_C p s m args meth c cc nL own Ts D cI cC A) {x : Int32} (h0 : decode cc pc = .ok (.ifCond .eq 7, 3)) (h3 : decode cc (pc + 3) = .ok (.iconst 1, 1)) (h4 : decode cc (pc + 4) = .ok (.goto 4, 3)) (h7 : decode cc (pc + 7) = .ok (.iconst 0, 1)) (K : g_J p l e R s m args below meth c Q D A nL k n ws (pc + 8) lv (.int (bI (!decide (x = 0))) :: st)) : g_J p l e R s m args below meth c Q D A nL k n ws pc lv (.int x :: st) := by
  refine g_if_eq C (pc + 7) h0 (by omega) (fun hx => ?_) (fun hx => ?_)
  · rw [decide_eq_true hx] at K
    exact g_iconst C h7 (v := 0) (by decide) K
  · rw [decide_eq_false hx] at K
    exact g_iconst C h3 (v := 1) (by decide) (g_goto C (pc + 8) h4 (by omega) K)
theorem g_dstore (C : g_C p s m args meth c cc nL own Ts D cI cC A) {i : Nat} {x : UInt64} (hd : decode cc pc = .ok (.dstore i, 2)) (hn : i + 1 < nL) (hl0 : (i, Value.double x) :: lv.filter (fun q => !(q.1 == i) && (!(q.1 == i + 1) && !(q.1 + 1 == i && q.2.category == 2))) = lv') (K : g_J p l e R s m args below meth c Q D A nL k n ws (pc + 2) lv' st) : g_J p l e R s m args below meth c Q D A nL k n ws pc lv (.double x :: st) := fun H locs ls hP hD hS hl => lv_dstore C.1.1 C.1.2.1 hd hl hn hl0 (fun ls' hl' => K H locs ls' hP hD hS hl')
theorem g_dload (C : g_C p s m args meth c cc nL own Ts D cI cC A) {i : Nat} {x : UInt64} (hd : decode cc pc = .ok (.dload i, 2)) (q : Nat) (hq : lv[q]? = some (i, .double x)) (K : g_J p l e R s m args below meth c Q D A nL k n ws (pc + 2) lv (.double x :: st)) : g_J p l e R s m args below meth c Q D A nL k n ws pc lv st := fun H locs ls hP hD hS hl => lv_dload C.1.1 C.1.2.1 hd (lv_at hl q hq) (K H locs ls hP hD hS hl)
theorem g_dcmp (C : g_C p s m args meth c cc nL own Ts D cI cC A) {x y : UInt64} {op : CmpOp} {v : Int32} (hd : decode cc pc = .ok (.dcmp op, 1)) (hv : Op.cmpValue (FP.dcmp x y) op = v) (K : g_J p l e R s m args below meth c Q D A nL k n ws (pc + 1) lv (.int v :: st)) : g_J p l e R s m args below meth c Q D A nL k n ws pc lv (.double y :: .double x :: st) := fun H locs ls hP hD hS hl => lv_dcmp C.1.1 C.1.2.1 hd (by rw [hv]; exact K H locs ls hP hD hS hl)
end GLAW
/-! the law: pure -/
theorem me_nn (c : Nat → Int32) : FP.Core.dIsNaN (meV c) = false := by
  rw [meV]
  by_cases h : c 153 = 0
  · rw [if_pos h]; decide +kernel
  · rw [if_neg h]; exact g_meanN h
theorem me_self (c : Nat → Int32) : Op.cmpValue (FP.dcmp (meV c) (meV c)) .l = 0 := by
  have h := me_nn c
  have h1 : FP.Core.val64 (meV c) ≠ .nan := of_decide_eq_false h
  have h2 : FP.dcmp (meV c) (meV c) = some .eq := FP.Core.dcmp_self h1
  rw [h2]
  rfl
theorem hd_room {SL i : Nat} (hL : SL ≤ 2048) (hi : i ≤ SL) (h : ¬ (nI SL - nI 4 < nI i)) : i + 4 ≤ SL := by
  by_cases h4 : 4 ≤ SL
  · rw [pk_sub h4] at h
    have h1 : ¬ SL - 4 < i := fun z => h ((nI_ltI (by omega) (by omega)).mpr z)
    omega
  · refine absurd ?_ h
    have h1 : SL = 0 ∨ SL = 1 ∨ SL = 2 ∨ SL = 3 := by omega
    have h2 : i = 0 ∨ i = 1 ∨ i = 2 ∨ i = 3 := by omega
    rcases h1 with rfl | rfl | rfl | rfl <;> rcases h2 with rfl | rfl | rfl | rfl <;> decide
/-! calls of the two objects that stand side by side: the callee's cells are one block -/
theorem g_pb_mid : ∀ (wa w1 pre wb : va_W), w1.length = wa.length → g_pb (pre ++ (wa ++ wb)) ((List.range wa.length).map (fun i => pre.length + i)) w1 = pre ++ (w1 ++ wb)
  | [], [], pre, wb, _ => rfl
  | [], q :: w1, pre, wb, h => by simp at h
  | a :: wa, [], pre, wb, h => by simp at h
  | a :: wa, q :: w1, pre, wb, h => by
    rw [List.length_cons, List.range_succ_eq_map, List.map_cons, List.map_map]
    show g_pb ((pre ++ (a :: wa ++ wb)).set (pre.length + 0) q) _ w1 = _
    have e1 : (pre ++ (a :: wa ++ wb)).set (pre.length + 0) q = (pre ++ [q]) ++ (wa ++ wb) := by simp [List.set_append]
    have e2 : (fun i => pre.length + i) ∘ Nat.succ = fun i => (pre ++ [q]).length + i := by funext i; simp; omega
    rw [e1, e2, g_pb_mid wa w1 (pre ++ [q]) wb (by simpa using h)]
    simp
theorem g_mid_at (wa pre wb : va_W) : ((List.range wa.length).map (fun i => pre.length + i)).map (fun i => (pre ++ (wa ++ wb))[i]?) = wa.map some := by
  apply List.ext_getElem?
  intro k
  rw [List.map_map, List.getElem?_map, List.getElem?_map]
  by_cases h : k < wa.length
  · rw [List.getElem?_range h]
    show some ((pre ++ (wa ++ wb))[pre.length + k]?) = _
    rw [List.getElem?_append_right (by omega), show pre.length + k - pre.length = k by omega, List.getElem?_append_left h, List.getElem?_eq_getElem h]
    rfl
  · rw [List.getElem?_eq_none (by simp; omega), List.getElem?_eq_none (by omega)]
    rfl
section GMID
variable {p : Program} {l : Launch} {e : Env} {R : Room} {s : State} {m : MethodId} {args : Array Value} {below : List Frame} {meth : Method} {c : Code} {Q : State → Prop} {D : va_G} {A : Nat → Prop} {nL k n : Nat} {pc : Nat} {lv : List (Nat × Value)} {st : List Value}
variable {cc : ByteArray} {own : String} {Ts : List Cond} {cI cC : ClassId}
/-- behind any call, with the addresses kept -/
theorem g_runM {ws : va_W} {wc : va_W} {post : Option Value → va_W → Prop} {a : Array Value} {stk : List Value} {H : Heap} {locs : List Loc} {ls : Array Slot} (C : g_C p s m args meth c cc nL own Ts D cI cC A) (isC : List Nat) (hC : isC.map (fun i => ws[i]?) = wc.map some) (hP : va_P D vwCl ws H) (hD : va_D A ws) (hS : va_S A s.heap H locs) (hl : lv_has ls nL lv)
    (run : va_Run p l e R s m args below meth c H locs k n 0 0 (F0 m pc ls stk) st (g_Q D wc (va_A wc H.size) post a) (va_A wc H.size))
    (K : ∀ (v : Option Value) (w' : va_W), post v w' → w'.map (·.1) = wc.map (·.1) → g_J p l e R s m args below meth c Q D A nL k n (g_pb ws isC w') (pc + 3) lv (v.toList ++ st)) : W p l e R s m args below meth c H locs k n Q (F0 m pc ls stk) := by
  have hFc := va_free (wc := wc) hD hS C.2.2.2.1 isC hC
  intro T hT X
  obtain ⟨v, st₀, t, T', L, h0, X', hL, e1, e2, ⟨⟨v', w', hv, hp, hfst, hPw⟩, hz, hk⟩, stp⟩ := run T hT X
  cases hv
  rw [h0] at hz hk
  have hb := g_back (H1 := T'.heap) hP hD isC hC (fun q h1 h2 => by rw [e1]; exact hk q h1 h2) hfst (by rw [e1]; exact hPw)
  obtain ⟨t2, a1, b1⟩ := K v w' hp hfst T'.heap (locs ++ L) ls hb.1 hb.2 ⟨Nat.le_trans hS.1 (by rw [e1]; exact hz), fun q h1 h2 => by rw [e1, hk q (Nat.lt_of_lt_of_le h1 hS.1) (fun z => h2 (hFc q z))]; exact hS.2.1 q h1 h2, fun q hq => by
      rcases List.mem_append.mp hq with h | h
      · exact hS.2.2 q h
      · exact hFc _ (hL q h)⟩ hl T' rfl X'
  exact ⟨t2, stp t2 a1, b1⟩
theorem g_callM {y : MethodName} {wsc wsc' : List Cond} {rm : Room} {bytes : ByteArray} {maxL index nn ci q0 b : Nat} {ret : Option FieldType} {Cn : String} {T : u_T} {N : Nat} {As stk : List Value} {fs : List Value} {pre wa wb : va_W} {post : Option Value → va_W → Prop} (C : g_C p s m args meth c cc nL own Ts D cI cC A) (hM : g_M l y wsc rm D cI cC (.ref b :: As) wa post) (hG : GoodIn Ts (wsV own index Cn y wsc)) (hw : wsc = Cond.code y bytes maxL ret :: wsc') (hrc : rm.cells = 0) (hrs : rm.slots = 0)
    (hd : y.cls = Cn ∧ y.cls ≠ "java/lang/invoke/MethodHandle" ∧ y.cls ≠ "java/lang/invoke/VarHandle" ∧ (parseMethodDescriptor y.desc).map (fun d => d.parameters.length) = some nn) (hR : rm.frames + 1 ≤ R.frames ∧ 8 + (maxL + 11) + rm.locals ≤ R.locals) (hnn : As.length = nn) (N1 N2 : Nat) (h1 : wa.length = N1) (h2 : pre.length = N2) (hnd : va_nd ((List.range N1).map (fun i => N2 + i)) = true) (hci : vwCl[ci]? = some (Cn, T, N)) (hq : wa[q0]? = some (b, .inr (ci, fs))) (hst : stk = As.reverse ++ .ref b :: st) (hsm : (st.map fun v => v.category).sum ≤ 8) (hf : k ≤ R.cells ∧ n ≤ R.slots) (hdg : decode cc pc = .ok (.invokevirtual index, 3))
    (K : ∀ (v : Option Value) (w' : va_W), post v w' → g_J p l e R s m args below meth c Q D A nL k n (pre ++ (w' ++ wb)) (pc + 3) lv (v.toList ++ st)) : g_J p l e R s m args below meth c Q D A nL k n (pre ++ (wa ++ wb)) pc lv stk := by
  subst h1
  subst h2
  intro H locs ls hP hD hS hl
  subst hst
  have hC := g_mid_at wa pre wb
  refine g_runM C _ hC hP hD hS hl (va_runV (As := As) (rest := st) C.1 (hM H.size) (cwV nn C.1.2.2.2.2 hG hw hrc hrs hd hR) ⟨g_blind, va_recv C.2.1 (g_Psub hP hC) hci hq, g_pre C _ hC hnd hP hD⟩ rfl hnn hl.1 rfl (lv_room hsm) hdg hf) (fun v w' h he => ?_)
  have hlen : w'.length = wa.length := by
    have := congrArg List.length he
    simpa using this
  rw [g_pb_mid wa w' pre wb hlen]
  exact K v w' h
theorem g_callX {y : MethodName} {wsc wsc' : List Cond} {rm : Room} {bytes : ByteArray} {maxL index nn ci b : Nat} {ret : Option FieldType} {Cn : String} {T : u_T} {N : Nat} {As stk : List Value} {fs : List Value} {wa wb : va_W} {post : Option Value → va_W → Prop} (C : g_C p s m args meth c cc nL own Ts D cI cC A) (hM : g_M l y wsc rm D cI cC (.ref b :: As) wa post) (hG : GoodIn Ts (wsV own index Cn y wsc)) (hw : wsc = Cond.code y bytes maxL ret :: wsc') (hrc : rm.cells = 0) (hrs : rm.slots = 0)
    (hd : y.cls = Cn ∧ y.cls ≠ "java/lang/invoke/MethodHandle" ∧ y.cls ≠ "java/lang/invoke/VarHandle" ∧ (parseMethodDescriptor y.desc).map (fun d => d.parameters.length) = some nn) (hR : rm.frames + 1 ≤ R.frames ∧ 8 + (maxL + 11) + rm.locals ≤ R.locals) (hnn : As.length = nn) (N1 : Nat) (h1 : wa.length = N1) (hnd : va_nd ((List.range N1).map (fun i => 0 + i)) = true) (hci : vwCl[ci]? = some (Cn, T, N)) (hq : wa[0]? = some (b, .inr (ci, fs))) (hst : stk = As.reverse ++ .ref b :: st) (hsm : (st.map fun v => v.category).sum ≤ 8) (hf : k ≤ R.cells ∧ n ≤ R.slots) (hdg : decode cc pc = .ok (.invokevirtual index, 3))
    (K : ∀ (v : Option Value) (w' : va_W), post v w' → g_J p l e R s m args below meth c Q D A nL k n (w' ++ wb) (pc + 3) lv (v.toList ++ st)) : g_J p l e R s m args below meth c Q D A nL k n (wa ++ wb) pc lv stk :=
  g_callM (pre := []) (q0 := 0) C hM hG hw hrc hrs hd hR hnn N1 0 h1 rfl hnd hci hq hst hsm hf hdg K
theorem g_callR {y : MethodName} {wsc wsc' : List Cond} {rm : Room} {bytes : ByteArray} {maxL index nn ci b : Nat} {ret : Option FieldType} {Cn : String} {T : u_T} {N : Nat} {As stk : List Value} {fs : List Value} {pre wa : va_W} {post : Option Value → va_W → Prop} (C : g_C p s m args meth c cc nL own Ts D cI cC A) (hM : g_M l y wsc rm D cI cC (.ref b :: As) wa post) (hG : GoodIn Ts (wsV own index Cn y wsc)) (hw : wsc = Cond.code y bytes maxL ret :: wsc') (hrc : rm.cells = 0) (hrs : rm.slots = 0)
    (hd : y.cls = Cn ∧ y.cls ≠ "java/lang/invoke/MethodHandle" ∧ y.cls ≠ "java/lang/invoke/VarHandle" ∧ (parseMethodDescriptor y.desc).map (fun d => d.parameters.length) = some nn) (hR : rm.frames + 1 ≤ R.frames ∧ 8 + (maxL + 11) + rm.locals ≤ R.locals) (hnn : As.length = nn) (N1 N2 : Nat) (h1 : wa.length = N1) (h2 : pre.length = N2) (hnd : va_nd ((List.range N1).map (fun i => N2 + i)) = true) (hci : vwCl[ci]? = some (Cn, T, N)) (hq : wa[0]? = some (b, .inr (ci, fs))) (hst : stk = As.reverse ++ .ref b :: st) (hsm : (st.map fun v => v.category).sum ≤ 8) (hf : k ≤ R.cells ∧ n ≤ R.slots) (hdg : decode cc pc = .ok (.invokevirtual index, 3))
    (K : ∀ (v : Option Value) (w' : va_W), post v w' → g_J p l e R s m args below meth c Q D A nL k n (pre ++ w') (pc + 3) lv (v.toList ++ st)) : g_J p l e R s m args below meth c Q D A nL k n (pre ++ wa) pc lv stk := by
  have h := g_callM (wb := []) (q0 := 0) C hM hG hw hrc hrs hd hR hnn N1 N2 h1 h2 hnd hci hq hst hsm hf hdg (fun v w' h => by rw [List.append_nil]; exact K v w' h)
  rw [List.append_nil] at h
  exact h
end GMID
/-! rows of this law: longs, booleans read off branches, the script's array read by a method of the law's own -/
theorem lg_cmp_self (x : Int64) : lg_cmp x x = 0 := by simp [lg_cmp, Int64.lt_irrefl]
theorem vp_same {cA : ClassId} {z : Nat} {f g : Nat → Int32} (h : ∀ k, k < z → f k = g k) : vp_cell cA (z, .inl f) = vp_cell cA (z, .inl g) := by
  rw [vp_cell_i, vp_cell_i]
  have e : (fun j : Fin z => Value.int (f j.val)) = (fun j : Fin z => Value.int (g j.val)) := funext (fun j => by rw [h j.val j.isLt])
  show ({ cls := cA, slots := Array.ofFn (n := z) fun j => Value.int (f j.val), vm := .none } : Cell) = { cls := cA, slots := Array.ofFn (n := z) fun j => Value.int (g j.val), vm := .none }
  rw [e]
theorem va_P_same {D : va_G} {cl : List vw_C} {ws : va_W} {H : Heap} {q0 a z : Nat} {cA : ClassId} {f g : Nat → Int32} (hP : va_P D cl ws H) (he : ws[q0]? = some (a, .inl (cA, z, .inl f))) (h : ∀ k, k < z → f k = g k) : va_P D cl (ws.set q0 (a, .inl (cA, z, .inl g))) H := by
  intro k q hk
  by_cases e : q0 = k
  · subst e
    have hlt : q0 < ws.length := (List.getElem?_eq_some_iff.mp he).1
    rw [List.getElem?_set_self hlt] at hk
    cases hk
    have h1 := hP q0 _ he
    show H[a]? = some (vp_cell cA (z, .inl g))
    rw [← vp_same h]
    exact h1
  · rw [List.getElem?_set_ne e] at hk
    exact hP k q hk
section GLONG
variable {p : Program} {l : Launch} {e : Env} {R : Room} {s : State} {m : MethodId} {args : Array Value} {below : List Frame} {meth : Method} {c : Code} {Q : State → Prop} {D : va_G} {A : Nat → Prop} {nL k n : Nat} {ws ws' : va_W} {pc : Nat} {lv lv' : List (Nat × Value)} {st : List Value}
variable {cc : ByteArray} {own : String} {Ts : List Cond} {cI cC : ClassId}
theorem g_same (q0 : Nat) {a z : Nat} {cA : ClassId} {f g : Nat → Int32} (he : ws[q0]? = some (a, .inl (cA, z, .inl f))) (h : ∀ k, k < z → f k = g k) (hw : ws.set q0 (a, .inl (cA, z, .inl g)) = ws') (K : g_J p l e R s m args below meth c Q D A nL k n ws' pc lv st) : g_J p l e R s m args below meth c Q D A nL k n ws pc lv st := by
  subst hw
  intro H locs ls hP hD hS hl
  refine K H locs ls (va_P_same hP he h) (g_D_fst ?_ hD) hS hl
  exact g_setfst ws q0 _ (by rw [List.getElem?_map, he]; rfl)
theorem g_ldc (C : g_C p s m args meth c cc nL own Ts D cI cC A) {j : Nat} {v : Int32} (hd : decode cc pc = .ok (.ldc j, 2)) (hv : Jvm.Cond.constant own j v ∈ Ts) (K : g_J p l e R s m args below meth c Q D A nL k n ws (pc + 2) lv (.int v :: st)) : g_J p l e R s m args below meth c Q D A nL k n ws pc lv st := fun H locs ls hP hD hS hl => lv_ldc C.1.1 C.1.2.1 C.1.2.2.2.1 (C.1.2.2.2.2 _ hv) hd (K H locs ls hP hD hS hl)
theorem g_ldc2 (C : g_C p s m args meth c cc nL own Ts D cI cC A) {j : Nat} {v : Int64} (hd : decode cc pc = .ok (.ldc2_w j, 3)) (hv : Jvm.Cond.constantLong own j v ∈ Ts) (K : g_J p l e R s m args below meth c Q D A nL k n ws (pc + 3) lv (.long v :: st)) : g_J p l e R s m args below meth c Q D A nL k n ws pc lv st := fun H locs ls hP hD hS hl => lv_ldc2 C.1.1 C.1.2.1 C.1.2.2.2.1 (C.1.2.2.2.2 _ hv) hd (K H locs ls hP hD hS hl)
theorem g_ladd (C : g_C p s m args meth c cc nL own Ts D cI cC A) {x y : Int64} (hd : decode cc pc = .ok (.ladd, 1)) (K : g_J p l e R s m args below meth c Q D A nL k n ws (pc + 1) lv (.long (x + y) :: st)) : g_J p l e R s m args below meth c Q D A nL k n ws pc lv (.long y :: .long x :: st) := fun H locs ls hP hD hS hl => lv_ladd C.1.1 C.1.2.1 hd (K H locs ls hP hD hS hl)
theorem g_lmul (C : g_C p s m args meth c cc nL own Ts D cI cC A) {x y : Int64} (hd : decode cc pc = .ok (.lmul, 1)) (K : g_J p l e R s m args below meth c Q D A nL k n ws (pc + 1) lv (.long (x * y) :: st)) : g_J p l e R s m args below meth c Q D A nL k n ws pc lv (.long y :: .long x :: st) := fun H locs ls hP hD hS hl => lv_lmul C.1.1 C.1.2.1 hd (K H locs ls hP hD hS hl)
theorem g_i2l (C : g_C p s m args meth c cc nL own Ts D cI cC A) {x : Int32} (hd : decode cc pc = .ok (.i2l, 1)) (K : g_J p l e R s m args below meth c Q D A nL k n ws (pc + 1) lv (.long x.toInt64 :: st)) : g_J p l e R s m args below meth c Q D A nL k n ws pc lv (.int x :: st) := fun H locs ls hP hD hS hl => lv_i2l C.1.1 C.1.2.1 hd rfl (K H locs ls hP hD hS hl)
theorem g_lload_n (C : g_C p s m args meth c cc nL own Ts D cI cC A) {j : Fin 4} {i : Nat} {x : Int64} (hd : decode cc pc = .ok (.lload_n j, 1)) (q : Nat) (hj : (j : Nat) = i) (hq : lv[q]? = some (i, .long x)) (K : g_J p l e R s m args below meth c Q D A nL k n ws (pc + 1) lv (.long x :: st)) : g_J p l e R s m args below meth c Q D A nL k n ws pc lv st := fun H locs ls hP hD hS hl => lv_lload_n C.1.1 C.1.2.1 hd hj (lv_at hl q hq) (K H locs ls hP hD hS hl)
theorem g_lload (C : g_C p s m args meth c cc nL own Ts D cI cC A) {i : Nat} {x : Int64} (hd : decode cc pc = .ok (.lload i, 2)) (q : Nat) (hq : lv[q]? = some (i, .long x)) (K : g_J p l e R s m args below meth c Q D A nL k n ws (pc + 2) lv (.long x :: st)) : g_J p l e R s m args below meth c Q D A nL k n ws pc lv st := fun H locs ls hP hD hS hl => lv_lload C.1.1 C.1.2.1 hd (lv_at hl q hq) (K H locs ls hP hD hS hl)
theorem g_lstore_n (C : g_C p s m args meth c cc nL own Ts D cI cC A) {j : Fin 4} {i : Nat} {x : Int64} (hd : decode cc pc = .ok (.lstore_n j, 1)) (hj : (j : Nat) = i) (hn : i + 1 < nL) (hl0 : (i, Value.long x) :: lv.filter (fun q => !(q.1 == i) && (!(q.1 == i + 1) && !(q.1 + 1 == i && q.2.category == 2))) = lv') (K : g_J p l e R s m args below meth c Q D A nL k n ws (pc + 1) lv' st) : g_J p l e R s m args below meth c Q D A nL k n ws pc lv (.long x :: st) := fun H locs ls hP hD hS hl => lv_lstore_n C.1.1 C.1.2.1 hd hj hl hn hl0 (fun ls' hl' => K H locs ls' hP hD hS hl')
theorem g_lstore (C : g_C p s m args meth c cc nL own Ts D cI cC A) {i : Nat} {x : Int64} (hd : decode cc pc = .ok (.lstore i, 2)) (hn : i + 1 < nL) (hl0 : (i, Value.long x) :: lv.filter (fun q => !(q.1 == i) && (!(q.1 == i + 1) && !(q.1 + 1 == i && q.2.category == 2))) = lv') (K : g_J p l e R s m args below meth c Q D A nL k n ws (pc + 2) lv' st) : g_J p l e R s m args below meth c Q D A nL k n ws pc lv (.long x :: st) := fun H locs ls hP hD hS hl => lv_lstore C.1.1 C.1.2.1 hd hl hn hl0 (fun ls' hl' => K H locs ls' hP hD hS hl')
/-- two longs that are one -/
theorem g_lcmp0 (C : g_C p s m args meth c cc nL own Ts D cI cC A) {x y : Int64} (hd : decode cc pc = .ok (.lcmp, 1)) (h : x = y) (K : g_J p l e R s m args below meth c Q D A nL k n ws (pc + 1) lv (.int (nI 0) :: st)) : g_J p l e R s m args below meth c Q D A nL k n ws pc lv (.long y :: .long x :: st) := by
  subst h
  intro H locs ls hP hD hS hl
  refine W.lcmp C.1.1 C.1.2.1 hd ?_
  rw [lg_cmp_self]
  exact K H locs ls hP hD hS hl
theorem g_topl {x y : Int64} (h : x = y) (K : g_J p l e R s m args below meth c Q D A nL k n ws pc lv (.long y :: st)) : g_J p l e R s m args below meth c Q D A nL k n ws pc lv (.long x :: st) := by subst h; exact K
theorem g_lret {w0 : va_W} {post : Option Value → va_W → Prop} {v : Int64} (C : g_C p s m args meth c cc nL own Ts D cI cC A) (hr : meth.sig.returnType = some .long) (hQ : Q = MQ below (g_Q D w0 A post) args s k n A) (hd : decode cc pc = .ok (.lreturn, 1)) (hw : ws.map (·.1) = w0.map (·.1)) (hp : post (some (.long v)) ws) : g_J p l e R s m args below meth c Q D A nL k n ws pc lv [.long v] := by
  subst hQ
  exact fun H locs ls hP hD hS hl => W.lret C.1.1 C.1.2.1 hr (fun t ht hW => ⟨⟨some (.long v), ws, rfl, hp, hw, by rw [ht]; exact hP⟩, hS.F ht⟩) hS.2.2 hd (hlocks := C.2.2.2.2)
/-- a comparison that is stored: 1 or 0 -/
theorem g_bEq (C : g_C p s m args meth c cc nL own Ts D cI cC A) {x y : Int32} (h0 : decode cc pc = .ok (.if_icmp .ne 7, 3)) (h3 : decode cc (pc + 3) = .ok (.iconst 1, 1)) (h4 : decode cc (pc + 4) = .ok (.goto 4, 3)) (h7 : decode cc (pc + 7) = .ok (.iconst 0, 1)) (K : g_J p l e R s m args below meth c Q D A nL k n ws (pc + 8) lv (.int (bI (decide (x = y))) :: st)) : g_J p l e R s m args below meth c Q D A nL k n ws pc lv (.int y :: .int x :: st) := by
  refine g_icmp_ne C (pc + 7) h0 (by omega) (fun hx => ?_) (fun hx => ?_)
  · rw [decide_eq_false hx] at K
    exact g_iconst C h7 (v := 0) (by decide) K
  · rw [decide_eq_true hx] at K
    exact g_iconst C h3 (v := 1) (by decide) (g_goto C (pc + 8) h4 (by omega) K)
theorem g_bZ (C : g_C p s m args meth c cc nL own Ts D cI cC A) {x : Int32} (h0 : decode cc pc = .ok (.ifCond .ne 7, 3)) (h3 : decode cc (pc + 3) = .ok (.iconst 1, 1)) (h4 : decode cc (pc + 4) = .ok (.goto 4, 3)) (h7 : decode cc (pc + 7) = .ok (.iconst 0, 1)) (K : g_J p l e R s m args below meth c Q D A nL k n ws (pc + 8) lv (.int (bI (decide (x = 0))) :: st)) : g_J p l e R s m args below meth c Q D A nL k n ws pc lv (.int x :: st) := by
  refine g_if_ne C (pc + 7) h0 (by omega) (fun hx => ?_) (fun hx => ?_)
  · rw [decide_eq_false hx] at K
    exact g_iconst C h7 (v := 0) (by decide) K
  · rw [decide_eq_true hx] at K
    exact g_iconst C h3 (v := 1) (by decide) (g_goto C (pc + 8) h4 (by omega) K)
theorem g_bPos (C : g_C p s m args meth c cc nL own Ts D cI cC A) {x : Int32} (h0 : decode cc pc = .ok (.ifCond .le 7, 3)) (h3 : decode cc (pc + 3) = .ok (.iconst 1, 1)) (h4 : decode cc (pc + 4) = .ok (.goto 4, 3)) (h7 : decode cc (pc + 7) = .ok (.iconst 0, 1)) (K : g_J p l e R s m args below meth c Q D A nL k n ws (pc + 8) lv (.int (bI (decide (0 < x))) :: st)) : g_J p l e R s m args below meth c Q D A nL k n ws pc lv (.int x :: st) := by
  refine g_if_le C (pc + 7) h0 (by omega) (fun hx => ?_) (fun hx => ?_)
  · rw [decide_eq_false (Int32.not_lt.mpr hx)] at K
    exact g_iconst C h7 (v := 0) (by decide) K
  · rw [decide_eq_true (Int32.not_le.mp hx)] at K
    exact g_iconst C h3 (v := 1) (by decide) (g_goto C (pc + 8) h4 (by omega) K)
theorem g_bLt (C : g_C p s m args meth c cc nL own Ts D cI cC A) {x y : Nat} (hx : x < 2 ^ 31) (hy : y < 2 ^ 31) (h0 : decode cc pc = .ok (.if_icmp .ge 7, 3)) (h3 : decode cc (pc + 3) = .ok (.iconst 1, 1)) (h4 : decode cc (pc + 4) = .ok (.goto 4, 3)) (h7 : decode cc (pc + 7) = .ok (.iconst 0, 1)) (K : g_J p l e R s m args below meth c Q D A nL k n ws (pc + 8) lv (.int (bI (decide (x < y))) :: st)) : g_J p l e R s m args below meth c Q D A nL k n ws pc lv (.int (nI y) :: .int (nI x) :: st) := by
  refine g_icmp_geN C (pc + 7) hx hy h0 (by omega) (fun h => ?_) (fun h => ?_)
  · rw [decide_eq_false (Nat.not_lt.mpr h)] at K
    exact g_iconst C h7 (v := 0) (by decide) K
  · rw [decide_eq_true h] at K
    exact g_iconst C h3 (v := 1) (by decide) (g_goto C (pc + 8) h4 (by omega) K)
end GLONG
/-! a method of the law's own that reads the script -/
def g_PX (D : va_G) (cI cC : ClassId) (sb SL : Nat) (xs : Nat → Int32) (sz : Nat) (U : State) : Prop := g_PS D cI cC [] sz U ∧ va_X sb SL xs U U.heap ∧ sb < sz
def g_MX (l : Launch) (y : MethodName) (ws : List Cond) (rm : Room) (D : va_G) (cI cC : ClassId) (av : List Value) (sb SL : Nat) (xs : Nat → Int32) (post : Option Value → va_W → Prop) : Prop := ∀ sz : Nat, Met l y ws rm (va_Pc av (g_PX D cI cC sb SL xs sz)) (g_Q D [] (va_A [] sz) post) 0 0 (va_A [] sz)
theorem g_blindX {D : va_G} {cI cC : ClassId} {av : List Value} {sb SL : Nat} {xs : Nat → Int32} {sz : Nat} : FrameBlind (va_Pc av (g_PX D cI cC sb SL xs sz)) := fun a U g mk q => ⟨q.1, (g_blind (D := D) (cI := cI) (cC := cC) (av := av) (w := []) (sz := sz) a U g mk ⟨q.1, q.2.1⟩).2, va_X.moved (u := U) (U := U.calling g mk a) (Vm.Alike.refl U.vm) q.2.2.1, q.2.2.2⟩
theorem g_entryX {l : Launch} {y : MethodName} {ws ws' : List Cond} {rm : Room} {D : va_G} {cI cC : ClassId} {av : List Value} {sb SL : Nat} {xs : Nat → Int32} {post : Option Value → va_W → Prop} {cc : ByteArray} {maxL : Nat} {ret : Option FieldType} {own : String} {lv : List (Nat × Value)}
    (hy : plainName y.cls = true) (ho : y.cls = own) (hw : ws = Cond.code y cc maxL ret :: ws') (hlen : (lg_sl av).length ≤ maxL) (hlv : lv_args 0 av = lv)
    (body : ∀ (p : Program) (e : Env) (s : State) (m : MethodId) (args : Array Value) (below : List Frame) (meth : Method) (c : Code) (A : Nat → Prop) (Q : State → Prop), g_C p s m args meth c cc maxL own ws D cI cC A → lS s A sb SL xs → meth.sig.returnType = ret → Q = MQ below (g_Q D [] A post) args s 0 0 A → g_J p l e rm s m args below meth c Q D A maxL 0 0 [] 0 lv []) : g_MX l y ws rm D cI cC av sb SL xs post := by
  intro sz
  refine Met.ofW (cc := cc) (maxL := maxL) (ret := ret) hy hw ?_
  intro p e s m args below meth c s₁ B hml hv
  obtain ⟨rfl, ⟨hsz, hP, hK, hN, hD0⟩, hX, hsb⟩ := hv
  have hts := atoms_spec (ws := ws) B.pre
  have hown : s.vm.findClass y.cls = some m.cls := findClass_of_methodNamed B.named
  subst hsz
  have hD := hD0.self (sz := s.heap.size)
  have hl := lv_entry av (n := maxL) hlen
  rw [lg_entry_eq]
  refine body p e s m _ below meth c (va_A [] s.heap.size) _ ⟨⟨B.exec, B.bytes, hml, by rw [← ho]; exact hown, hts⟩, hK, hN, fun q h => Or.inr h, B.notSynchronized⟩ ⟨hX, hsb, fun h => ?_⟩ B.returns rfl s.heap [] _ hP hD va_S.rf ?_
  · rcases h with ⟨k, e2, h⟩ | h
    · simp at h
    · omega
  · rw [← hlv]
    exact hl
section GCALLX
variable {p : Program} {l : Launch} {e : Env} {R : Room} {s : State} {m : MethodId} {args : Array Value} {below : List Frame} {meth : Method} {c : Code} {Q : State → Prop} {D : va_G} {A : Nat → Prop} {nL k n : Nat} {ws : va_W} {pc : Nat} {lv : List (Nat × Value)} {st : List Value}
variable {cc : ByteArray} {own : String} {Ts : List Cond} {cI cC : ClassId}
theorem g_callSX {y : MethodName} {wsc wsc' : List Cond} {rm : Room} {bytes : ByteArray} {maxL index nn : Nat} {ret : Option FieldType} {As stk : List Value} {sb SL : Nat} {xs : Nat → Int32} {post : Option Value → va_W → Prop} (C : g_C p s m args meth c cc nL own Ts D cI cC A) (S0 : lS s A sb SL xs) (hM : g_MX l y wsc rm D cI cC As sb SL xs post) (hG : GoodIn Ts (va_wsS own index y wsc)) (hw : wsc = Cond.code y bytes maxL ret :: wsc') (hrc : rm.cells = 0) (hrs : rm.slots = 0)
    (hd : y.cls ≠ "java/lang/invoke/MethodHandle" ∧ y.cls ≠ "java/lang/invoke/VarHandle" ∧ (parseMethodDescriptor y.desc).map (fun d => d.parameters.length) = some nn) (hR : rm.frames + 1 ≤ R.frames ∧ 8 + (maxL + 11) + rm.locals ≤ R.locals) (hnn : As.length = nn) (hst : stk = As.reverse ++ st) (hsm : (st.map fun v => v.category).sum ≤ 8) (hf : k ≤ R.cells ∧ n ≤ R.slots) (hdg : decode cc pc = .ok (.invokestatic index, 3))
    (K : ∀ (v : Option Value) (w' : va_W), post v w' → g_J p l e R s m args below meth c Q D A nL k n ws (pc + 3) lv (v.toList ++ st)) : g_J p l e R s m args below meth c Q D A nL k n ws pc lv stk := by
  intro H locs ls hP hD hS hl
  subst hst
  have hpre : ∀ U : State, U.heap = H → s.WarmedH U.vm → va_Pc As (g_PX D cI cC sb SL xs H.size) As.toArray U := by
    intro U hU hW
    refine ⟨rfl, (g_pre (av := As) (wc := []) C [] rfl rfl hP hD U hU hW).2, ?_, Nat.lt_of_lt_of_le S0.2.1 hS.1⟩
    rw [hU]
    exact (S0.1.moved hW.alike).kept (hS.2.1 sb S0.2.1 S0.2.2)
  exact g_run C [] rfl hP hD hS hl (va_runS (As := As) (rest := st) C.1 (hM H.size) (va_cwS nn C.1.2.2.2.2 hG hw hrc hrs hd hR) ⟨g_blindX, hpre⟩ rfl hnn hl.1 rfl (lv_room hsm) hdg hf) (fun v w' h => by rw [show g_pb ws [] w' = ws by cases w' <;> rfl]; exact K v w' h)
/-- calls whose world is all of the caller's -/
theorem g_callVW {y : MethodName} {wsc wsc' : List Cond} {rm : Room} {bytes : ByteArray} {maxL index nn ci b : Nat} {ret : Option FieldType} {Cn : String} {T : u_T} {N : Nat} {As stk : List Value} {fs : List Value} {post : Option Value → va_W → Prop} (C : g_C p s m args meth c cc nL own Ts D cI cC A) (hM : g_M l y wsc rm D cI cC (.ref b :: As) ws post) (hG : GoodIn Ts (wsV own index Cn y wsc)) (hw : wsc = Cond.code y bytes maxL ret :: wsc') (hrc : rm.cells = 0) (hrs : rm.slots = 0)
    (hd : y.cls = Cn ∧ y.cls ≠ "java/lang/invoke/MethodHandle" ∧ y.cls ≠ "java/lang/invoke/VarHandle" ∧ (parseMethodDescriptor y.desc).map (fun d => d.parameters.length) = some nn) (hR : rm.frames + 1 ≤ R.frames ∧ 8 + (maxL + 11) + rm.locals ≤ R.locals) (hnn : As.length = nn) (N1 : Nat) (h1 : ws.length = N1) (hnd : va_nd ((List.range N1).map (fun i => 0 + i)) = true) (hci : vwCl[ci]? = some (Cn, T, N)) (hq : ws[0]? = some (b, .inr (ci, fs))) (hst : stk = As.reverse ++ .ref b :: st) (hsm : (st.map fun v => v.category).sum ≤ 8) (hf : k ≤ R.cells ∧ n ≤ R.slots) (hdg : decode cc pc = .ok (.invokevirtual index, 3))
    (K : ∀ (v : Option Value) (w' : va_W), post v w' → g_J p l e R s m args below meth c Q D A nL k n w' (pc + 3) lv (v.toList ++ st)) : g_J p l e R s m args below meth c Q D A nL k n ws pc lv stk := by
  have h := g_callX (wb := []) C hM hG hw hrc hrs hd hR hnn N1 h1 hnd hci hq hst hsm hf hdg (fun v w' h => by rw [List.append_nil]; exact K v w' h)
  rw [List.append_nil] at h
  exact h
theorem g_callSW {y : MethodName} {wsc wsc' : List Cond} {rm : Room} {bytes : ByteArray} {maxL index nn : Nat} {ret : Option FieldType} {As stk : List Value} {post : Option Value → va_W → Prop} (C : g_C p s m args meth c cc nL own Ts D cI cC A) (hM : g_M l y wsc rm D cI cC As ws post) (hG : GoodIn Ts (va_wsS own index y wsc)) (hw : wsc = Cond.code y bytes maxL ret :: wsc') (hrc : rm.cells = 0) (hrs : rm.slots = 0)
    (hd : y.cls ≠ "java/lang/invoke/MethodHandle" ∧ y.cls ≠ "java/lang/invoke/VarHandle" ∧ (parseMethodDescriptor y.desc).map (fun d => d.parameters.length) = some nn) (hR : rm.frames + 1 ≤ R.frames ∧ 8 + (maxL + 11) + rm.locals ≤ R.locals) (hnn : As.length = nn) (N1 : Nat) (h1 : ws.length = N1) (hnd : va_nd ((List.range N1).map (fun i => 0 + i)) = true) (hst : stk = As.reverse ++ st) (hsm : (st.map fun v => v.category).sum ≤ 8) (hf : k ≤ R.cells ∧ n ≤ R.slots) (hdg : decode cc pc = .ok (.invokestatic index, 3))
    (K : ∀ (v : Option Value) (w' : va_W), post v w' → g_J p l e R s m args below meth c Q D A nL k n w' (pc + 3) lv (v.toList ++ st)) : g_J p l e R s m args below meth c Q D A nL k n ws pc lv stk := by
  subst h1
  intro H locs ls hP hD hS hl
  subst hst
  have hC : ((List.range ws.length).map (fun i => 0 + i)).map (fun i => ws[i]?) = ws.map some := by
    have h := g_mid_at ws [] []
    rw [List.append_nil] at h
    exact h
  refine g_runM C _ hC hP hD hS hl (va_runS (As := As) (rest := st) C.1 (hM H.size) (va_cwS nn C.1.2.2.2.2 hG hw hrc hrs hd hR) ⟨g_blind, g_pre C _ hC hnd hP hD⟩ rfl hnn hl.1 rfl (lv_room hsm) hdg hf) (fun v w' h he => ?_)
  have hlen : w'.length = ws.length := by
    have := congrArg List.length he
    simpa using this
  have h2 := g_pb_mid ws w' [] [] hlen
  rw [List.append_nil, List.append_nil] at h2
  have h3 : g_pb ws ((List.range ws.length).map (fun i => 0 + i)) w' = w' := h2
  rw [h3]
  exact K v w' h
end GCALLX
