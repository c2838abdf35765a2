/-! rows of the constructors: new arrays are of the classes that the walk knows -/
theorem g_cls {D : va_G} {cI cC cA : ClassId} {U : State} (h : va_K D vwCl ([(cI, .int), (cC, .char)] ++ [(cA, .int)]) U) : cA = cI := by
  have h1 : va_RA U cI .int := (h.2 0 _ rfl).2
  have h2 : va_RA U cA .int := (h.2 2 _ rfl).2
  exact Option.some.inj ((show U.vm.findClass _ = some cA from h2).symm.trans (show U.vm.findClass _ = some cI from h1))
theorem g_clsC {D : va_G} {cI cC cA : ClassId} {U : State} (h : va_K D vwCl ([(cI, .int), (cC, .char)] ++ [(cA, .char)]) U) : cA = cC := by
  have h1 : va_RA U cC .char := (h.2 1 _ rfl).2
  have h2 : va_RA U cA .char := (h.2 2 _ rfl).2
  exact Option.some.inj ((show U.vm.findClass _ = some cA from h2).symm.trans (show U.vm.findClass _ = some cC from h1))
section GNEW
variable {p : Program} {l : Launch} {e : Env} {R : Room} {s : State} {m : MethodId} {args : Array Value} {below : List Frame} {meth : Method} {c : Code} {Q : State → Prop} {D : va_G} {A : Nat → Prop} {nL k n : Nat} {ws ws' : va_W} {pc : Nat} {lv lv' : List (Nat × Value)} {rest st st' : List Value}
variable {cc : ByteArray} {own : String} {Ts : List Cond} {cI cC : ClassId}
theorem g_newI (C : g_C p s m args meth c cc nL own Ts D cI cC A) (harr : Cond.arrayClass .int ∈ Ts) {z : Nat} (hz : z < 2 ^ 31) (hbytes : z * componentBytes .int ≤ 536870912) (hcells : k + 1 ≤ R.cells) (hslots : n + z ≤ R.slots) (hdg : decode cc pc = .ok (.newarray .int, 2))
    (K : ∀ q : Nat, g_J p l e R s m args below meth c Q D A nL (k + 1) (n + z) (ws ++ [(q, .inl (cI, z, .inl (fun _ => nI 0)))]) (pc + 2) lv (.ref q :: st)) : g_J p l e R s m args below meth c Q D A nL k n ws pc lv (.int (nI z) :: st) := by
  intro H locs ls hP hD hS hl
  refine va_newa (atype := .int) (ty := .int) (a0 := (z, .inl (fun _ => nI 0))) C.1.1 C.1.2.1 (C.1.2.2.2.2 _ harr) rfl C.2.1 hP hD hS C.2.2.2.1 (fun cA => rfl) (nI_pos hz) (nI_clamp hz) hbytes hcells hslots hdg ?_
  intro q cA H1 hK hP1 hD1 hS1
  have e := g_cls hK
  subst e
  exact K q H1 locs ls hP1 hD1 hS1 hl
theorem g_newC (C : g_C p s m args meth c cc nL own Ts D cI cC A) (harr : Cond.arrayClass .char ∈ Ts) {z : Nat} (hz : z < 2 ^ 31) (hbytes : z * componentBytes .char ≤ 536870912) (hcells : k + 1 ≤ R.cells) (hslots : n + z ≤ R.slots) (hdg : decode cc pc = .ok (.newarray .char, 2))
    (K : ∀ q : Nat, g_J p l e R s m args below meth c Q D A nL (k + 1) (n + z) (ws ++ [(q, .inl (cC, z, .inl (fun _ => nI 0)))]) (pc + 2) lv (.ref q :: st)) : g_J p l e R s m args below meth c Q D A nL k n ws pc lv (.int (nI z) :: st) := by
  intro H locs ls hP hD hS hl
  refine va_newa (atype := .char) (ty := .char) (a0 := (z, .inl (fun _ => nI 0))) C.1.1 C.1.2.1 (C.1.2.2.2.2 _ harr) rfl C.2.1 hP hD hS C.2.2.2.1 (fun cA => rfl) (nI_pos hz) (nI_clamp hz) hbytes hcells hslots hdg ?_
  intro q cA H1 hK hP1 hD1 hS1
  have e := g_clsC hK
  subst e
  exact K q H1 locs ls hP1 hD1 hS1 hl
theorem g_new (C : g_C p s m args meth c cc nL own Ts D cI cC A) {Cn : String} {T : u_T} {N ci index : Nat} (hin : ∀ w ∈ u_ws Cn T N, w ∈ Ts) (ty0 : Nat → FieldType) (hty : ∀ k, k < N → parseFieldDescriptor (T k).2.2.1 = some (ty0 k)) (hcl : Cond.classLink own index Cn ∈ Ts) (hinst : Cond.instantiable Cn N ∈ Ts) (hini : Cond.initialized Cn ∈ Ts) (hc : vwCl[ci]? = some (Cn, T, N)) (fs : List Value) (hfs : ∀ j, j < N → defaultValue (ty0 j) = vp_V fs j) (hcells : k + 1 ≤ R.cells) (hslots : n + N ≤ R.slots) (hdg : decode cc pc = .ok (.new index, 3))
    (K : ∀ q : Nat, g_J p l e R s m args below meth c Q D A nL (k + 1) (n + N) (ws ++ [(q, .inr (ci, fs))]) (pc + 3) lv (.ref q :: st)) : g_J p l e R s m args below meth c Q D A nL k n ws pc lv st := fun H locs ls hP hD hS hl =>
  va_new C.1.1 C.1.2.1 C.1.2.2.2.2 hin ty0 hty C.1.2.2.2.1 (C.1.2.2.2.2 _ hcl) (C.1.2.2.2.2 _ hinst) (C.1.2.2.2.2 _ hini) C.2.1 hP hD hS C.2.2.2.1 hc hfs hcells hslots hdg (fun q H1 hP1 hD1 hS1 => K q H1 locs ls hP1 hD1 hS1 hl)
theorem g_putF (C : g_C p s m args meth c cc nL own Ts D cI cC A) (hi : meth.name = "<init>") {ref Cn : String} {T : u_T} {N ci index a : Nat} (hin : ∀ w ∈ u_ws Cn T N, w ∈ Ts) (ty0 : Nat → FieldType) (hty : ∀ k, k < N → parseFieldDescriptor (T k).2.2.1 = some (ty0 k)) (hnm : ∀ a, a < N → ∀ b, b < N → a ≠ b → (T a).2.1 ≠ (T b).2.1) (q0 : Nat) {fs : List Value} (he : ws[q0]? = some (a, .inr (ci, fs))) (hc : vwCl[ci]? = some (Cn, T, N)) (f : Nat) (hf : f < N) (hlink : Cond.fieldLink own index ref (T f).2.1 (T f).2.2.1 ∈ Ts) (hsame : (T f).1 = ref) (hfin : (T f).2.2.2 = true) (hdecl : (T f).1 = own) {ty : FieldType} {v : Value} (hdd : parseFieldDescriptor (T f).2.2.1 = some ty) (hnr : narrow ty v = v) (hfit : fits ty v = true) (hlen : f < fs.length) (hd : decode cc pc = .ok (.putfield index, 3)) (hw : ws.set q0 (a, .inr (ci, fs.set f v)) = ws') (K : g_J p l e R s m args below meth c Q D A nL k n ws' (pc + 3) lv st) : g_J p l e R s m args below meth c Q D A nL k n ws pc lv (v :: .ref a :: st) := fun H locs ls hP hD hS hl => va_putF C.1.1 C.1.2.1 C.1.2.2.2.2 hin ty0 hty hnm C.1.2.2.2.1 C.2.1 hP hD hS q0 he hc f hf (C.1.2.2.2.2 _ hlink) (fun x h => by rw [← hsame]; exact h) hfin hi hdecl hdd hnr hfit hlen hd (fun H1 locs1 hP1 hD1 hS1 => K H1 locs1 ls (by rw [← hw]; exact hP1) (by rw [← hw]; exact hD1) hS1 hl)
end GNEW
/-- a constructor's end: its world has grown -/
def g_QI (D : va_G) (w : va_W) (A : Nat → Prop) (post : va_W → Prop) : Array Value → State → Outcome → State → Prop := fun _ st oc t => (∃ w' : va_W, oc = .returned none ∧ post w' ∧ va_P D vwCl w' t.heap ∧ va_D A w') ∧ va_F A st t
def g_MI (l : Launch) (y : MethodName) (ws : List Cond) (rm : Room) (mc ms : Nat) (D : va_G) (cI cC : ClassId) (av : List Value) (w : va_W) (post : va_W → Prop) : Prop := ∀ sz : Nat, Met l y ws rm (va_Pc av (g_PS D cI cC w sz)) (g_QI D w (va_A w sz) post) mc ms (va_A w sz)
theorem g_entryI {l : Launch} {y : MethodName} {ws ws' : List Cond} {rm : Room} {mc ms : Nat} {D : va_G} {cI cC : ClassId} {av : List Value} {w : va_W} {post : va_W → Prop} {cc : ByteArray} {maxL : Nat} {ret : Option FieldType} {own : String} {lv : List (Nat × Value)}
    (hy : plainName y.cls = true) (hn : y.name = "<init>") (ho : y.cls = own) (hw : ws = Cond.code y cc maxL ret :: ws') (hlen : (lg_sl av).length ≤ maxL) (hlv : lv_args 0 av = lv)
    (body : ∀ (p : Program) (e : Env) (s : State) (m : MethodId) (args : Array Value) (below : List Frame) (meth : Method) (c : Code) (A : Nat → Prop) (Q : State → Prop), g_C p s m args meth c cc maxL own ws D cI cC A → meth.sig.returnType = ret → meth.name = "<init>" → Q = MQ below (g_QI D w A post) args s mc ms A → g_J p l e rm s m args below meth c Q D A maxL 0 0 w 0 lv []) : g_MI l y ws rm mc ms D cI cC av w post := by
  intro sz
  refine Met.ofW (cc := cc) (maxL := maxL) (ret := ret) hy hw ?_
  intro p e s m args below meth c s₁ B hml hv
  obtain ⟨rfl, hsz, hP, hK, hN, hD0⟩ := hv
  have hts := atoms_spec (ws := ws) B.pre
  have hown : s.vm.findClass y.cls = some m.cls := findClass_of_methodNamed B.named
  have hin : meth.name = "<init>" := (name_of_methodNamed B.named B.method).1.trans hn
  subst hsz
  have hD := hD0.self (sz := s.heap.size)
  have hl := lv_entry av (n := maxL) hlen
  rw [lg_entry_eq]
  refine body p e s m _ below meth c (va_A w s.heap.size) _ ⟨⟨B.exec, B.bytes, hml, by rw [← ho]; exact hown, hts⟩, hK, hN, fun q h => Or.inr h, B.notSynchronized⟩ B.returns hin rfl s.heap [] _ hP hD va_S.rf ?_
  rw [← hlv]
  exact hl
section GRETI
variable {p : Program} {l : Launch} {e : Env} {R : Room} {s : State} {m : MethodId} {args : Array Value} {below : List Frame} {meth : Method} {c : Code} {Q : State → Prop} {D : va_G} {A : Nat → Prop} {nL k n : Nat} {ws : va_W} {pc : Nat} {lv : List (Nat × Value)}
variable {cc : ByteArray} {own : String} {Ts : List Cond} {cI cC : ClassId}
theorem g_vretI {w0 : va_W} {post : va_W → Prop} (C : g_C p s m args meth c cc nL own Ts D cI cC A) (hr : meth.sig.returnType = none) (hQ : Q = MQ below (g_QI D w0 A post) args s k n A) (hd : decode cc pc = .ok (.return_, 1)) (hp : post ws) : g_J p l e R s m args below meth c Q D A nL k n ws pc lv [] := by
  subst hQ
  exact fun H locs ls hP hD hS hl => W.vret C.1.1 C.1.2.1 hr (fun t ht hW => ⟨⟨ws, rfl, hp, by rw [ht]; exact hP, hD⟩, hS.F ht⟩) hS.2.2 hd (hlocks := C.2.2.2.2)
end GRETI
section GOBJ
variable {p : Program} {l : Launch} {e : Env} {R : Room} {s : State} {m : MethodId} {args : Array Value} {below : List Frame} {meth : Method} {c : Code} {Q : State → Prop} {D : va_G} {A : Nat → Prop} {nL k n : Nat} {ws : va_W} {pc : Nat} {lv : List (Nat × Value)} {st : List Value}
variable {cc : ByteArray} {own : String} {Ts : List Cond} {cI cC : ClassId}
theorem g_objI (C : g_C p s m args meth c cc nL own Ts D cI cC A) {idx a : Nat} (hlink : Cond.methodLink own idx objectInit ∈ Ts) (hinst : Cond.instanceMethod objectInit ∈ Ts) (hcode : Cond.code objectInit ⟨#[0xb1]⟩ 1 none ∈ Ts) (hd : decode cc pc = .ok (.invokespecial idx, 3)) (hframes : 1 ≤ R.frames) (hlocals : (st.map fun v => v.category).sum + 12 ≤ R.locals)
    (K : g_J p l e R s m args below meth c Q D A nL k n ws (pc + 3) lv st) : g_J p l e R s m args below meth c Q D A nL k n ws pc lv (.ref a :: st) := fun H locs ls hP hD hS hl =>
  W.objInit C.1.1 C.1.2.1 C.1.2.2.2.1 (C.1.2.2.2.2 _ hlink) (C.1.2.2.2.2 _ hinst) (C.1.2.2.2.2 _ hcode) rfl (hl.1.trans C.1.2.2.1.symm) rfl hd hframes (by show 2 * 0 + _ + 12 ≤ _; omega) (K H locs ls hP hD hS hl)
end GOBJ
section GCALLI
variable {p : Program} {l : Launch} {e : Env} {R : Room} {s : State} {m : MethodId} {args : Array Value} {below : List Frame} {meth : Method} {c : Code} {Q : State → Prop} {D : va_G} {A : Nat → Prop} {nL k n : Nat} {ws : va_W} {pc : Nat} {lv : List (Nat × Value)} {st : List Value}
variable {cc : ByteArray} {own : String} {Ts : List Cond} {cI cC : ClassId}
/-- the call of a constructor: the callee's world stands behind the rest, grown -/
theorem g_callI {y : MethodName} {wsc : List Cond} {rm : Room} {bytes : ByteArray} {maxL index nn mc ms b : Nat} {As stk : List Value} {wc wr : va_W} {post : va_W → Prop} (C : g_C p s m args meth c cc nL own Ts D cI cC A) (hM : g_MI l y wsc rm mc ms D cI cC (.ref b :: As) wc post) (cw : CallB R s args own index y bytes maxL none wsc rm mc ms nn ∧ y.name = "<init>" ∧ (Cond.instanceMethod y).before args s = true) (hnn : As.length = nn) (isC isR : List Nat) (hC : isC.map (fun i => ws[i]?) = wc.map some) (hR : isR.map (fun i => ws[i]?) = wr.map some) (hnd : va_nd isC = true) (hnr : va_nd isR = true) (hdis : ∀ i ∈ isR, i ∉ isC) (hst : stk = As.reverse ++ .ref b :: st) (hsm : (st.map fun v => v.category).sum ≤ 8) (hf : k + mc ≤ R.cells ∧ n + ms ≤ R.slots) (hdg : decode cc pc = .ok (.invokespecial index, 3))
    (K : ∀ w' : va_W, post w' → g_J p l e R s m args below meth c Q D A nL (k + mc) (n + ms) (wr ++ w') (pc + 3) lv st) : g_J p l e R s m args below meth c Q D A nL k n ws pc lv stk := by
  intro H locs ls hP hD hS hl
  subst hst
  have hFc := va_free (wc := wc) hD hS C.2.2.2.1 isC hC
  have run := va_runI (g := F0 m pc ls (As.reverse ++ .ref b :: st)) (As := As) (rest := st) (locs := locs) (below := below) (meth := meth) (cells := k) (slots := n) (e := e) C.1 (hM H.size) cw ⟨g_blind, g_pre C isC hC hnd hP hD⟩ rfl hnn hl.1 rfl (lv_room hsm) hdg hf
  intro T hT X
  obtain ⟨v, st₀, t, T', L, h0, X', hL, e1, e2, ⟨⟨w', hv, hp, hPw, hDw⟩, hz, hk⟩, stp⟩ := run T hT X
  cases hv
  rw [h0] at hz hk
  have hb := va_join (H1 := T'.heap) hP hD isC isR hC hR hnr hdis (fun q h1 h2 => by rw [e1]; exact hk q h1 h2) hFc (by rw [e1]; exact hPw) hDw
  obtain ⟨t2, a1, b1⟩ := K w' hp T'.heap (locs ++ L) ls hb.1 hb.2 ⟨Nat.le_trans hS.1 (by rw [e1]; exact hz), fun q h1 h2 => by rw [e1, hk q (Nat.lt_of_lt_of_le h1 hS.1) (fun z => h2 (hFc q z))]; exact hS.2.1 q h1 h2, fun q hq => by
      rcases List.mem_append.mp hq with h | h
      · exact hS.2.2 q h
      · exact hFc _ (hL q h)⟩ hl T' rfl X'
  exact ⟨t2, stp t2 a1, b1⟩
end GCALLI
theorem g_cwI {R : Room} {s : State} {args : Array Value} {own : String} {index : Nat} {y : MethodName} {bytes : ByteArray} {maxL mc ms : Nat} {Ts ws ws' : List Cond} {rm : Room} (n : Nat) (ht : ∀ w ∈ Ts, w.before args s = true) (hG : GoodIn Ts ws) (hw : ws = Cond.code y bytes maxL none :: ws') (hrc : rm.cells = mc) (hrs : rm.slots = ms) (hlk : Cond.methodLink own index y ∈ Ts) (hini : Cond.initialized y.cls ∈ Ts) (hinst : Cond.instanceMethod y ∈ Ts) (hn : y.name = "<init>")
    (hd : y.cls ≠ "java/lang/invoke/MethodHandle" ∧ y.cls ≠ "java/lang/invoke/VarHandle" ∧ (parseMethodDescriptor y.desc).map (fun d => d.parameters.length) = some n) (hR : rm.frames + 1 ≤ R.frames ∧ 8 + (maxL + 11) + rm.locals ≤ R.locals) :
    CallB R s args own index y bytes maxL none ws rm mc ms n ∧ y.name = "<init>" ∧ (Cond.instanceMethod y).before args s = true :=
  ⟨callB_of n ht hG hw hrc hrs (ht _ hini) (ht _ hlk) hd hR, hn, ht _ hinst⟩
