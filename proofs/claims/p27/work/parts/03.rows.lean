/-! a thin layer over the kit: a walk's goal says the world, the counter, the locals and the stack; heaps stay inside -/
/-- the nest mates' words that the tables have -/
def g_nw : List Cond := [
  .fieldLinkNest "FenceHandshakes$History" 24 "FenceHandshakes$Clans" "cells" "[I" "FenceHandshakes",
  .methodLinkNest "FenceHandshakes" 24 ⟨"FenceHandshakes$History", "<init>", "()V"⟩ "FenceHandshakes",
  .methodLinkNest "FenceHandshakes" 31 ⟨"FenceHandshakes$WishText", "<init>", "()V"⟩ "FenceHandshakes",
  .methodLinkNest "FenceHandshakes" 38 ⟨"FenceHandshakes$Matching", "<init>", "()V"⟩ "FenceHandshakes",
  .methodLinkNest "FenceHandshakes" 45 ⟨"FenceHandshakes$Plan", "<init>", "()V"⟩ "FenceHandshakes",
  .methodLinkNest "FenceHandshakes$Clans" 21 ⟨"FenceHandshakes", "hasBit", "(II)Z"⟩ "FenceHandshakes",
  .methodLinkNest "FenceHandshakes$Clans" 48 ⟨"FenceHandshakes", "asNumber", "(Z)I"⟩ "FenceHandshakes",
  .methodLinkNest "FenceHandshakes$Matching" 47 ⟨"FenceHandshakes", "hasBit", "(II)Z"⟩ "FenceHandshakes",
  .methodLinkNest "FenceHandshakes$Matching" 54 ⟨"FenceHandshakes", "isPerson", "(I)Z"⟩ "FenceHandshakes",
  .methodLinkNest "FenceHandshakes$Matching" 24 ⟨"FenceHandshakes", "asNumber", "(Z)I"⟩ "FenceHandshakes"]
theorem g_nw_form : ∀ w ∈ g_nw, (∃ a i b n d h, w = Cond.fieldLinkNest a i b n d h) ∨ (∃ a i x h, w = Cond.methodLinkNest a i x h) := by
  intro w hw
  simp only [g_nw, List.mem_cons, List.not_mem_nil, or_false] at hw
  rcases hw with rfl | rfl | rfl | rfl | rfl | rfl | rfl | rfl | rfl | rfl <;> first | exact Or.inl ⟨_, _, _, _, _, _, rfl⟩ | exact Or.inr ⟨_, _, _, _, rfl⟩
def g_N (U : State) : Prop := ∀ w ∈ g_nw, va_Nw w U
theorem g_N.warm {s U : State} (hW : s.WarmedH U.vm) (h : g_N s) : g_N U := by
  intro w hw
  have h1 := h w hw
  rcases g_nw_form w hw with ⟨a, i, b, n, d, hh, rfl⟩ | ⟨a, i, x, hh, rfl⟩
  · exact va_Nw.warmF hW h1
  · exact va_Nw.warmM hW h1
theorem g_N.same {u U : State} (e : u.vm = U.vm) (h : g_N u) : g_N U := by
  intro w hw
  have h1 := h w hw
  rcases g_nw_form w hw with ⟨a, i, b, n, d, hh, rfl⟩ | ⟨a, i, x, hh, rfl⟩
  · exact va_Nw.same rfl e h1
  · exact va_Nw.same rfl e h1
/-- cells put back at their places -/
def g_pb : va_W → List Nat → va_W → va_W
  | ws, i :: is, q :: qs => g_pb (ws.set i q) is qs
  | ws, [], _ => ws
  | ws, _, [] => ws
theorem g_pb_get : ∀ (is : List Nat) (ws qs : va_W) (k : Nat) (q : Nat × va_E), is.length = qs.length → (g_pb ws is qs)[k]? = some q → (∃ j : Nat, is[j]? = some k ∧ qs[j]? = some q) ∨ (k ∉ is ∧ ws[k]? = some q)
  | [], ws, [], k, q, _, h => Or.inr ⟨List.not_mem_nil, h⟩
  | [], ws, q0 :: qs, k, q, hl, h => by simp at hl
  | i :: is, ws, [], k, q, hl, h => by simp at hl
  | i :: is, ws, q0 :: qs, k, q, hl, h => by
    rcases g_pb_get is (ws.set i q0) qs k q (by simpa using hl) h with ⟨j, h1, h2⟩ | ⟨h1, h2⟩
    · exact Or.inl ⟨j + 1, by rw [List.getElem?_cons_succ]; exact h1, by rw [List.getElem?_cons_succ]; exact h2⟩
    · by_cases hk : i = k
      · subst hk
        have hlt : i < ws.length := by
          have := (List.getElem?_eq_some_iff.mp h2).1
          rwa [List.length_set] at this
        rw [List.getElem?_set_self hlt] at h2
        exact Or.inl ⟨0, rfl, by rw [List.getElem?_cons_zero]; exact h2⟩
      · rw [List.getElem?_set_ne hk] at h2
        exact Or.inr ⟨fun h => (List.mem_cons.mp h).elim (fun e => hk e.symm) h1, h2⟩
theorem g_setfst : ∀ (ws : va_W) (i : Nat) (q : Nat × va_E), (ws.map (·.1))[i]? = some q.1 → (ws.set i q).map (·.1) = ws.map (·.1)
  | [], i, q, h => by simp at h
  | w :: ws, 0, q, h => by
    simp only [List.map_cons, List.getElem?_cons_zero, Option.some.injEq] at h
    simp [h]
  | w :: ws, i + 1, q, h => by
    simp only [List.map_cons, List.getElem?_cons_succ] at h
    simp only [List.set_cons_succ, List.map_cons, g_setfst ws i q h]
theorem g_pb_fst : ∀ (is : List Nat) (ws qs : va_W), is.map (fun i => (ws.map (·.1))[i]?) = (qs.map (·.1)).map some → (g_pb ws is qs).map (·.1) = ws.map (·.1)
  | [], ws, [], _ => rfl
  | [], ws, q :: qs, h => by simp at h
  | i :: is, ws, [], h => by simp at h
  | i :: is, ws, q :: qs, h => by
    simp only [List.map_cons, List.cons.injEq] at h
    have e := g_setfst ws i q h.1
    show (g_pb (ws.set i q) is qs).map (·.1) = _
    rw [g_pb_fst is (ws.set i q) qs (by rw [e]; exact h.2), e]
theorem g_D_fst {A : Nat → Prop} {ws ws' : va_W} (e : ws'.map (·.1) = ws.map (·.1)) (h : va_D A ws) : va_D A ws' := by
  have key : ∀ (k : Nat) (q : Nat × va_E), ws'[k]? = some q → ∃ q0, ws[k]? = some q0 ∧ q0.1 = q.1 := by
    intro k q hk
    have h1 : (ws'.map (·.1))[k]? = some q.1 := by rw [List.getElem?_map, hk]; rfl
    rw [e, List.getElem?_map] at h1
    cases hq : ws[k]? with
    | none => rw [hq] at h1; cases h1
    | some q0 => rw [hq] at h1; exact ⟨q0, rfl, Option.some.inj h1⟩
  refine ⟨fun i j x y hi hj hxy => ?_, fun k q hk => ?_⟩
  · obtain ⟨x0, h1, h2⟩ := key i x hi
    obtain ⟨y0, h3, h4⟩ := key j y hj
    exact h.1 i j x0 y0 h1 h3 (h2.trans (hxy.trans h4.symm))
  · obtain ⟨q0, h1, h2⟩ := key k q hk
    rw [← h2]
    exact h.2 k q0 h1
theorem g_at {isC : List Nat} {ws wc : va_W} (hC : isC.map (fun i => ws[i]?) = wc.map some) {k : Nat} {q : Nat × va_E} (hk : wc[k]? = some q) : ∃ i, isC[k]? = some i ∧ ws[i]? = some q := by
  have h1 : (isC.map (fun i => ws[i]?))[k]? = some (some q) := by rw [hC, List.getElem?_map, hk]; rfl
  rw [List.getElem?_map] at h1
  cases hi : isC[k]? with
  | none => rw [hi] at h1; cases h1
  | some i => rw [hi] at h1; exact ⟨i, rfl, Option.some.inj h1⟩
theorem g_Psub {D : va_G} {cl : List vw_C} {isC : List Nat} {ws wc : va_W} {H : Heap} (hP : va_P D cl ws H) (hC : isC.map (fun i => ws[i]?) = wc.map some) : va_P D cl wc H := by
  intro k q hk
  obtain ⟨i, -, h2⟩ := g_at hC hk
  exact hP i q h2
theorem g_back {A0 : Nat → Prop} {D : va_G} {cl : List vw_C} {ws wc w1 : va_W} {H H1 : Heap} (hP : va_P D cl ws H) (hD : va_D A0 ws) (isC : List Nat) (hC : isC.map (fun i => ws[i]?) = wc.map some)
    (hk : ∀ q : Nat, q < H.size → ¬ va_A wc H.size q → H1[q]? = H[q]?) (hf : w1.map (·.1) = wc.map (·.1)) (hP1 : va_P D cl w1 H1) : va_P D cl (g_pb ws isC w1) H1 ∧ va_D A0 (g_pb ws isC w1) := by
  have hlen : isC.length = w1.length := by
    have h1 := congrArg List.length hC
    have h2 := congrArg List.length hf
    simp only [List.length_map] at h1 h2
    omega
  constructor
  · intro k q hq
    rcases g_pb_get isC ws w1 k q hlen hq with ⟨j, -, h2⟩ | ⟨h1, h2⟩
    · exact hP1 j q h2
    · have hl := (hP k q h2).lt
      refine (hP k q h2).kept (hk q.1 hl ?_)
      rintro (⟨k2, e, h⟩ | h)
      · obtain ⟨i, h3, h4⟩ := g_at hC h
        have hij := hD.1 k i q (q.1, e) h2 h4 rfl
        subst hij
        exact h1 (List.mem_of_getElem? h3)
      · omega
  · refine g_D_fst (g_pb_fst isC ws w1 ?_) hD
    rw [hf]
    have : isC.map (fun i => (ws.map (·.1))[i]?) = (isC.map (fun i => ws[i]?)).map (fun o => o.map (·.1)) := by
      rw [List.map_map]
      exact List.map_congr_left (fun i _ => by simp [List.getElem?_map])
    rw [this, hC]
    simp [List.map_map, Function.comp_def]
/-- a method's start -/
def g_PS (D : va_G) (cI cC : ClassId) (w : va_W) (sz : Nat) (U : State) : Prop := U.heap.size = sz ∧ va_P D vwCl w U.heap ∧ va_K D vwCl [(cI, .int), (cC, .char)] U ∧ g_N U ∧ va_D (fun _ => True) w
/-- a method's end: its answer and its world -/
def g_Q (D : va_G) (w : va_W) (A : Nat → Prop) (post : Option Value → va_W → Prop) : Array Value → State → Outcome → State → Prop := fun _ st oc t => (∃ (v : Option Value) (w' : va_W), oc = .returned v ∧ post v w' ∧ w'.map (·.1) = w.map (·.1) ∧ va_P D vwCl w' t.heap) ∧ va_F A st t
/-- a contract -/
def g_M (l : Launch) (y : MethodName) (ws : List Cond) (rm : Room) (D : va_G) (cI cC : ClassId) (av : List Value) (w : va_W) (post : Option Value → va_W → Prop) : Prop := ∀ sz : Nat, Met l y ws rm (va_Pc av (g_PS D cI cC w sz)) (g_Q D w (va_A w sz) post) 0 0 (va_A w sz)
theorem g_blind {D : va_G} {cI cC : ClassId} {av : List Value} {w : va_W} {sz : Nat} : FrameBlind (va_Pc av (g_PS D cI cC w sz)) := fun a U g mk q => ⟨q.1, q.2.1, q.2.2.1, va_K.moved (u := U) (U := U.calling g mk a) (Vm.Alike.refl U.vm) q.2.2.2.1, g_N.same (u := U) (U := U.calling g mk a) rfl q.2.2.2.2.1, q.2.2.2.2.2⟩
/-- what holds all through a walk -/
def g_C (p : Program) (s : State) (m : MethodId) (args : Array Value) (meth : Method) (c : Code) (cc : ByteArray) (nL : Nat) (own : String) (Ts : List Cond) (D : va_G) (cI cC : ClassId) (A : Nat → Prop) : Prop :=
  CallFix p m c cc nL s args Ts own ∧ va_K D vwCl [(cI, .int), (cC, .char)] s ∧ g_N s ∧ (∀ q : Nat, s.heap.size ≤ q → A q) ∧ meth.locks = false
/-- the walk's goal -/
def g_J (p : Program) (l : Launch) (e : Env) (R : Room) (s : State) (m : MethodId) (args : Array Value) (below : List Frame) (meth : Method) (c : Code) (Q : State → Prop) (D : va_G) (A : Nat → Prop) (nL k n : Nat) (ws : va_W) (pc : Nat) (lv : List (Nat × Value)) (st : List Value) : Prop :=
  ∀ (H : Heap) (locs : List Loc) (ls : Array Slot), va_P D vwCl ws H → va_D A ws → va_S A s.heap H locs → lv_has ls nL lv → W p l e R s m args below meth c H locs k n Q (F0 m pc ls st)
def bI (b : Bool) : Int32 := if b then 1 else 0
theorem bI_t : bI true = 1 := rfl
theorem bI_f : bI false = 0 := rfl
theorem bI_ne (b : Bool) : bI b = 0 ↔ b = false := by cases b <;> decide
theorem bI_eq (b : Bool) : bI b = 1 ↔ b = true := by cases b <;> decide
theorem bI_nI (b : Bool) : bI b = nI (if b then 1 else 0) := by cases b <;> rfl
theorem g_entry {l : Launch} {y : MethodName} {ws ws' : List Cond} {rm : Room} {D : va_G} {cI cC : ClassId} {av : List Value} {w : va_W} {post : Option Value → va_W → Prop} {cc : ByteArray} {maxL : Nat} {ret : Option FieldType} {own : String} {lv : List (Nat × Value)}
    (hy : plainName y.cls = true) (ho : y.cls = own) (hw : ws = Cond.code y cc maxL ret :: ws') (hlen : (lg_sl av).length ≤ maxL) (hlv : lv_args 0 av = lv)
    (body : ∀ (p : Program) (e : Env) (s : State) (m : MethodId) (args : Array Value) (below : List Frame) (meth : Method) (c : Code) (A : Nat → Prop) (Q : State → Prop), g_C p s m args meth c cc maxL own ws D cI cC A → meth.sig.returnType = ret → Q = MQ below (g_Q D w A post) args s 0 0 A → g_J p l e rm s m args below meth c Q D A maxL 0 0 w 0 lv []) : g_M l y ws rm D cI cC av w post := by
  intro sz
  refine Met.ofW (cc := cc) (maxL := maxL) (ret := ret) hy hw ?_
  intro p e s m args below meth c s₁ B hml hv
  obtain ⟨rfl, hsz, hP, hK, hN, hD0⟩ := hv
  have hts := atoms_spec (ws := ws) B.pre
  have hown : s.vm.findClass y.cls = some m.cls := findClass_of_methodNamed B.named
  subst hsz
  have hD := hD0.self (sz := s.heap.size)
  have hl := lv_entry av (n := maxL) hlen
  rw [lg_entry_eq]
  refine body p e s m _ below meth c (va_A w s.heap.size) _ ⟨⟨B.exec, B.bytes, hml, by rw [← ho]; exact hown, hts⟩, hK, hN, fun q h => Or.inr h, B.notSynchronized⟩ B.returns rfl s.heap [] _ hP hD va_S.rf ?_
  rw [← hlv]
  exact hl
/-! numbers -/
theorem g_and (a b : Nat) : nI a &&& nI b = nI (a &&& b) := by
  apply Int32.toBitVec_inj.mp
  show BitVec.ofNat 32 a &&& BitVec.ofNat 32 b = BitVec.ofNat 32 (a &&& b)
  exact (BitVec.ofNat_and).symm
theorem g_or (a b : Nat) : nI a ||| nI b = nI (a ||| b) := by
  apply Int32.toBitVec_inj.mp
  show BitVec.ofNat 32 a ||| BitVec.ofNat 32 b = BitVec.ofNat 32 (a ||| b)
  exact (BitVec.ofNat_or).symm
theorem g_xor (a b : Nat) : nI a ^^^ nI b = nI (a ^^^ b) := by
  apply Int32.toBitVec_inj.mp
  show BitVec.ofNat 32 a ^^^ BitVec.ofNat 32 b = BitVec.ofNat 32 (a ^^^ b)
  exact (BitVec.ofNat_xor).symm
def g_nand (x y : Nat) : Nat := x &&& (4294967295 ^^^ y)
theorem g_nand_eq (x y : Nat) : nI x &&& (nI y ^^^ (-1)) = nI (g_nand x y) := by
  have h : (-1 : Int32) = nI 4294967295 := by decide
  rw [h, g_xor, g_and, Nat.xor_comm]
  rfl
theorem g_nand_bit (x y i : Nat) (hi : i < 32) : (g_nand x y).testBit i = (x.testBit i && !y.testBit i) := by
  have h : (4294967295 : Nat).testBit i = true := by
    rw [show (4294967295 : Nat) = 2 ^ 32 - 1 by decide, Nat.testBit_two_pow_sub_one]
    exact decide_eq_true hi
  rw [g_nand, Nat.testBit_and, Nat.testBit_xor, h]
  cases y.testBit i <;> rfl
theorem g_sh31 : ∀ n, n < 32 → (nI n &&& 31) = nI n ∧ ((nI n &&& 31).toBitVec.smod 32).toNat = n := by decide
theorem g_shl (a : Nat) {n : Nat} (hn : n < 32) : nI a <<< (nI n &&& 31) = nI (a <<< n) := by
  apply Int32.toBitVec_inj.mp
  rw [Int32.toBitVec_shiftLeft]
  have h := (g_sh31 n hn).2
  rw [BitVec.shiftLeft_eq', h]
  show BitVec.ofNat 32 a <<< n = BitVec.ofNat 32 (a <<< n)
  apply BitVec.eq_of_toNat_eq
  rw [BitVec.toNat_shiftLeft, BitVec.toNat_ofNat, BitVec.toNat_ofNat, Nat.shiftLeft_eq, Nat.shiftLeft_eq, Nat.mod_mul_mod]
theorem g_shr {a : Nat} (ha : a < 2 ^ 31) {n : Nat} (hn : n < 32) : nI a >>> (nI n &&& 31) = nI (a >>> n) := by
  rw [pk_shrN ha _ n (g_sh31 n hn).2, Nat.shiftRight_eq_div_pow]
section GROWS
variable {p : Program} {l : Launch} {e : Env} {R : Room} {s : State} {m : MethodId} {args : Array Value} {below : List Frame} {meth : Method} {c : Code} {Q : State → Prop} {D : va_G} {A : Nat → Prop} {nL k n : Nat} {ws ws' : va_W} {pc : Nat} {lv lv' : List (Nat × Value)} {rest st st' : List Value}
variable {cc : ByteArray} {own : String} {Ts : List Cond} {cI cC : ClassId}
theorem g_eq (hw : ws = ws') (hs : st = st') (K : g_J p l e R s m args below meth c Q D A nL k n ws' pc lv st') : g_J p l e R s m args below meth c Q D A nL k n ws pc lv st := by subst hw; subst hs; exact K
theorem g_ws (hw : ws = ws') (K : g_J p l e R s m args below meth c Q D A nL k n ws' pc lv st) : g_J p l e R s m args below meth c Q D A nL k n ws pc lv st := by subst hw; exact K
theorem g_lvp (ks : List Nat) (hl : lv_pick lv ks = lv') (K : g_J p l e R s m args below meth c Q D A nL k n ws pc lv' st) : g_J p l e R s m args below meth c Q D A nL k n ws pc lv st := fun H locs ls hP hD hS hv => K H locs ls hP hD hS (lv_sub hv ks hl)
theorem g_top {x y : Int32} (h : x = y) (K : g_J p l e R s m args below meth c Q D A nL k n ws pc lv (.int y :: rest)) : g_J p l e R s m args below meth c Q D A nL k n ws pc lv (.int x :: rest) := by subst h; exact K
theorem g_name {x : Int32} (K : ∀ y : Int32, y = x → g_J p l e R s m args below meth c Q D A nL k n ws pc lv (.int y :: rest)) : g_J p l e R s m args below meth c Q D A nL k n ws pc lv (.int x :: rest) := K x rfl
theorem g_iconst (C : g_C p s m args meth c cc nL own Ts D cI cC A) {j : Int} {v : Int32} (hd : decode cc pc = .ok (.iconst j, 1)) (hv : Int32.ofInt j = v) (K : g_J p l e R s m args below meth c Q D A nL k n ws (pc + 1) lv (.int v :: st)) : g_J p l e R s m args below meth c Q D A nL k n ws pc lv st := fun H locs ls hP hD hS hl => lv_iconst C.1.1 C.1.2.1 hd hv (K H locs ls hP hD hS hl)
theorem g_bipush (C : g_C p s m args meth c cc nL own Ts D cI cC A) {j : Int} {v : Int32} (hd : decode cc pc = .ok (.bipush j, 2)) (hv : (Int8.ofInt j).toInt32 = v) (K : g_J p l e R s m args below meth c Q D A nL k n ws (pc + 2) lv (.int v :: st)) : g_J p l e R s m args below meth c Q D A nL k n ws pc lv st := fun H locs ls hP hD hS hl => lv_bipush C.1.1 C.1.2.1 hd hv (K H locs ls hP hD hS hl)
theorem g_sipush (C : g_C p s m args meth c cc nL own Ts D cI cC A) {j : Int} {v : Int32} (hd : decode cc pc = .ok (.sipush j, 3)) (hv : (Int16.ofInt j).toInt32 = v) (K : g_J p l e R s m args below meth c Q D A nL k n ws (pc + 3) lv (.int v :: st)) : g_J p l e R s m args below meth c Q D A nL k n ws pc lv st := fun H locs ls hP hD hS hl => lv_sipush C.1.1 C.1.2.1 hd hv (K H locs ls hP hD hS hl)
theorem g_ldcw (C : g_C p s m args meth c cc nL own Ts D cI cC A) {j : Nat} {v : Int32} (hd : decode cc pc = .ok (.ldc_w j, 3)) (hv : Jvm.Cond.constant own j v ∈ Ts) (K : g_J p l e R s m args below meth c Q D A nL k n ws (pc + 3) lv (.int v :: st)) : g_J p l e R s m args below meth c Q D A nL k n ws pc lv st := fun H locs ls hP hD hS hl => lv_ldcw C.1.1 C.1.2.1 C.1.2.2.2.1 (C.1.2.2.2.2 _ hv) hd (K H locs ls hP hD hS hl)
theorem g_iload_n (C : g_C p s m args meth c cc nL own Ts D cI cC A) {j : Fin 4} {i : Nat} {x : Int32} (hd : decode cc pc = .ok (.iload_n j, 1)) (q : Nat) (hj : (j : Nat) = i) (hq : lv[q]? = some (i, .int x)) (K : g_J p l e R s m args below meth c Q D A nL k n ws (pc + 1) lv (.int x :: st)) : g_J p l e R s m args below meth c Q D A nL k n ws pc lv st := fun H locs ls hP hD hS hl => lv_iload_n C.1.1 C.1.2.1 hd hj (lv_at hl q hq) (K H locs ls hP hD hS hl)
theorem g_iload (C : g_C p s m args meth c cc nL own Ts D cI cC A) {i : Nat} {x : Int32} (hd : decode cc pc = .ok (.iload i, 2)) (q : Nat) (hq : lv[q]? = some (i, .int x)) (K : g_J p l e R s m args below meth c Q D A nL k n ws (pc + 2) lv (.int x :: st)) : g_J p l e R s m args below meth c Q D A nL k n ws pc lv st := fun H locs ls hP hD hS hl => lv_iload C.1.1 C.1.2.1 hd (lv_at hl q hq) (K H locs ls hP hD hS hl)
theorem g_aload_n (C : g_C p s m args meth c cc nL own Ts D cI cC A) {j : Fin 4} {i : Nat} {x : Nat} (hd : decode cc pc = .ok (.aload_n j, 1)) (q : Nat) (hj : (j : Nat) = i) (hq : lv[q]? = some (i, .ref x)) (K : g_J p l e R s m args below meth c Q D A nL k n ws (pc + 1) lv (.ref x :: st)) : g_J p l e R s m args below meth c Q D A nL k n ws pc lv st := fun H locs ls hP hD hS hl => lv_aload_n C.1.1 C.1.2.1 hd hj (lv_at hl q hq) (K H locs ls hP hD hS hl)
theorem g_istore_n (C : g_C p s m args meth c cc nL own Ts D cI cC A) {j : Fin 4} {i : Nat} {x : Int32} (hd : decode cc pc = .ok (.istore_n j, 1)) (hj : (j : Nat) = i) (hn : i < nL) (hl0 : (i, Value.int x) :: lv.filter (fun q => !(q.1 == i) && !(q.1 + 1 == i && q.2.category == 2)) = lv') (K : g_J p l e R s m args below meth c Q D A nL k n ws (pc + 1) lv' st) : g_J p l e R s m args below meth c Q D A nL k n ws pc lv (.int x :: st) := fun H locs ls hP hD hS hl => lv_istore_n C.1.1 C.1.2.1 hd hj hl hn hl0 (fun ls' hl' => K H locs ls' hP hD hS hl')
theorem g_istore (C : g_C p s m args meth c cc nL own Ts D cI cC A) {i : Nat} {x : Int32} (hd : decode cc pc = .ok (.istore i, 2)) (hn : i < nL) (hl0 : (i, Value.int x) :: lv.filter (fun q => !(q.1 == i) && !(q.1 + 1 == i && q.2.category == 2)) = lv') (K : g_J p l e R s m args below meth c Q D A nL k n ws (pc + 2) lv' st) : g_J p l e R s m args below meth c Q D A nL k n ws pc lv (.int x :: st) := fun H locs ls hP hD hS hl => lv_istore C.1.1 C.1.2.1 hd hl hn hl0 (fun ls' hl' => K H locs ls' hP hD hS hl')
theorem g_astore_n (C : g_C p s m args meth c cc nL own Ts D cI cC A) {j : Fin 4} {i : Nat} {x : Nat} (hd : decode cc pc = .ok (.astore_n j, 1)) (hj : (j : Nat) = i) (hn : i < nL) (hl0 : (i, Value.ref x) :: lv.filter (fun q => !(q.1 == i) && !(q.1 + 1 == i && q.2.category == 2)) = lv') (K : g_J p l e R s m args below meth c Q D A nL k n ws (pc + 1) lv' st) : g_J p l e R s m args below meth c Q D A nL k n ws pc lv (.ref x :: st) := fun H locs ls hP hD hS hl => lv_astore_n C.1.1 C.1.2.1 hd hj hl hn hl0 (fun ls' hl' => K H locs ls' hP hD hS hl')
theorem g_iinc (C : g_C p s m args meth c cc nL own Ts D cI cC A) {i : Nat} {j : Int} {x v : Int32} (hd : decode cc pc = .ok (.iinc i j, 3)) (q : Nat) (hq : lv[q]? = some (i, .int x)) (hv : x + Int32.ofInt j = v) (hn : i < nL) (hl0 : (i, Value.int v) :: lv.filter (fun q => !(q.1 == i) && !(q.1 + 1 == i && q.2.category == 2)) = lv') (K : g_J p l e R s m args below meth c Q D A nL k n ws (pc + 3) lv' st) : g_J p l e R s m args below meth c Q D A nL k n ws pc lv st := fun H locs ls hP hD hS hl => lv_iinc C.1.1 C.1.2.1 hd hl hq hv hn hl0 (fun ls' hl' => K H locs ls' hP hD hS hl')
theorem g_iadd (C : g_C p s m args meth c cc nL own Ts D cI cC A) {x y : Int32} (hd : decode cc pc = .ok (.iadd, 1)) (K : g_J p l e R s m args below meth c Q D A nL k n ws (pc + 1) lv (.int (x + y) :: st)) : g_J p l e R s m args below meth c Q D A nL k n ws pc lv (.int y :: .int x :: st) := fun H locs ls hP hD hS hl => lv_iadd C.1.1 C.1.2.1 hd (K H locs ls hP hD hS hl)
theorem g_iaddN (C : g_C p s m args meth c cc nL own Ts D cI cC A) {x y : Nat} (hd : decode cc pc = .ok (.iadd, 1)) (K : g_J p l e R s m args below meth c Q D A nL k n ws (pc + 1) lv (.int (nI (x + y)) :: st)) : g_J p l e R s m args below meth c Q D A nL k n ws pc lv (.int (nI y) :: .int (nI x) :: st) := g_iadd C hd (g_top (nI_add x y) K)
theorem g_isub (C : g_C p s m args meth c cc nL own Ts D cI cC A) {x y : Int32} (hd : decode cc pc = .ok (.isub, 1)) (K : g_J p l e R s m args below meth c Q D A nL k n ws (pc + 1) lv (.int (x - y) :: st)) : g_J p l e R s m args below meth c Q D A nL k n ws pc lv (.int y :: .int x :: st) := fun H locs ls hP hD hS hl => lv_isub C.1.1 C.1.2.1 hd (K H locs ls hP hD hS hl)
theorem g_isubN (C : g_C p s m args meth c cc nL own Ts D cI cC A) {x y : Nat} (hd : decode cc pc = .ok (.isub, 1)) (h : y ≤ x) (K : g_J p l e R s m args below meth c Q D A nL k n ws (pc + 1) lv (.int (nI (x - y)) :: st)) : g_J p l e R s m args below meth c Q D A nL k n ws pc lv (.int (nI y) :: .int (nI x) :: st) := g_isub C hd (g_top (pk_sub h) K)
theorem g_imul (C : g_C p s m args meth c cc nL own Ts D cI cC A) {x y : Int32} (hd : decode cc pc = .ok (.imul, 1)) (K : g_J p l e R s m args below meth c Q D A nL k n ws (pc + 1) lv (.int (x * y) :: st)) : g_J p l e R s m args below meth c Q D A nL k n ws pc lv (.int y :: .int x :: st) := fun H locs ls hP hD hS hl => lv_imul C.1.1 C.1.2.1 hd (K H locs ls hP hD hS hl)
theorem g_imulN (C : g_C p s m args meth c cc nL own Ts D cI cC A) {x y : Nat} (hd : decode cc pc = .ok (.imul, 1)) (K : g_J p l e R s m args below meth c Q D A nL k n ws (pc + 1) lv (.int (nI (x * y)) :: st)) : g_J p l e R s m args below meth c Q D A nL k n ws pc lv (.int (nI y) :: .int (nI x) :: st) := g_imul C hd (g_top (pk_mul x y) K)
theorem g_idivN (C : g_C p s m args meth c cc nL own Ts D cI cC A) {x y : Nat} (hd : decode cc pc = .ok (.idiv, 1)) (hx : x < 2 ^ 31) (h0 : 0 < y) (hy : y < 2 ^ 31) (K : g_J p l e R s m args below meth c Q D A nL k n ws (pc + 1) lv (.int (nI (x / y)) :: st)) : g_J p l e R s m args below meth c Q D A nL k n ws pc lv (.int (nI y) :: .int (nI x) :: st) := fun H locs ls hP hD hS hl => lv_idiv C.1.1 C.1.2.1 hd (nI_ne0 h0 hy) (by rw [pk_div hx h0 hy]; exact K H locs ls hP hD hS hl)
theorem g_irem0 (C : g_C p s m args meth c cc nL own Ts D cI cC A) {x y : Int32} (hd : decode cc pc = .ok (.irem, 1)) (hne : ¬ y = 0) (K : g_J p l e R s m args below meth c Q D A nL k n ws (pc + 1) lv (.int (x - x / y * y) :: st)) : g_J p l e R s m args below meth c Q D A nL k n ws pc lv (.int y :: .int x :: st) := fun H locs ls hP hD hS hl => lv_irem C.1.1 C.1.2.1 hd hne (K H locs ls hP hD hS hl)
theorem g_iremN (C : g_C p s m args meth c cc nL own Ts D cI cC A) {x y : Nat} (hd : decode cc pc = .ok (.irem, 1)) (hx : x < 2 ^ 31) (h0 : 0 < y) (hy : y < 2 ^ 31) (K : g_J p l e R s m args below meth c Q D A nL k n ws (pc + 1) lv (.int (nI (x % y)) :: st)) : g_J p l e R s m args below meth c Q D A nL k n ws pc lv (.int (nI y) :: .int (nI x) :: st) := g_irem0 C hd (nI_ne0 h0 hy) (g_top (pk_rem hx h0 hy) K)
theorem g_iand (C : g_C p s m args meth c cc nL own Ts D cI cC A) {x y : Int32} (hd : decode cc pc = .ok (.iand, 1)) (K : g_J p l e R s m args below meth c Q D A nL k n ws (pc + 1) lv (.int (x &&& y) :: st)) : g_J p l e R s m args below meth c Q D A nL k n ws pc lv (.int y :: .int x :: st) := fun H locs ls hP hD hS hl => lv_iand C.1.1 C.1.2.1 hd (K H locs ls hP hD hS hl)
theorem g_ior (C : g_C p s m args meth c cc nL own Ts D cI cC A) {x y : Int32} (hd : decode cc pc = .ok (.ior, 1)) (K : g_J p l e R s m args below meth c Q D A nL k n ws (pc + 1) lv (.int (x ||| y) :: st)) : g_J p l e R s m args below meth c Q D A nL k n ws pc lv (.int y :: .int x :: st) := fun H locs ls hP hD hS hl => lv_ior C.1.1 C.1.2.1 hd (K H locs ls hP hD hS hl)
theorem g_ixor (C : g_C p s m args meth c cc nL own Ts D cI cC A) {x y : Int32} (hd : decode cc pc = .ok (.ixor, 1)) (K : g_J p l e R s m args below meth c Q D A nL k n ws (pc + 1) lv (.int (x ^^^ y) :: st)) : g_J p l e R s m args below meth c Q D A nL k n ws pc lv (.int y :: .int x :: st) := fun H locs ls hP hD hS hl => lv_ixor C.1.1 C.1.2.1 hd (K H locs ls hP hD hS hl)
theorem g_ishl (C : g_C p s m args meth c cc nL own Ts D cI cC A) {x y : Int32} (hd : decode cc pc = .ok (.ishl, 1)) (K : g_J p l e R s m args below meth c Q D A nL k n ws (pc + 1) lv (.int (x <<< (y &&& 31)) :: st)) : g_J p l e R s m args below meth c Q D A nL k n ws pc lv (.int y :: .int x :: st) := fun H locs ls hP hD hS hl => lv_ishl C.1.1 C.1.2.1 hd (K H locs ls hP hD hS hl)
theorem g_ishr (C : g_C p s m args meth c cc nL own Ts D cI cC A) {x y : Int32} (hd : decode cc pc = .ok (.ishr, 1)) (K : g_J p l e R s m args below meth c Q D A nL k n ws (pc + 1) lv (.int (x >>> (y &&& 31)) :: st)) : g_J p l e R s m args below meth c Q D A nL k n ws pc lv (.int y :: .int x :: st) := fun H locs ls hP hD hS hl => lv_ishr C.1.1 C.1.2.1 hd (K H locs ls hP hD hS hl)
theorem g_iushr (C : g_C p s m args meth c cc nL own Ts D cI cC A) {x y v : Int32} (hd : decode cc pc = .ok (.iushr, 1)) (hv : (x.toUInt32 >>> (y.toUInt32 &&& Int32.toUInt32 31)).toInt32 = v) (K : g_J p l e R s m args below meth c Q D A nL k n ws (pc + 1) lv (.int v :: st)) : g_J p l e R s m args below meth c Q D A nL k n ws pc lv (.int y :: .int x :: st) := fun H locs ls hP hD hS hl => lv_iushr C.1.1 C.1.2.1 hd hv (K H locs ls hP hD hS hl)
theorem g_i2c (C : g_C p s m args meth c cc nL own Ts D cI cC A) {x v : Int32} (hd : decode cc pc = .ok (.i2c, 1)) (hv : (x.toUInt32 % 65536).toInt32 = v) (K : g_J p l e R s m args below meth c Q D A nL k n ws (pc + 1) lv (.int v :: st)) : g_J p l e R s m args below meth c Q D A nL k n ws pc lv (.int x :: st) := fun H locs ls hP hD hS hl => lv_i2c C.1.1 C.1.2.1 hd hv (K H locs ls hP hD hS hl)
theorem g_dup (C : g_C p s m args meth c cc nL own Ts D cI cC A) {v : Value} (hd : decode cc pc = .ok (.dup, 1)) (hv : v.category = 1) (K : g_J p l e R s m args below meth c Q D A nL k n ws (pc + 1) lv (v :: v :: st)) : g_J p l e R s m args below meth c Q D A nL k n ws pc lv (v :: st) := fun H locs ls hP hD hS hl => lv_dup C.1.1 C.1.2.1 hd hv (K H locs ls hP hD hS hl)
theorem g_dup2 (C : g_C p s m args meth c cc nL own Ts D cI cC A) {v w : Value} (hd : decode cc pc = .ok (.dup2, 1)) (hv : v.category = 1) (hw : w.category = 1) (K : g_J p l e R s m args below meth c Q D A nL k n ws (pc + 1) lv (v :: w :: v :: w :: st)) : g_J p l e R s m args below meth c Q D A nL k n ws pc lv (v :: w :: st) := fun H locs ls hP hD hS hl => lv_dup2_11 C.1.1 C.1.2.1 hd hv hw (K H locs ls hP hD hS hl)
theorem g_pop (C : g_C p s m args meth c cc nL own Ts D cI cC A) {v : Value} (hd : decode cc pc = .ok (.pop, 1)) (hv : v.category = 1) (K : g_J p l e R s m args below meth c Q D A nL k n ws (pc + 1) lv st) : g_J p l e R s m args below meth c Q D A nL k n ws pc lv (v :: st) := fun H locs ls hP hD hS hl => lv_pop C.1.1 C.1.2.1 hd hv (K H locs ls hP hD hS hl)
theorem g_goto (C : g_C p s m args meth c cc nL own Ts D cI cC A) {off : Int} (tgt : Nat) (hd : decode cc pc = .ok (.goto off, 3)) (ht : (pc : Int) + off = (tgt : Int)) (K : g_J p l e R s m args below meth c Q D A nL k n ws tgt lv st) : g_J p l e R s m args below meth c Q D A nL k n ws pc lv st := fun H locs ls hP hD hS hl => lv_goto C.1.1 C.1.2.1 hd ht (K H locs ls hP hD hS hl)
theorem g_icmp_eq (C : g_C p s m args meth c cc nL own Ts D cI cC A) {x y : Int32} {off : Int} (tgt : Nat) (hd : decode cc pc = .ok (.if_icmp .eq off, 3)) (ht : (pc : Int) + off = (tgt : Int)) (K1 : x = y → g_J p l e R s m args below meth c Q D A nL k n ws (tgt) lv (st)) (K2 : ¬ (x = y) → g_J p l e R s m args below meth c Q D A nL k n ws (pc + 3) lv (st)) : g_J p l e R s m args below meth c Q D A nL k n ws (pc) lv (.int y :: .int x :: st) := fun H locs ls hP hD hS hl => lv_icmp_eq C.1.1 C.1.2.1 hd ht (fun h => K1 h H locs ls hP hD hS hl) (fun h => K2 h H locs ls hP hD hS hl)
theorem g_if_eq (C : g_C p s m args meth c cc nL own Ts D cI cC A) {x : Int32} {off : Int} (tgt : Nat) (hd : decode cc pc = .ok (.ifCond .eq off, 3)) (ht : (pc : Int) + off = (tgt : Int)) (K1 : x = 0 → g_J p l e R s m args below meth c Q D A nL k n ws (tgt) lv (st)) (K2 : ¬ (x = 0) → g_J p l e R s m args below meth c Q D A nL k n ws (pc + 3) lv (st)) : g_J p l e R s m args below meth c Q D A nL k n ws (pc) lv (.int x :: st) := fun H locs ls hP hD hS hl => lv_if_eq C.1.1 C.1.2.1 hd ht (fun h => K1 h H locs ls hP hD hS hl) (fun h => K2 h H locs ls hP hD hS hl)
theorem g_icmp_ne (C : g_C p s m args meth c cc nL own Ts D cI cC A) {x y : Int32} {off : Int} (tgt : Nat) (hd : decode cc pc = .ok (.if_icmp .ne off, 3)) (ht : (pc : Int) + off = (tgt : Int)) (K1 : ¬ x = y → g_J p l e R s m args below meth c Q D A nL k n ws (tgt) lv (st)) (K2 : x = y → g_J p l e R s m args below meth c Q D A nL k n ws (pc + 3) lv (st)) : g_J p l e R s m args below meth c Q D A nL k n ws (pc) lv (.int y :: .int x :: st) := fun H locs ls hP hD hS hl => lv_icmp_ne C.1.1 C.1.2.1 hd ht (fun h => K1 h H locs ls hP hD hS hl) (fun h => K2 h H locs ls hP hD hS hl)
theorem g_if_ne (C : g_C p s m args meth c cc nL own Ts D cI cC A) {x : Int32} {off : Int} (tgt : Nat) (hd : decode cc pc = .ok (.ifCond .ne off, 3)) (ht : (pc : Int) + off = (tgt : Int)) (K1 : ¬ x = 0 → g_J p l e R s m args below meth c Q D A nL k n ws (tgt) lv (st)) (K2 : x = 0 → g_J p l e R s m args below meth c Q D A nL k n ws (pc + 3) lv (st)) : g_J p l e R s m args below meth c Q D A nL k n ws (pc) lv (.int x :: st) := fun H locs ls hP hD hS hl => lv_if_ne C.1.1 C.1.2.1 hd ht (fun h => K1 h H locs ls hP hD hS hl) (fun h => K2 h H locs ls hP hD hS hl)
theorem g_icmp_lt (C : g_C p s m args meth c cc nL own Ts D cI cC A) {x y : Int32} {off : Int} (tgt : Nat) (hd : decode cc pc = .ok (.if_icmp .lt off, 3)) (ht : (pc : Int) + off = (tgt : Int)) (K1 : x < y → g_J p l e R s m args below meth c Q D A nL k n ws (tgt) lv (st)) (K2 : ¬ (x < y) → g_J p l e R s m args below meth c Q D A nL k n ws (pc + 3) lv (st)) : g_J p l e R s m args below meth c Q D A nL k n ws (pc) lv (.int y :: .int x :: st) := fun H locs ls hP hD hS hl => lv_icmp_lt C.1.1 C.1.2.1 hd ht (fun h => K1 h H locs ls hP hD hS hl) (fun h => K2 h H locs ls hP hD hS hl)
theorem g_if_lt (C : g_C p s m args meth c cc nL own Ts D cI cC A) {x : Int32} {off : Int} (tgt : Nat) (hd : decode cc pc = .ok (.ifCond .lt off, 3)) (ht : (pc : Int) + off = (tgt : Int)) (K1 : x < 0 → g_J p l e R s m args below meth c Q D A nL k n ws (tgt) lv (st)) (K2 : ¬ (x < 0) → g_J p l e R s m args below meth c Q D A nL k n ws (pc + 3) lv (st)) : g_J p l e R s m args below meth c Q D A nL k n ws (pc) lv (.int x :: st) := fun H locs ls hP hD hS hl => lv_if_lt C.1.1 C.1.2.1 hd ht (fun h => K1 h H locs ls hP hD hS hl) (fun h => K2 h H locs ls hP hD hS hl)
theorem g_icmp_ge (C : g_C p s m args meth c cc nL own Ts D cI cC A) {x y : Int32} {off : Int} (tgt : Nat) (hd : decode cc pc = .ok (.if_icmp .ge off, 3)) (ht : (pc : Int) + off = (tgt : Int)) (K1 : y ≤ x → g_J p l e R s m args below meth c Q D A nL k n ws (tgt) lv (st)) (K2 : ¬ (y ≤ x) → g_J p l e R s m args below meth c Q D A nL k n ws (pc + 3) lv (st)) : g_J p l e R s m args below meth c Q D A nL k n ws (pc) lv (.int y :: .int x :: st) := fun H locs ls hP hD hS hl => lv_icmp_ge C.1.1 C.1.2.1 hd ht (fun h => K1 h H locs ls hP hD hS hl) (fun h => K2 h H locs ls hP hD hS hl)
theorem g_if_ge (C : g_C p s m args meth c cc nL own Ts D cI cC A) {x : Int32} {off : Int} (tgt : Nat) (hd : decode cc pc = .ok (.ifCond .ge off, 3)) (ht : (pc : Int) + off = (tgt : Int)) (K1 : 0 ≤ x → g_J p l e R s m args below meth c Q D A nL k n ws (tgt) lv (st)) (K2 : ¬ (0 ≤ x) → g_J p l e R s m args below meth c Q D A nL k n ws (pc + 3) lv (st)) : g_J p l e R s m args below meth c Q D A nL k n ws (pc) lv (.int x :: st) := fun H locs ls hP hD hS hl => lv_if_ge C.1.1 C.1.2.1 hd ht (fun h => K1 h H locs ls hP hD hS hl) (fun h => K2 h H locs ls hP hD hS hl)
theorem g_icmp_gt (C : g_C p s m args meth c cc nL own Ts D cI cC A) {x y : Int32} {off : Int} (tgt : Nat) (hd : decode cc pc = .ok (.if_icmp .gt off, 3)) (ht : (pc : Int) + off = (tgt : Int)) (K1 : y < x → g_J p l e R s m args below meth c Q D A nL k n ws (tgt) lv (st)) (K2 : ¬ (y < x) → g_J p l e R s m args below meth c Q D A nL k n ws (pc + 3) lv (st)) : g_J p l e R s m args below meth c Q D A nL k n ws (pc) lv (.int y :: .int x :: st) := fun H locs ls hP hD hS hl => lv_icmp_gt C.1.1 C.1.2.1 hd ht (fun h => K1 h H locs ls hP hD hS hl) (fun h => K2 h H locs ls hP hD hS hl)
theorem g_if_gt (C : g_C p s m args meth c cc nL own Ts D cI cC A) {x : Int32} {off : Int} (tgt : Nat) (hd : decode cc pc = .ok (.ifCond .gt off, 3)) (ht : (pc : Int) + off = (tgt : Int)) (K1 : 0 < x → g_J p l e R s m args below meth c Q D A nL k n ws (tgt) lv (st)) (K2 : ¬ (0 < x) → g_J p l e R s m args below meth c Q D A nL k n ws (pc + 3) lv (st)) : g_J p l e R s m args below meth c Q D A nL k n ws (pc) lv (.int x :: st) := fun H locs ls hP hD hS hl => lv_if_gt C.1.1 C.1.2.1 hd ht (fun h => K1 h H locs ls hP hD hS hl) (fun h => K2 h H locs ls hP hD hS hl)
theorem g_icmp_le (C : g_C p s m args meth c cc nL own Ts D cI cC A) {x y : Int32} {off : Int} (tgt : Nat) (hd : decode cc pc = .ok (.if_icmp .le off, 3)) (ht : (pc : Int) + off = (tgt : Int)) (K1 : x ≤ y → g_J p l e R s m args below meth c Q D A nL k n ws (tgt) lv (st)) (K2 : ¬ (x ≤ y) → g_J p l e R s m args below meth c Q D A nL k n ws (pc + 3) lv (st)) : g_J p l e R s m args below meth c Q D A nL k n ws (pc) lv (.int y :: .int x :: st) := fun H locs ls hP hD hS hl => lv_icmp_le C.1.1 C.1.2.1 hd ht (fun h => K1 h H locs ls hP hD hS hl) (fun h => K2 h H locs ls hP hD hS hl)
theorem g_if_le (C : g_C p s m args meth c cc nL own Ts D cI cC A) {x : Int32} {off : Int} (tgt : Nat) (hd : decode cc pc = .ok (.ifCond .le off, 3)) (ht : (pc : Int) + off = (tgt : Int)) (K1 : x ≤ 0 → g_J p l e R s m args below meth c Q D A nL k n ws (tgt) lv (st)) (K2 : ¬ (x ≤ 0) → g_J p l e R s m args below meth c Q D A nL k n ws (pc + 3) lv (st)) : g_J p l e R s m args below meth c Q D A nL k n ws (pc) lv (.int x :: st) := fun H locs ls hP hD hS hl => lv_if_le C.1.1 C.1.2.1 hd ht (fun h => K1 h H locs ls hP hD hS hl) (fun h => K2 h H locs ls hP hD hS hl)
theorem g_tabIn (C : g_C p s m args meth c cc nL own Ts D cI cC A) {dflt lo hi : Int} {offs : Array Int} {len : Nat} {x : Int32} {off : Int} (tgt : Nat) (hd : decode cc pc = .ok (.tableswitch dflt lo hi offs, len)) (h1 : ¬ x.toInt < lo) (h2 : ¬ hi < x.toInt) (ho : offs[(x.toInt - lo).toNat]? = some off) (ht : (pc : Int) + off = (tgt : Int)) (K : g_J p l e R s m args below meth c Q D A nL k n ws tgt lv st) : g_J p l e R s m args below meth c Q D A nL k n ws pc lv (.int x :: st) := fun H locs ls hP hD hS hl => lv_tableIn C.1.1 C.1.2.1 hd h1 h2 ho ht (K H locs ls hP hD hS hl)
theorem g_tabOut (C : g_C p s m args meth c cc nL own Ts D cI cC A) {dflt lo hi : Int} {offs : Array Int} {len : Nat} {x : Int32} (tgt : Nat) (hd : decode cc pc = .ok (.tableswitch dflt lo hi offs, len)) (h : x.toInt < lo ∨ hi < x.toInt) (ht : (pc : Int) + dflt = (tgt : Int)) (K : g_J p l e R s m args below meth c Q D A nL k n ws tgt lv st) : g_J p l e R s m args below meth c Q D A nL k n ws pc lv (.int x :: st) := fun H locs ls hP hD hS hl => lv_tableOut C.1.1 C.1.2.1 hd h ht (K H locs ls hP hD hS hl)
theorem g_get (C : g_C p s m args meth c cc nL own Ts D cI cC A) {ref Cn : String} {T : u_T} {N ci index a : Nat} (hin : ∀ w ∈ u_ws Cn T N, w ∈ Ts) (q0 : Nat) {fs : List Value} (he : ws[q0]? = some (a, .inr (ci, fs))) (hc : vwCl[ci]? = some (Cn, T, N)) (f : Nat) (hf : f < N) (hlink : Cond.fieldLink own index ref (T f).2.1 (T f).2.2.1 ∈ Ts) (hsame : (T f).1 = ref) {v : Value} (hv : fs[f]? = some v) (hd : decode cc pc = .ok (.getfield index, 3)) (K : g_J p l e R s m args below meth c Q D A nL k n ws (pc + 3) lv (v :: st)) : g_J p l e R s m args below meth c Q D A nL k n ws pc lv (.ref a :: st) := fun H locs ls hP hD hS hl => va_get C.1.1 C.1.2.1 C.1.2.2.2.2 hin C.1.2.2.2.1 C.2.1 hP q0 he hc f hf (C.1.2.2.2.2 _ hlink) (fun x h => by rw [← hsame]; exact h) hv hd (K H locs ls hP hD hS hl)
theorem g_getN (C : g_C p s m args meth c cc nL own Ts D cI cC A) {ref Cn host : String} {T : u_T} {N ci index a : Nat} (hin : ∀ w ∈ u_ws Cn T N, w ∈ Ts) (q0 : Nat) {fs : List Value} (he : ws[q0]? = some (a, .inr (ci, fs))) (hc : vwCl[ci]? = some (Cn, T, N)) (f : Nat) (hf : f < N) (hlink : Cond.fieldLinkNest own index ref (T f).2.1 (T f).2.2.1 host ∈ g_nw) (hsame : (T f).1 = ref) {v : Value} (hv : fs[f]? = some v) (hd : decode cc pc = .ok (.getfield index, 3)) (K : g_J p l e R s m args below meth c Q D A nL k n ws (pc + 3) lv (v :: st)) : g_J p l e R s m args below meth c Q D A nL k n ws pc lv (.ref a :: st) := fun H locs ls hP hD hS hl => va_getN C.1.1 C.1.2.1 C.1.2.2.2.2 hin C.1.2.2.2.1 C.2.1 hP q0 he hc f hf (va_Nw.use rfl (C.2.2.1 _ hlink)) (fun x h => by rw [← hsame]; exact h) hv hd (K H locs ls hP hD hS hl)
theorem g_put (C : g_C p s m args meth c cc nL own Ts D cI cC A) {ref Cn : String} {T : u_T} {N ci index a : Nat} (hin : ∀ w ∈ u_ws Cn T N, w ∈ Ts) (ty0 : Nat → FieldType) (hty : ∀ k, k < N → parseFieldDescriptor (T k).2.2.1 = some (ty0 k)) (hnm : ∀ a, a < N → ∀ b, b < N → a ≠ b → (T a).2.1 ≠ (T b).2.1) (q0 : Nat) {fs : List Value} (he : ws[q0]? = some (a, .inr (ci, fs))) (hc : vwCl[ci]? = some (Cn, T, N)) (f : Nat) (hf : f < N) (hlink : Cond.fieldLink own index ref (T f).2.1 (T f).2.2.1 ∈ Ts) (hsame : (T f).1 = ref) (hfin : (T f).2.2.2 = false) {ty : FieldType} {v : Value} (hdd : parseFieldDescriptor (T f).2.2.1 = some ty) (hnr : narrow ty v = v) (hfit : fits ty v = true) (hlen : f < fs.length) (hd : decode cc pc = .ok (.putfield index, 3)) (hw : ws.set q0 (a, .inr (ci, fs.set f v)) = ws') (K : g_J p l e R s m args below meth c Q D A nL k n ws' (pc + 3) lv st) : g_J p l e R s m args below meth c Q D A nL k n ws pc lv (v :: .ref a :: st) := fun H locs ls hP hD hS hl => va_put C.1.1 C.1.2.1 C.1.2.2.2.2 hin ty0 hty hnm C.1.2.2.2.1 C.2.1 hP hD hS q0 he hc f hf (C.1.2.2.2.2 _ hlink) (fun x h => by rw [← hsame]; exact h) hfin hdd hnr hfit hlen hd (fun H1 locs1 hP1 hD1 hS1 => K H1 locs1 ls (by rw [← hw]; exact hP1) (by rw [← hw]; exact hD1) hS1 hl)
theorem g_iald (C : g_C p s m args meth c cc nL own Ts D cI cC A) {a z : Nat} {f : Nat → Int32} (q0 : Nat) (ha : ws[q0]? = some (a, .inl (cI, z, .inl f))) {i : Int32} (hi : vp_in i z) (hd : decode cc pc = .ok (.iaload, 1)) (K : g_J p l e R s m args below meth c Q D A nL k n ws (pc + 1) lv (.int (f i.toNatClampNeg) :: st)) : g_J p l e R s m args below meth c Q D A nL k n ws pc lv (.int i :: .ref a :: st) := fun H locs ls hP hD hS hl => va_iald C.1.1 C.1.2.1 C.2.1 hP q0 0 ha rfl hi hd (K H locs ls hP hD hS hl)
theorem g_ialdN (C : g_C p s m args meth c cc nL own Ts D cI cC A) {a z i : Nat} {f : Nat → Int32} (q0 : Nat) (ha : ws[q0]? = some (a, .inl (cI, z, .inl f))) (hi : i < z) (hz : z < 2 ^ 31) (hd : decode cc pc = .ok (.iaload, 1)) (K : g_J p l e R s m args below meth c Q D A nL k n ws (pc + 1) lv (.int (f i) :: st)) : g_J p l e R s m args below meth c Q D A nL k n ws pc lv (.int (nI i) :: .ref a :: st) := g_iald C q0 ha (vp_in_nI hi hz) hd (by rw [nI_clamp (Nat.lt_trans hi hz)]; exact K)
theorem g_caldN (C : g_C p s m args meth c cc nL own Ts D cI cC A) {a z i : Nat} {f : Nat → Int32} (q0 : Nat) (ha : ws[q0]? = some (a, .inl (cC, z, .inl f))) (hi : i < z) (hz : z < 2 ^ 31) (hd : decode cc pc = .ok (.caload, 1)) (K : g_J p l e R s m args below meth c Q D A nL k n ws (pc + 1) lv (.int (f i) :: st)) : g_J p l e R s m args below meth c Q D A nL k n ws pc lv (.int (nI i) :: .ref a :: st) := fun H locs ls hP hD hS hl => va_cald C.1.1 C.1.2.1 C.2.1 hP q0 1 ha rfl (vp_in_nI hi hz) hd (by rw [nI_clamp (Nat.lt_trans hi hz)]; exact K H locs ls hP hD hS hl)
theorem g_iastN (C : g_C p s m args meth c cc nL own Ts D cI cC A) {a z i : Nat} {f : Nat → Int32} {x : Int32} (q0 : Nat) (ha : ws[q0]? = some (a, .inl (cI, z, .inl f))) (hi : i < z) (hz : z < 2 ^ 31) (hd : decode cc pc = .ok (.iastore, 1)) (hw : ws.set q0 (a, .inl (cI, z, .inl (upd f i x))) = ws') (K : g_J p l e R s m args below meth c Q D A nL k n ws' (pc + 1) lv st) : g_J p l e R s m args below meth c Q D A nL k n ws pc lv (.int x :: .int (nI i) :: .ref a :: st) := fun H locs ls hP hD hS hl => va_iast C.1.1 C.1.2.1 C.2.1 hP hD hS q0 0 ha rfl (vp_in_nI hi hz) hd (fun H1 locs1 hP1 hD1 hS1 => K H1 locs1 ls (by rw [← hw]; rw [nI_clamp (Nat.lt_trans hi hz)] at hP1; exact hP1) (by rw [← hw]; rw [nI_clamp (Nat.lt_trans hi hz)] at hD1; exact hD1) hS1 hl)
theorem g_castN (C : g_C p s m args meth c cc nL own Ts D cI cC A) {a z i : Nat} {f : Nat → Int32} {x : Int32} (q0 : Nat) (ha : ws[q0]? = some (a, .inl (cC, z, .inl f))) (hi : i < z) (hz : z < 2 ^ 31) (hd : decode cc pc = .ok (.castore, 1)) (hw : ws.set q0 (a, .inl (cC, z, .inl (upd f i (vp_nar .char x)))) = ws') (K : g_J p l e R s m args below meth c Q D A nL k n ws' (pc + 1) lv st) : g_J p l e R s m args below meth c Q D A nL k n ws pc lv (.int x :: .int (nI i) :: .ref a :: st) := fun H locs ls hP hD hS hl => va_cast C.1.1 C.1.2.1 C.2.1 hP hD hS q0 1 ha rfl (vp_in_nI hi hz) hd (fun H1 locs1 hP1 hD1 hS1 => K H1 locs1 ls (by rw [← hw]; rw [nI_clamp (Nat.lt_trans hi hz)] at hP1; exact hP1) (by rw [← hw]; rw [nI_clamp (Nat.lt_trans hi hz)] at hD1; exact hD1) hS1 hl)
theorem g_alen (C : g_C p s m args meth c cc nL own Ts D cI cC A) {a z : Nat} {f : Nat → Int32} (q0 : Nat) (ha : ws[q0]? = some (a, .inl (cI, z, .inl f))) (hd : decode cc pc = .ok (.arraylength, 1)) (K : g_J p l e R s m args below meth c Q D A nL k n ws (pc + 1) lv (.int (nI z) :: st)) : g_J p l e R s m args below meth c Q D A nL k n ws pc lv (.ref a :: st) := fun H locs ls hP hD hS hl => va_alen C.1.1 C.1.2.1 C.2.1 hP q0 0 ha rfl rfl hd (K H locs ls hP hD hS hl)
theorem g_copyi (C : g_C p s m args meth c cc nL own Ts D cI cC A) {a a0 z0 z1 sp dp w index : Nat} {f g : Nat → Int32} (hlink : Cond.methodLink own index arraycopyName ∈ Ts) (hnat : Cond.native arraycopyName ∈ Ts) (hstat : Cond.static arraycopyName ∈ Ts) (hini : Cond.initialized "java/lang/System" ∈ Ts) (q0 q1 : Nat) (ha0 : ws[q0]? = some (a0, .inl (cI, z0, .inl f))) (ha1 : ws[q1]? = some (a, .inl (cI, z1, .inl g))) (h4 : sp + w ≤ z0) (h5 : dp + w ≤ z1) (hz0 : z0 < 2 ^ 31) (hz1 : z1 < 2 ^ 31) (hfr : 1 ≤ R.frames) (hlo : (st.map fun v => v.category).sum + (nativeFrameWords "java/lang/System" "arraycopy" 5 + 11) ≤ R.locals) (hd : decode cc pc = .ok (.invokestatic index, 3)) (hw : ws.set q1 (a, .inl (cI, z1, .inl (va_cpy f g sp dp w))) = ws') (K : g_J p l e R s m args below meth c Q D A nL k n ws' (pc + 3) lv st) : g_J p l e R s m args below meth c Q D A nL k n ws pc lv (.int (nI w) :: .int (nI dp) :: .ref a :: .int (nI sp) :: .ref a0 :: st) := by
  intro H locs ls hP hD hS hl
  have e1 : (nI sp).toNatClampNeg = sp := nI_clamp (by omega)
  have e2 : (nI dp).toNatClampNeg = dp := nI_clamp (by omega)
  have e3 : (nI w).toNatClampNeg = w := nI_clamp (by omega)
  refine va_copyi (tys := [(cI, .int), (cC, .char)]) (ty := .int) C.1.1 C.1.2.1 (C.1.2.2.1.trans hl.1.symm) C.1.2.2.2.1 (C.1.2.2.2.2 _ hlink) (C.1.2.2.2.2 _ hnat) (C.1.2.2.2.2 _ hstat) (C.1.2.2.2.2 _ hini) C.2.1 hP hD hS q0 q1 0 0 ha0 ha1 rfl rfl rfl (nI_pos (by omega)) (nI_pos (by omega)) (nI_pos (by omega)) (by rw [e1, e3]; exact h4) (by rw [e2, e3]; exact h5) (fun i hi => rfl) hfr hlo hd ?_
  rw [e1, e2, e3, hw]
  exact fun H1 locs1 hP1 hD1 hS1 => K H1 locs1 ls hP1 hD1 hS1 hl
theorem g_max (C : g_C p s m args meth c cc nL own Ts D cI cC A) {index x y : Nat} (hlink : Cond.methodLink own index Lib.Math.max.name ∈ Ts) (hstat : Cond.static Lib.Math.max.name ∈ Ts) (hini : Cond.initialized "java/lang/Math" ∈ Ts) (hcode : Cond.code Lib.Math.max.name Lib.Math.max.code 2 (some .int) ∈ Ts) (hx : x < 2 ^ 31) (hy : y < 2 ^ 31) (hfr : 1 ≤ R.frames) (hlo : (st.map fun v => v.category).sum + 13 ≤ R.locals) (hf : k ≤ R.cells ∧ n ≤ R.slots) (hd : decode cc pc = .ok (.invokestatic index, 3)) (K : g_J p l e R s m args below meth c Q D A nL k n ws (pc + 3) lv (.int (nI (max x y)) :: st)) : g_J p l e R s m args below meth c Q D A nL k n ws pc lv (.int (nI y) :: .int (nI x) :: st) := by
  intro H locs ls hP hD hS hl
  refine va_mmax C.1.1 C.1.2.1 (C.1.2.2.1.trans hl.1.symm) C.1.2.2.2.1 (C.1.2.2.2.2 _ hlink) (C.1.2.2.2.2 _ hstat) (C.1.2.2.2.2 _ hini) (C.1.2.2.2.2 _ hcode) hfr hlo hf.1 hf.2 hd ?_
  have e0 : (if nI x < nI y then nI y else nI x) = nI (max x y) := by
    rw [Nat.max_def]
    by_cases h : x < y
    · rw [if_pos ((nI_ltI hx hy).mpr h), if_pos (by omega)]
    · rw [if_neg (fun z => h ((nI_ltI hx hy).mp z))]
      by_cases h2 : x ≤ y
      · rw [if_pos h2, show x = y by omega]
      · rw [if_neg h2]
  rw [e0]
  exact K H locs ls hP hD hS hl
theorem g_iret {w0 : va_W} {post : Option Value → va_W → Prop} {v : Int32} (C : g_C p s m args meth c cc nL own Ts D cI cC A) (hr : meth.sig.returnType = some .int) (hQ : Q = MQ below (g_Q D w0 A post) args s k n A) (hd : decode cc pc = .ok (.ireturn, 1)) (hw : ws.map (·.1) = w0.map (·.1)) (hp : post (some (.int v)) ws) : g_J p l e R s m args below meth c Q D A nL k n ws pc lv [.int v] := by
  subst hQ
  exact fun H locs ls hP hD hS hl => W.iret C.1.1 C.1.2.1 hr (fun t ht hW => ⟨⟨some (.int v), ws, rfl, hp, hw, by rw [ht]; exact hP⟩, hS.F ht⟩) hS.2.2 hd (hlocks := C.2.2.2.2)
theorem g_nar (b : Bool) : narrow .boolean (.int (bI b)) = .int (bI b) := by cases b <;> rfl
theorem g_fit (b : Bool) : fits .boolean (.int (bI b)) = true := by cases b <;> rfl
theorem g_zret {w0 : va_W} {post : Option Value → va_W → Prop} {b : Bool} (C : g_C p s m args meth c cc nL own Ts D cI cC A) (hr : meth.sig.returnType = some .boolean) (hQ : Q = MQ below (g_Q D w0 A post) args s k n A) (hd : decode cc pc = .ok (.ireturn, 1)) (hw : ws.map (·.1) = w0.map (·.1)) (hp : post (some (.int (bI b))) ws) : g_J p l e R s m args below meth c Q D A nL k n ws pc lv [.int (bI b)] := by
  subst hQ
  exact fun H locs ls hP hD hS hl => W.zret C.1.1 C.1.2.1 hr (g_nar b) (fun t ht hW => ⟨⟨some (.int (bI b)), ws, rfl, hp, hw, by rw [ht]; exact hP⟩, hS.F ht⟩) hS.2.2 hd (hlocks := C.2.2.2.2)
theorem g_vret {w0 : va_W} {post : Option Value → va_W → Prop} (C : g_C p s m args meth c cc nL own Ts D cI cC A) (hr : meth.sig.returnType = none) (hQ : Q = MQ below (g_Q D w0 A post) args s k n A) (hd : decode cc pc = .ok (.return_, 1)) (hw : ws.map (·.1) = w0.map (·.1)) (hp : post none ws) : g_J p l e R s m args below meth c Q D A nL k n ws pc lv [] := by
  subst hQ
  exact fun H locs ls hP hD hS hl => W.vret C.1.1 C.1.2.1 hr (fun t ht hW => ⟨⟨none, ws, rfl, hp, hw, by rw [ht]; exact hP⟩, hS.F ht⟩) hS.2.2 hd (hlocks := C.2.2.2.2)
theorem g_dret {w0 : va_W} {post : Option Value → va_W → Prop} {v : UInt64} (C : g_C p s m args meth c cc nL own Ts D cI cC A) (hr : meth.sig.returnType = some .double) (hQ : Q = MQ below (g_Q D w0 A post) args s k n A) (hd : decode cc pc = .ok (.dreturn, 1)) (hw : ws.map (·.1) = w0.map (·.1)) (hp : post (some (.double v)) ws) : g_J p l e R s m args below meth c Q D A nL k n ws pc lv [.double v] := by
  subst hQ
  exact fun H locs ls hP hD hS hl => W.dret C.1.1 C.1.2.1 hr (fun t ht hW => ⟨⟨some (.double v), ws, rfl, hp, hw, by rw [ht]; exact hP⟩, hS.F ht⟩) hS.2.2 hd (hlocks := C.2.2.2.2)
/-- behind any call -/
theorem g_run {wc : va_W} {post : Option Value → va_W → Prop} {a : Array Value} {stk : List Value} {H : Heap} {locs : List Loc} {ls : Array Slot} (C : g_C p s m args meth c cc nL own Ts D cI cC A) (isC : List Nat) (hC : isC.map (fun i => ws[i]?) = wc.map some) (hP : va_P D vwCl ws H) (hD : va_D A ws) (hS : va_S A s.heap H locs) (hl : lv_has ls nL lv)
    (run : va_Run p l e R s m args below meth c H locs k n 0 0 (F0 m pc ls stk) st (g_Q D wc (va_A wc H.size) post a) (va_A wc H.size))
    (K : ∀ (v : Option Value) (w' : va_W), post v w' → g_J p l e R s m args below meth c Q D A nL k n (g_pb ws isC w') (pc + 3) lv (v.toList ++ st)) : W p l e R s m args below meth c H locs k n Q (F0 m pc ls stk) := by
  have hFc := va_free (wc := wc) hD hS C.2.2.2.1 isC hC
  intro T hT X
  obtain ⟨v, st₀, t, T', L, h0, X', hL, e1, e2, ⟨⟨v', w', hv, hp, hfst, hPw⟩, hz, hk⟩, stp⟩ := run T hT X
  cases hv
  rw [h0] at hz hk
  have hb := g_back (H1 := T'.heap) hP hD isC hC (fun q h1 h2 => by rw [e1]; exact hk q h1 h2) hfst (by rw [e1]; exact hPw)
  obtain ⟨t2, a1, b1⟩ := K v w' hp T'.heap (locs ++ L) ls hb.1 hb.2 ⟨Nat.le_trans hS.1 (by rw [e1]; exact hz), fun q h1 h2 => by rw [e1, hk q (Nat.lt_of_lt_of_le h1 hS.1) (fun z => h2 (hFc q z))]; exact hS.2.1 q h1 h2, fun q hq => by
      rcases List.mem_append.mp hq with h | h
      · exact hS.2.2 q h
      · exact hFc _ (hL q h)⟩ hl T' rfl X'
  exact ⟨t2, stp t2 a1, b1⟩
theorem g_pre {wc : va_W} {H : Heap} {av : List Value} (C : g_C p s m args meth c cc nL own Ts D cI cC A) (isC : List Nat) (hC : isC.map (fun i => ws[i]?) = wc.map some) (hn : va_nd isC = true) (hP : va_P D vwCl ws H) (hD : va_D A ws) : ∀ U : State, U.heap = H → s.WarmedH U.vm → va_Pc av (g_PS D cI cC wc H.size) av.toArray U := by
  intro U hU hW
  exact ⟨rfl, by rw [hU], by rw [hU]; exact g_Psub hP hC, va_K.moved hW.alike C.2.1, g_N.warm hW C.2.2.1, (hD.sub isC hn hC).weaken (fun _ _ _ _ => trivial)⟩
theorem g_callV {y : MethodName} {wsc wsc' : List Cond} {rm : Room} {bytes : ByteArray} {maxL index nn ci q0 b : Nat} {ret : Option FieldType} {Cn : String} {T : u_T} {N : Nat} {As stk : List Value} {fs : List Value} {wc : va_W} {post : Option Value → va_W → Prop} (C : g_C p s m args meth c cc nL own Ts D cI cC A) (hM : g_M l y wsc rm D cI cC (.ref b :: As) wc post) (hG : GoodIn Ts (wsV own index Cn y wsc)) (hw : wsc = Cond.code y bytes maxL ret :: wsc') (hrc : rm.cells = 0) (hrs : rm.slots = 0)
    (hd : y.cls = Cn ∧ y.cls ≠ "java/lang/invoke/MethodHandle" ∧ y.cls ≠ "java/lang/invoke/VarHandle" ∧ (parseMethodDescriptor y.desc).map (fun d => d.parameters.length) = some nn) (hR : rm.frames + 1 ≤ R.frames ∧ 8 + (maxL + 11) + rm.locals ≤ R.locals) (hnn : As.length = nn) (isC : List Nat) (hC : isC.map (fun i => ws[i]?) = wc.map some) (hnd : va_nd isC = true) (hci : vwCl[ci]? = some (Cn, T, N)) (hq : wc[q0]? = some (b, .inr (ci, fs))) (hst : stk = As.reverse ++ .ref b :: st) (hsm : (st.map fun v => v.category).sum ≤ 8) (hf : k ≤ R.cells ∧ n ≤ R.slots) (hdg : decode cc pc = .ok (.invokevirtual index, 3))
    (K : ∀ (v : Option Value) (w' : va_W), post v w' → g_J p l e R s m args below meth c Q D A nL k n (g_pb ws isC w') (pc + 3) lv (v.toList ++ st)) : g_J p l e R s m args below meth c Q D A nL k n ws pc lv stk := by
  intro H locs ls hP hD hS hl
  subst hst
  exact g_run C isC hC hP hD hS hl (va_runV (As := As) (rest := st) C.1 (hM H.size) (cwV nn C.1.2.2.2.2 hG hw hrc hrs hd hR) ⟨g_blind, va_recv C.2.1 (g_Psub hP hC) hci hq, g_pre C isC hC hnd hP hD⟩ rfl hnn hl.1 rfl (lv_room hsm) hdg hf) K
theorem g_callS {y : MethodName} {wsc wsc' : List Cond} {rm : Room} {bytes : ByteArray} {maxL index nn : Nat} {ret : Option FieldType} {As stk : List Value} {wc : va_W} {post : Option Value → va_W → Prop} (C : g_C p s m args meth c cc nL own Ts D cI cC A) (hM : g_M l y wsc rm D cI cC As wc post) (hG : GoodIn Ts (va_wsS own index y wsc)) (hw : wsc = Cond.code y bytes maxL ret :: wsc') (hrc : rm.cells = 0) (hrs : rm.slots = 0)
    (hd : y.cls ≠ "java/lang/invoke/MethodHandle" ∧ y.cls ≠ "java/lang/invoke/VarHandle" ∧ (parseMethodDescriptor y.desc).map (fun d => d.parameters.length) = some nn) (hR : rm.frames + 1 ≤ R.frames ∧ 8 + (maxL + 11) + rm.locals ≤ R.locals) (hnn : As.length = nn) (isC : List Nat) (hC : isC.map (fun i => ws[i]?) = wc.map some) (hnd : va_nd isC = true) (hst : stk = As.reverse ++ st) (hsm : (st.map fun v => v.category).sum ≤ 8) (hf : k ≤ R.cells ∧ n ≤ R.slots) (hdg : decode cc pc = .ok (.invokestatic index, 3))
    (K : ∀ (v : Option Value) (w' : va_W), post v w' → g_J p l e R s m args below meth c Q D A nL k n (g_pb ws isC w') (pc + 3) lv (v.toList ++ st)) : g_J p l e R s m args below meth c Q D A nL k n ws pc lv stk := by
  intro H locs ls hP hD hS hl
  subst hst
  exact g_run C isC hC hP hD hS hl (va_runS (As := As) (rest := st) C.1 (hM H.size) (va_cwS nn C.1.2.2.2.2 hG hw hrc hrs hd hR) ⟨g_blind, g_pre C isC hC hnd hP hD⟩ rfl hnn hl.1 rfl (lv_room hsm) hdg hf) K
theorem g_callSN {y : MethodName} {wsc wsc' : List Cond} {rm : Room} {bytes : ByteArray} {maxL index nn : Nat} {ret : Option FieldType} {host : String} {As stk : List Value} {wc : va_W} {post : Option Value → va_W → Prop} (C : g_C p s m args meth c cc nL own Ts D cI cC A) (hM : g_M l y wsc rm D cI cC As wc post) (hG : GoodIn Ts wsc) (hw : wsc = Cond.code y bytes maxL ret :: wsc') (hrc : rm.cells = 0) (hrs : rm.slots = 0) (hlk : Cond.methodLinkNest own index y host ∈ g_nw) (hini : Cond.initialized y.cls ∈ Ts) (hstt : Cond.static y ∈ Ts)
    (hd : y.cls ≠ "java/lang/invoke/MethodHandle" ∧ y.cls ≠ "java/lang/invoke/VarHandle" ∧ (parseMethodDescriptor y.desc).map (fun d => d.parameters.length) = some nn) (hR : rm.frames + 1 ≤ R.frames ∧ 8 + (maxL + 11) + rm.locals ≤ R.locals) (hnn : As.length = nn) (isC : List Nat) (hC : isC.map (fun i => ws[i]?) = wc.map some) (hnd : va_nd isC = true) (hst : stk = As.reverse ++ st) (hsm : (st.map fun v => v.category).sum ≤ 8) (hf : k ≤ R.cells ∧ n ≤ R.slots) (hdg : decode cc pc = .ok (.invokestatic index, 3))
    (K : ∀ (v : Option Value) (w' : va_W), post v w' → g_J p l e R s m args below meth c Q D A nL k n (g_pb ws isC w') (pc + 3) lv (v.toList ++ st)) : g_J p l e R s m args below meth c Q D A nL k n ws pc lv stk := by
  intro H locs ls hP hD hS hl
  subst hst
  exact g_run C isC hC hP hD hS hl (va_runSN (As := As) (rest := st) C.1 (hM H.size) ⟨va_cnB nn C.1.2.2.2.2 hG hw hrc hrs (C.2.2.1 _ hlk) (C.1.2.2.2.2 _ hini) hd hR, C.1.2.2.2.2 _ hstt, trivial⟩ ⟨g_blind, g_pre C isC hC hnd hP hD⟩ rfl hnn hl.1 rfl (lv_room hsm) hdg hf) K
theorem g_icmp_eqN (C : g_C p s m args meth c cc nL own Ts D cI cC A) {x y : Nat} {off : Int} (tgt : Nat) (hx : x < 2 ^ 31) (hy : y < 2 ^ 31) (hd : decode cc pc = .ok (.if_icmp .eq off, 3)) (ht : (pc : Int) + off = (tgt : Int)) (K1 : x = y → g_J p l e R s m args below meth c Q D A nL k n ws (tgt) lv (st)) (K2 : x ≠ y → g_J p l e R s m args below meth c Q D A nL k n ws (pc + 3) lv (st)) : g_J p l e R s m args below meth c Q D A nL k n ws (pc) lv (.int (nI y) :: .int (nI x) :: st) := g_icmp_eq C tgt hd ht (fun h => K1 ((nI_eq hx hy).mp h)) (fun h => K2 (fun z => h ((nI_eq hx hy).mpr z)))
theorem g_icmp_neN (C : g_C p s m args meth c cc nL own Ts D cI cC A) {x y : Nat} {off : Int} (tgt : Nat) (hx : x < 2 ^ 31) (hy : y < 2 ^ 31) (hd : decode cc pc = .ok (.if_icmp .ne off, 3)) (ht : (pc : Int) + off = (tgt : Int)) (K1 : x ≠ y → g_J p l e R s m args below meth c Q D A nL k n ws (tgt) lv (st)) (K2 : x = y → g_J p l e R s m args below meth c Q D A nL k n ws (pc + 3) lv (st)) : g_J p l e R s m args below meth c Q D A nL k n ws (pc) lv (.int (nI y) :: .int (nI x) :: st) := g_icmp_ne C tgt hd ht (fun h => K1 (fun z => h ((nI_eq hx hy).mpr z))) (fun h => K2 ((nI_eq hx hy).mp h))
theorem g_icmp_ltN (C : g_C p s m args meth c cc nL own Ts D cI cC A) {x y : Nat} {off : Int} (tgt : Nat) (hx : x < 2 ^ 31) (hy : y < 2 ^ 31) (hd : decode cc pc = .ok (.if_icmp .lt off, 3)) (ht : (pc : Int) + off = (tgt : Int)) (K1 : x < y → g_J p l e R s m args below meth c Q D A nL k n ws (tgt) lv (st)) (K2 : y ≤ x → g_J p l e R s m args below meth c Q D A nL k n ws (pc + 3) lv (st)) : g_J p l e R s m args below meth c Q D A nL k n ws (pc) lv (.int (nI y) :: .int (nI x) :: st) := g_icmp_lt C tgt hd ht (fun h => K1 ((nI_ltI hx hy).mp h)) (fun h => K2 (Nat.not_lt.mp (fun z => h ((nI_ltI hx hy).mpr z))))
theorem g_icmp_geN (C : g_C p s m args meth c cc nL own Ts D cI cC A) {x y : Nat} {off : Int} (tgt : Nat) (hx : x < 2 ^ 31) (hy : y < 2 ^ 31) (hd : decode cc pc = .ok (.if_icmp .ge off, 3)) (ht : (pc : Int) + off = (tgt : Int)) (K1 : y ≤ x → g_J p l e R s m args below meth c Q D A nL k n ws (tgt) lv (st)) (K2 : x < y → g_J p l e R s m args below meth c Q D A nL k n ws (pc + 3) lv (st)) : g_J p l e R s m args below meth c Q D A nL k n ws (pc) lv (.int (nI y) :: .int (nI x) :: st) := g_icmp_ge C tgt hd ht (fun h => K1 ((nI_leI hy hx).mp h)) (fun h => K2 (Nat.not_le.mp (fun z => h ((nI_leI hy hx).mpr z))))
theorem g_icmp_gtN (C : g_C p s m args meth c cc nL own Ts D cI cC A) {x y : Nat} {off : Int} (tgt : Nat) (hx : x < 2 ^ 31) (hy : y < 2 ^ 31) (hd : decode cc pc = .ok (.if_icmp .gt off, 3)) (ht : (pc : Int) + off = (tgt : Int)) (K1 : y < x → g_J p l e R s m args below meth c Q D A nL k n ws (tgt) lv (st)) (K2 : x ≤ y → g_J p l e R s m args below meth c Q D A nL k n ws (pc + 3) lv (st)) : g_J p l e R s m args below meth c Q D A nL k n ws (pc) lv (.int (nI y) :: .int (nI x) :: st) := g_icmp_gt C tgt hd ht (fun h => K1 ((nI_ltI hy hx).mp h)) (fun h => K2 (Nat.not_lt.mp (fun z => h ((nI_ltI hy hx).mpr z))))
theorem g_icmp_leN (C : g_C p s m args meth c cc nL own Ts D cI cC A) {x y : Nat} {off : Int} (tgt : Nat) (hx : x < 2 ^ 31) (hy : y < 2 ^ 31) (hd : decode cc pc = .ok (.if_icmp .le off, 3)) (ht : (pc : Int) + off = (tgt : Int)) (K1 : x ≤ y → g_J p l e R s m args below meth c Q D A nL k n ws (tgt) lv (st)) (K2 : y < x → g_J p l e R s m args below meth c Q D A nL k n ws (pc + 3) lv (st)) : g_J p l e R s m args below meth c Q D A nL k n ws (pc) lv (.int (nI y) :: .int (nI x) :: st) := g_icmp_le C tgt hd ht (fun h => K1 ((nI_leI hx hy).mp h)) (fun h => K2 (Nat.not_le.mp (fun z => h ((nI_leI hx hy).mpr z))))
theorem g_if_eqN (C : g_C p s m args meth c cc nL own Ts D cI cC A) {x : Nat} {off : Int} (tgt : Nat) (hx : x < 2 ^ 31) (hd : decode cc pc = .ok (.ifCond .eq off, 3)) (ht : (pc : Int) + off = (tgt : Int)) (K1 : x = 0 → g_J p l e R s m args below meth c Q D A nL k n ws (tgt) lv (st)) (K2 : x ≠ 0 → g_J p l e R s m args below meth c Q D A nL k n ws (pc + 3) lv (st)) : g_J p l e R s m args below meth c Q D A nL k n ws (pc) lv (.int (nI x) :: st) := g_if_eq C tgt hd ht (fun h => K1 ((nI_eq hx (by decide : 0 < 2 ^ 31)).mp h)) (fun h => K2 (fun z => h (by rw [z]; rfl)))
theorem g_if_neN (C : g_C p s m args meth c cc nL own Ts D cI cC A) {x : Nat} {off : Int} (tgt : Nat) (hx : x < 2 ^ 31) (hd : decode cc pc = .ok (.ifCond .ne off, 3)) (ht : (pc : Int) + off = (tgt : Int)) (K1 : x ≠ 0 → g_J p l e R s m args below meth c Q D A nL k n ws (tgt) lv (st)) (K2 : x = 0 → g_J p l e R s m args below meth c Q D A nL k n ws (pc + 3) lv (st)) : g_J p l e R s m args below meth c Q D A nL k n ws (pc) lv (.int (nI x) :: st) := g_if_ne C tgt hd ht (fun h => K1 (fun z => h (by rw [z]; rfl))) (fun h => K2 ((nI_eq hx (by decide : 0 < 2 ^ 31)).mp h))
theorem g_if_gtN (C : g_C p s m args meth c cc nL own Ts D cI cC A) {x : Nat} {off : Int} (tgt : Nat) (hx : x < 2 ^ 31) (hd : decode cc pc = .ok (.ifCond .gt off, 3)) (ht : (pc : Int) + off = (tgt : Int)) (K1 : 0 < x → g_J p l e R s m args below meth c Q D A nL k n ws (tgt) lv (st)) (K2 : x = 0 → g_J p l e R s m args below meth c Q D A nL k n ws (pc + 3) lv (st)) : g_J p l e R s m args below meth c Q D A nL k n ws (pc) lv (.int (nI x) :: st) := g_if_gt C tgt hd ht (fun h => K1 ((nI_ltI (by decide : 0 < 2 ^ 31) hx).mp h)) (fun h => K2 (Nat.eq_zero_of_not_pos (fun z => h ((nI_ltI (by decide : 0 < 2 ^ 31) hx).mpr z))))
theorem g_if_leN (C : g_C p s m args meth c cc nL own Ts D cI cC A) {x : Nat} {off : Int} (tgt : Nat) (hx : x < 2 ^ 31) (hd : decode cc pc = .ok (.ifCond .le off, 3)) (ht : (pc : Int) + off = (tgt : Int)) (K1 : x = 0 → g_J p l e R s m args below meth c Q D A nL k n ws (tgt) lv (st)) (K2 : 0 < x → g_J p l e R s m args below meth c Q D A nL k n ws (pc + 3) lv (st)) : g_J p l e R s m args below meth c Q D A nL k n ws (pc) lv (.int (nI x) :: st) := g_if_le C tgt hd ht (fun h => K1 (Nat.le_zero.mp ((nI_leI hx (by decide : 0 < 2 ^ 31)).mp h))) (fun h => K2 (Nat.pos_of_ne_zero (fun z => h (by rw [z]; exact nI_leI (by decide : 0 < 2 ^ 31) (by decide : 0 < 2 ^ 31) |>.mpr (Nat.le_refl 0)))))
theorem g_if_ltN (C : g_C p s m args meth c cc nL own Ts D cI cC A) {x : Nat} {off : Int} (tgt : Nat) (hx : x < 2 ^ 31) (hd : decode cc pc = .ok (.ifCond .lt off, 3)) (ht : (pc : Int) + off = (tgt : Int)) (K2 : g_J p l e R s m args below meth c Q D A nL k n ws (pc + 3) lv (st)) : g_J p l e R s m args below meth c Q D A nL k n ws (pc) lv (.int (nI x) :: st) := g_if_lt C tgt hd ht (fun h => absurd h (nI_pos hx)) (fun _ => K2)
theorem g_if_geN (C : g_C p s m args meth c cc nL own Ts D cI cC A) {x : Nat} {off : Int} (tgt : Nat) (hx : x < 2 ^ 31) (hd : decode cc pc = .ok (.ifCond .ge off, 3)) (ht : (pc : Int) + off = (tgt : Int)) (K1 : g_J p l e R s m args below meth c Q D A nL k n ws (tgt) lv (st)) : g_J p l e R s m args below meth c Q D A nL k n ws (pc) lv (.int (nI x) :: st) := g_if_ge C tgt hd ht (fun _ => K1) (fun h => absurd (nI_pos' hx) h)
theorem g_if_eqB (C : g_C p s m args meth c cc nL own Ts D cI cC A) {b : Bool} {off : Int} (tgt : Nat) (hd : decode cc pc = .ok (.ifCond .eq off, 3)) (ht : (pc : Int) + off = (tgt : Int)) (K1 : b = false → g_J p l e R s m args below meth c Q D A nL k n ws (tgt) lv (st)) (K2 : b = true → g_J p l e R s m args below meth c Q D A nL k n ws (pc + 3) lv (st)) : g_J p l e R s m args below meth c Q D A nL k n ws (pc) lv (.int (bI b) :: st) := g_if_eq C tgt hd ht (fun h => K1 ((bI_ne b).mp h)) (fun h => K2 (by cases b with | true => rfl | false => exact absurd rfl h))
theorem g_if_neB (C : g_C p s m args meth c cc nL own Ts D cI cC A) {b : Bool} {off : Int} (tgt : Nat) (hd : decode cc pc = .ok (.ifCond .ne off, 3)) (ht : (pc : Int) + off = (tgt : Int)) (K1 : b = true → g_J p l e R s m args below meth c Q D A nL k n ws (tgt) lv (st)) (K2 : b = false → g_J p l e R s m args below meth c Q D A nL k n ws (pc + 3) lv (st)) : g_J p l e R s m args below meth c Q D A nL k n ws (pc) lv (.int (bI b) :: st) := g_if_ne C tgt hd ht (fun h => K1 (by cases b with | true => rfl | false => exact absurd rfl h)) (fun h => K2 ((bI_ne b).mp h))
theorem g_top2 {v : Value} {x y : Int32} (h : x = y) (K : g_J p l e R s m args below meth c Q D A nL k n ws pc lv (v :: .int y :: rest)) : g_J p l e R s m args below meth c Q D A nL k n ws pc lv (v :: .int x :: rest) := by subst h; exact K
theorem g_iandN (C : g_C p s m args meth c cc nL own Ts D cI cC A) {x y : Nat} (hd : decode cc pc = .ok (.iand, 1)) (K : g_J p l e R s m args below meth c Q D A nL k n ws (pc + 1) lv (.int (nI (x &&& y)) :: st)) : g_J p l e R s m args below meth c Q D A nL k n ws pc lv (.int (nI y) :: .int (nI x) :: st) := g_iand C hd (g_top (g_and x y) K)
theorem g_iandX (C : g_C p s m args meth c cc nL own Ts D cI cC A) {x y : Nat} (hd : decode cc pc = .ok (.iand, 1)) (K : g_J p l e R s m args below meth c Q D A nL k n ws (pc + 1) lv (.int (nI (g_nand x y)) :: st)) : g_J p l e R s m args below meth c Q D A nL k n ws pc lv (.int (nI y ^^^ (-1)) :: .int (nI x) :: st) := g_iand C hd (g_top (g_nand_eq x y) K)
theorem g_iorN (C : g_C p s m args meth c cc nL own Ts D cI cC A) {x y : Nat} (hd : decode cc pc = .ok (.ior, 1)) (K : g_J p l e R s m args below meth c Q D A nL k n ws (pc + 1) lv (.int (nI (x ||| y)) :: st)) : g_J p l e R s m args below meth c Q D A nL k n ws pc lv (.int (nI y) :: .int (nI x) :: st) := g_ior C hd (g_top (g_or x y) K)
theorem g_ishlN (C : g_C p s m args meth c cc nL own Ts D cI cC A) {x y : Nat} (hy : y < 32) (hd : decode cc pc = .ok (.ishl, 1)) (K : g_J p l e R s m args below meth c Q D A nL k n ws (pc + 1) lv (.int (nI (x <<< y)) :: st)) : g_J p l e R s m args below meth c Q D A nL k n ws pc lv (.int (nI y) :: .int (nI x) :: st) := g_ishl C hd (g_top (g_shl x hy) K)
theorem g_ishrN (C : g_C p s m args meth c cc nL own Ts D cI cC A) {x y : Nat} (hx : x < 2 ^ 31) (hy : y < 32) (hd : decode cc pc = .ok (.ishr, 1)) (K : g_J p l e R s m args below meth c Q D A nL k n ws (pc + 1) lv (.int (nI (x >>> y)) :: st)) : g_J p l e R s m args below meth c Q D A nL k n ws pc lv (.int (nI y) :: .int (nI x) :: st) := g_ishr C hd (g_top (g_shr hx hy) K)
theorem g_lveq (h : lv = lv') (K : g_J p l e R s m args below meth c Q D A nL k n ws pc lv' st) : g_J p l e R s m args below meth c Q D A nL k n ws pc lv st := by subst h; exact K
theorem g_topd {x y : UInt64} (h : x = y) (K : g_J p l e R s m args below meth c Q D A nL k n ws pc lv (.double y :: rest)) : g_J p l e R s m args below meth c Q D A nL k n ws pc lv (.double x :: rest) := by subst h; exact K
theorem g_dec {x : Nat} (h : 1 ≤ x) : nI x + Int32.ofInt (-1) = nI (x - 1) := by
  obtain ⟨y, rfl⟩ : ∃ y, x = y + 1 := ⟨x - 1, by omega⟩
  rw [show y + 1 - 1 = y by omega]
  exact pk_m1 y
theorem g_i2cN {x : Nat} (h : x < 65536) : ((nI x).toUInt32 % 65536).toInt32 = nI x := by
  rw [pk_char, pk_tn (by omega), Nat.mod_eq_of_lt h]
theorem g_out {x : Int32} (lo hi : Nat) (hb : hi < 2 ^ 31) (h : ∀ k, lo ≤ k → k ≤ hi → ¬ x = nI k) : x.toInt < (lo : Int) ∨ (hi : Int) < x.toInt := by
  by_cases h1 : x.toInt < (lo : Int)
  · exact Or.inl h1
  · by_cases h2 : (hi : Int) < x.toInt
    · exact Or.inr h2
    · refine absurd ?_ (h x.toInt.toNat (by omega) (by omega))
      apply Int32.toInt_inj.mp
      rw [nI_toInt (by omega)]
      omega
theorem g_i2d (C : g_C p s m args meth c cc nL own Ts D cI cC A) {x : Int32} (hd : decode cc pc = .ok (.i2d, 1)) (K : g_J p l e R s m args below meth c Q D A nL k n ws (pc + 1) lv (.double (FP.i2d x) :: st)) : g_J p l e R s m args below meth c Q D A nL k n ws pc lv (.int x :: st) := fun H locs ls hP hD hS hl => lv_i2d C.1.1 C.1.2.1 hd (K H locs ls hP hD hS hl)
theorem g_ddiv (C : g_C p s m args meth c cc nL own Ts D cI cC A) {x y : UInt64} (hd : decode cc pc = .ok (.ddiv, 1)) (hne : vf_n64 (FP.ddiv x y)) (K : g_J p l e R s m args below meth c Q D A nL k n ws (pc + 1) lv (.double (FP.ddiv x y) :: st)) : g_J p l e R s m args below meth c Q D A nL k n ws pc lv (.double y :: .double x :: st) := fun H locs ls hP hD hS hl => lv_ddiv C.1.1 C.1.2.1 hd hne (K H locs ls hP hD hS hl)
theorem g_dconst0 (C : g_C p s m args meth c cc nL own Ts D cI cC A) (hd : decode cc pc = .ok (.dconst 0, 1)) (K : g_J p l e R s m args below meth c Q D A nL k n ws (pc + 1) lv (.double FP.dconst0 :: st)) : g_J p l e R s m args below meth c Q D A nL k n ws pc lv st := fun H locs ls hP hD hS hl => lv_dconst0 C.1.1 C.1.2.1 hd (K H locs ls hP hD hS hl)
theorem g_and1 (x : Nat) : x &&& 1 < 2 ^ 31 := Nat.lt_of_le_of_lt Nat.and_le_right (by decide)
theorem g_nameN {x : Nat} (K : ∀ y : Nat, y = x → g_J p l e R s m args below meth c Q D A nL k n ws pc lv (.int (nI y) :: rest)) : g_J p l e R s m args below meth c Q D A nL k n ws pc lv (.int (nI x) :: rest) := K x rfl
theorem g_u31 : ∀ n, n < 32 → (((nI n).toUInt32 &&& Int32.toUInt32 31).toBitVec % 32).toNat = n := by decide
theorem g_iushrN (C : g_C p s m args meth c cc nL own Ts D cI cC A) {x y : Nat} (hx : x < 2 ^ 32) (hy : y < 32) (hd : decode cc pc = .ok (.iushr, 1)) (K : g_J p l e R s m args below meth c Q D A nL k n ws (pc + 1) lv (.int (nI (x >>> y)) :: st)) : g_J p l e R s m args below meth c Q D A nL k n ws pc lv (.int (nI y) :: .int (nI x) :: st) := g_iushr C hd (by rw [pk_ushrN hx (nI y) y (g_u31 y hy), Nat.shiftRight_eq_div_pow]) K
end GROWS
