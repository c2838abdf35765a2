/-! the constructors -/
abbrev zF : Nat → Int32 := fun _ => nI 0
theorem ga_c {i : Nat} (hi : i < 8) : upd (upd (gaF (gaF zF 0 i) 8 i) (0 + i) (nI (i / 2))) (8 + i) (nI (i / 2)) = gaF (gaF zF 0 (i + 1)) 8 (i + 1) := gaF_2 (o := 0) zF hi
theorem ga_r {i : Nat} (hi : i < 8) : upd (upd (gaF (gaF zF 1 i) 9 i) (1 + i) (nI (i / 2))) (9 + i) (nI (i / 2)) = gaF (gaF zF 1 (i + 1)) 9 (i + 1) := gaF_2 (o := 1) zF hi
def lb : Nat → Nat
  | 0 => 0
  | i + 1 => lb i ||| (1 <<< (4 * i + i))
def lbF (i : Nat) : Nat → Int32 := upd (gaF (gaF zF 0 8) 8 8) 152 (nI (lb i))
theorem lbF_0 : lbF 0 = gaF (gaF zF 0 8) 8 8 := by
  funext k
  by_cases h : k = 152
  · subst h
    rw [lbF, upd_eq, gaF_n (fun q => by omega), gaF_n (fun q => by omega)]
    rfl
  · rw [lbF, upd_ne h]
theorem lbF_s (i : Nat) : upd (lbF i) 152 (nI (lb i ||| (1 <<< (4 * i + i)))) = lbF (i + 1) := by
  funext k
  by_cases h : k = 152
  · subst h
    rw [lbF, upd_eq, lbF, upd_eq]
    rfl
  · rw [upd_ne h, lbF, upd_ne h, lbF, upd_ne h]
theorem lbF_4 : lbF 4 = cI0 := by
  funext k
  by_cases h : k = 152
  · subst h
    rw [lbF, upd_eq]
    decide +kernel
  · rw [lbF, upd_ne h, cI0]
    by_cases h1 : k < 8
    · rw [gaF_n (fun q => by omega), gaF_t ⟨by omega, by omega⟩, if_pos h1, Nat.sub_zero]
    · by_cases h2 : k < 16
      · rw [gaF_t ⟨by omega, by omega⟩, if_neg h1, if_pos h2]
      · rw [gaF_n (fun q => by omega), gaF_n (fun q => by omega), if_neg h1, if_neg h2, if_neg h]
def liF : Nat → Nat → Int32
  | 0 => gaF (gaF zF 1 8) 9 8
  | i + 1 => upd (liF i) (17 + 5 * i) (nI 1)
theorem liF_4 : liF 4 = sI0 := by
  funext k
  show upd (upd (upd (upd (gaF (gaF zF 1 8) 9 8) 17 (nI 1)) 22 (nI 1)) 27 (nI 1)) 32 (nI 1) k = sI0 k
  by_cases h1 : k = 32
  · subst h1; rw [upd_eq]; rfl
  by_cases h2 : k = 27
  · subst h2; rw [upd_ne (by decide), upd_eq]; rfl
  by_cases h3 : k = 22
  · subst h3; rw [upd_ne (by decide), upd_ne (by decide), upd_eq]; rfl
  by_cases h4 : k = 17
  · subst h4; rw [upd_ne (by decide), upd_ne (by decide), upd_ne (by decide), upd_eq]; rfl
  rw [upd_ne h1, upd_ne h2, upd_ne h3, upd_ne h4, sI0]
  by_cases g0 : k = 0
  · subst g0; rw [gaF_n (fun q => by omega), gaF_n (fun q => by omega), if_pos rfl]
  by_cases g1 : k < 9
  · rw [gaF_n (fun q => by omega), gaF_t ⟨by omega, by omega⟩, if_neg g0, if_pos g1]
  by_cases g2 : k < 17
  · rw [gaF_t ⟨by omega, by omega⟩, if_neg g0, if_neg g1, if_pos g2]
  · rw [gaF_n (fun q => by omega), gaF_n (fun q => by omega), if_neg g0, if_neg g1, if_neg g2, if_neg (fun q => by omega)]
section GCALLIN
variable {p : Program} {l : Launch} {e : Env} {R : Room} {s : State} {m : MethodId} {args : Array Value} {below : List Frame} {meth : Method} {c : Code} {Q : State → Prop} {D : va_G} {A : Nat → Prop} {nL k n : Nat} {ws : va_W} {pc : Nat} {lv : List (Nat × Value)} {st : List Value}
variable {cc : ByteArray} {own : String} {Ts : List Cond} {cI cC : ClassId}
/-- the call of a nest mate's constructor -/
theorem g_callIN {y : MethodName} {wsc wsc' : List Cond} {rm : Room} {bytes : ByteArray} {maxL index nn mc ms b : Nat} {host : String} {As stk : List Value} {wc wr : va_W} {post : va_W → Prop} (C : g_C p s m args meth c cc nL own Ts D cI cC A) (hM : g_MI l y wsc rm mc ms D cI cC (.ref b :: As) wc post) (hG : GoodIn Ts wsc) (hw : wsc = Cond.code y bytes maxL none :: wsc') (hrc : rm.cells = mc) (hrs : rm.slots = ms) (hlk : Cond.methodLinkNest own index y host ∈ g_nw) (hini : Cond.initialized y.cls ∈ Ts) (hinst : Cond.instanceMethod y ∈ Ts) (hni : y.name = "<init>")
    (hd : y.cls ≠ "java/lang/invoke/MethodHandle" ∧ y.cls ≠ "java/lang/invoke/VarHandle" ∧ (parseMethodDescriptor y.desc).map (fun d => d.parameters.length) = some nn) (hRm : rm.frames + 1 ≤ R.frames ∧ 8 + (maxL + 11) + rm.locals ≤ R.locals)
    (hnn : As.length = nn) (isC isR : List Nat) (hC : isC.map (fun i => ws[i]?) = wc.map some) (hR : isR.map (fun i => ws[i]?) = wr.map some) (hnd : va_nd isC = true) (hnr : va_nd isR = true) (hdis : ∀ i ∈ isR, i ∉ isC) (hst : stk = As.reverse ++ .ref b :: st) (hsm : (st.map fun v => v.category).sum ≤ 8) (hf : k + mc ≤ R.cells ∧ n + ms ≤ R.slots) (hdg : decode cc pc = .ok (.invokespecial index, 3))
    (K : ∀ w' : va_W, post w' → g_J p l e R s m args below meth c Q D A nL (k + mc) (n + ms) (wr ++ w') (pc + 3) lv st) : g_J p l e R s m args below meth c Q D A nL k n ws pc lv stk := by
  intro H locs ls hP hD hS hl
  subst hst
  have hFc := va_free (wc := wc) hD hS C.2.2.2.1 isC hC
  have run := va_runIN (g := F0 m pc ls (As.reverse ++ .ref b :: st)) (As := As) (rest := st) (locs := locs) (below := below) (meth := meth) (cells := k) (slots := n) (e := e) C.1 (hM H.size) ⟨va_cnB nn C.1.2.2.2.2 hG hw hrc hrs (C.2.2.1 _ hlk) (C.1.2.2.2.2 _ hini) hd hRm, hni, C.1.2.2.2.2 _ hinst⟩ ⟨g_blind, g_pre C isC hC hnd hP hD⟩ rfl hnn hl.1 rfl (lv_room hsm) hdg hf
  intro T hT X
  obtain ⟨v, st₀, t, T', L, h0, X', hL, e1, e2, ⟨⟨w', hv, hp, hPw, hDw⟩, hz, hk⟩, stp⟩ := run T hT X
  cases hv
  rw [h0] at hz hk
  have hb := va_join (H1 := T'.heap) hP hD isC isR hC hR hnr hdis (fun q h1 h2 => by rw [e1]; exact hk q h1 h2) hFc (by rw [e1]; exact hPw) hDw
  obtain ⟨t2, a1, b1⟩ := K w' hp T'.heap (locs ++ L) ls hb.1 hb.2 ⟨Nat.le_trans hS.1 (by rw [e1]; exact hz), fun q h1 h2 => by rw [e1, hk q (Nat.lt_of_lt_of_le h1 hS.1) (fun z => h2 (hFc q z))]; exact hS.2.1 q h1 h2, fun q hq => by
      rcases List.mem_append.mp hq with h | h
      · exact hS.2.2 q h
      · exact hFc _ (hL q h)⟩ hl T' rfl X'
  exact ⟨t2, stp t2 a1, b1⟩
end GCALLIN
abbrev rm_X0_init : Room := { frames := 1, cells := 1, slots := 154, locals := 20 }
theorem yd_X0_init : yX0_init.cls = RX0 ∧ yX0_init.cls ≠ "java/lang/invoke/MethodHandle" ∧ yX0_init.cls ≠ "java/lang/invoke/VarHandle" ∧ (parseMethodDescriptor yX0_init.desc).map (fun d => d.parameters.length) = some 0 := by decide +kernel
theorem in_X0_init_X0 : ∀ w ∈ u_ws RX0 TX0 1, w ∈ wsX0_init := by decide +kernel
theorem fl_X0_init_11 : Cond.fieldLink RX0 11 "FenceHandshakes$Clans" "cells" "[I" ∈ wsX0_init := by decide +kernel
set_option maxHeartbeats 4000000 in
set_option maxRecDepth 100000 in
theorem m_X0_init (l : Launch) (D : va_G) (cI cC : ClassId) (h0 : Nat) : g_MI l yX0_init wsX0_init rm_X0_init 1 154 D cI cC [.ref h0] [(h0, .inr (0, [.null]))] (fun ww => ∃ (h1 : Nat), ww = [(h0, .inr (0, [.ref h1])), (h1, .inl (cI, 154, .inl cI0))]) := by
  refine g_entryI (lv := [(0, .ref h0)]) (own := RX0) (by decide) rfl rfl rfl (Nat.le_of_ble_eq_true rfl) rfl ?_
  intro p e s m args below meth co A Q C hr hi hQ
  refine g_aload_n (pc := 0) C dX0_init_0 0 rfl rfl ?_
  refine g_objI (pc := 1) C (idx := 5) (by decide +kernel) (by decide +kernel) (by decide +kernel) dX0_init_1 (Nat.le_of_ble_eq_true rfl) (Nat.le_of_ble_eq_true rfl) ?_
  refine g_aload_n (pc := 4) C dX0_init_4 0 rfl rfl ?_
  refine g_sipush (pc := 5) (v := nI 154) C dX0_init_5 (by decide) ?_
  refine g_newI (pc := 8) (z := 154) C (by decide +kernel) (Nat.le_of_ble_eq_true rfl) (Nat.le_of_ble_eq_true rfl) (Nat.le_of_ble_eq_true rfl) (Nat.le_of_ble_eq_true rfl) dX0_init_8 (fun h1 => ?_)
  refine g_ws (ws' := [(h0, .inr (0, [.null])), (h1, .inl (cI, 154, .inl (fun _ => nI 0)))]) rfl ?_
  refine g_putF (pc := 10) (ci := 0) (T := TX0) (N := 1) (ws' := [(h0, .inr (0, [.ref h1])), (h1, .inl (cI, 154, .inl (fun _ => nI 0)))]) (ty := tyX0 0) (v := .ref h1) C hi in_X0_init_X0 tyX0 tyX0_ok nmX0 0 rfl rfl 0 (by decide) fl_X0_init_11 rfl rfl rfl (by decide +kernel) rfl rfl (Nat.le_of_ble_eq_true rfl) dX0_init_10 rfl ?_
  refine g_ws (ws' := [(h0, .inr (0, [.ref h1])), (h1, .inl (cI, 154, .inl (gaF (gaF zF 0 0) 8 0)))]) (by rw [gaF_0, gaF_0]) ?_
  refine g_iconst (pc := 13) (v := nI 0) C dX0_init_13 (by decide) ?_
  refine g_istore_n (pc := 14) (lv' := [(1, .int (nI 0)), (0, .ref h0)]) C dX0_init_14 rfl (by decide) rfl ?_
  have L15 : ∀ (NZ : Nat) (i : Nat), 8 - i < NZ → (i ≤ 8) → g_J p l e rm_X0_init s m args below meth co Q D A 2 1 154 [(h0, .inr (0, [.ref h1])), (h1, .inl (cI, 154, .inl (gaF (gaF zF 0 i) 8 i)))] 15 [(0, .ref h0), (1, .int (nI i))] [] := by
    intro NZ
    induction NZ with
    | zero => intro i hN; exact absurd hN (Nat.not_lt_zero _)
    | succ NZ ih15 =>
      intro i hN15 hi
      refine g_iload_n (pc := 15) C dX0_init_15 1 rfl rfl ?_
      refine g_bipush (pc := 16) (v := nI 8) C dX0_init_16 (by decide) ?_
      refine g_icmp_geN (pc := 18) C 50 (by omega) (by omega) dX0_init_18 (by decide) (fun c18 => ?_) (fun c18 => ?_)
      · obtain rfl : i = 8 := by omega
        refine g_ws (ws' := [(h0, .inr (0, [.ref h1])), (h1, .inl (cI, 154, .inl (lbF 0)))]) (by rw [lbF_0]) ?_
        refine g_iconst (pc := 50) (v := nI 0) C dX0_init_50 (by decide) ?_
        refine g_istore_n (pc := 51) (lv' := [(1, .int (nI 0)), (0, .ref h0)]) C dX0_init_51 rfl (by decide) rfl ?_
        have L52 : ∀ (NZ : Nat) (i : Nat), 4 - i < NZ → (i ≤ 4) → g_J p l e rm_X0_init s m args below meth co Q D A 2 1 154 [(h0, .inr (0, [.ref h1])), (h1, .inl (cI, 154, .inl (lbF i)))] 52 [(0, .ref h0), (1, .int (nI i))] [] := by
          intro NZ
          induction NZ with
          | zero => intro i hN; exact absurd hN (Nat.not_lt_zero _)
          | succ NZ ih52 =>
            intro i hN52 hi
            refine g_iload_n (pc := 52) C dX0_init_52 1 rfl rfl ?_
            refine g_iconst (pc := 53) (v := nI 4) C dX0_init_53 (by decide) ?_
            refine g_icmp_geN (pc := 54) C 81 (by omega) (by omega) dX0_init_54 (by decide) (fun c54 => ?_) (fun c54 => ?_)
            · obtain rfl : i = 4 := by omega
              refine g_ws (ws' := [(h0, .inr (0, [.ref h1])), (h1, .inl (cI, 154, .inl cI0))]) (by rw [lbF_4]) ?_
              exact g_vretI C hr hQ dX0_init_81 ⟨_, rfl⟩
            · refine g_aload_n (pc := 57) C dX0_init_57 0 rfl rfl ?_
              refine g_get (pc := 58) (ci := 0) (T := TX0) (N := 1) (v := .ref h1) C in_X0_init_X0 0 rfl rfl 0 (by decide) fl_X0_init_11 rfl rfl dX0_init_58 ?_
              refine g_sipush (pc := 61) (v := nI 152) C dX0_init_61 (by decide) ?_
              refine g_dup2 (pc := 64) C dX0_init_64 rfl rfl ?_
              refine g_ialdN (pc := 65) (f := (lbF i)) C 1 rfl (by omega) (by decide) dX0_init_65 ?_
              refine g_top (y := nI (lb i)) (upd_eq) ?_
              refine g_iconst (pc := 66) (v := nI 1) C dX0_init_66 (by decide) ?_
              refine g_iconst (pc := 67) (v := nI 4) C dX0_init_67 (by decide) ?_
              refine g_iload_n (pc := 68) C dX0_init_68 1 rfl rfl ?_
              refine g_imulN (pc := 69) C dX0_init_69 ?_
              refine g_iload_n (pc := 70) C dX0_init_70 1 rfl rfl ?_
              refine g_iaddN (pc := 71) C dX0_init_71 ?_
              refine g_ishlN (pc := 72) C (by omega) dX0_init_72 ?_
              refine g_iorN (pc := 73) C dX0_init_73 ?_
              refine g_iastN (pc := 74) (f := (lbF i)) (ws' := [(h0, .inr (0, [.ref h1])), (h1, .inl (cI, 154, .inl (upd (lbF i) 152 (nI ((lb i) ||| (1 <<< ((4 * i) + i)))))))]) C 1 rfl (by omega) (by decide) dX0_init_74 rfl ?_
              refine g_iinc (pc := 75) (lv' := [(1, .int (nI (i + 1))), (0, .ref h0)]) C dX0_init_75 1 rfl (nI_add i 1) (by decide) rfl ?_
              refine g_goto (pc := 78) C 52 dX0_init_78 (by decide) ?_
              refine g_ws (ws' := [(h0, .inr (0, [.ref h1])), (h1, .inl (cI, 154, .inl (lbF (i + 1))))]) (by rw [lbF_s]) ?_
              refine g_lvp (lv' := [(0, .ref h0), (1, .int (nI (i + 1)))]) [1, 0] rfl ?_
              exact ih52 (i + 1) (by omega) (by first | assumption | omega)
        refine g_lvp (lv' := [(0, .ref h0), (1, .int (nI 0))]) [1, 0] rfl ?_
        exact L52 _ 0 (Nat.lt_succ_self _) (by first | assumption | omega)
      · refine g_aload_n (pc := 21) C dX0_init_21 0 rfl rfl ?_
        refine g_get (pc := 22) (ci := 0) (T := TX0) (N := 1) (v := .ref h1) C in_X0_init_X0 0 rfl rfl 0 (by decide) fl_X0_init_11 rfl rfl dX0_init_22 ?_
        refine g_iconst (pc := 25) (v := nI 0) C dX0_init_25 (by decide) ?_
        refine g_iload_n (pc := 26) C dX0_init_26 1 rfl rfl ?_
        refine g_iaddN (pc := 27) C dX0_init_27 ?_
        refine g_iload_n (pc := 28) C dX0_init_28 1 rfl rfl ?_
        refine g_iconst (pc := 29) (v := nI 2) C dX0_init_29 (by decide) ?_
        refine g_idivN (pc := 30) C dX0_init_30 (by omega) (by omega) (by omega) ?_
        refine g_iastN (pc := 31) (f := (gaF (gaF zF 0 i) 8 i)) (ws' := [(h0, .inr (0, [.ref h1])), (h1, .inl (cI, 154, .inl (upd (gaF (gaF zF 0 i) 8 i) (0 + i) (nI (i / 2)))))]) C 1 rfl (by omega) (by decide) dX0_init_31 rfl ?_
        refine g_aload_n (pc := 32) C dX0_init_32 0 rfl rfl ?_
        refine g_get (pc := 33) (ci := 0) (T := TX0) (N := 1) (v := .ref h1) C in_X0_init_X0 0 rfl rfl 0 (by decide) fl_X0_init_11 rfl rfl dX0_init_33 ?_
        refine g_bipush (pc := 36) (v := nI 8) C dX0_init_36 (by decide) ?_
        refine g_iload_n (pc := 38) C dX0_init_38 1 rfl rfl ?_
        refine g_iaddN (pc := 39) C dX0_init_39 ?_
        refine g_iload_n (pc := 40) C dX0_init_40 1 rfl rfl ?_
        refine g_iconst (pc := 41) (v := nI 2) C dX0_init_41 (by decide) ?_
        refine g_idivN (pc := 42) C dX0_init_42 (by omega) (by omega) (by omega) ?_
        refine g_iastN (pc := 43) (f := (upd (gaF (gaF zF 0 i) 8 i) (0 + i) (nI (i / 2)))) (ws' := [(h0, .inr (0, [.ref h1])), (h1, .inl (cI, 154, .inl (upd (upd (gaF (gaF zF 0 i) 8 i) (0 + i) (nI (i / 2))) (8 + i) (nI (i / 2)))))]) C 1 rfl (by omega) (by decide) dX0_init_43 rfl ?_
        refine g_iinc (pc := 44) (lv' := [(1, .int (nI (i + 1))), (0, .ref h0)]) C dX0_init_44 1 rfl (nI_add i 1) (by decide) rfl ?_
        refine g_goto (pc := 47) C 15 dX0_init_47 (by decide) ?_
        refine g_ws (ws' := [(h0, .inr (0, [.ref h1])), (h1, .inl (cI, 154, .inl (gaF (gaF zF 0 (i + 1)) 8 (i + 1))))]) (by rw [ga_c (by omega)]) ?_
        refine g_lvp (lv' := [(0, .ref h0), (1, .int (nI (i + 1)))]) [1, 0] rfl ?_
        exact ih15 (i + 1) (by omega) (by first | assumption | omega)
  refine g_lvp (lv' := [(0, .ref h0), (1, .int (nI 0))]) [1, 0] rfl ?_
  exact L15 _ 0 (Nat.lt_succ_self _) (by first | assumption | omega)

abbrev rm_X1_init : Room := { frames := 1, cells := 1, slots := 770, locals := 20 }
theorem yd_X1_init : yX1_init.cls = RX1 ∧ yX1_init.cls ≠ "java/lang/invoke/MethodHandle" ∧ yX1_init.cls ≠ "java/lang/invoke/VarHandle" ∧ (parseMethodDescriptor yX1_init.desc).map (fun d => d.parameters.length) = some 0 := by decide +kernel
theorem in_X1_init_X1 : ∀ w ∈ u_ws RX1 TX1 3, w ∈ wsX1_init := by decide +kernel
theorem fl_X1_init_11 : Cond.fieldLink RX1 11 "FenceHandshakes$History" "rows" "[I" ∈ wsX1_init := by decide +kernel
set_option maxHeartbeats 4000000 in
set_option maxRecDepth 100000 in
theorem m_X1_init (l : Launch) (D : va_G) (cI cC : ClassId) (h0 : Nat) : g_MI l yX1_init wsX1_init rm_X1_init 1 770 D cI cC [.ref h0] [(h0, .inr (1, [.null, .int (nI 0), .int (nI 0)]))] (fun ww => ∃ (h1 : Nat), ww = [(h0, .inr (1, [.ref h1, .int (nI 0), .int (nI 0)])), (h1, .inl (cI, 770, .inl zF))]) := by
  refine g_entryI (lv := [(0, .ref h0)]) (own := RX1) (by decide) rfl rfl rfl (Nat.le_of_ble_eq_true rfl) rfl ?_
  intro p e s m args below meth co A Q C hr hi hQ
  refine g_aload_n (pc := 0) C dX1_init_0 0 rfl rfl ?_
  refine g_objI (pc := 1) C (idx := 3) (by decide +kernel) (by decide +kernel) (by decide +kernel) dX1_init_1 (Nat.le_of_ble_eq_true rfl) (Nat.le_of_ble_eq_true rfl) ?_
  refine g_aload_n (pc := 4) C dX1_init_4 0 rfl rfl ?_
  refine g_sipush (pc := 5) (v := nI 770) C dX1_init_5 (by decide) ?_
  refine g_newI (pc := 8) (z := 770) C (by decide +kernel) (Nat.le_of_ble_eq_true rfl) (Nat.le_of_ble_eq_true rfl) (Nat.le_of_ble_eq_true rfl) (Nat.le_of_ble_eq_true rfl) dX1_init_8 (fun h1 => ?_)
  refine g_ws (ws' := [(h0, .inr (1, [.null, .int (nI 0), .int (nI 0)])), (h1, .inl (cI, 770, .inl (fun _ => nI 0)))]) rfl ?_
  refine g_putF (pc := 10) (ci := 1) (T := TX1) (N := 3) (ws' := [(h0, .inr (1, [.ref h1, .int (nI 0), .int (nI 0)])), (h1, .inl (cI, 770, .inl (fun _ => nI 0)))]) (ty := tyX1 0) (v := .ref h1) C hi in_X1_init_X1 tyX1 tyX1_ok nmX1 0 rfl rfl 0 (by decide) fl_X1_init_11 rfl rfl rfl (by decide +kernel) rfl rfl (Nat.le_of_ble_eq_true rfl) dX1_init_10 rfl ?_
  exact g_vretI C hr hQ dX1_init_13 ⟨_, rfl⟩

abbrev rm_X2_init : Room := { frames := 1, cells := 4, slots := 32, locals := 20 }
theorem yd_X2_init : yX2_init.cls = RX2 ∧ yX2_init.cls ≠ "java/lang/invoke/MethodHandle" ∧ yX2_init.cls ≠ "java/lang/invoke/VarHandle" ∧ (parseMethodDescriptor yX2_init.desc).map (fun d => d.parameters.length) = some 0 := by decide +kernel
theorem in_X2_init_X2 : ∀ w ∈ u_ws RX2 TX2 5, w ∈ wsX2_init := by decide +kernel
theorem fl_X2_init_9 : Cond.fieldLink RX2 9 "FenceHandshakes$Matching" "wished" "[I" ∈ wsX2_init := by decide +kernel
theorem fl_X2_init_15 : Cond.fieldLink RX2 15 "FenceHandshakes$Matching" "ofLeft" "[I" ∈ wsX2_init := by decide +kernel
theorem fl_X2_init_18 : Cond.fieldLink RX2 18 "FenceHandshakes$Matching" "ofRight" "[I" ∈ wsX2_init := by decide +kernel
theorem fl_X2_init_21 : Cond.fieldLink RX2 21 "FenceHandshakes$Matching" "seenFrom" "[I" ∈ wsX2_init := by decide +kernel
set_option maxHeartbeats 4000000 in
set_option maxRecDepth 100000 in
theorem m_X2_init (l : Launch) (D : va_G) (cI cC : ClassId) (h0 : Nat) : g_MI l yX2_init wsX2_init rm_X2_init 4 32 D cI cC [.ref h0] [(h0, .inr (2, [.null, .null, .null, .null, .int (nI 0)]))] (fun ww => ∃ (h1 : Nat) (h2 : Nat) (h3 : Nat) (h4 : Nat), ww = [(h0, .inr (2, [.ref h1, .ref h2, .ref h3, .ref h4, .int (nI 0)])), (h1, .inl (cI, 8, .inl zF)), (h2, .inl (cI, 8, .inl zF)), (h3, .inl (cI, 8, .inl zF)), (h4, .inl (cI, 8, .inl zF))]) := by
  refine g_entryI (lv := [(0, .ref h0)]) (own := RX2) (by decide) rfl rfl rfl (Nat.le_of_ble_eq_true rfl) rfl ?_
  intro p e s m args below meth co A Q C hr hi hQ
  refine g_aload_n (pc := 0) C dX2_init_0 0 rfl rfl ?_
  refine g_objI (pc := 1) C (idx := 3) (by decide +kernel) (by decide +kernel) (by decide +kernel) dX2_init_1 (Nat.le_of_ble_eq_true rfl) (Nat.le_of_ble_eq_true rfl) ?_
  refine g_aload_n (pc := 4) C dX2_init_4 0 rfl rfl ?_
  refine g_bipush (pc := 5) (v := nI 8) C dX2_init_5 (by decide) ?_
  refine g_newI (pc := 7) (z := 8) C (by decide +kernel) (Nat.le_of_ble_eq_true rfl) (Nat.le_of_ble_eq_true rfl) (Nat.le_of_ble_eq_true rfl) (Nat.le_of_ble_eq_true rfl) dX2_init_7 (fun h1 => ?_)
  refine g_ws (ws' := [(h0, .inr (2, [.null, .null, .null, .null, .int (nI 0)])), (h1, .inl (cI, 8, .inl (fun _ => nI 0)))]) rfl ?_
  refine g_putF (pc := 9) (ci := 2) (T := TX2) (N := 5) (ws' := [(h0, .inr (2, [.ref h1, .null, .null, .null, .int (nI 0)])), (h1, .inl (cI, 8, .inl (fun _ => nI 0)))]) (ty := tyX2 0) (v := .ref h1) C hi in_X2_init_X2 tyX2 tyX2_ok nmX2 0 rfl rfl 0 (by decide) fl_X2_init_9 rfl rfl rfl (by decide +kernel) rfl rfl (Nat.le_of_ble_eq_true rfl) dX2_init_9 rfl ?_
  refine g_aload_n (pc := 12) C dX2_init_12 0 rfl rfl ?_
  refine g_bipush (pc := 13) (v := nI 8) C dX2_init_13 (by decide) ?_
  refine g_newI (pc := 15) (z := 8) C (by decide +kernel) (Nat.le_of_ble_eq_true rfl) (Nat.le_of_ble_eq_true rfl) (Nat.le_of_ble_eq_true rfl) (Nat.le_of_ble_eq_true rfl) dX2_init_15 (fun h2 => ?_)
  refine g_ws (ws' := [(h0, .inr (2, [.ref h1, .null, .null, .null, .int (nI 0)])), (h1, .inl (cI, 8, .inl (fun _ => nI 0))), (h2, .inl (cI, 8, .inl (fun _ => nI 0)))]) rfl ?_
  refine g_putF (pc := 17) (ci := 2) (T := TX2) (N := 5) (ws' := [(h0, .inr (2, [.ref h1, .ref h2, .null, .null, .int (nI 0)])), (h1, .inl (cI, 8, .inl (fun _ => nI 0))), (h2, .inl (cI, 8, .inl (fun _ => nI 0)))]) (ty := tyX2 1) (v := .ref h2) C hi in_X2_init_X2 tyX2 tyX2_ok nmX2 0 rfl rfl 1 (by decide) fl_X2_init_15 rfl rfl rfl (by decide +kernel) rfl rfl (Nat.le_of_ble_eq_true rfl) dX2_init_17 rfl ?_
  refine g_aload_n (pc := 20) C dX2_init_20 0 rfl rfl ?_
  refine g_bipush (pc := 21) (v := nI 8) C dX2_init_21 (by decide) ?_
  refine g_newI (pc := 23) (z := 8) C (by decide +kernel) (Nat.le_of_ble_eq_true rfl) (Nat.le_of_ble_eq_true rfl) (Nat.le_of_ble_eq_true rfl) (Nat.le_of_ble_eq_true rfl) dX2_init_23 (fun h3 => ?_)
  refine g_ws (ws' := [(h0, .inr (2, [.ref h1, .ref h2, .null, .null, .int (nI 0)])), (h1, .inl (cI, 8, .inl (fun _ => nI 0))), (h2, .inl (cI, 8, .inl (fun _ => nI 0))), (h3, .inl (cI, 8, .inl (fun _ => nI 0)))]) rfl ?_
  refine g_putF (pc := 25) (ci := 2) (T := TX2) (N := 5) (ws' := [(h0, .inr (2, [.ref h1, .ref h2, .ref h3, .null, .int (nI 0)])), (h1, .inl (cI, 8, .inl (fun _ => nI 0))), (h2, .inl (cI, 8, .inl (fun _ => nI 0))), (h3, .inl (cI, 8, .inl (fun _ => nI 0)))]) (ty := tyX2 2) (v := .ref h3) C hi in_X2_init_X2 tyX2 tyX2_ok nmX2 0 rfl rfl 2 (by decide) fl_X2_init_18 rfl rfl rfl (by decide +kernel) rfl rfl (Nat.le_of_ble_eq_true rfl) dX2_init_25 rfl ?_
  refine g_aload_n (pc := 28) C dX2_init_28 0 rfl rfl ?_
  refine g_bipush (pc := 29) (v := nI 8) C dX2_init_29 (by decide) ?_
  refine g_newI (pc := 31) (z := 8) C (by decide +kernel) (Nat.le_of_ble_eq_true rfl) (Nat.le_of_ble_eq_true rfl) (Nat.le_of_ble_eq_true rfl) (Nat.le_of_ble_eq_true rfl) dX2_init_31 (fun h4 => ?_)
  refine g_ws (ws' := [(h0, .inr (2, [.ref h1, .ref h2, .ref h3, .null, .int (nI 0)])), (h1, .inl (cI, 8, .inl (fun _ => nI 0))), (h2, .inl (cI, 8, .inl (fun _ => nI 0))), (h3, .inl (cI, 8, .inl (fun _ => nI 0))), (h4, .inl (cI, 8, .inl (fun _ => nI 0)))]) rfl ?_
  refine g_putF (pc := 33) (ci := 2) (T := TX2) (N := 5) (ws' := [(h0, .inr (2, [.ref h1, .ref h2, .ref h3, .ref h4, .int (nI 0)])), (h1, .inl (cI, 8, .inl (fun _ => nI 0))), (h2, .inl (cI, 8, .inl (fun _ => nI 0))), (h3, .inl (cI, 8, .inl (fun _ => nI 0))), (h4, .inl (cI, 8, .inl (fun _ => nI 0)))]) (ty := tyX2 3) (v := .ref h4) C hi in_X2_init_X2 tyX2 tyX2_ok nmX2 0 rfl rfl 3 (by decide) fl_X2_init_21 rfl rfl rfl (by decide +kernel) rfl rfl (Nat.le_of_ble_eq_true rfl) dX2_init_33 rfl ?_
  exact g_vretI C hr hQ dX2_init_36 ⟨_, _, _, _, rfl⟩

abbrev rm_X3_init : Room := { frames := 1, cells := 1, slots := 64, locals := 20 }
theorem yd_X3_init : yX3_init.cls = RX3 ∧ yX3_init.cls ≠ "java/lang/invoke/MethodHandle" ∧ yX3_init.cls ≠ "java/lang/invoke/VarHandle" ∧ (parseMethodDescriptor yX3_init.desc).map (fun d => d.parameters.length) = some 0 := by decide +kernel
theorem in_X3_init_X3 : ∀ w ∈ u_ws RX3 TX3 1, w ∈ wsX3_init := by decide +kernel
theorem fl_X3_init_9 : Cond.fieldLink RX3 9 "FenceHandshakes$Plan" "numbers" "[I" ∈ wsX3_init := by decide +kernel
set_option maxHeartbeats 4000000 in
set_option maxRecDepth 100000 in
theorem m_X3_init (l : Launch) (D : va_G) (cI cC : ClassId) (h0 : Nat) : g_MI l yX3_init wsX3_init rm_X3_init 1 64 D cI cC [.ref h0] [(h0, .inr (3, [.null]))] (fun ww => ∃ (h1 : Nat), ww = [(h0, .inr (3, [.ref h1])), (h1, .inl (cI, 64, .inl zF))]) := by
  refine g_entryI (lv := [(0, .ref h0)]) (own := RX3) (by decide) rfl rfl rfl (Nat.le_of_ble_eq_true rfl) rfl ?_
  intro p e s m args below meth co A Q C hr hi hQ
  refine g_aload_n (pc := 0) C dX3_init_0 0 rfl rfl ?_
  refine g_objI (pc := 1) C (idx := 3) (by decide +kernel) (by decide +kernel) (by decide +kernel) dX3_init_1 (Nat.le_of_ble_eq_true rfl) (Nat.le_of_ble_eq_true rfl) ?_
  refine g_aload_n (pc := 4) C dX3_init_4 0 rfl rfl ?_
  refine g_bipush (pc := 5) (v := nI 64) C dX3_init_5 (by decide) ?_
  refine g_newI (pc := 7) (z := 64) C (by decide +kernel) (Nat.le_of_ble_eq_true rfl) (Nat.le_of_ble_eq_true rfl) (Nat.le_of_ble_eq_true rfl) (Nat.le_of_ble_eq_true rfl) dX3_init_7 (fun h1 => ?_)
  refine g_ws (ws' := [(h0, .inr (3, [.null])), (h1, .inl (cI, 64, .inl (fun _ => nI 0)))]) rfl ?_
  refine g_putF (pc := 9) (ci := 3) (T := TX3) (N := 1) (ws' := [(h0, .inr (3, [.ref h1])), (h1, .inl (cI, 64, .inl (fun _ => nI 0)))]) (ty := tyX3 0) (v := .ref h1) C hi in_X3_init_X3 tyX3 tyX3_ok nmX3 0 rfl rfl 0 (by decide) fl_X3_init_9 rfl rfl rfl (by decide +kernel) rfl rfl (Nat.le_of_ble_eq_true rfl) dX3_init_9 rfl ?_
  exact g_vretI C hr hQ dX3_init_12 ⟨_, rfl⟩

abbrev rm_X4_init : Room := { frames := 1, cells := 2, slots := 88, locals := 20 }
theorem yd_X4_init : yX4_init.cls = RX4 ∧ yX4_init.cls ≠ "java/lang/invoke/MethodHandle" ∧ yX4_init.cls ≠ "java/lang/invoke/VarHandle" ∧ (parseMethodDescriptor yX4_init.desc).map (fun d => d.parameters.length) = some 0 := by decide +kernel
theorem in_X4_init_X4 : ∀ w ∈ u_ws RX4 TX4 6, w ∈ wsX4_init := by decide +kernel
theorem fl_X4_init_9 : Cond.fieldLink RX4 9 "FenceHandshakes$WishText" "signs" "[C" ∈ wsX4_init := by decide +kernel
theorem fl_X4_init_15 : Cond.fieldLink RX4 15 "FenceHandshakes$WishText" "rows" "[I" ∈ wsX4_init := by decide +kernel
set_option maxHeartbeats 4000000 in
set_option maxRecDepth 100000 in
theorem m_X4_init (l : Launch) (D : va_G) (cI cC : ClassId) (h0 : Nat) : g_MI l yX4_init wsX4_init rm_X4_init 2 88 D cI cC [.ref h0] [(h0, .inr (4, [.null, .int (nI 0), .null, .int (nI 0), .int (nI 0), .int (bI false)]))] (fun ww => ∃ (h1 : Nat) (h2 : Nat), ww = [(h0, .inr (4, [.ref h1, .int (nI 0), .ref h2, .int (nI 0), .int (nI 0), .int (bI false)])), (h1, .inl (cC, 80, .inl zF)), (h2, .inl (cI, 8, .inl zF))]) := by
  refine g_entryI (lv := [(0, .ref h0)]) (own := RX4) (by decide) rfl rfl rfl (Nat.le_of_ble_eq_true rfl) rfl ?_
  intro p e s m args below meth co A Q C hr hi hQ
  refine g_aload_n (pc := 0) C dX4_init_0 0 rfl rfl ?_
  refine g_objI (pc := 1) C (idx := 3) (by decide +kernel) (by decide +kernel) (by decide +kernel) dX4_init_1 (Nat.le_of_ble_eq_true rfl) (Nat.le_of_ble_eq_true rfl) ?_
  refine g_aload_n (pc := 4) C dX4_init_4 0 rfl rfl ?_
  refine g_bipush (pc := 5) (v := nI 80) C dX4_init_5 (by decide) ?_
  refine g_newC (pc := 7) (z := 80) C (by decide +kernel) (Nat.le_of_ble_eq_true rfl) (Nat.le_of_ble_eq_true rfl) (Nat.le_of_ble_eq_true rfl) (Nat.le_of_ble_eq_true rfl) dX4_init_7 (fun h1 => ?_)
  refine g_ws (ws' := [(h0, .inr (4, [.null, .int (nI 0), .null, .int (nI 0), .int (nI 0), .int (bI false)])), (h1, .inl (cC, 80, .inl (fun _ => nI 0)))]) rfl ?_
  refine g_putF (pc := 9) (ci := 4) (T := TX4) (N := 6) (ws' := [(h0, .inr (4, [.ref h1, .int (nI 0), .null, .int (nI 0), .int (nI 0), .int (bI false)])), (h1, .inl (cC, 80, .inl (fun _ => nI 0)))]) (ty := tyX4 0) (v := .ref h1) C hi in_X4_init_X4 tyX4 tyX4_ok nmX4 0 rfl rfl 0 (by decide) fl_X4_init_9 rfl rfl rfl (by decide +kernel) rfl rfl (Nat.le_of_ble_eq_true rfl) dX4_init_9 rfl ?_
  refine g_aload_n (pc := 12) C dX4_init_12 0 rfl rfl ?_
  refine g_bipush (pc := 13) (v := nI 8) C dX4_init_13 (by decide) ?_
  refine g_newI (pc := 15) (z := 8) C (by decide +kernel) (Nat.le_of_ble_eq_true rfl) (Nat.le_of_ble_eq_true rfl) (Nat.le_of_ble_eq_true rfl) (Nat.le_of_ble_eq_true rfl) dX4_init_15 (fun h2 => ?_)
  refine g_ws (ws' := [(h0, .inr (4, [.ref h1, .int (nI 0), .null, .int (nI 0), .int (nI 0), .int (bI false)])), (h1, .inl (cC, 80, .inl (fun _ => nI 0))), (h2, .inl (cI, 8, .inl (fun _ => nI 0)))]) rfl ?_
  refine g_putF (pc := 17) (ci := 4) (T := TX4) (N := 6) (ws' := [(h0, .inr (4, [.ref h1, .int (nI 0), .ref h2, .int (nI 0), .int (nI 0), .int (bI false)])), (h1, .inl (cC, 80, .inl (fun _ => nI 0))), (h2, .inl (cI, 8, .inl (fun _ => nI 0)))]) (ty := tyX4 2) (v := .ref h2) C hi in_X4_init_X4 tyX4 tyX4_ok nmX4 0 rfl rfl 2 (by decide) fl_X4_init_15 rfl rfl rfl (by decide +kernel) rfl rfl (Nat.le_of_ble_eq_true rfl) dX4_init_17 rfl ?_
  exact g_vretI C hr hQ dX4_init_20 ⟨_, _, rfl⟩

abbrev rm_X5_init : Room := { frames := 2, cells := 18, slots := 1434, locals := 41 }
theorem yd_X5_init : yX5_init.cls = RX5 ∧ yX5_init.cls ≠ "java/lang/invoke/MethodHandle" ∧ yX5_init.cls ≠ "java/lang/invoke/VarHandle" ∧ (parseMethodDescriptor yX5_init.desc).map (fun d => d.parameters.length) = some 0 := by decide +kernel
theorem in_X5_init_X0 : ∀ w ∈ u_ws RX0 TX0 1, w ∈ wsX5_init := by decide +kernel
theorem in_X5_init_X1 : ∀ w ∈ u_ws RX1 TX1 3, w ∈ wsX5_init := by decide +kernel
theorem in_X5_init_X2 : ∀ w ∈ u_ws RX2 TX2 5, w ∈ wsX5_init := by decide +kernel
theorem in_X5_init_X3 : ∀ w ∈ u_ws RX3 TX3 1, w ∈ wsX5_init := by decide +kernel
theorem in_X5_init_X4 : ∀ w ∈ u_ws RX4 TX4 6, w ∈ wsX5_init := by decide +kernel
theorem in_X5_init_X5 : ∀ w ∈ u_ws RX5 TX5 8, w ∈ wsX5_init := by decide +kernel
theorem fl_X5_init_12 : Cond.fieldLink RX5 12 "FenceHandshakes" "now" "LFenceHandshakes$Clans;" ∈ wsX5_init := by decide +kernel
theorem fl_X5_init_16 : Cond.fieldLink RX5 16 "FenceHandshakes" "trial" "LFenceHandshakes$Clans;" ∈ wsX5_init := by decide +kernel
theorem fl_X5_init_19 : Cond.fieldLink RX5 19 "FenceHandshakes" "snapshot" "LFenceHandshakes$Clans;" ∈ wsX5_init := by decide +kernel
theorem fl_X5_init_25 : Cond.fieldLink RX5 25 "FenceHandshakes" "history" "LFenceHandshakes$History;" ∈ wsX5_init := by decide +kernel
theorem fl_X5_init_32 : Cond.fieldLink RX5 32 "FenceHandshakes" "text" "LFenceHandshakes$WishText;" ∈ wsX5_init := by decide +kernel
theorem fl_X5_init_39 : Cond.fieldLink RX5 39 "FenceHandshakes" "matching" "LFenceHandshakes$Matching;" ∈ wsX5_init := by decide +kernel
theorem fl_X5_init_46 : Cond.fieldLink RX5 46 "FenceHandshakes" "plan" "LFenceHandshakes$Plan;" ∈ wsX5_init := by decide +kernel
theorem fl_X5_init_50 : Cond.fieldLink RX5 50 "FenceHandshakes" "hasSnapshot" "Z" ∈ wsX5_init := by decide +kernel
set_option maxHeartbeats 4000000 in
set_option maxRecDepth 100000 in
theorem m_X5_init (l : Launch) (D : va_G) (cI cC : ClassId) (x0 : Nat) : g_MI l yX5_init wsX5_init rm_X5_init 18 1434 D cI cC [.ref x0] [(x0, .inr (5, [.null, .null, .null, .int (bI false), .null, .null, .null, .null]))] (fun ww => ∃ (n0 : Nat) (n1 : Nat) (t0 : Nat) (t1 : Nat) (s0 : Nat) (s1 : Nat) (g0 : Nat) (g1 : Nat) (w0 : Nat) (w1 : Nat) (w2 : Nat) (m0 : Nat) (m1 : Nat) (m2 : Nat) (m3 : Nat) (m4 : Nat) (p0 : Nat) (p1 : Nat), ww = xW cI cC x0 n0 n1 t0 t1 s0 s1 g0 g1 w0 w1 w2 m0 m1 m2 m3 m4 p0 p1 (bI false) cI0 cI0 cI0 zF (nI 0) (nI 0) zF (nI 0) zF (nI 0) (nI 0) (bI false) zF zF zF zF (nI 0) zF) := by
  refine g_entryI (lv := [(0, .ref x0)]) (own := RX5) (by decide) rfl rfl rfl (Nat.le_of_ble_eq_true rfl) rfl ?_
  intro p e s m args below meth co A Q C hr hi hQ
  refine g_aload_n (pc := 0) C dX5_init_0 0 rfl rfl ?_
  refine g_objI (pc := 1) C (idx := 3) (by decide +kernel) (by decide +kernel) (by decide +kernel) dX5_init_1 (Nat.le_of_ble_eq_true rfl) (Nat.le_of_ble_eq_true rfl) ?_
  refine g_aload_n (pc := 4) C dX5_init_4 0 rfl rfl ?_
  refine g_new (pc := 5) (Cn := RX0) (T := TX0) (N := 1) (ci := 0) C in_X5_init_X0 tyX0 tyX0_ok (by decide +kernel) (by decide +kernel) (by decide +kernel) rfl [.null] (fun j hj => by cases (show j = 0 by omega); rfl) (Nat.le_of_ble_eq_true rfl) (Nat.le_of_ble_eq_true rfl) dX5_init_5 (fun n0 => ?_)
  refine g_ws (ws' := [(x0, .inr (5, [.null, .null, .null, .int (bI false), .null, .null, .null, .null])), (n0, .inr (0, [.null]))]) rfl ?_
  refine g_dup (pc := 8) C dX5_init_8 rfl ?_
  refine g_callI (pc := 9) (index := 11) (nn := 0) (b := n0) (As := []) (st := [.ref n0, .ref x0]) (wr := [(x0, .inr (5, [.null, .null, .null, .int (bI false), .null, .null, .null, .null]))]) C (m_X0_init l D cI cC n0) (g_cwI 0 C.1.2.2.2.2 gX5_init_X0_init rfl rfl rfl (by decide +kernel) (by decide +kernel) (by decide +kernel) rfl yd_X0_init.2 ⟨Nat.le_of_ble_eq_true rfl, Nat.le_of_ble_eq_true rfl⟩) rfl [1] [0] rfl rfl rfl rfl (by decide) rfl (Nat.le_of_ble_eq_true rfl) ⟨Nat.le_of_ble_eq_true rfl, Nat.le_of_ble_eq_true rfl⟩ dX5_init_9 ?_
  rintro _ ⟨n1, rfl⟩
  refine g_ws (ws' := [(x0, .inr (5, [.null, .null, .null, .int (bI false), .null, .null, .null, .null])), (n0, .inr (0, [.ref n1])), (n1, .inl (cI, 154, .inl cI0))]) rfl ?_
  refine g_putF (pc := 12) (ci := 5) (T := TX5) (N := 8) (ws' := [(x0, .inr (5, [.ref n0, .null, .null, .int (bI false), .null, .null, .null, .null])), (n0, .inr (0, [.ref n1])), (n1, .inl (cI, 154, .inl cI0))]) (ty := tyX5 0) (v := .ref n0) C hi in_X5_init_X5 tyX5 tyX5_ok nmX5 0 rfl rfl 0 (by decide) fl_X5_init_12 rfl rfl rfl (by decide +kernel) rfl rfl (Nat.le_of_ble_eq_true rfl) dX5_init_12 rfl ?_
  refine g_aload_n (pc := 15) C dX5_init_15 0 rfl rfl ?_
  refine g_new (pc := 16) (Cn := RX0) (T := TX0) (N := 1) (ci := 0) C in_X5_init_X0 tyX0 tyX0_ok (by decide +kernel) (by decide +kernel) (by decide +kernel) rfl [.null] (fun j hj => by cases (show j = 0 by omega); rfl) (Nat.le_of_ble_eq_true rfl) (Nat.le_of_ble_eq_true rfl) dX5_init_16 (fun t0 => ?_)
  refine g_ws (ws' := [(x0, .inr (5, [.ref n0, .null, .null, .int (bI false), .null, .null, .null, .null])), (n0, .inr (0, [.ref n1])), (n1, .inl (cI, 154, .inl cI0)), (t0, .inr (0, [.null]))]) rfl ?_
  refine g_dup (pc := 19) C dX5_init_19 rfl ?_
  refine g_callI (pc := 20) (index := 11) (nn := 0) (b := t0) (As := []) (st := [.ref t0, .ref x0]) (wr := [(x0, .inr (5, [.ref n0, .null, .null, .int (bI false), .null, .null, .null, .null])), (n0, .inr (0, [.ref n1])), (n1, .inl (cI, 154, .inl cI0))]) C (m_X0_init l D cI cC t0) (g_cwI 0 C.1.2.2.2.2 gX5_init_X0_init rfl rfl rfl (by decide +kernel) (by decide +kernel) (by decide +kernel) rfl yd_X0_init.2 ⟨Nat.le_of_ble_eq_true rfl, Nat.le_of_ble_eq_true rfl⟩) rfl [3] [0, 1, 2] rfl rfl rfl rfl (by decide) rfl (Nat.le_of_ble_eq_true rfl) ⟨Nat.le_of_ble_eq_true rfl, Nat.le_of_ble_eq_true rfl⟩ dX5_init_20 ?_
  rintro _ ⟨t1, rfl⟩
  refine g_ws (ws' := [(x0, .inr (5, [.ref n0, .null, .null, .int (bI false), .null, .null, .null, .null])), (n0, .inr (0, [.ref n1])), (n1, .inl (cI, 154, .inl cI0)), (t0, .inr (0, [.ref t1])), (t1, .inl (cI, 154, .inl cI0))]) rfl ?_
  refine g_putF (pc := 23) (ci := 5) (T := TX5) (N := 8) (ws' := [(x0, .inr (5, [.ref n0, .ref t0, .null, .int (bI false), .null, .null, .null, .null])), (n0, .inr (0, [.ref n1])), (n1, .inl (cI, 154, .inl cI0)), (t0, .inr (0, [.ref t1])), (t1, .inl (cI, 154, .inl cI0))]) (ty := tyX5 1) (v := .ref t0) C hi in_X5_init_X5 tyX5 tyX5_ok nmX5 0 rfl rfl 1 (by decide) fl_X5_init_16 rfl rfl rfl (by decide +kernel) rfl rfl (Nat.le_of_ble_eq_true rfl) dX5_init_23 rfl ?_
  refine g_aload_n (pc := 26) C dX5_init_26 0 rfl rfl ?_
  refine g_new (pc := 27) (Cn := RX0) (T := TX0) (N := 1) (ci := 0) C in_X5_init_X0 tyX0 tyX0_ok (by decide +kernel) (by decide +kernel) (by decide +kernel) rfl [.null] (fun j hj => by cases (show j = 0 by omega); rfl) (Nat.le_of_ble_eq_true rfl) (Nat.le_of_ble_eq_true rfl) dX5_init_27 (fun s0 => ?_)
  refine g_ws (ws' := [(x0, .inr (5, [.ref n0, .ref t0, .null, .int (bI false), .null, .null, .null, .null])), (n0, .inr (0, [.ref n1])), (n1, .inl (cI, 154, .inl cI0)), (t0, .inr (0, [.ref t1])), (t1, .inl (cI, 154, .inl cI0)), (s0, .inr (0, [.null]))]) rfl ?_
  refine g_dup (pc := 30) C dX5_init_30 rfl ?_
  refine g_callI (pc := 31) (index := 11) (nn := 0) (b := s0) (As := []) (st := [.ref s0, .ref x0]) (wr := [(x0, .inr (5, [.ref n0, .ref t0, .null, .int (bI false), .null, .null, .null, .null])), (n0, .inr (0, [.ref n1])), (n1, .inl (cI, 154, .inl cI0)), (t0, .inr (0, [.ref t1])), (t1, .inl (cI, 154, .inl cI0))]) C (m_X0_init l D cI cC s0) (g_cwI 0 C.1.2.2.2.2 gX5_init_X0_init rfl rfl rfl (by decide +kernel) (by decide +kernel) (by decide +kernel) rfl yd_X0_init.2 ⟨Nat.le_of_ble_eq_true rfl, Nat.le_of_ble_eq_true rfl⟩) rfl [5] [0, 1, 2, 3, 4] rfl rfl rfl rfl (by decide) rfl (Nat.le_of_ble_eq_true rfl) ⟨Nat.le_of_ble_eq_true rfl, Nat.le_of_ble_eq_true rfl⟩ dX5_init_31 ?_
  rintro _ ⟨s1, rfl⟩
  refine g_ws (ws' := [(x0, .inr (5, [.ref n0, .ref t0, .null, .int (bI false), .null, .null, .null, .null])), (n0, .inr (0, [.ref n1])), (n1, .inl (cI, 154, .inl cI0)), (t0, .inr (0, [.ref t1])), (t1, .inl (cI, 154, .inl cI0)), (s0, .inr (0, [.ref s1])), (s1, .inl (cI, 154, .inl cI0))]) rfl ?_
  refine g_putF (pc := 34) (ci := 5) (T := TX5) (N := 8) (ws' := [(x0, .inr (5, [.ref n0, .ref t0, .ref s0, .int (bI false), .null, .null, .null, .null])), (n0, .inr (0, [.ref n1])), (n1, .inl (cI, 154, .inl cI0)), (t0, .inr (0, [.ref t1])), (t1, .inl (cI, 154, .inl cI0)), (s0, .inr (0, [.ref s1])), (s1, .inl (cI, 154, .inl cI0))]) (ty := tyX5 2) (v := .ref s0) C hi in_X5_init_X5 tyX5 tyX5_ok nmX5 0 rfl rfl 2 (by decide) fl_X5_init_19 rfl rfl rfl (by decide +kernel) rfl rfl (Nat.le_of_ble_eq_true rfl) dX5_init_34 rfl ?_
  refine g_aload_n (pc := 37) C dX5_init_37 0 rfl rfl ?_
  refine g_new (pc := 38) (Cn := RX1) (T := TX1) (N := 3) (ci := 1) C in_X5_init_X1 tyX1 tyX1_ok (by decide +kernel) (by decide +kernel) (by decide +kernel) rfl [.null, .int (nI 0), .int (nI 0)] (fun j hj => by rcases (show j = 0 ∨ j = 1 ∨ j = 2 by omega) with rfl | rfl | rfl <;> rfl) (Nat.le_of_ble_eq_true rfl) (Nat.le_of_ble_eq_true rfl) dX5_init_38 (fun g0 => ?_)
  refine g_ws (ws' := [(x0, .inr (5, [.ref n0, .ref t0, .ref s0, .int (bI false), .null, .null, .null, .null])), (n0, .inr (0, [.ref n1])), (n1, .inl (cI, 154, .inl cI0)), (t0, .inr (0, [.ref t1])), (t1, .inl (cI, 154, .inl cI0)), (s0, .inr (0, [.ref s1])), (s1, .inl (cI, 154, .inl cI0)), (g0, .inr (1, [.null, .int (nI 0), .int (nI 0)]))]) rfl ?_
  refine g_dup (pc := 41) C dX5_init_41 rfl ?_
  refine g_callIN (pc := 42) (index := 24) (nn := 0) (b := g0) (As := []) (st := [.ref g0, .ref x0]) (wr := [(x0, .inr (5, [.ref n0, .ref t0, .ref s0, .int (bI false), .null, .null, .null, .null])), (n0, .inr (0, [.ref n1])), (n1, .inl (cI, 154, .inl cI0)), (t0, .inr (0, [.ref t1])), (t1, .inl (cI, 154, .inl cI0)), (s0, .inr (0, [.ref s1])), (s1, .inl (cI, 154, .inl cI0))]) (host := "FenceHandshakes") C (m_X1_init l D cI cC g0) gX5_init_X1_init_n24 rfl rfl rfl (by decide +kernel) (by decide +kernel) (by decide +kernel) rfl yd_X1_init.2 ⟨Nat.le_of_ble_eq_true rfl, Nat.le_of_ble_eq_true rfl⟩ rfl [7] [0, 1, 2, 3, 4, 5, 6] rfl rfl rfl rfl (by decide) rfl (Nat.le_of_ble_eq_true rfl) ⟨Nat.le_of_ble_eq_true rfl, Nat.le_of_ble_eq_true rfl⟩ dX5_init_42 ?_
  rintro _ ⟨g1, rfl⟩
  refine g_ws (ws' := [(x0, .inr (5, [.ref n0, .ref t0, .ref s0, .int (bI false), .null, .null, .null, .null])), (n0, .inr (0, [.ref n1])), (n1, .inl (cI, 154, .inl cI0)), (t0, .inr (0, [.ref t1])), (t1, .inl (cI, 154, .inl cI0)), (s0, .inr (0, [.ref s1])), (s1, .inl (cI, 154, .inl cI0)), (g0, .inr (1, [.ref g1, .int (nI 0), .int (nI 0)])), (g1, .inl (cI, 770, .inl (fun _ => nI 0)))]) rfl ?_
  refine g_putF (pc := 45) (ci := 5) (T := TX5) (N := 8) (ws' := [(x0, .inr (5, [.ref n0, .ref t0, .ref s0, .int (bI false), .ref g0, .null, .null, .null])), (n0, .inr (0, [.ref n1])), (n1, .inl (cI, 154, .inl cI0)), (t0, .inr (0, [.ref t1])), (t1, .inl (cI, 154, .inl cI0)), (s0, .inr (0, [.ref s1])), (s1, .inl (cI, 154, .inl cI0)), (g0, .inr (1, [.ref g1, .int (nI 0), .int (nI 0)])), (g1, .inl (cI, 770, .inl (fun _ => nI 0)))]) (ty := tyX5 4) (v := .ref g0) C hi in_X5_init_X5 tyX5 tyX5_ok nmX5 0 rfl rfl 4 (by decide) fl_X5_init_25 rfl rfl rfl (by decide +kernel) rfl rfl (Nat.le_of_ble_eq_true rfl) dX5_init_45 rfl ?_
  refine g_aload_n (pc := 48) C dX5_init_48 0 rfl rfl ?_
  refine g_new (pc := 49) (Cn := RX4) (T := TX4) (N := 6) (ci := 4) C in_X5_init_X4 tyX4 tyX4_ok (by decide +kernel) (by decide +kernel) (by decide +kernel) rfl [.null, .int (nI 0), .null, .int (nI 0), .int (nI 0), .int (bI false)] (fun j hj => by rcases (show j = 0 ∨ j = 1 ∨ j = 2 ∨ j = 3 ∨ j = 4 ∨ j = 5 by omega) with rfl | rfl | rfl | rfl | rfl | rfl <;> rfl) (Nat.le_of_ble_eq_true rfl) (Nat.le_of_ble_eq_true rfl) dX5_init_49 (fun w0 => ?_)
  refine g_ws (ws' := [(x0, .inr (5, [.ref n0, .ref t0, .ref s0, .int (bI false), .ref g0, .null, .null, .null])), (n0, .inr (0, [.ref n1])), (n1, .inl (cI, 154, .inl cI0)), (t0, .inr (0, [.ref t1])), (t1, .inl (cI, 154, .inl cI0)), (s0, .inr (0, [.ref s1])), (s1, .inl (cI, 154, .inl cI0)), (g0, .inr (1, [.ref g1, .int (nI 0), .int (nI 0)])), (g1, .inl (cI, 770, .inl (fun _ => nI 0))), (w0, .inr (4, [.null, .int (nI 0), .null, .int (nI 0), .int (nI 0), .int (bI false)]))]) rfl ?_
  refine g_dup (pc := 52) C dX5_init_52 rfl ?_
  refine g_callIN (pc := 53) (index := 31) (nn := 0) (b := w0) (As := []) (st := [.ref w0, .ref x0]) (wr := [(x0, .inr (5, [.ref n0, .ref t0, .ref s0, .int (bI false), .ref g0, .null, .null, .null])), (n0, .inr (0, [.ref n1])), (n1, .inl (cI, 154, .inl cI0)), (t0, .inr (0, [.ref t1])), (t1, .inl (cI, 154, .inl cI0)), (s0, .inr (0, [.ref s1])), (s1, .inl (cI, 154, .inl cI0)), (g0, .inr (1, [.ref g1, .int (nI 0), .int (nI 0)])), (g1, .inl (cI, 770, .inl (fun _ => nI 0)))]) (host := "FenceHandshakes") C (m_X4_init l D cI cC w0) gX5_init_X4_init_n31 rfl rfl rfl (by decide +kernel) (by decide +kernel) (by decide +kernel) rfl yd_X4_init.2 ⟨Nat.le_of_ble_eq_true rfl, Nat.le_of_ble_eq_true rfl⟩ rfl [9] [0, 1, 2, 3, 4, 5, 6, 7, 8] rfl rfl rfl rfl (by decide) rfl (Nat.le_of_ble_eq_true rfl) ⟨Nat.le_of_ble_eq_true rfl, Nat.le_of_ble_eq_true rfl⟩ dX5_init_53 ?_
  rintro _ ⟨w1, w2, rfl⟩
  refine g_ws (ws' := [(x0, .inr (5, [.ref n0, .ref t0, .ref s0, .int (bI false), .ref g0, .null, .null, .null])), (n0, .inr (0, [.ref n1])), (n1, .inl (cI, 154, .inl cI0)), (t0, .inr (0, [.ref t1])), (t1, .inl (cI, 154, .inl cI0)), (s0, .inr (0, [.ref s1])), (s1, .inl (cI, 154, .inl cI0)), (g0, .inr (1, [.ref g1, .int (nI 0), .int (nI 0)])), (g1, .inl (cI, 770, .inl (fun _ => nI 0))), (w0, .inr (4, [.ref w1, .int (nI 0), .ref w2, .int (nI 0), .int (nI 0), .int (bI false)])), (w1, .inl (cC, 80, .inl (fun _ => nI 0))), (w2, .inl (cI, 8, .inl (fun _ => nI 0)))]) rfl ?_
  refine g_putF (pc := 56) (ci := 5) (T := TX5) (N := 8) (ws' := [(x0, .inr (5, [.ref n0, .ref t0, .ref s0, .int (bI false), .ref g0, .ref w0, .null, .null])), (n0, .inr (0, [.ref n1])), (n1, .inl (cI, 154, .inl cI0)), (t0, .inr (0, [.ref t1])), (t1, .inl (cI, 154, .inl cI0)), (s0, .inr (0, [.ref s1])), (s1, .inl (cI, 154, .inl cI0)), (g0, .inr (1, [.ref g1, .int (nI 0), .int (nI 0)])), (g1, .inl (cI, 770, .inl (fun _ => nI 0))), (w0, .inr (4, [.ref w1, .int (nI 0), .ref w2, .int (nI 0), .int (nI 0), .int (bI false)])), (w1, .inl (cC, 80, .inl (fun _ => nI 0))), (w2, .inl (cI, 8, .inl (fun _ => nI 0)))]) (ty := tyX5 5) (v := .ref w0) C hi in_X5_init_X5 tyX5 tyX5_ok nmX5 0 rfl rfl 5 (by decide) fl_X5_init_32 rfl rfl rfl (by decide +kernel) rfl rfl (Nat.le_of_ble_eq_true rfl) dX5_init_56 rfl ?_
  refine g_aload_n (pc := 59) C dX5_init_59 0 rfl rfl ?_
  refine g_new (pc := 60) (Cn := RX2) (T := TX2) (N := 5) (ci := 2) C in_X5_init_X2 tyX2 tyX2_ok (by decide +kernel) (by decide +kernel) (by decide +kernel) rfl [.null, .null, .null, .null, .int (nI 0)] (fun j hj => by rcases (show j = 0 ∨ j = 1 ∨ j = 2 ∨ j = 3 ∨ j = 4 by omega) with rfl | rfl | rfl | rfl | rfl <;> rfl) (Nat.le_of_ble_eq_true rfl) (Nat.le_of_ble_eq_true rfl) dX5_init_60 (fun m0 => ?_)
  refine g_ws (ws' := [(x0, .inr (5, [.ref n0, .ref t0, .ref s0, .int (bI false), .ref g0, .ref w0, .null, .null])), (n0, .inr (0, [.ref n1])), (n1, .inl (cI, 154, .inl cI0)), (t0, .inr (0, [.ref t1])), (t1, .inl (cI, 154, .inl cI0)), (s0, .inr (0, [.ref s1])), (s1, .inl (cI, 154, .inl cI0)), (g0, .inr (1, [.ref g1, .int (nI 0), .int (nI 0)])), (g1, .inl (cI, 770, .inl (fun _ => nI 0))), (w0, .inr (4, [.ref w1, .int (nI 0), .ref w2, .int (nI 0), .int (nI 0), .int (bI false)])), (w1, .inl (cC, 80, .inl (fun _ => nI 0))), (w2, .inl (cI, 8, .inl (fun _ => nI 0))), (m0, .inr (2, [.null, .null, .null, .null, .int (nI 0)]))]) rfl ?_
  refine g_dup (pc := 63) C dX5_init_63 rfl ?_
  refine g_callIN (pc := 64) (index := 38) (nn := 0) (b := m0) (As := []) (st := [.ref m0, .ref x0]) (wr := [(x0, .inr (5, [.ref n0, .ref t0, .ref s0, .int (bI false), .ref g0, .ref w0, .null, .null])), (n0, .inr (0, [.ref n1])), (n1, .inl (cI, 154, .inl cI0)), (t0, .inr (0, [.ref t1])), (t1, .inl (cI, 154, .inl cI0)), (s0, .inr (0, [.ref s1])), (s1, .inl (cI, 154, .inl cI0)), (g0, .inr (1, [.ref g1, .int (nI 0), .int (nI 0)])), (g1, .inl (cI, 770, .inl (fun _ => nI 0))), (w0, .inr (4, [.ref w1, .int (nI 0), .ref w2, .int (nI 0), .int (nI 0), .int (bI false)])), (w1, .inl (cC, 80, .inl (fun _ => nI 0))), (w2, .inl (cI, 8, .inl (fun _ => nI 0)))]) (host := "FenceHandshakes") C (m_X2_init l D cI cC m0) gX5_init_X2_init_n38 rfl rfl rfl (by decide +kernel) (by decide +kernel) (by decide +kernel) rfl yd_X2_init.2 ⟨Nat.le_of_ble_eq_true rfl, Nat.le_of_ble_eq_true rfl⟩ rfl [12] [0, 1, 2, 3, 4, 5, 6, 7, 8, 9, 10, 11] rfl rfl rfl rfl (by decide) rfl (Nat.le_of_ble_eq_true rfl) ⟨Nat.le_of_ble_eq_true rfl, Nat.le_of_ble_eq_true rfl⟩ dX5_init_64 ?_
  rintro _ ⟨m1, m2, m3, m4, rfl⟩
  refine g_ws (ws' := [(x0, .inr (5, [.ref n0, .ref t0, .ref s0, .int (bI false), .ref g0, .ref w0, .null, .null])), (n0, .inr (0, [.ref n1])), (n1, .inl (cI, 154, .inl cI0)), (t0, .inr (0, [.ref t1])), (t1, .inl (cI, 154, .inl cI0)), (s0, .inr (0, [.ref s1])), (s1, .inl (cI, 154, .inl cI0)), (g0, .inr (1, [.ref g1, .int (nI 0), .int (nI 0)])), (g1, .inl (cI, 770, .inl (fun _ => nI 0))), (w0, .inr (4, [.ref w1, .int (nI 0), .ref w2, .int (nI 0), .int (nI 0), .int (bI false)])), (w1, .inl (cC, 80, .inl (fun _ => nI 0))), (w2, .inl (cI, 8, .inl (fun _ => nI 0))), (m0, .inr (2, [.ref m1, .ref m2, .ref m3, .ref m4, .int (nI 0)])), (m1, .inl (cI, 8, .inl (fun _ => nI 0))), (m2, .inl (cI, 8, .inl (fun _ => nI 0))), (m3, .inl (cI, 8, .inl (fun _ => nI 0))), (m4, .inl (cI, 8, .inl (fun _ => nI 0)))]) rfl ?_
  refine g_putF (pc := 67) (ci := 5) (T := TX5) (N := 8) (ws' := [(x0, .inr (5, [.ref n0, .ref t0, .ref s0, .int (bI false), .ref g0, .ref w0, .ref m0, .null])), (n0, .inr (0, [.ref n1])), (n1, .inl (cI, 154, .inl cI0)), (t0, .inr (0, [.ref t1])), (t1, .inl (cI, 154, .inl cI0)), (s0, .inr (0, [.ref s1])), (s1, .inl (cI, 154, .inl cI0)), (g0, .inr (1, [.ref g1, .int (nI 0), .int (nI 0)])), (g1, .inl (cI, 770, .inl (fun _ => nI 0))), (w0, .inr (4, [.ref w1, .int (nI 0), .ref w2, .int (nI 0), .int (nI 0), .int (bI false)])), (w1, .inl (cC, 80, .inl (fun _ => nI 0))), (w2, .inl (cI, 8, .inl (fun _ => nI 0))), (m0, .inr (2, [.ref m1, .ref m2, .ref m3, .ref m4, .int (nI 0)])), (m1, .inl (cI, 8, .inl (fun _ => nI 0))), (m2, .inl (cI, 8, .inl (fun _ => nI 0))), (m3, .inl (cI, 8, .inl (fun _ => nI 0))), (m4, .inl (cI, 8, .inl (fun _ => nI 0)))]) (ty := tyX5 6) (v := .ref m0) C hi in_X5_init_X5 tyX5 tyX5_ok nmX5 0 rfl rfl 6 (by decide) fl_X5_init_39 rfl rfl rfl (by decide +kernel) rfl rfl (Nat.le_of_ble_eq_true rfl) dX5_init_67 rfl ?_
  refine g_aload_n (pc := 70) C dX5_init_70 0 rfl rfl ?_
  refine g_new (pc := 71) (Cn := RX3) (T := TX3) (N := 1) (ci := 3) C in_X5_init_X3 tyX3 tyX3_ok (by decide +kernel) (by decide +kernel) (by decide +kernel) rfl [.null] (fun j hj => by cases (show j = 0 by omega); rfl) (Nat.le_of_ble_eq_true rfl) (Nat.le_of_ble_eq_true rfl) dX5_init_71 (fun p0 => ?_)
  refine g_ws (ws' := [(x0, .inr (5, [.ref n0, .ref t0, .ref s0, .int (bI false), .ref g0, .ref w0, .ref m0, .null])), (n0, .inr (0, [.ref n1])), (n1, .inl (cI, 154, .inl cI0)), (t0, .inr (0, [.ref t1])), (t1, .inl (cI, 154, .inl cI0)), (s0, .inr (0, [.ref s1])), (s1, .inl (cI, 154, .inl cI0)), (g0, .inr (1, [.ref g1, .int (nI 0), .int (nI 0)])), (g1, .inl (cI, 770, .inl (fun _ => nI 0))), (w0, .inr (4, [.ref w1, .int (nI 0), .ref w2, .int (nI 0), .int (nI 0), .int (bI false)])), (w1, .inl (cC, 80, .inl (fun _ => nI 0))), (w2, .inl (cI, 8, .inl (fun _ => nI 0))), (m0, .inr (2, [.ref m1, .ref m2, .ref m3, .ref m4, .int (nI 0)])), (m1, .inl (cI, 8, .inl (fun _ => nI 0))), (m2, .inl (cI, 8, .inl (fun _ => nI 0))), (m3, .inl (cI, 8, .inl (fun _ => nI 0))), (m4, .inl (cI, 8, .inl (fun _ => nI 0))), (p0, .inr (3, [.null]))]) rfl ?_
  refine g_dup (pc := 74) C dX5_init_74 rfl ?_
  refine g_callIN (pc := 75) (index := 45) (nn := 0) (b := p0) (As := []) (st := [.ref p0, .ref x0]) (wr := [(x0, .inr (5, [.ref n0, .ref t0, .ref s0, .int (bI false), .ref g0, .ref w0, .ref m0, .null])), (n0, .inr (0, [.ref n1])), (n1, .inl (cI, 154, .inl cI0)), (t0, .inr (0, [.ref t1])), (t1, .inl (cI, 154, .inl cI0)), (s0, .inr (0, [.ref s1])), (s1, .inl (cI, 154, .inl cI0)), (g0, .inr (1, [.ref g1, .int (nI 0), .int (nI 0)])), (g1, .inl (cI, 770, .inl (fun _ => nI 0))), (w0, .inr (4, [.ref w1, .int (nI 0), .ref w2, .int (nI 0), .int (nI 0), .int (bI false)])), (w1, .inl (cC, 80, .inl (fun _ => nI 0))), (w2, .inl (cI, 8, .inl (fun _ => nI 0))), (m0, .inr (2, [.ref m1, .ref m2, .ref m3, .ref m4, .int (nI 0)])), (m1, .inl (cI, 8, .inl (fun _ => nI 0))), (m2, .inl (cI, 8, .inl (fun _ => nI 0))), (m3, .inl (cI, 8, .inl (fun _ => nI 0))), (m4, .inl (cI, 8, .inl (fun _ => nI 0)))]) (host := "FenceHandshakes") C (m_X3_init l D cI cC p0) gX5_init_X3_init_n45 rfl rfl rfl (by decide +kernel) (by decide +kernel) (by decide +kernel) rfl yd_X3_init.2 ⟨Nat.le_of_ble_eq_true rfl, Nat.le_of_ble_eq_true rfl⟩ rfl [17] [0, 1, 2, 3, 4, 5, 6, 7, 8, 9, 10, 11, 12, 13, 14, 15, 16] rfl rfl rfl rfl (by decide) rfl (Nat.le_of_ble_eq_true rfl) ⟨Nat.le_of_ble_eq_true rfl, Nat.le_of_ble_eq_true rfl⟩ dX5_init_75 ?_
  rintro _ ⟨p1, rfl⟩
  refine g_ws (ws' := [(x0, .inr (5, [.ref n0, .ref t0, .ref s0, .int (bI false), .ref g0, .ref w0, .ref m0, .null])), (n0, .inr (0, [.ref n1])), (n1, .inl (cI, 154, .inl cI0)), (t0, .inr (0, [.ref t1])), (t1, .inl (cI, 154, .inl cI0)), (s0, .inr (0, [.ref s1])), (s1, .inl (cI, 154, .inl cI0)), (g0, .inr (1, [.ref g1, .int (nI 0), .int (nI 0)])), (g1, .inl (cI, 770, .inl (fun _ => nI 0))), (w0, .inr (4, [.ref w1, .int (nI 0), .ref w2, .int (nI 0), .int (nI 0), .int (bI false)])), (w1, .inl (cC, 80, .inl (fun _ => nI 0))), (w2, .inl (cI, 8, .inl (fun _ => nI 0))), (m0, .inr (2, [.ref m1, .ref m2, .ref m3, .ref m4, .int (nI 0)])), (m1, .inl (cI, 8, .inl (fun _ => nI 0))), (m2, .inl (cI, 8, .inl (fun _ => nI 0))), (m3, .inl (cI, 8, .inl (fun _ => nI 0))), (m4, .inl (cI, 8, .inl (fun _ => nI 0))), (p0, .inr (3, [.ref p1])), (p1, .inl (cI, 64, .inl (fun _ => nI 0)))]) rfl ?_
  refine g_putF (pc := 78) (ci := 5) (T := TX5) (N := 8) (ws' := [(x0, .inr (5, [.ref n0, .ref t0, .ref s0, .int (bI false), .ref g0, .ref w0, .ref m0, .ref p0])), (n0, .inr (0, [.ref n1])), (n1, .inl (cI, 154, .inl cI0)), (t0, .inr (0, [.ref t1])), (t1, .inl (cI, 154, .inl cI0)), (s0, .inr (0, [.ref s1])), (s1, .inl (cI, 154, .inl cI0)), (g0, .inr (1, [.ref g1, .int (nI 0), .int (nI 0)])), (g1, .inl (cI, 770, .inl (fun _ => nI 0))), (w0, .inr (4, [.ref w1, .int (nI 0), .ref w2, .int (nI 0), .int (nI 0), .int (bI false)])), (w1, .inl (cC, 80, .inl (fun _ => nI 0))), (w2, .inl (cI, 8, .inl (fun _ => nI 0))), (m0, .inr (2, [.ref m1, .ref m2, .ref m3, .ref m4, .int (nI 0)])), (m1, .inl (cI, 8, .inl (fun _ => nI 0))), (m2, .inl (cI, 8, .inl (fun _ => nI 0))), (m3, .inl (cI, 8, .inl (fun _ => nI 0))), (m4, .inl (cI, 8, .inl (fun _ => nI 0))), (p0, .inr (3, [.ref p1])), (p1, .inl (cI, 64, .inl (fun _ => nI 0)))]) (ty := tyX5 7) (v := .ref p0) C hi in_X5_init_X5 tyX5 tyX5_ok nmX5 0 rfl rfl 7 (by decide) fl_X5_init_46 rfl rfl rfl (by decide +kernel) rfl rfl (Nat.le_of_ble_eq_true rfl) dX5_init_78 rfl ?_
  refine g_aload_n (pc := 81) C dX5_init_81 0 rfl rfl ?_
  refine g_iconst (pc := 82) (v := nI 0) C dX5_init_82 (by decide) ?_
  refine g_top (y := bI false) rfl ?_
  refine g_put (pc := 83) (ci := 5) (T := TX5) (N := 8) (ws' := [(x0, .inr (5, [.ref n0, .ref t0, .ref s0, .int (bI false), .ref g0, .ref w0, .ref m0, .ref p0])), (n0, .inr (0, [.ref n1])), (n1, .inl (cI, 154, .inl cI0)), (t0, .inr (0, [.ref t1])), (t1, .inl (cI, 154, .inl cI0)), (s0, .inr (0, [.ref s1])), (s1, .inl (cI, 154, .inl cI0)), (g0, .inr (1, [.ref g1, .int (nI 0), .int (nI 0)])), (g1, .inl (cI, 770, .inl (fun _ => nI 0))), (w0, .inr (4, [.ref w1, .int (nI 0), .ref w2, .int (nI 0), .int (nI 0), .int (bI false)])), (w1, .inl (cC, 80, .inl (fun _ => nI 0))), (w2, .inl (cI, 8, .inl (fun _ => nI 0))), (m0, .inr (2, [.ref m1, .ref m2, .ref m3, .ref m4, .int (nI 0)])), (m1, .inl (cI, 8, .inl (fun _ => nI 0))), (m2, .inl (cI, 8, .inl (fun _ => nI 0))), (m3, .inl (cI, 8, .inl (fun _ => nI 0))), (m4, .inl (cI, 8, .inl (fun _ => nI 0))), (p0, .inr (3, [.ref p1])), (p1, .inl (cI, 64, .inl (fun _ => nI 0)))]) (ty := .boolean) (v := .int (bI false)) C in_X5_init_X5 tyX5 tyX5_ok nmX5 0 rfl rfl 3 (by decide) fl_X5_init_50 rfl rfl (by decide +kernel) (g_nar _) (g_fit _) (Nat.le_of_ble_eq_true rfl) dX5_init_83 rfl ?_
  exact g_vretI C hr hQ dX5_init_86 ⟨_, _, _, _, _, _, _, _, _, _, _, _, _, _, _, _, _, _, rfl⟩
